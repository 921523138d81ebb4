set_option maxHeartbeats 200000 in
theorem c_X12_in (x : Mm) (p : Int) (u : Int) (v : Int) (h_p : fm_r p) (h_u : fm_r u) (h_v : fm_r v) : CnI YM yX12_in cX12_in 3 .boolean 0 0 (fun G => [vi p, vi u, vi v]) x (fun z y' => (z = 0 ∨ z = 1) ∧ ((z = 1 ↔ u ≤ p ∧ p ≤ v)) ∧ (y' = x)) := by
  refine cn_I (by decide) (fun _ => Nat.le_of_ble_eq_true rfl) (fun G C h hq => ?_)
  have h : OK YM G C cX12_in RX12 3 (some .boolean) 0 0 := h
  show FW YM G C 3 x 0 [(0, vi p), (1, vi u), (2, vi v)] []
  refine fr_iload_n h rfl 0 rfl dX12_in_0 ?_
  refine fr_iload_n h rfl 1 rfl dX12_in_1 ?_
  refine fr_icmp_lt (tgt := 14) h dX12_in_2 (by decide) (by omega) (by omega) (fun c1 => ?_) (fun c1 => ?_)
  ·
    refine fr_iconst h dX12_in_14 ?_
    exact fr_zret h rfl hq (by omega) ⟨(by omega), (by omega), rfl⟩ dX12_in_15
  ·
    refine fr_iload_n h rfl 0 rfl dX12_in_5 ?_
    refine fr_iload_n h rfl 2 rfl dX12_in_6 ?_
    refine fr_icmp_gt (tgt := 14) h dX12_in_7 (by decide) (by omega) (by omega) (fun c2 => ?_) (fun c2 => ?_)
    ·
      refine fr_iconst h dX12_in_14 ?_
      exact fr_zret h rfl hq (by omega) ⟨(by omega), (by omega), rfl⟩ dX12_in_15
    ·
      refine fr_iconst h dX12_in_10 ?_
      refine fr_goto (tgt := 15) h dX12_in_11 (by decide) ?_
      exact fr_zret h rfl hq (by omega) ⟨(by omega), (by omega), rfl⟩ dX12_in_15
set_option maxHeartbeats 200000 in
theorem c_X12_has (x : Mm) (p : Int) (w : Int) (h_p : fm_r p) (h_w : fm_r w) : CnI YM yX12_has cX12_has 2 .boolean 0 0 (fun G => [vi p, vi w]) x (fun z y' => (z = 0 ∨ z = 1) ∧ (0 ≤ p → p < 128 → 0 ≤ w → w < 7 → z = bt p w) ∧ (y' = x)) := by
  refine cn_I (by decide) (fun _ => Nat.le_of_ble_eq_true rfl) (fun G C h hq => ?_)
  have h : OK YM G C cX12_has RX12 2 (some .boolean) 0 0 := h
  show FW YM G C 2 x 0 [(0, vi p), (1, vi w)] []
  refine fr_iload_n h rfl 0 rfl dX12_has_0 ?_
  refine fr_iload_n h rfl 1 rfl dX12_has_1 ?_
  refine fr_ishr h dX12_has_2 (fun z1 w2 q3 w4 => ?_)
  refine fr_iconst h dX12_has_3 ?_
  refine fr_iand h dX12_has_4 (fun z5 w6 q7 w8 => ?_)
  have w9 := w8 (by omega) (by omega)
  refine fr_iconst h dX12_has_5 ?_
  refine fr_icmp_ne (tgt := 13) h dX12_has_6 (by decide) (by omega) (by omega) (fun c10 => ?_) (fun c10 => ?_)
  ·
    refine fr_iconst h dX12_has_13 ?_
    exact fr_zret h rfl hq (by omega) ⟨(by omega), (fun a b c d => by have k := bt_of a b c d w6 q3 q7; have := bt_01 p w; omega), rfl⟩ dX12_has_14
  ·
    refine fr_iconst h dX12_has_9 ?_
    refine fr_goto (tgt := 14) h dX12_has_10 (by decide) ?_
    exact fr_zret h rfl hq (by omega) ⟨(by omega), (fun a b c d => by have k := bt_of a b c d w6 q3 q7; have := bt_01 p w; omega), rfl⟩ dX12_has_14
set_option maxHeartbeats 200000 in
theorem c_X12_lost (x : Mm) : CnI YM yX12_lost cX12_lost 1 .int 0 0 (fun G => [vr G 0]) x (fun z y' => (z = 0) ∧ (y' 0 5 = 1) ∧ (∀ a : Int, (a < 0 ∨ 0 < a) → y' a = x a) ∧ (∀ i : Int, i ≠ 5 → y' 0 i = x 0 i)) := by
  refine cn_I (by decide) (fun _ => Nat.le_of_ble_eq_true rfl) (fun G C h hq => ?_)
  have h : OK YM G C cX12_lost RX12 1 (some .int) 0 0 := h
  show FW YM G C 1 x 0 [(0, vr G 0)] []
  refine fr_aload_n h rfl 0 rfl dX12_lost_0 ?_
  refine fr_iconst h dX12_lost_1 ?_
  refine fr_puti (iz := 5) h kX12 fX12_94 at_0M rfl rfl (by decide) (by decide) rfl (by decide +kernel) rfM_5 (by omega) (by omega) dX12_lost_2 ?_
  refine fr_mem (fun x1 m2 => ?_)
  refine fr_iconst h dX12_lost_5 ?_
  have r3 := (fm_rd_s m2)
  exact fr_iret h hq (by omega) ⟨(by omega), (by omega), (fun a k0 => (fm_up_row m2 (by omega))), (fun i k0 => (fm_rd_i (a := 0) (b := i) m2 (by omega)))⟩ dX12_lost_6
set_option maxHeartbeats 200000 in
theorem c_X12_tell (x : Mm) (v : Int) (h_v : fm_l v) (e0 : x 0 4 ≤ 15) : CnV YM yX12_tell cX12_tell 3 0 0 (fun G => [vr G 0, vj v]) x (fun y' => (y' 0 4 = x 0 4 + 1) ∧ (∀ a : Int, (a < 0 ∨ 0 < a) → (a < 3 ∨ 3 < a) → y' a = x a) ∧ (∀ i : Int, i ≠ 4 → y' 0 i = x 0 i)) := by
  refine cn_V (by decide) (fun _ => Nat.le_of_ble_eq_true rfl) (fun G C h hq => ?_)
  have h : OK YM G C cX12_tell RX12 3 none 0 0 := h
  show FW YM G C 3 x 0 [(0, vr G 0), (1, vj v)] []
  refine fr_aload_n h rfl 0 rfl dX12_tell_0 ?_
  refine fr_getc (z := 3) (iz := 3) h kX12 fX12_17 at_0M rfl rfl rfM_3 (by omega) dX12_tell_1 ?_
  refine fr_aload_n h rfl 0 rfl dX12_tell_4 ?_
  refine fr_geti (iz := 4) h kX12 fX12_98 at_0M rfl rfl (by decide) (by decide) rfM_4 dX12_tell_5 (fun z1 w2 w3 q4 => ?_)
  refine fr_lload_n h rfl 1 rfl dX12_tell_8 ?_
  refine fr_last h arM_3 (by omega) (by omega) (rrM_3 z1) (by omega) (by omega) dX12_tell_9 ?_
  refine fr_mem (fun x5 m6 => ?_)
  refine fr_aload_n h rfl 0 rfl dX12_tell_10 ?_
  refine fr_dup h rfl dX12_tell_11 ?_
  refine fr_geti (iz := 4) h kX12 fX12_98 at_0M rfl rfl (by decide) (by decide) rfM_4 dX12_tell_12 (fun z7 w8 w9 q10 => ?_)
  have r11 := q10.trans (fm_rd_k (a := 0) (b := 4) m6 (by omega))
  refine fr_iconst h dX12_tell_15 ?_
  refine fr_iadd h dX12_tell_16 ?_
  refine fr_puti (iz := 4) h kX12 fX12_98 at_0M rfl rfl (by decide) (by decide) rfl (by decide +kernel) rfM_4 (by omega) (by omega) dX12_tell_17 ?_
  refine fr_mem (fun x12 m13 => ?_)
  have r14 := (fm_rd_s m13)
  exact fr_vret h hq ⟨(by omega), (fun a k0 k1 => ((fm_up_row m13 (by omega)).trans (fm_up_row m6 (by omega)))), (fun i k0 => ((fm_rd_i (a := 0) (b := i) m13 (by omega)).trans (fm_rd_k (a := 0) (b := i) m6 (by omega))))⟩ dX12_tell_20
set_option maxHeartbeats 200000 in
theorem c_X12_isList (x : Mm) (p : Int) (h_p : fm_r p) : CnI YM yX12_isList cX12_isList 1 .boolean 1 22 (fun G => [vi p]) x (fun z y' => (z = 0 ∨ z = 1) ∧ ((z = 1 ↔ 0 ≤ p ∧ p ≤ 3)) ∧ (y' = x)) := by
  refine cn_I (by decide) (fun _ => Nat.le_of_ble_eq_true rfl) (fun G C h hq => ?_)
  have h : OK YM G C cX12_isList RX12 1 (some .boolean) 1 22 := h
  show FW YM G C 1 x 0 [(0, vi p)] []
  refine fr_iload_n h rfl 0 rfl dX12_isList_0 ?_
  refine fr_iconst h dX12_isList_1 ?_
  refine fr_iconst h dX12_isList_2 ?_
  refine fr_csI h wX12_in lX12_101 (c_X12_in x p 0 3 (by omega) (by omega) (by omega)) rfl (by decide) (by decide) rfl (Nat.le_of_ble_eq_true rfl) dX12_isList_3 (fun z2 x1 w3 p4 => ?_)
  obtain ⟨p5, p6, y7⟩ := p4
  rw [y7]
  clear y7
  exact fr_zret h (nr_z (by omega) (by omega)) hq (by omega) ⟨(by omega), (by omega), rfl⟩ dX12_isList_6
set_option maxHeartbeats 200000 in
theorem c_X12_isKind (x : Mm) (p : Int) (h_p : fm_r p) : CnI YM yX12_isKind cX12_isKind 1 .boolean 1 22 (fun G => [vi p]) x (fun z y' => (z = 0 ∨ z = 1) ∧ ((z = 1 ↔ 0 ≤ p ∧ p ≤ 4)) ∧ (y' = x)) := by
  refine cn_I (by decide) (fun _ => Nat.le_of_ble_eq_true rfl) (fun G C h hq => ?_)
  have h : OK YM G C cX12_isKind RX12 1 (some .boolean) 1 22 := h
  show FW YM G C 1 x 0 [(0, vi p)] []
  refine fr_iload_n h rfl 0 rfl dX12_isKind_0 ?_
  refine fr_iconst h dX12_isKind_1 ?_
  refine fr_iconst h dX12_isKind_2 ?_
  refine fr_csI h wX12_in lX12_101 (c_X12_in x p 0 4 (by omega) (by omega) (by omega)) rfl (by decide) (by decide) rfl (Nat.le_of_ble_eq_true rfl) dX12_isKind_3 (fun z2 x1 w3 p4 => ?_)
  obtain ⟨p5, p6, y7⟩ := p4
  rw [y7]
  clear y7
  exact fr_zret h (nr_z (by omega) (by omega)) hq (by omega) ⟨(by omega), (by omega), rfl⟩ dX12_isKind_6
set_option maxHeartbeats 200000 in
theorem c_X12_weightOf (x : Mm) (b : Int) (hb : isSA b) (p : Int) (w : Int) (h_p : fm_r p) (h_w : fm_r w) (e0 : 0 ≤ p) (e1 : p < 7) (e2 : 0 ≤ w) (e3 : w < 7) : CnI YM yX12_weightOf cX12_weightOf 3 .int 0 0 (fun G => [vr G b, vi p, vi w]) x (fun z y' => (0 ≤ z) ∧ (z ≤ 99) ∧ (z = x b (28 + 7 * p + w)) ∧ (y' = x)) := by
  refine cn_I (by decide) (fun _ => Nat.le_of_ble_eq_true rfl) (fun G C h hq => ?_)
  have h : OK YM G C cX12_weightOf RX12 3 (some .int) 0 0 := h
  show FW YM G C 3 x 0 [(0, vr G b), (1, vi p), (2, vi w)] []
  have h_b := SA_b hb
  refine fr_aload_n h rfl 0 rfl dX12_weightOf_0 ?_
  refine fr_bipush h rfl dX12_weightOf_1 ?_
  refine fr_bipush h rfl dX12_weightOf_3 ?_
  refine fr_iload_n h rfl 1 rfl dX12_weightOf_5 ?_
  refine fr_imul h dX12_weightOf_6 ?_
  refine fr_iadd h dX12_weightOf_7 ?_
  refine fr_iload_n h rfl 2 rfl dX12_weightOf_8 ?_
  refine fr_iadd h dX12_weightOf_9 ?_
  refine fr_iald h (SA_a hb) (by omega) (by omega) ((SA_r hb ((28 + (7 * p)) + w)).trans (sg_wt (by omega) (by omega))) dX12_weightOf_10 (fun z1 w2 w3 q4 => ?_)
  exact fr_iret h hq (by omega) ⟨(by omega), (by omega), (by omega), rfl⟩ dX12_weightOf_11
set_option maxHeartbeats 200000 in
theorem c_X12_edgesOf (x : Mm) (b : Int) (hb : isSA b) : CnI YM yX12_edgesOf cX12_edgesOf 4 .int 1 22 (fun G => [vr G b]) x (fun z y' => (0 ≤ z) ∧ (z ≤ 49) ∧ (z = ec (x b) 49) ∧ (y' = x)) := by
  refine cn_I (by decide) (fun _ => Nat.le_of_ble_eq_true rfl) (fun G C h hq => ?_)
  have h : OK YM G C cX12_edgesOf RX12 4 (some .int) 1 22 := h
  show FW YM G C 4 x 0 [(0, vr G b)] []
  have h_b := SA_b hb
  refine fr_iconst h dX12_edgesOf_0 ?_
  refine fr_istore_n (L' := [(0, vr G b), (1, vi 0)]) h rfl dX12_edgesOf_1 (by decide) [1, 0] rfl ?_
  refine fr_iconst h dX12_edgesOf_2 ?_
  refine fr_istore_n (L' := [(0, vr G b), (1, vi 0), (2, vi 0)]) h rfl dX12_edgesOf_3 (by decide) [1, 2, 0] rfl ?_
  have HL1 : ∀ (n1 : Nat) (l1_1 l2_1 : Int), fm_r l1_1 → 0 ≤ l1_1 → l1_1 ≤ 49 → fm_r l2_1 → 0 ≤ l2_1 → l2_1 ≤ 7 → l1_1 = es (x b) (7 * l2_1) → 0 ≤ l1_1 → l1_1 ≤ 7 * l2_1 → (7 - l2_1) < n1 → FW YM G C 4 x 4 [(0, vr G b), (1, vi l1_1), (2, vi l2_1)] [] := by
    intro n1
    induction n1 with
    | zero =>
      intro l1_1 l2_1 g1_0 g1_1 g1_2 g1_3 g1_4 g1_5 g1_6 g1_7 g1_8 g1_9
      exfalso; omega
    | succ n1 ih1 =>
      intro l1_1 l2_1 g1_0 g1_1 g1_2 g1_3 g1_4 g1_5 g1_6 g1_7 g1_8 g1_9
      refine fr_iload_n h rfl 2 rfl dX12_edgesOf_4 ?_
      refine fr_bipush h rfl dX12_edgesOf_5 ?_
      refine fr_icmp_ge (tgt := 49) h dX12_edgesOf_7 (by decide) (by omega) (by omega) (fun c2 => ?_) (fun c2 => ?_)
      ·
        refine fr_iload_n h rfl 1 rfl dX12_edgesOf_49 ?_
        exact fr_iret h hq (by omega) ⟨(by omega), (by omega), (by have k := es_7 (f := x b) (a := l2_1) (by omega); omega), rfl⟩ dX12_edgesOf_50
      ·
        refine fr_iload_n h rfl 2 rfl dX12_edgesOf_10 ?_
        refine fr_iconst h dX12_edgesOf_11 ?_
        refine fr_iadd h dX12_edgesOf_12 ?_
        refine fr_istore_n (L' := [(0, vr G b), (1, vi l1_1), (2, vi l2_1), (3, vi (l2_1 + 1))]) h rfl dX12_edgesOf_13 (by decide) [1, 2, 3, 0] rfl ?_
        have HL3 : ∀ (n3 : Nat) (l1_3 l3_3 : Int), fm_r l1_3 → 0 ≤ l1_3 → l1_3 ≤ 49 → fm_r l3_3 → 1 ≤ l3_3 → l3_3 ≤ 7 → l1_3 = es (x b) (7 * l2_1 + l3_3) → l2_1 < l3_3 → l1_3 ≤ 7 * l2_1 + l3_3 → (7 - l3_3) < n3 → FW YM G C 4 x 14 [(0, vr G b), (1, vi l1_3), (2, vi l2_1), (3, vi l3_3)] [] := by
          intro n3
          induction n3 with
          | zero =>
            intro l1_3 l3_3 g3_0 g3_1 g3_2 g3_3 g3_4 g3_5 g3_6 g3_7 g3_8 g3_9
            exfalso; omega
          | succ n3 ih3 =>
            intro l1_3 l3_3 g3_0 g3_1 g3_2 g3_3 g3_4 g3_5 g3_6 g3_7 g3_8 g3_9
            refine fr_iload_n h rfl 3 rfl dX12_edgesOf_14 ?_
            refine fr_bipush h rfl dX12_edgesOf_15 ?_
            refine fr_icmp_ge (tgt := 43) h dX12_edgesOf_17 (by decide) (by omega) (by omega) (fun c4 => ?_) (fun c4 => ?_)
            ·
              refine fr_iinc (j := 2) (L' := [(0, vr G b), (1, vi l1_3), (2, vi (l2_1 + 1)), (3, vi l3_3)]) h dX12_edgesOf_43 rfl (by decide) [1, 2, 0, 3] rfl ?_
              refine fr_goto (tgt := 4) h dX12_edgesOf_46 (by decide) ?_
              refine fr_sub (L' := [(0, vr G b), (1, vi l1_3), (2, vi (l2_1 + 1))]) [0, 1, 2] rfl ?_
              exact ih1 l1_3 (l2_1 + 1) (by omega) (by omega) (by omega) (by omega) (by omega) (by omega) (by have k := es_n (f := x b) (a := l2_1) (b := l3_3) (by omega); omega) (by omega) (by omega) (by omega)
            ·
              refine fr_iload_n h rfl 1 rfl dX12_edgesOf_20 ?_
              refine fr_aload_n h rfl 0 rfl dX12_edgesOf_21 ?_
              refine fr_iload_n h rfl 2 rfl dX12_edgesOf_22 ?_
              refine fr_iload_n h rfl 3 rfl dX12_edgesOf_23 ?_
              refine fr_csI h wX12_weightOf lX12_105 (c_X12_weightOf x b hb l2_1 l3_3 (by omega) (by omega) (by omega) (by omega) (by omega) (by omega)) rfl (by decide) (by decide) rfl (Nat.le_of_ble_eq_true rfl) dX12_edgesOf_24 (fun z6 x5 w7 p8 => ?_)
              obtain ⟨p9, p10, p11, y12⟩ := p8
              rw [y12]
              clear y12
              refine fr_if_le (tgt := 34) h dX12_edgesOf_27 (by decide) (by omega) (fun c13 => ?_) (fun c13 => ?_)
              ·
                refine fr_iconst h dX12_edgesOf_34 ?_
                refine fr_iadd h dX12_edgesOf_35 ?_
                refine fr_istore_n (L' := [(0, vr G b), (1, vi (l1_3 + 0)), (2, vi l2_1), (3, vi l3_3)]) h rfl dX12_edgesOf_36 (by decide) [1, 0, 2, 3] rfl ?_
                refine fr_iinc (j := 3) (L' := [(0, vr G b), (1, vi (l1_3 + 0)), (2, vi l2_1), (3, vi (l3_3 + 1))]) h dX12_edgesOf_37 rfl (by decide) [1, 2, 3, 0] rfl ?_
                refine fr_goto (tgt := 14) h dX12_edgesOf_40 (by decide) ?_
                exact ih3 (l1_3 + 0) (l3_3 + 1) (by omega) (by omega) (by omega) (by omega) (by omega) (by omega) (by have k := es_s (f := x b) (a := l2_1) (b := l3_3) (by omega) (by omega) (by omega) (by omega); split at k <;> omega) (by omega) (by omega) (by omega)
              ·
                refine fr_iconst h dX12_edgesOf_30 ?_
                refine fr_goto (tgt := 35) h dX12_edgesOf_31 (by decide) ?_
                refine fr_iadd h dX12_edgesOf_35 ?_
                refine fr_istore_n (L' := [(0, vr G b), (1, vi (l1_3 + 1)), (2, vi l2_1), (3, vi l3_3)]) h rfl dX12_edgesOf_36 (by decide) [1, 0, 2, 3] rfl ?_
                refine fr_iinc (j := 3) (L' := [(0, vr G b), (1, vi (l1_3 + 1)), (2, vi l2_1), (3, vi (l3_3 + 1))]) h dX12_edgesOf_37 rfl (by decide) [1, 2, 3, 0] rfl ?_
                refine fr_goto (tgt := 14) h dX12_edgesOf_40 (by decide) ?_
                exact ih3 (l1_3 + 1) (l3_3 + 1) (by omega) (by omega) (by omega) (by omega) (by omega) (by omega) (by have k := es_s (f := x b) (a := l2_1) (b := l3_3) (by omega) (by omega) (by omega) (by omega); split at k <;> omega) (by omega) (by omega) (by omega)
        exact HL3 ((7 - (l2_1 + 1)) + 1 : Int).toNat l1_1 (l2_1 + 1) (by omega) (by omega) (by omega) (by omega) (by omega) (by omega) (by have k := es_k (f := x b) (a := l2_1) (by omega) (by omega); omega) (by omega) (by omega) (by omega)
  exact HL1 ((7 - 0) + 1 : Int).toNat 0 0 (by omega) (by omega) (by omega) (by omega) (by omega) (by omega) (es_0 _).symm (by omega) (by omega) (by omega)
set_option maxHeartbeats 200000 in
theorem c_X12_edgeAt (x : Mm) (b : Int) (hb : isSA b) (p : Int) (h_p : fm_r p) (e0 : 0 ≤ p) : CnI YM yX12_edgeAt cX12_edgeAt 5 .int 1 22 (fun G => [vr G b, vi p]) x (fun z y' => ((-1) ≤ z) ∧ (z ≤ 48) ∧ (p < ec (x b) 49 → 0 ≤ z) ∧ (0 ≤ z → 0 ≤ z / 7 ∧ z / 7 < z % 7 ∧ z % 7 < 7 ∧ 0 < x b (28 + 7 * (z / 7) + z % 7)) ∧ (y' = x)) := by
  refine cn_I (by decide) (fun _ => Nat.le_of_ble_eq_true rfl) (fun G C h hq => ?_)
  have h : OK YM G C cX12_edgeAt RX12 5 (some .int) 1 22 := h
  show FW YM G C 5 x 0 [(0, vr G b), (1, vi p)] []
  have h_b := SA_b hb
  refine fr_iload_n h rfl 1 rfl dX12_edgeAt_0 ?_
  refine fr_istore_n (L' := [(0, vr G b), (1, vi p), (2, vi p)]) h rfl dX12_edgeAt_1 (by decide) [1, 2, 0] rfl ?_
  refine fr_iconst h dX12_edgeAt_2 ?_
  refine fr_istore_n (L' := [(0, vr G b), (1, vi p), (2, vi p), (3, vi 0)]) h rfl dX12_edgeAt_3 (by decide) [1, 2, 3, 0] rfl ?_
  have HL1 : ∀ (n1 : Nat) (l2_1 l3_1 : Int), fm_r l2_1 → fm_r l3_1 → 0 ≤ l3_1 → l3_1 ≤ 7 → l2_1 = p - es (x b) (7 * l3_1) → 0 ≤ l2_1 → (7 - l3_1) < n1 → FW YM G C 5 x 4 [(0, vr G b), (1, vi p), (2, vi l2_1), (3, vi l3_1)] [] := by
    intro n1
    induction n1 with
    | zero =>
      intro l2_1 l3_1 g1_0 g1_1 g1_2 g1_3 g1_4 g1_5 g1_6
      exfalso; omega
    | succ n1 ih1 =>
      intro l2_1 l3_1 g1_0 g1_1 g1_2 g1_3 g1_4 g1_5 g1_6
      refine fr_iload_n h rfl 3 rfl dX12_edgeAt_4 ?_
      refine fr_bipush h rfl dX12_edgeAt_5 ?_
      refine fr_icmp_ge (tgt := 62) h dX12_edgeAt_7 (by decide) (by omega) (by omega) (fun c2 => ?_) (fun c2 => ?_)
      ·
        refine fr_iconst h dX12_edgeAt_62 ?_
        exact fr_iret h hq (by omega) ⟨(by omega), (by omega), (by intro k0; have k := es_7 (f := x b) (a := l3_1) (by omega); omega), (fun _ => by omega), rfl⟩ dX12_edgeAt_63
      ·
        refine fr_iload_n h rfl 3 rfl dX12_edgeAt_10 ?_
        refine fr_iconst h dX12_edgeAt_11 ?_
        refine fr_iadd h dX12_edgeAt_12 ?_
        refine fr_istore (L' := [(0, vr G b), (1, vi p), (2, vi l2_1), (3, vi l3_1), (4, vi (l3_1 + 1))]) h dX12_edgeAt_13 (by decide) [1, 2, 3, 4, 0] rfl ?_
        have HL3 : ∀ (n3 : Nat) (l2_3 l4_3 : Int), fm_r l2_3 → fm_r l4_3 → 1 ≤ l4_3 → l4_3 ≤ 7 → l2_3 = p - es (x b) (7 * l3_1 + l4_3) → 0 ≤ l2_3 → l3_1 < l4_3 → (7 - l4_3) < n3 → FW YM G C 5 x 15 [(0, vr G b), (1, vi p), (2, vi l2_3), (3, vi l3_1), (4, vi l4_3)] [] := by
          intro n3
          induction n3 with
          | zero =>
            intro l2_3 l4_3 g3_0 g3_1 g3_2 g3_3 g3_4 g3_5 g3_6 g3_7
            exfalso; omega
          | succ n3 ih3 =>
            intro l2_3 l4_3 g3_0 g3_1 g3_2 g3_3 g3_4 g3_5 g3_6 g3_7
            refine fr_iload h 4 rfl dX12_edgeAt_15 ?_
            refine fr_bipush h rfl dX12_edgeAt_17 ?_
            refine fr_icmp_ge (tgt := 56) h dX12_edgeAt_19 (by decide) (by omega) (by omega) (fun c4 => ?_) (fun c4 => ?_)
            ·
              refine fr_iinc (j := 3) (L' := [(0, vr G b), (1, vi p), (2, vi l2_3), (3, vi (l3_1 + 1)), (4, vi l4_3)]) h dX12_edgeAt_56 rfl (by decide) [1, 2, 3, 0, 4] rfl ?_
              refine fr_goto (tgt := 4) h dX12_edgeAt_59 (by decide) ?_
              refine fr_sub (L' := [(0, vr G b), (1, vi p), (2, vi l2_3), (3, vi (l3_1 + 1))]) [0, 1, 2, 3] rfl ?_
              exact ih1 l2_3 (l3_1 + 1) (by omega) (by omega) (by omega) (by omega) (by have k := es_n (f := x b) (a := l3_1) (b := l4_3) (by omega); omega) (by omega) (by omega)
            ·
              refine fr_aload_n h rfl 0 rfl dX12_edgeAt_22 ?_
              refine fr_iload_n h rfl 3 rfl dX12_edgeAt_23 ?_
              refine fr_iload h 4 rfl dX12_edgeAt_24 ?_
              refine fr_csI h wX12_weightOf lX12_105 (c_X12_weightOf x b hb l3_1 l4_3 (by omega) (by omega) (by omega) (by omega) (by omega) (by omega)) rfl (by decide) (by decide) rfl (Nat.le_of_ble_eq_true rfl) dX12_edgeAt_26 (fun z6 x5 w7 p8 => ?_)
              obtain ⟨p9, p10, p11, y12⟩ := p8
              rw [y12]
              clear y12
              refine fr_if_ne (tgt := 35) h dX12_edgeAt_29 (by decide) (by omega) (fun c13 => ?_) (fun c13 => ?_)
              ·
                refine fr_iload_n h rfl 2 rfl dX12_edgeAt_35 ?_
                refine fr_if_ne (tgt := 47) h dX12_edgeAt_36 (by decide) (by omega) (fun c14 => ?_) (fun c14 => ?_)
                ·
                  refine fr_iinc (j := 2) (L' := [(0, vr G b), (1, vi p), (2, vi (l2_3 + (-1))), (3, vi l3_1), (4, vi l4_3)]) h dX12_edgeAt_47 rfl (by decide) [1, 2, 0, 3, 4] rfl ?_
                  obtain ⟨z15, w16, q17⟩ := iI_ex (iI (l2_3 + (-1)))
                  have w18 : fm_r ((l2_3 + (-1))) → z15 = (l2_3 + (-1)) := fun q => (iI_inj q w16 q17).symm
                  rw [show vi (l2_3 + (-1)) = vi z15 from congrArg Value.int q17]
                  refine fr_iinc (j := 4) (L' := [(0, vr G b), (1, vi p), (2, vi z15), (3, vi l3_1), (4, vi (l4_3 + 1))]) h dX12_edgeAt_50 rfl (by decide) [1, 2, 3, 4, 0] rfl ?_
                  refine fr_goto (tgt := 15) h dX12_edgeAt_53 (by decide) ?_
                  exact ih3 z15 (l4_3 + 1) (by omega) (by omega) (by omega) (by omega) (by have k := es_s (f := x b) (a := l3_1) (b := l4_3) (by omega) (by omega) (by omega) (by omega); split at k <;> omega) (by omega) (by omega) (by omega)
                ·
                  refine fr_bipush h rfl dX12_edgeAt_39 ?_
                  refine fr_iload_n h rfl 3 rfl dX12_edgeAt_41 ?_
                  refine fr_imul h dX12_edgeAt_42 ?_
                  refine fr_iload h 4 rfl dX12_edgeAt_43 ?_
                  refine fr_iadd h dX12_edgeAt_45 ?_
                  exact fr_iret h hq (by omega) ⟨(by omega), (by omega), (by omega), (fun _ => by rw [show ((7 * l3_1) + l4_3) / 7 = l3_1 by omega, show ((7 * l3_1) + l4_3) % 7 = l4_3 by omega]; omega), rfl⟩ dX12_edgeAt_46
              ·
                refine fr_goto (tgt := 50) h dX12_edgeAt_32 (by decide) ?_
                refine fr_iinc (j := 4) (L' := [(0, vr G b), (1, vi p), (2, vi l2_3), (3, vi l3_1), (4, vi (l4_3 + 1))]) h dX12_edgeAt_50 rfl (by decide) [1, 2, 3, 4, 0] rfl ?_
                refine fr_goto (tgt := 15) h dX12_edgeAt_53 (by decide) ?_
                exact ih3 l2_3 (l4_3 + 1) (by omega) (by omega) (by omega) (by omega) (by have k := es_s (f := x b) (a := l3_1) (b := l4_3) (by omega) (by omega) (by omega) (by omega); split at k <;> omega) (by omega) (by omega) (by omega)
        exact HL3 ((7 - (l3_1 + 1)) + 1 : Int).toNat l2_1 (l3_1 + 1) (by omega) (by omega) (by omega) (by omega) (by have k := es_k (f := x b) (a := l3_1) (by omega) (by omega); omega) (by omega) (by omega) (by omega)
  exact HL1 ((7 - 0) + 1 : Int).toNat p 0 (by omega) (by omega) (by omega) (by omega) (by have := es_0 (x b); omega) (by omega) (by omega)
set_option maxHeartbeats 200000 in
theorem c_X12_joinedOf (x : Mm) (b : Int) (hb : isSA b) : CnI YM yX12_joinedOf cX12_joinedOf 4 .int 1 22 (fun G => [vr G b]) x (fun z y' => (0 ≤ z) ∧ (z < 128) ∧ (y' = x)) := by
  refine cn_I (by decide) (fun _ => Nat.le_of_ble_eq_true rfl) (fun G C h hq => ?_)
  have h : OK YM G C cX12_joinedOf RX12 4 (some .int) 1 22 := h
  show FW YM G C 4 x 0 [(0, vr G b)] []
  have h_b := SA_b hb
  refine fr_iconst h dX12_joinedOf_0 ?_
  refine fr_istore_n (L' := [(0, vr G b), (1, vi 0)]) h rfl dX12_joinedOf_1 (by decide) [1, 0] rfl ?_
  refine fr_iconst h dX12_joinedOf_2 ?_
  refine fr_istore_n (L' := [(0, vr G b), (1, vi 0), (2, vi 0)]) h rfl dX12_joinedOf_3 (by decide) [1, 2, 0] rfl ?_
  have HL1 : ∀ (n1 : Nat) (l1_1 l2_1 : Int), fm_r l1_1 → 0 ≤ l1_1 → l1_1 ≤ 127 → fm_r l2_1 → 0 ≤ l2_1 → l2_1 ≤ 7 → (7 - l2_1) < n1 → FW YM G C 4 x 4 [(0, vr G b), (1, vi l1_1), (2, vi l2_1)] [] := by
    intro n1
    induction n1 with
    | zero =>
      intro l1_1 l2_1 g1_0 g1_1 g1_2 g1_3 g1_4 g1_5 g1_6
      exfalso; omega
    | succ n1 ih1 =>
      intro l1_1 l2_1 g1_0 g1_1 g1_2 g1_3 g1_4 g1_5 g1_6
      refine fr_iload_n h rfl 2 rfl dX12_joinedOf_4 ?_
      refine fr_bipush h rfl dX12_joinedOf_5 ?_
      refine fr_icmp_ge (tgt := 49) h dX12_joinedOf_7 (by decide) (by omega) (by omega) (fun c2 => ?_) (fun c2 => ?_)
      ·
        refine fr_iload_n h rfl 1 rfl dX12_joinedOf_49 ?_
        exact fr_iret h hq (by omega) ⟨(by omega), (by omega), rfl⟩ dX12_joinedOf_50
      ·
        refine fr_iconst h dX12_joinedOf_10 ?_
        refine fr_istore_n (L' := [(0, vr G b), (1, vi l1_1), (2, vi l2_1), (3, vi 0)]) h rfl dX12_joinedOf_11 (by decide) [1, 2, 3, 0] rfl ?_
        have HL3 : ∀ (n3 : Nat) (l1_3 l3_3 : Int), fm_r l1_3 → 0 ≤ l1_3 → l1_3 ≤ 127 → fm_r l3_3 → 0 ≤ l3_3 → l3_3 ≤ 7 → (7 - l3_3) < n3 → FW YM G C 4 x 12 [(0, vr G b), (1, vi l1_3), (2, vi l2_1), (3, vi l3_3)] [] := by
          intro n3
          induction n3 with
          | zero =>
            intro l1_3 l3_3 g3_0 g3_1 g3_2 g3_3 g3_4 g3_5 g3_6
            exfalso; omega
          | succ n3 ih3 =>
            intro l1_3 l3_3 g3_0 g3_1 g3_2 g3_3 g3_4 g3_5 g3_6
            refine fr_iload_n h rfl 3 rfl dX12_joinedOf_12 ?_
            refine fr_bipush h rfl dX12_joinedOf_13 ?_
            refine fr_icmp_ge (tgt := 43) h dX12_joinedOf_15 (by decide) (by omega) (by omega) (fun c4 => ?_) (fun c4 => ?_)
            ·
              refine fr_iinc (j := 2) (L' := [(0, vr G b), (1, vi l1_3), (2, vi (l2_1 + 1)), (3, vi l3_3)]) h dX12_joinedOf_43 rfl (by decide) [1, 2, 0, 3] rfl ?_
              refine fr_goto (tgt := 4) h dX12_joinedOf_46 (by decide) ?_
              refine fr_sub (L' := [(0, vr G b), (1, vi l1_3), (2, vi (l2_1 + 1))]) [0, 1, 2] rfl ?_
              exact ih1 l1_3 (l2_1 + 1) (by omega) (by omega) (by omega) (by omega) (by omega) (by omega) (by omega)
            ·
              refine fr_iload_n h rfl 1 rfl dX12_joinedOf_18 ?_
              refine fr_aload_n h rfl 0 rfl dX12_joinedOf_19 ?_
              refine fr_iload_n h rfl 2 rfl dX12_joinedOf_20 ?_
              refine fr_iload_n h rfl 3 rfl dX12_joinedOf_21 ?_
              refine fr_csI h wX12_weightOf lX12_105 (c_X12_weightOf x b hb l2_1 l3_3 (by omega) (by omega) (by omega) (by omega) (by omega) (by omega)) rfl (by decide) (by decide) rfl (Nat.le_of_ble_eq_true rfl) dX12_joinedOf_22 (fun z6 x5 w7 p8 => ?_)
              obtain ⟨p9, p10, p11, y12⟩ := p8
              rw [y12]
              clear y12
              refine fr_if_le (tgt := 34) h dX12_joinedOf_25 (by decide) (by omega) (fun c13 => ?_) (fun c13 => ?_)
              ·
                refine fr_iconst h dX12_joinedOf_34 ?_
                refine fr_ior h dX12_joinedOf_35 (fun z14 w15 q16 w17 => ?_)
                have w18 := or0 w15 (by omega) q16
                refine fr_istore_n (L' := [(0, vr G b), (1, vi z14), (2, vi l2_1), (3, vi l3_3)]) h rfl dX12_joinedOf_36 (by decide) [1, 0, 2, 3] rfl ?_
                refine fr_iinc (j := 3) (L' := [(0, vr G b), (1, vi z14), (2, vi l2_1), (3, vi (l3_3 + 1))]) h dX12_joinedOf_37 rfl (by decide) [1, 2, 3, 0] rfl ?_
                refine fr_goto (tgt := 12) h dX12_joinedOf_40 (by decide) ?_
                exact ih3 z14 (l3_3 + 1) (by omega) (by omega) (by omega) (by omega) (by omega) (by omega) (by omega)
              ·
                refine fr_iconst h dX12_joinedOf_28 ?_
                refine fr_iload_n h rfl 2 rfl dX12_joinedOf_29 ?_
                refine fr_ishl h dX12_joinedOf_30 (fun z19 w20 q21 w22 => ?_)
                refine fr_goto (tgt := 35) h dX12_joinedOf_31 (by decide) ?_
                refine fr_ior h dX12_joinedOf_35 (fun z23 w24 q25 w26 => ?_)
                have w27 := sb_of (by omega) (by omega) (by omega) (by omega) w24 q21 q25
                refine fr_istore_n (L' := [(0, vr G b), (1, vi z23), (2, vi l2_1), (3, vi l3_3)]) h rfl dX12_joinedOf_36 (by decide) [1, 0, 2, 3] rfl ?_
                refine fr_iinc (j := 3) (L' := [(0, vr G b), (1, vi z23), (2, vi l2_1), (3, vi (l3_3 + 1))]) h dX12_joinedOf_37 rfl (by decide) [1, 2, 3, 0] rfl ?_
                refine fr_goto (tgt := 12) h dX12_joinedOf_40 (by decide) ?_
                exact ih3 z23 (l3_3 + 1) (by omega) (by omega) (by omega) (by omega) (by omega) (by omega) (by omega)
        exact HL3 ((7 - 0) + 1 : Int).toNat l1_1 0 (by omega) (by omega) (by omega) (by omega) (by omega) (by omega) (by omega)
  exact HL1 ((7 - 0) + 1 : Int).toNat 0 0 (by omega) (by omega) (by omega) (by omega) (by omega) (by omega) (by omega)
