set_option maxHeartbeats 200000 in
theorem c_X12_edgeAt2 (x : Mm) (b : Int) (hb : isSA b) (p : Int) (h_p : fm_r p) (e0 : 0 ≤ p) : CnI YM yX12_edgeAt cX12_edgeAt 5 .int 1 22 (fun G => [vr G b, vi p]) x (fun z y' => ((-1) ≤ z) ∧ (z ≤ 48) ∧ (p < ec (x b) 49 → 0 ≤ z) ∧ (0 ≤ z → 0 ≤ z / 7 ∧ z / 7 < z % 7 ∧ z % 7 < 7 ∧ 0 < x b (28 + 7 * (z / 7) + z % 7)) ∧ (p < ec (x b) 49 → z = eaf (x b) p) ∧ (y' = x)) := by
  refine cn_I (by decide) (fun _ => Nat.le_of_ble_eq_true rfl) (fun G C h hq => ?_)
  have h : OK YM G C cX12_edgeAt RX12 5 (some .int) 1 22 := h
  show FW YM G C 5 x 0 [(0, vr G b), (1, vi p)] []
  have h_b := SA_b hb
  have hs_b : b = 1 ∨ b = 9 ∨ b = 10 := hb
  refine fr_iload_n h rfl 1 rfl dX12_edgeAt_0 ?_
  refine fr_istore_n (L' := [(0, vr G b), (1, vi p), (2, vi p)]) h rfl dX12_edgeAt_1 (by decide) [1, 2, 0] rfl ?_
  refine fr_iconst h dX12_edgeAt_2 ?_
  refine fr_istore_n (L' := [(0, vr G b), (1, vi p), (2, vi p), (3, vi 0)]) h rfl dX12_edgeAt_3 (by decide) [1, 2, 3, 0] rfl ?_
  have HL1 : ∀ (n1 : Nat) (l2_1 l3_1 : Int), fm_r l2_1 → fm_r l3_1 → 0 ≤ l3_1 → l3_1 ≤ 7 → l2_1 = p - es (x b) (7 * l3_1) → 0 ≤ l2_1 → (7 - l3_1) < n1 → FW YM G C 5 x 4 [(0, vr G b), (1, vi p), (2, vi l2_1), (3, vi l3_1)] [] := by
    intro n1
    induction n1 with
    | zero =>
      intro l2_1 l3_1 g1_0 g1_1 g1_2 g1_3 g1_4 g1_5 g1_6
      exfalso; omega
    | succ n1 ih1 =>
      intro l2_1 l3_1 g1_0 g1_1 g1_2 g1_3 g1_4 g1_5 g1_6
      refine fr_iload_n h rfl 3 rfl dX12_edgeAt_4 ?_
      refine fr_bipush h rfl dX12_edgeAt_5 ?_
      refine fr_icmp_ge (tgt := 62) h dX12_edgeAt_7 (by decide) (by omega) (by omega) (fun c2 => ?_) (fun c2 => ?_)
      ·
        refine fr_iconst h dX12_edgeAt_62 ?_
        exact fr_iret h hq (by omega) ⟨(by omega), (by omega), (by intro k0; have k := es_7 (f := x b) (a := l3_1) (by omega); omega), (fun _ => by omega), (by intro k0; exfalso; have k := es_7 (f := x b) (a := l3_1) (by omega); omega), rfl⟩ dX12_edgeAt_63
      ·
        refine fr_iload_n h rfl 3 rfl dX12_edgeAt_10 ?_
        refine fr_iconst h dX12_edgeAt_11 ?_
        refine fr_iadd h dX12_edgeAt_12 ?_
        refine fr_istore (L' := [(0, vr G b), (1, vi p), (2, vi l2_1), (3, vi l3_1), (4, vi (l3_1 + 1))]) h dX12_edgeAt_13 (by decide) [1, 2, 3, 4, 0] rfl ?_
        have HL3 : ∀ (n3 : Nat) (l2_3 l4_3 : Int), fm_r l2_3 → fm_r l4_3 → 1 ≤ l4_3 → l4_3 ≤ 7 → l2_3 = p - es (x b) (7 * l3_1 + l4_3) → 0 ≤ l2_3 → l3_1 < l4_3 → (7 - l4_3) < n3 → FW YM G C 5 x 15 [(0, vr G b), (1, vi p), (2, vi l2_3), (3, vi l3_1), (4, vi l4_3)] [] := by
          intro n3
          induction n3 with
          | zero =>
            intro l2_3 l4_3 g3_0 g3_1 g3_2 g3_3 g3_4 g3_5 g3_6 g3_7
            exfalso; omega
          | succ n3 ih3 =>
            intro l2_3 l4_3 g3_0 g3_1 g3_2 g3_3 g3_4 g3_5 g3_6 g3_7
            refine fr_iload h 4 rfl dX12_edgeAt_15 ?_
            refine fr_bipush h rfl dX12_edgeAt_17 ?_
            refine fr_icmp_ge (tgt := 56) h dX12_edgeAt_19 (by decide) (by omega) (by omega) (fun c4 => ?_) (fun c4 => ?_)
            ·
              refine fr_iinc (j := 3) (L' := [(0, vr G b), (1, vi p), (2, vi l2_3), (3, vi (l3_1 + 1)), (4, vi l4_3)]) h dX12_edgeAt_56 rfl (by decide) [1, 2, 3, 0, 4] rfl ?_
              refine fr_goto (tgt := 4) h dX12_edgeAt_59 (by decide) ?_
              refine fr_sub (L' := [(0, vr G b), (1, vi p), (2, vi l2_3), (3, vi (l3_1 + 1))]) [0, 1, 2, 3] rfl ?_
              exact ih1 l2_3 (l3_1 + 1) (by omega) (by omega) (by omega) (by omega) (by have k := es_n (f := x b) (a := l3_1) (b := l4_3) (by omega); omega) (by omega) (by omega)
            ·
              refine fr_aload_n h rfl 0 rfl dX12_edgeAt_22 ?_
              refine fr_iload_n h rfl 3 rfl dX12_edgeAt_23 ?_
              refine fr_iload h 4 rfl dX12_edgeAt_24 ?_
              refine fr_csI h wX12_weightOf lX12_105 (c_X12_weightOf x b hb l3_1 l4_3 (by omega) (by omega) (by omega) (by omega) (by omega) (by omega)) rfl (by decide) (by decide) rfl (Nat.le_of_ble_eq_true rfl) dX12_edgeAt_26 (fun z6 x5 w7 p8 => ?_)
              obtain ⟨p9, p10, p11, y12⟩ := p8
              rw [y12]
              clear y12
              refine fr_if_ne (tgt := 35) h dX12_edgeAt_29 (by decide) (by omega) (fun c13 => ?_) (fun c13 => ?_)
              ·
                refine fr_iload_n h rfl 2 rfl dX12_edgeAt_35 ?_
                refine fr_if_ne (tgt := 47) h dX12_edgeAt_36 (by decide) (by omega) (fun c14 => ?_) (fun c14 => ?_)
                ·
                  refine fr_iinc (j := 2) (L' := [(0, vr G b), (1, vi p), (2, vi (l2_3 + (-1))), (3, vi l3_1), (4, vi l4_3)]) h dX12_edgeAt_47 rfl (by decide) [1, 2, 0, 3, 4] rfl ?_
                  obtain ⟨z15, w16, q17⟩ := iI_ex (iI (l2_3 + (-1)))
                  have w18 : fm_r ((l2_3 + (-1))) → z15 = (l2_3 + (-1)) := fun q => (iI_inj q w16 q17).symm
                  rw [show vi (l2_3 + (-1)) = vi z15 from congrArg Value.int q17]
                  refine fr_iinc (j := 4) (L' := [(0, vr G b), (1, vi p), (2, vi z15), (3, vi l3_1), (4, vi (l4_3 + 1))]) h dX12_edgeAt_50 rfl (by decide) [1, 2, 3, 4, 0] rfl ?_
                  refine fr_goto (tgt := 15) h dX12_edgeAt_53 (by decide) ?_
                  exact ih3 z15 (l4_3 + 1) (by omega) (by omega) (by omega) (by omega) (by have k := es_s (f := x b) (a := l3_1) (b := l4_3) (by omega) (by omega) (by omega) (by omega); split at k <;> omega) (by omega) (by omega) (by omega)
                ·
                  refine fr_bipush h rfl dX12_edgeAt_39 ?_
                  refine fr_iload_n h rfl 3 rfl dX12_edgeAt_41 ?_
                  refine fr_imul h dX12_edgeAt_42 ?_
                  refine fr_iload h 4 rfl dX12_edgeAt_43 ?_
                  refine fr_iadd h dX12_edgeAt_45 ?_
                  exact fr_iret h hq (by omega) ⟨(by omega), (by omega), (by omega), (fun _ => by rw [show ((7 * l3_1) + l4_3) / 7 = l3_1 by omega, show ((7 * l3_1) + l4_3) % 7 = l4_3 by omega]; omega), (fun _ => eaf_u (a := l3_1) (b := l4_3) (by omega) (by omega) (by omega) (by omega) (by omega)), rfl⟩ dX12_edgeAt_46
              ·
                refine fr_goto (tgt := 50) h dX12_edgeAt_32 (by decide) ?_
                refine fr_iinc (j := 4) (L' := [(0, vr G b), (1, vi p), (2, vi l2_3), (3, vi l3_1), (4, vi (l4_3 + 1))]) h dX12_edgeAt_50 rfl (by decide) [1, 2, 3, 4, 0] rfl ?_
                refine fr_goto (tgt := 15) h dX12_edgeAt_53 (by decide) ?_
                exact ih3 l2_3 (l4_3 + 1) (by omega) (by omega) (by omega) (by omega) (by have k := es_s (f := x b) (a := l3_1) (b := l4_3) (by omega) (by omega) (by omega) (by omega); split at k <;> omega) (by omega) (by omega) (by omega)
        exact HL3 ((7 - (l3_1 + 1)) + 1 : Int).toNat l2_1 (l3_1 + 1) (by omega) (by omega) (by omega) (by omega) (by have k := es_k (f := x b) (a := l3_1) (by omega) (by omega); omega) (by omega) (by omega) (by omega)
  exact HL1 ((7 - 0) + 1 : Int).toNat p 0 (by omega) (by omega) (by omega) (by omega) (by have := es_0 (x b); omega) (by omega) (by omega)
set_option maxHeartbeats 200000 in
theorem c_X12_joinedOf2 (x : Mm) (b : Int) (hb : isSA b) : CnI YM yX12_joinedOf cX12_joinedOf 4 .int 1 22 (fun G => [vr G b]) x (fun z y' => (0 ≤ z) ∧ (z < 128) ∧ (z = jof (x b)) ∧ (y' = x)) := by
  refine cn_I (by decide) (fun _ => Nat.le_of_ble_eq_true rfl) (fun G C h hq => ?_)
  have h : OK YM G C cX12_joinedOf RX12 4 (some .int) 1 22 := h
  show FW YM G C 4 x 0 [(0, vr G b)] []
  have h_b := SA_b hb
  have hs_b : b = 1 ∨ b = 9 ∨ b = 10 := hb
  refine fr_iconst h dX12_joinedOf_0 ?_
  refine fr_istore_n (L' := [(0, vr G b), (1, vi 0)]) h rfl dX12_joinedOf_1 (by decide) [1, 0] rfl ?_
  refine fr_iconst h dX12_joinedOf_2 ?_
  refine fr_istore_n (L' := [(0, vr G b), (1, vi 0), (2, vi 0)]) h rfl dX12_joinedOf_3 (by decide) [1, 2, 0] rfl ?_
  have HL1 : ∀ (n1 : Nat) (l1_1 l2_1 : Int), fm_r l1_1 → 0 ≤ l1_1 → l1_1 ≤ 127 → fm_r l2_1 → 0 ≤ l2_1 → l2_1 ≤ 7 → l1_1 = jos (x b) (7 * l2_1) → (7 - l2_1) < n1 → FW YM G C 4 x 4 [(0, vr G b), (1, vi l1_1), (2, vi l2_1)] [] := by
    intro n1
    induction n1 with
    | zero =>
      intro l1_1 l2_1 g1_0 g1_1 g1_2 g1_3 g1_4 g1_5 g1_6 g1_7
      exfalso; omega
    | succ n1 ih1 =>
      intro l1_1 l2_1 g1_0 g1_1 g1_2 g1_3 g1_4 g1_5 g1_6 g1_7
      refine fr_iload_n h rfl 2 rfl dX12_joinedOf_4 ?_
      refine fr_bipush h rfl dX12_joinedOf_5 ?_
      refine fr_icmp_ge (tgt := 49) h dX12_joinedOf_7 (by decide) (by omega) (by omega) (fun c2 => ?_) (fun c2 => ?_)
      ·
        refine fr_iload_n h rfl 1 rfl dX12_joinedOf_49 ?_
        exact fr_iret h hq (by omega) ⟨(by omega), (by omega), (by have k := jos_7 (f := x b) (a := l2_1) (by omega); omega), rfl⟩ dX12_joinedOf_50
      ·
        refine fr_iconst h dX12_joinedOf_10 ?_
        refine fr_istore_n (L' := [(0, vr G b), (1, vi l1_1), (2, vi l2_1), (3, vi 0)]) h rfl dX12_joinedOf_11 (by decide) [1, 2, 3, 0] rfl ?_
        have HL3 : ∀ (n3 : Nat) (l1_3 l3_3 : Int), fm_r l1_3 → 0 ≤ l1_3 → l1_3 ≤ 127 → fm_r l3_3 → 0 ≤ l3_3 → l3_3 ≤ 7 → l1_3 = jos (x b) (7 * l2_1 + l3_3) → (7 - l3_3) < n3 → FW YM G C 4 x 12 [(0, vr G b), (1, vi l1_3), (2, vi l2_1), (3, vi l3_3)] [] := by
          intro n3
          induction n3 with
          | zero =>
            intro l1_3 l3_3 g3_0 g3_1 g3_2 g3_3 g3_4 g3_5 g3_6 g3_7
            exfalso; omega
          | succ n3 ih3 =>
            intro l1_3 l3_3 g3_0 g3_1 g3_2 g3_3 g3_4 g3_5 g3_6 g3_7
            refine fr_iload_n h rfl 3 rfl dX12_joinedOf_12 ?_
            refine fr_bipush h rfl dX12_joinedOf_13 ?_
            refine fr_icmp_ge (tgt := 43) h dX12_joinedOf_15 (by decide) (by omega) (by omega) (fun c4 => ?_) (fun c4 => ?_)
            ·
              refine fr_iinc (j := 2) (L' := [(0, vr G b), (1, vi l1_3), (2, vi (l2_1 + 1)), (3, vi l3_3)]) h dX12_joinedOf_43 rfl (by decide) [1, 2, 0, 3] rfl ?_
              refine fr_goto (tgt := 4) h dX12_joinedOf_46 (by decide) ?_
              refine fr_sub (L' := [(0, vr G b), (1, vi l1_3), (2, vi (l2_1 + 1))]) [0, 1, 2] rfl ?_
              exact ih1 l1_3 (l2_1 + 1) (by omega) (by omega) (by omega) (by omega) (by omega) (by omega) (by have k := jos_n (f := x b) (a := l2_1) (b := l3_3) (by omega); omega) (by omega)
            ·
              skip
              refine fr_iload_n h rfl 1 rfl dX12_joinedOf_18 ?_
              refine fr_aload_n h rfl 0 rfl dX12_joinedOf_19 ?_
              refine fr_iload_n h rfl 2 rfl dX12_joinedOf_20 ?_
              refine fr_iload_n h rfl 3 rfl dX12_joinedOf_21 ?_
              refine fr_csI h wX12_weightOf lX12_105 (c_X12_weightOf x b hb l2_1 l3_3 (by omega) (by omega) (by omega) (by omega) (by omega) (by omega)) rfl (by decide) (by decide) rfl (Nat.le_of_ble_eq_true rfl) dX12_joinedOf_22 (fun z6 x5 w7 p8 => ?_)
              obtain ⟨p9, p10, p11, y12⟩ := p8
              rw [y12]
              clear y12
              refine fr_if_le (tgt := 34) h dX12_joinedOf_25 (by decide) (by omega) (fun c13 => ?_) (fun c13 => ?_)
              ·
                refine fr_iconst h dX12_joinedOf_34 ?_
                refine fr_ior h dX12_joinedOf_35 (fun z14 w15 q16 w17 => ?_)
                have w18 := or0 w15 (by omega) q16
                refine fr_istore_n (L' := [(0, vr G b), (1, vi z14), (2, vi l2_1), (3, vi l3_3)]) h rfl dX12_joinedOf_36 (by decide) [1, 0, 2, 3] rfl ?_
                refine fr_iinc (j := 3) (L' := [(0, vr G b), (1, vi z14), (2, vi l2_1), (3, vi (l3_3 + 1))]) h dX12_joinedOf_37 rfl (by decide) [1, 2, 3, 0] rfl ?_
                refine fr_goto (tgt := 12) h dX12_joinedOf_40 (by decide) ?_
                exact ih3 z14 (l3_3 + 1) (by omega) (by omega) (by omega) (by omega) (by omega) (by omega) (by have k := jos_s (f := x b) (a := l2_1) (b := l3_3) (by omega) (by omega) (by omega) (by omega); rw [show jos (x b) (7 * l2_1 + l3_3) = l1_3 by omega] at k; split at k <;> omega) (by omega)
              ·
                refine fr_iconst h dX12_joinedOf_28 ?_
                refine fr_iload_n h rfl 2 rfl dX12_joinedOf_29 ?_
                refine fr_ishl h dX12_joinedOf_30 (fun z19 w20 q21 w22 => ?_)
                refine fr_goto (tgt := 35) h dX12_joinedOf_31 (by decide) ?_
                refine fr_ior h dX12_joinedOf_35 (fun z23 w24 q25 w26 => ?_)
                have w27 := sb_of (by omega) (by omega) (by omega) (by omega) w24 q21 q25
                refine fr_istore_n (L' := [(0, vr G b), (1, vi z23), (2, vi l2_1), (3, vi l3_3)]) h rfl dX12_joinedOf_36 (by decide) [1, 0, 2, 3] rfl ?_
                refine fr_iinc (j := 3) (L' := [(0, vr G b), (1, vi z23), (2, vi l2_1), (3, vi (l3_3 + 1))]) h dX12_joinedOf_37 rfl (by decide) [1, 2, 3, 0] rfl ?_
                refine fr_goto (tgt := 12) h dX12_joinedOf_40 (by decide) ?_
                exact ih3 z23 (l3_3 + 1) (by omega) (by omega) (by omega) (by omega) (by omega) (by omega) (by have k := jos_s (f := x b) (a := l2_1) (b := l3_3) (by omega) (by omega) (by omega) (by omega); rw [show jos (x b) (7 * l2_1 + l3_3) = l1_3 by omega] at k; split at k <;> omega) (by omega)
        exact HL3 ((7 - 0) + 1 : Int).toNat l1_1 0 (by omega) (by omega) (by omega) (by omega) (by omega) (by omega) (by rw [jos_k]; omega) (by omega)
  exact HL1 ((7 - 0) + 1 : Int).toNat 0 0 (by omega) (by omega) (by omega) (by omega) (by omega) (by omega) (jos_0 _).symm (by omega)
set_option maxHeartbeats 200000 in
theorem c_X12_emit (x : Mm) (p : Int) (v : Int) (h_p : fm_r p) (h_v : fm_r v) (e0 : 0 ≤ p) (e1 : p ≤ 8) (e2 : x 0 26 ≤ 1299) : CnV YM yX12_emit cX12_emit 4 0 0 (fun G => [vr G 0, vi p, vi v]) x (fun y' => (y' 0 26 = x 0 26 + 1) ∧ (∀ a : Int, (a < 0 ∨ 0 < a) → (a < 12 ∨ 14 < a) → y' a = x a) ∧ (∀ i : Int, i ≠ 26 → y' 0 i = x 0 i)) := by
  refine cn_V (by decide) (fun _ => Nat.le_of_ble_eq_true rfl) (fun G C h hq => ?_)
  have h : OK YM G C cX12_emit RX12 4 none 0 0 := h
  show FW YM G C 4 x 0 [(0, vr G 0), (1, vi p), (2, vi v)] []
  refine fr_iconst h dX12_emit_0 ?_
  refine fr_istore_n (L' := [(0, vr G 0), (1, vi p), (2, vi v), (3, vi 0)]) h rfl dX12_emit_1 (by decide) [1, 2, 3, 0] rfl ?_
  have HL1 : ∀ (n1 : Nat) (l3_1 : Int) (x_1 : Mm), fm_r l3_1 → 0 ≤ l3_1 → l3_1 ≤ 8 → (∀ a : Int, (a < 12 ∨ 12 < a) → x_1 a = x a) → (8 - l3_1) < n1 → FW YM G C 4 x_1 2 [(0, vr G 0), (1, vi p), (2, vi v), (3, vi l3_1)] [] := by
    intro n1
    induction n1 with
    | zero =>
      intro l3_1 x_1 g1_0 g1_1 g1_2 g1_3 g1_4
      exfalso; omega
    | succ n1 ih1 =>
      intro l3_1 x_1 g1_0 g1_1 g1_2 g1_3 g1_4
      refine fr_iload_n h rfl 3 rfl dX12_emit_2 ?_
      refine fr_iload_n h rfl 1 rfl dX12_emit_3 ?_
      refine fr_icmp_ge (tgt := 33) h dX12_emit_4 (by decide) (by omega) (by omega) (fun c2 => ?_) (fun c2 => ?_)
      ·
        refine fr_aload_n h rfl 0 rfl dX12_emit_33 ?_
        refine fr_getc (z := 13) (iz := 24) h kX12 fX12_48 at_0M rfl rfl rfM_24 (by omega) dX12_emit_34 ?_
        refine fr_aload_n h rfl 0 rfl dX12_emit_37 ?_
        refine fr_geti (iz := 26) h kX12 fX12_276 at_0M rfl rfl (by decide) (by decide) rfM_26 dX12_emit_38 (fun z3 w4 w5 q6 => ?_)
        have r7 := q6.trans (congrFun (g1_3 0 (by omega)) 26)
        refine fr_iload_n h rfl 1 rfl dX12_emit_41 ?_
        refine fr_iast h arM_13 (by omega) (by omega) (rrM_13 z3) (by omega) (by omega) dX12_emit_42 ?_
        refine fr_mem (fun x8 m9 => ?_)
        refine fr_aload_n h rfl 0 rfl dX12_emit_43 ?_
        refine fr_getc (z := 14) (iz := 25) h kX12 fX12_51 at_0M rfl rfl rfM_25 (by omega) dX12_emit_44 ?_
        refine fr_aload_n h rfl 0 rfl dX12_emit_47 ?_
        refine fr_geti (iz := 26) h kX12 fX12_276 at_0M rfl rfl (by decide) (by decide) rfM_26 dX12_emit_48 (fun z10 w11 w12 q13 => ?_)
        have r14 := q13.trans (fm_rd_k (a := 0) (b := 26) m9 (by omega))
        have r15 := r14.trans (congrFun (g1_3 0 (by omega)) 26)
        refine fr_iload_n h rfl 2 rfl dX12_emit_51 ?_
        refine fr_iast h arM_14 (by omega) (by omega) (rrM_14 z10) (by omega) (by omega) dX12_emit_52 ?_
        refine fr_mem (fun x16 m17 => ?_)
        refine fr_aload_n h rfl 0 rfl dX12_emit_53 ?_
        refine fr_dup h rfl dX12_emit_54 ?_
        refine fr_geti (iz := 26) h kX12 fX12_276 at_0M rfl rfl (by decide) (by decide) rfM_26 dX12_emit_55 (fun z18 w19 w20 q21 => ?_)
        have r22 := q21.trans (fm_rd_k (a := 0) (b := 26) m17 (by omega))
        have r23 := r22.trans (fm_rd_k (a := 0) (b := 26) m9 (by omega))
        have r24 := r23.trans (congrFun (g1_3 0 (by omega)) 26)
        refine fr_iconst h dX12_emit_58 ?_
        refine fr_iadd h dX12_emit_59 ?_
        refine fr_puti (iz := 26) h kX12 fX12_276 at_0M rfl rfl (by decide) (by decide) rfl (by decide +kernel) rfM_26 (by omega) (by omega) dX12_emit_60 ?_
        refine fr_mem (fun x25 m26 => ?_)
        have r27 := (fm_rd_s m26)
        exact fr_vret h hq ⟨(by omega), (fun a k0 k1 => ((fm_up_row m26 (by omega)).trans ((fm_up_row m17 (by omega)).trans ((fm_up_row m9 (by omega)).trans (g1_3 a (by omega)))))), (fun i k0 => ((fm_rd_i (a := 0) (b := i) m26 (by omega)).trans ((fm_rd_k (a := 0) (b := i) m17 (by omega)).trans ((fm_rd_k (a := 0) (b := i) m9 (by omega)).trans (congrFun (g1_3 0 (by omega)) i)))))⟩ dX12_emit_63
      ·
        refine fr_aload_n h rfl 0 rfl dX12_emit_7 ?_
        refine fr_getc (z := 12) (iz := 23) h kX12 fX12_45 at_0M rfl rfl rfM_23 (by omega) dX12_emit_8 ?_
        refine fr_bipush h rfl dX12_emit_11 ?_
        refine fr_aload_n h rfl 0 rfl dX12_emit_13 ?_
        refine fr_geti (iz := 26) h kX12 fX12_276 at_0M rfl rfl (by decide) (by decide) rfM_26 dX12_emit_14 (fun z28 w29 w30 q31 => ?_)
        have r32 := q31.trans (congrFun (g1_3 0 (by omega)) 26)
        refine fr_imul h dX12_emit_17 ?_
        refine fr_iload_n h rfl 3 rfl dX12_emit_18 ?_
        refine fr_iadd h dX12_emit_19 ?_
        refine fr_aload_n h rfl 0 rfl dX12_emit_20 ?_
        refine fr_getc (z := 17) (iz := 29) h kX12 fX12_60 at_0M rfl rfl rfM_29 (by omega) dX12_emit_21 ?_
        refine fr_iload_n h rfl 3 rfl dX12_emit_24 ?_
        refine fr_iald h arM_17 (by omega) (by omega) (rrM_17 l3_1) dX12_emit_25 (fun z33 w34 w35 q36 => ?_)
        have r37 := q36.trans (congrFun (g1_3 17 (by omega)) l3_1)
        refine fr_iast h arM_12 (by omega) (by omega) (rrM_12 ((8 * z28) + l3_1)) (by omega) (by omega) dX12_emit_26 ?_
        refine fr_mem (fun x38 m39 => ?_)
        refine fr_iinc (j := 3) (L' := [(0, vr G 0), (1, vi p), (2, vi v), (3, vi (l3_1 + 1))]) h dX12_emit_27 rfl (by decide) [1, 2, 3, 0] rfl ?_
        refine fr_goto (tgt := 2) h dX12_emit_30 (by decide) ?_
        exact ih1 (l3_1 + 1) x38 (by omega) (by omega) (by omega) (fun a k0 => ((fm_up_row m39 (by omega)).trans (g1_3 a (by omega)))) (by omega)
  exact HL1 ((8 - 0) + 1 : Int).toNat 0 x (by omega) (by omega) (by omega) (fun a _ => rfl) (by omega)
set_option maxHeartbeats 1000000 in
theorem c_X12_ruleOf (x : Mm) (b : Int) (hb : isSA b) (k : Int) (h_k : fm_r k) (e0 : 0 ≤ k) (e1 : k ≤ 1299) : CnI YM yX12_ruleOf cX12_ruleOf 6 .int 181 5322 (fun G => [vr G 0, vr G b, vi k]) x (fun z y' => (∀ a : Int, (a < 0 ∨ 0 < a) → (a < 7 ∨ 7 < a) → y' a = x a) ∧ (∀ i : Int, i ≠ 6 → i ≠ 7 → i ≠ 8 → i ≠ 9 → i ≠ 10 → i ≠ 15 → y' 0 i = x 0 i)) := by
  refine cn_I (by decide) (fun _ => Nat.le_of_ble_eq_true rfl) (fun G C h hq => ?_)
  have h : OK YM G C cX12_ruleOf RX12 6 (some .int) 181 5322 := h
  show FW YM G C 6 x 0 [(0, vr G 0), (1, vr G b), (2, vi k)] []
  have h_b := SA_b hb
  have hs_b : b = 1 ∨ b = 9 ∨ b = 10 := hb
  refine fr_iconst h dX12_ruleOf_0 ?_
  refine fr_istore_n (L' := [(0, vr G 0), (1, vr G b), (2, vi k), (3, vi 0)]) h rfl dX12_ruleOf_1 (by decide) [1, 2, 3, 0] rfl ?_
  have HL1 : ∀ (n1 : Nat) (l3_1 : Int) (x_1 : Mm), fm_r l3_1 → 0 ≤ l3_1 → l3_1 ≤ 7 → (∀ a : Int, (a < 7 ∨ 7 < a) → x_1 a = x a) → (7 - l3_1) < n1 → FW YM G C 6 x_1 2 [(0, vr G 0), (1, vr G b), (2, vi k), (3, vi l3_1)] [] := by
    intro n1
    induction n1 with
    | zero =>
      intro l3_1 x_1 g1_0 g1_1 g1_2 g1_3 g1_4
      exfalso; omega
    | succ n1 ih1 =>
      intro l3_1 x_1 g1_0 g1_1 g1_2 g1_3 g1_4
      refine fr_iload_n h rfl 3 rfl dX12_ruleOf_2 ?_
      refine fr_bipush h rfl dX12_ruleOf_3 ?_
      refine fr_icmp_ge (tgt := 30) h dX12_ruleOf_5 (by decide) (by omega) (by omega) (fun c2 => ?_) (fun c2 => ?_)
      ·
        refine fr_iconst h dX12_ruleOf_30 ?_
        refine fr_istore_n (L' := [(0, vr G 0), (1, vr G b), (2, vi k), (3, vi 0)]) h rfl dX12_ruleOf_31 (by decide) [1, 2, 3, 0] rfl ?_
        refine fr_iconst h dX12_ruleOf_32 ?_
        refine fr_istore (L' := [(0, vr G 0), (1, vr G b), (2, vi k), (3, vi 0), (4, vi 0)]) h dX12_ruleOf_33 (by decide) [1, 2, 3, 4, 0] rfl ?_
        have HL3 : ∀ (n3 : Nat) (l3_3 l4_3 : Int) (x_3 : Mm), fm_r l3_3 → 0 ≤ l3_3 → l3_3 ≤ 4 → fm_r l4_3 → 0 ≤ l4_3 → l4_3 ≤ 4 → l3_3 ≤ l4_3 → (∀ a : Int, (a < 7 ∨ 7 < a) → x_3 a = x_1 a) → (4 - l4_3) < n3 → FW YM G C 6 x_3 35 [(0, vr G 0), (1, vr G b), (2, vi k), (3, vi l3_3), (4, vi l4_3)] [] := by
          intro n3
          induction n3 with
          | zero =>
            intro l3_3 l4_3 x_3 g3_0 g3_1 g3_2 g3_3 g3_4 g3_5 g3_6 g3_7 g3_8
            exfalso; omega
          | succ n3 ih3 =>
            intro l3_3 l4_3 x_3 g3_0 g3_1 g3_2 g3_3 g3_4 g3_5 g3_6 g3_7 g3_8
            refine fr_iload h 4 rfl dX12_ruleOf_35 ?_
            refine fr_iconst h dX12_ruleOf_37 ?_
            refine fr_icmp_ge (tgt := 187) h dX12_ruleOf_38 (by decide) (by omega) (by omega) (fun c4 => ?_) (fun c4 => ?_)
            ·
              refine fr_aload_n h rfl 0 rfl dX12_ruleOf_187 ?_
              refine fr_getc (z := 7) (iz := 16) h kX12 fX12_30 at_0M rfl rfl rfM_16 (by omega) dX12_ruleOf_188 ?_
              refine fr_bipush h rfl dX12_ruleOf_191 ?_
              refine fr_iload_n h rfl 3 rfl dX12_ruleOf_193 ?_
              refine fr_iast h arM_7 (by omega) (by omega) (rrM_7 6) (by omega) (by omega) dX12_ruleOf_194 ?_
              refine fr_mem (fun x5 m6 => ?_)
              refine fr_aload_n h rfl 0 rfl dX12_ruleOf_195 ?_
              refine fr_geti (iz := 14) h kX12 fX12_198 at_0M rfl rfl (by decide) (by decide) rfM_14 dX12_ruleOf_196 (fun z7 w8 w9 q10 => ?_)
              have r11 := q10.trans (fm_rd_k (a := 0) (b := 14) m6 (by omega))
              have r12 := r11.trans (congrFun (g3_7 0 (by omega)) 14)
              have r13 := r12.trans (congrFun (g1_3 0 (by omega)) 14)
              refine fr_if_ne (tgt := 209) h dX12_ruleOf_199 (by decide) (by omega) (fun c14 => ?_) (fun c14 => ?_)
              ·
                refine fr_aload_n h rfl 0 rfl dX12_ruleOf_209 ?_
                refine fr_aload_n h rfl 0 rfl dX12_ruleOf_210 ?_
                refine fr_rng (fun h15 => ?_)
                have w16 : 5 ≤ x5 0 12 ∧ x5 0 12 ≤ 6 := h15 0 12
                obtain ⟨u17, q18⟩ : ∃ z, x5 0 12 = z := ⟨_, rfl⟩
                rw [q18] at w16
                have i19 : RBN u17 40 := by unfold RBN; omega
                refine fr_getr (z := u17) (iz := 12) h kX12 fX12_24 at_0M rfl rfl q18 (by omega) dX12_ruleOf_211 ?_
                refine fr_aload_n h rfl 0 rfl dX12_ruleOf_214 ?_
                refine fr_geti (iz := 14) h kX12 fX12_198 at_0M rfl rfl (by decide) (by decide) rfM_14 dX12_ruleOf_215 (fun z20 w21 w22 q23 => ?_)
                have r24 := q23.trans (fm_rd_k (a := 0) (b := 14) m6 (by omega))
                have r25 := r24.trans (congrFun (g3_7 0 (by omega)) 14)
                have r26 := r25.trans (congrFun (g1_3 0 (by omega)) 14)
                refine fr_bipush h rfl dX12_ruleOf_218 ?_
                refine fr_cvV h kX12 at_0M wX12_begin lX12_127 (c_X12_begin x5 u17 40 i19 z20 40 (by omega) (by omega) (by omega) (by omega) (by omega) (by omega)) rfl (by decide) (by decide) rfl (Nat.le_of_ble_eq_true rfl) dX12_ruleOf_220 (fun x27 p30 => ?_)
                obtain ⟨p31, p32, p33, p34, p35, f36, f37⟩ := p30
                refine fr_aload_n h rfl 0 rfl dX12_ruleOf_223 ?_
                refine fr_iconst h dX12_ruleOf_224 ?_
                refine fr_putz (iz := 15) h kX12 fX12_191 at_0M rfl rfl (by decide) (by decide) rfl (by decide +kernel) rfM_15 (by omega) (by omega) (by omega) dX12_ruleOf_225 ?_
                refine fr_mem (fun x38 m39 => ?_)
                refine fr_aload_n h rfl 0 rfl dX12_ruleOf_228 ?_
                refine fr_iconst h dX12_ruleOf_229 ?_
                have r40 := (fm_rd_i (a := 0) (b := 6) m39 (by decide))
                have r41 := (fm_rd_k (a := 0) (b := 6) m6 (by omega))
                have r42 := r41.trans (congrFun (g3_7 0 (by omega)) 6)
                have r43 := r42.trans (congrFun (g1_3 0 (by omega)) 6)
                have r44 := (fm_rd_i (a := 0) (b := 8) m39 (by decide))
                have r45 := (fm_rd_k (a := 0) (b := 8) m6 (by omega))
                have r46 := r45.trans (congrFun (g3_7 0 (by omega)) 8)
                have r47 := r46.trans (congrFun (g1_3 0 (by omega)) 8)
                have r48 := (fm_rd_i (a := 0) (b := 6) m39 (by decide))
                have r49 := (fm_rd_k (a := 0) (b := 6) m6 (by omega))
                have r50 := r49.trans (congrFun (g3_7 0 (by omega)) 6)
                have r51 := r50.trans (congrFun (g1_3 0 (by omega)) 6)
                have r52 := (fm_rd_i (a := 0) (b := 8) m39 (by decide))
                have r53 := (fm_rd_k (a := 0) (b := 8) m6 (by omega))
                have r54 := r53.trans (congrFun (g3_7 0 (by omega)) 8)
                have r55 := r54.trans (congrFun (g1_3 0 (by omega)) 8)
                have r56 := (fm_rd_i (a := 0) (b := 6) m39 (by decide))
                have r57 := (fm_rd_k (a := 0) (b := 6) m6 (by omega))
                have r58 := r57.trans (congrFun (g3_7 0 (by omega)) 6)
                have r59 := r58.trans (congrFun (g1_3 0 (by omega)) 6)
                have r60 := (fm_rd_i (a := 0) (b := 8) m39 (by decide))
                have r61 := (fm_rd_k (a := 0) (b := 8) m6 (by omega))
                have r62 := r61.trans (congrFun (g3_7 0 (by omega)) 8)
                have r63 := r62.trans (congrFun (g1_3 0 (by omega)) 8)
                have r64 := (fm_rd_i (a := 0) (b := 9) m39 (by decide))
                have r65 := (fm_rd_k (a := 0) (b := 9) m6 (by omega))
                have r66 := r65.trans (congrFun (g3_7 0 (by omega)) 9)
                have r67 := r66.trans (congrFun (g1_3 0 (by omega)) 9)
                have r68 := (fm_rd_i (a := 0) (b := 8) m39 (by decide))
                have r69 := (fm_rd_k (a := 0) (b := 8) m6 (by omega))
                have r70 := r69.trans (congrFun (g3_7 0 (by omega)) 8)
                have r71 := r70.trans (congrFun (g1_3 0 (by omega)) 8)
                refine fr_cvI h kX12 at_0M wX12_held lX12_181 (c_X12_held 170 x38 0 (by omega) (by omega) (by omega) (by omega) (by omega)) rfl (by decide) (by decide) rfl (Nat.le_of_ble_eq_true rfl) dX12_ruleOf_230 (fun z73 x72 w74 p75 => ?_)
                obtain ⟨p76, p77, f78, f79⟩ := p75
                refine fr_istore (L' := [(0, vr G 0), (1, vr G b), (2, vi k), (3, vi l3_3), (4, vi z73)]) h dX12_ruleOf_233 (by decide) [1, 2, 3, 4, 0] rfl ?_
                refine fr_aload_n h rfl 0 rfl dX12_ruleOf_235 ?_
                refine fr_iconst h dX12_ruleOf_236 ?_
                refine fr_putz (iz := 15) h kX12 fX12_191 at_0M rfl rfl (by decide) (by decide) rfl (by decide +kernel) rfM_15 (by omega) (by omega) (by omega) dX12_ruleOf_237 ?_
                refine fr_mem (fun x80 m81 => ?_)
                refine fr_iload h 4 rfl dX12_ruleOf_240 ?_
                exact fr_iret h hq (by omega) ⟨(fun a k0 k1 => ((fm_up_row m81 (by omega)).trans ((f78 a (by omega)).trans ((fm_up_row m39 (by omega)).trans ((f36 a (by omega)).trans ((fm_up_row m6 (by omega)).trans ((g3_7 a (by omega)).trans (g1_3 a (by omega))))))))), (fun i k0 k1 k2 k3 k4 k5 => ((fm_rd_i (a := 0) (b := i) m81 (by omega)).trans ((f79 i (by omega) (by omega)).trans ((fm_rd_i (a := 0) (b := i) m39 (by omega)).trans ((f37 i (by omega) (by omega) (by omega) (by omega) (by omega)).trans ((fm_rd_k (a := 0) (b := i) m6 (by omega)).trans ((congrFun (g3_7 0 (by omega)) i).trans (congrFun (g1_3 0 (by omega)) i))))))))⟩ dX12_ruleOf_242
              ·
                refine fr_aload_n h rfl 0 rfl dX12_ruleOf_202 ?_
                refine fr_getc (z := 7) (iz := 16) h kX12 fX12_30 at_0M rfl rfl rfM_16 (by omega) dX12_ruleOf_203 ?_
                refine fr_iconst h dX12_ruleOf_206 ?_
                refine fr_iald h arM_7 (by omega) (by omega) (rrM_7 0) dX12_ruleOf_207 (fun z82 w83 w84 q85 => ?_)
                have r86 := q85.trans (fm_rd_i (a := 7) (b := 0) m6 (by decide))
                exact fr_iret h hq (by omega) ⟨(fun a k0 k1 => ((fm_up_row m6 (by omega)).trans ((g3_7 a (by omega)).trans (g1_3 a (by omega))))), (fun i k0 k1 k2 k3 k4 k5 => ((fm_rd_k (a := 0) (b := i) m6 (by omega)).trans ((congrFun (g3_7 0 (by omega)) i).trans (congrFun (g1_3 0 (by omega)) i))))⟩ dX12_ruleOf_208
            ·
              refine fr_aload_n h rfl 1 rfl dX12_ruleOf_41 ?_
              refine fr_bipush h rfl dX12_ruleOf_42 ?_
              refine fr_iload h 4 rfl dX12_ruleOf_44 ?_
              refine fr_iadd h dX12_ruleOf_46 ?_
              refine fr_iald h (SA_a hb) (by omega) (by omega) ((SA_r hb (24 + l4_3)).trans (sg_len (by omega) (by omega))) dX12_ruleOf_47 (fun z87 w88 w89 q90 => ?_)
              have r91 := q90.trans (congrFun (g3_7 b (by omega)) (24 + l4_3))
              have r92 := r91.trans (congrFun (g1_3 b (by omega)) (24 + l4_3))
              refine fr_if_ne (tgt := 54) h dX12_ruleOf_48 (by decide) (by omega) (fun c93 => ?_) (fun c93 => ?_)
              ·
                refine fr_aload_n h rfl 1 rfl dX12_ruleOf_54 ?_
                refine fr_bipush h rfl dX12_ruleOf_55 ?_
                refine fr_iload h 4 rfl dX12_ruleOf_57 ?_
                refine fr_imul h dX12_ruleOf_59 ?_
                refine fr_aload_n h rfl 0 rfl dX12_ruleOf_60 ?_
                refine fr_getc (z := 12) (iz := 23) h kX12 fX12_45 at_0M rfl rfl rfM_23 (by omega) dX12_ruleOf_61 ?_
                refine fr_bipush h rfl dX12_ruleOf_64 ?_
                refine fr_iload_n h rfl 2 rfl dX12_ruleOf_66 ?_
                refine fr_imul h dX12_ruleOf_67 ?_
                refine fr_iload_n h rfl 3 rfl dX12_ruleOf_68 ?_
                refine fr_iadd h dX12_ruleOf_69 ?_
                refine fr_iald h arM_12 (by omega) (by omega) (rrM_12 ((8 * k) + l3_3)) dX12_ruleOf_70 (fun z94 w95 w96 q97 => ?_)
                have r98 := q97.trans (congrFun (g3_7 12 (by omega)) ((8 * k) + l3_3))
                have r99 := r98.trans (congrFun (g1_3 12 (by omega)) ((8 * k) + l3_3))
                refine fr_iadd h dX12_ruleOf_71 ?_
                refine fr_iald h (SA_a hb) (by omega) (by omega) ((SA_r hb ((6 * l4_3) + z94)).trans (show YM_s ((6 * l4_3) + z94) = ((YM_s ((6 * l4_3) + z94)).1, (YM_s ((6 * l4_3) + z94)).2) from rfl)) dX12_ruleOf_72 (fun z100 w101 w102 q103 => ?_)
                have w104 := sg_any ((6 * l4_3) + z94)
                have r105 := q103.trans (congrFun (g3_7 b (by omega)) ((6 * l4_3) + z94))
                have r106 := r105.trans (congrFun (g1_3 b (by omega)) ((6 * l4_3) + z94))
                refine fr_istore (L' := [(0, vr G 0), (1, vr G b), (2, vi k), (3, vi l3_3), (4, vi l4_3), (5, vi z100)]) h dX12_ruleOf_73 (by decide) [1, 2, 3, 4, 5, 0] rfl ?_
                refine fr_aload_n h rfl 0 rfl dX12_ruleOf_75 ?_
                refine fr_getc (z := 7) (iz := 16) h kX12 fX12_30 at_0M rfl rfl rfM_16 (by omega) dX12_ruleOf_76 ?_
                refine fr_iconst h dX12_ruleOf_79 ?_
                refine fr_dup2_11 h rfl rfl dX12_ruleOf_80 ?_
                refine fr_iald h arM_7 (by omega) (by omega) (rrM_7 0) dX12_ruleOf_81 (fun z107 w108 w109 q110 => ?_)
                refine fr_iload h 5 rfl dX12_ruleOf_82 ?_
                refine fr_iadd h dX12_ruleOf_84 ?_
                refine fr_normi (fun z111 w112 q113 => ?_)
                have w114 : fm_r ((z107 + z100)) → z111 = (z107 + z100) := fun q => (iI_inj q w112 q113).symm
                refine fr_iast h arM_7 (by omega) (by omega) (rrM_7 0) (by omega) (by omega) dX12_ruleOf_85 ?_
                refine fr_mem (fun x115 m116 => ?_)
                refine fr_aload_n h rfl 0 rfl dX12_ruleOf_86 ?_
                refine fr_getc (z := 7) (iz := 16) h kX12 fX12_30 at_0M rfl rfl rfM_16 (by omega) dX12_ruleOf_87 ?_
                refine fr_iconst h dX12_ruleOf_90 ?_
                refine fr_iload_n h rfl 3 rfl dX12_ruleOf_91 ?_
                refine fr_if_ne (tgt := 100) h dX12_ruleOf_92 (by decide) (by omega) (fun c117 => ?_) (fun c117 => ?_)
                ·
                  refine fr_aload_n h rfl 0 rfl dX12_ruleOf_100 ?_
                  refine fr_getc (z := 7) (iz := 16) h kX12 fX12_30 at_0M rfl rfl rfM_16 (by omega) dX12_ruleOf_101 ?_
                  refine fr_iconst h dX12_ruleOf_104 ?_
                  refine fr_iald h arM_7 (by omega) (by omega) (rrM_7 1) dX12_ruleOf_105 (fun z118 w119 w120 q121 => ?_)
                  have r122 := q121.trans (fm_rd_i (a := 7) (b := 1) m116 (by decide))
                  refine fr_iload h 5 rfl dX12_ruleOf_106 ?_
                  refine fr_mmax h (by omega) (by omega) (tb_6 (i := 216) (by decide +kernel) (by decide +kernel)) w_mmax (by decide) (by decide) (Nat.le_of_ble_eq_true rfl) dX12_ruleOf_108 (fun z123 w124 w125 w126 => ?_)
                  refine fr_iast h arM_7 (by omega) (by omega) (rrM_7 1) (by omega) (by omega) dX12_ruleOf_111 ?_
                  refine fr_mem (fun x127 m128 => ?_)
                  refine fr_aload_n h rfl 0 rfl dX12_ruleOf_112 ?_
                  refine fr_getc (z := 7) (iz := 16) h kX12 fX12_30 at_0M rfl rfl rfM_16 (by omega) dX12_ruleOf_113 ?_
                  refine fr_iconst h dX12_ruleOf_116 ?_
                  refine fr_iload_n h rfl 3 rfl dX12_ruleOf_117 ?_
                  refine fr_if_ne (tgt := 126) h dX12_ruleOf_118 (by decide) (by omega) (fun c129 => ?_) (fun c129 => by exfalso; omega)
                  refine fr_aload_n h rfl 0 rfl dX12_ruleOf_126 ?_
                  refine fr_getc (z := 7) (iz := 16) h kX12 fX12_30 at_0M rfl rfl rfM_16 (by omega) dX12_ruleOf_127 ?_
                  refine fr_iconst h dX12_ruleOf_130 ?_
                  refine fr_iald h arM_7 (by omega) (by omega) (rrM_7 2) dX12_ruleOf_131 (fun z130 w131 w132 q133 => ?_)
                  have r134 := q133.trans (fm_rd_i (a := 7) (b := 2) m128 (by decide))
                  have r135 := r134.trans (fm_rd_i (a := 7) (b := 2) m116 (by decide))
                  refine fr_iload h 5 rfl dX12_ruleOf_132 ?_
                  refine fr_mmin h (by omega) (by omega) (tb_6 (i := 215) (by decide +kernel) (by decide +kernel)) w_mmin (by decide) (by decide) (Nat.le_of_ble_eq_true rfl) dX12_ruleOf_134 (fun z136 w137 w138 w139 => ?_)
                  refine fr_iast h arM_7 (by omega) (by omega) (rrM_7 2) (by omega) (by omega) dX12_ruleOf_137 ?_
                  refine fr_mem (fun x140 m141 => ?_)
                  refine fr_aload_n h rfl 0 rfl dX12_ruleOf_138 ?_
                  refine fr_getc (z := 7) (iz := 16) h kX12 fX12_30 at_0M rfl rfl rfM_16 (by omega) dX12_ruleOf_139 ?_
                  refine fr_iconst h dX12_ruleOf_142 ?_
                  refine fr_iload_n h rfl 3 rfl dX12_ruleOf_143 ?_
                  refine fr_if_ne (tgt := 152) h dX12_ruleOf_144 (by decide) (by omega) (fun c142 => ?_) (fun c142 => by exfalso; omega)
                  refine fr_aload_n h rfl 0 rfl dX12_ruleOf_152 ?_
                  refine fr_getc (z := 7) (iz := 16) h kX12 fX12_30 at_0M rfl rfl rfM_16 (by omega) dX12_ruleOf_153 ?_
                  refine fr_iconst h dX12_ruleOf_156 ?_
                  refine fr_iald h arM_7 (by omega) (by omega) (rrM_7 3) dX12_ruleOf_157 (fun z143 w144 w145 q146 => ?_)
                  have r147 := q146.trans (fm_rd_i (a := 7) (b := 3) m141 (by decide))
                  have r148 := r147.trans (fm_rd_i (a := 7) (b := 3) m128 (by decide))
                  have r149 := r148.trans (fm_rd_i (a := 7) (b := 3) m116 (by decide))
                  refine fr_iast h arM_7 (by omega) (by omega) (rrM_7 3) (by omega) (by omega) dX12_ruleOf_158 ?_
                  refine fr_mem (fun x150 m151 => ?_)
                  refine fr_aload_n h rfl 0 rfl dX12_ruleOf_159 ?_
                  refine fr_getc (z := 7) (iz := 16) h kX12 fX12_30 at_0M rfl rfl rfM_16 (by omega) dX12_ruleOf_160 ?_
                  refine fr_iconst h dX12_ruleOf_163 ?_
                  refine fr_iload h 5 rfl dX12_ruleOf_164 ?_
                  refine fr_iast h arM_7 (by omega) (by omega) (rrM_7 4) (by omega) (by omega) dX12_ruleOf_166 ?_
                  refine fr_mem (fun x152 m153 => ?_)
                  refine fr_aload_n h rfl 0 rfl dX12_ruleOf_167 ?_
                  refine fr_getc (z := 7) (iz := 16) h kX12 fX12_30 at_0M rfl rfl rfM_16 (by omega) dX12_ruleOf_168 ?_
                  refine fr_iconst h dX12_ruleOf_171 ?_
                  refine fr_dup2_11 h rfl rfl dX12_ruleOf_172 ?_
                  refine fr_iald h arM_7 (by omega) (by omega) (rrM_7 5) dX12_ruleOf_173 (fun z154 w155 w156 q157 => ?_)
                  have r158 := q157.trans (fm_rd_i (a := 7) (b := 5) m153 (by decide))
                  have r159 := r158.trans (fm_rd_i (a := 7) (b := 5) m151 (by decide))
                  have r160 := r159.trans (fm_rd_i (a := 7) (b := 5) m141 (by decide))
                  have r161 := r160.trans (fm_rd_i (a := 7) (b := 5) m128 (by decide))
                  have r162 := r161.trans (fm_rd_i (a := 7) (b := 5) m116 (by decide))
                  refine fr_iload h 5 rfl dX12_ruleOf_174 ?_
                  refine fr_imul h dX12_ruleOf_176 ?_
                  refine fr_normi (fun z163 w164 q165 => ?_)
                  have w166 : fm_r ((z154 * z100)) → z163 = (z154 * z100) := fun q => (iI_inj q w164 q165).symm
                  refine fr_iast h arM_7 (by omega) (by omega) (rrM_7 5) (by omega) (by omega) dX12_ruleOf_177 ?_
                  refine fr_mem (fun x167 m168 => ?_)
                  refine fr_iinc (j := 3) (L' := [(0, vr G 0), (1, vr G b), (2, vi k), (3, vi (l3_3 + 1)), (4, vi l4_3), (5, vi z100)]) h dX12_ruleOf_178 rfl (by decide) [1, 2, 3, 0, 4, 5] rfl ?_
                  refine fr_iinc (j := 4) (L' := [(0, vr G 0), (1, vr G b), (2, vi k), (3, vi (l3_3 + 1)), (4, vi (l4_3 + 1)), (5, vi z100)]) h dX12_ruleOf_181 rfl (by decide) [1, 2, 3, 4, 0, 5] rfl ?_
                  refine fr_goto (tgt := 35) h dX12_ruleOf_184 (by decide) ?_
                  refine fr_sub (L' := [(0, vr G 0), (1, vr G b), (2, vi k), (3, vi (l3_3 + 1)), (4, vi (l4_3 + 1))]) [0, 1, 2, 3, 4] rfl ?_
                  exact ih3 (l3_3 + 1) (l4_3 + 1) x167 (by omega) (by omega) (by omega) (by omega) (by omega) (by omega) (by omega) (fun a k0 => ((fm_up_row m168 (by omega)).trans ((fm_up_row m153 (by omega)).trans ((fm_up_row m151 (by omega)).trans ((fm_up_row m141 (by omega)).trans ((fm_up_row m128 (by omega)).trans ((fm_up_row m116 (by omega)).trans (g3_7 a (by omega))))))))) (by omega)
                ·
                  refine fr_iload h 5 rfl dX12_ruleOf_95 ?_
                  refine fr_goto (tgt := 111) h dX12_ruleOf_97 (by decide) ?_
                  refine fr_iast h arM_7 (by omega) (by omega) (rrM_7 1) (by omega) (by omega) dX12_ruleOf_111 ?_
                  refine fr_mem (fun x169 m170 => ?_)
                  refine fr_aload_n h rfl 0 rfl dX12_ruleOf_112 ?_
                  refine fr_getc (z := 7) (iz := 16) h kX12 fX12_30 at_0M rfl rfl rfM_16 (by omega) dX12_ruleOf_113 ?_
                  refine fr_iconst h dX12_ruleOf_116 ?_
                  refine fr_iload_n h rfl 3 rfl dX12_ruleOf_117 ?_
                  refine fr_if_ne (tgt := 126) h dX12_ruleOf_118 (by decide) (by omega) (fun c171 => by exfalso; omega) (fun c171 => ?_)
                  refine fr_iload h 5 rfl dX12_ruleOf_121 ?_
                  refine fr_goto (tgt := 137) h dX12_ruleOf_123 (by decide) ?_
                  refine fr_iast h arM_7 (by omega) (by omega) (rrM_7 2) (by omega) (by omega) dX12_ruleOf_137 ?_
                  refine fr_mem (fun x172 m173 => ?_)
                  refine fr_aload_n h rfl 0 rfl dX12_ruleOf_138 ?_
                  refine fr_getc (z := 7) (iz := 16) h kX12 fX12_30 at_0M rfl rfl rfM_16 (by omega) dX12_ruleOf_139 ?_
                  refine fr_iconst h dX12_ruleOf_142 ?_
                  refine fr_iload_n h rfl 3 rfl dX12_ruleOf_143 ?_
                  refine fr_if_ne (tgt := 152) h dX12_ruleOf_144 (by decide) (by omega) (fun c174 => by exfalso; omega) (fun c174 => ?_)
                  refine fr_iload h 5 rfl dX12_ruleOf_147 ?_
                  refine fr_goto (tgt := 158) h dX12_ruleOf_149 (by decide) ?_
                  refine fr_iast h arM_7 (by omega) (by omega) (rrM_7 3) (by omega) (by omega) dX12_ruleOf_158 ?_
                  refine fr_mem (fun x175 m176 => ?_)
                  refine fr_aload_n h rfl 0 rfl dX12_ruleOf_159 ?_
                  refine fr_getc (z := 7) (iz := 16) h kX12 fX12_30 at_0M rfl rfl rfM_16 (by omega) dX12_ruleOf_160 ?_
                  refine fr_iconst h dX12_ruleOf_163 ?_
                  refine fr_iload h 5 rfl dX12_ruleOf_164 ?_
                  refine fr_iast h arM_7 (by omega) (by omega) (rrM_7 4) (by omega) (by omega) dX12_ruleOf_166 ?_
                  refine fr_mem (fun x177 m178 => ?_)
                  refine fr_aload_n h rfl 0 rfl dX12_ruleOf_167 ?_
                  refine fr_getc (z := 7) (iz := 16) h kX12 fX12_30 at_0M rfl rfl rfM_16 (by omega) dX12_ruleOf_168 ?_
                  refine fr_iconst h dX12_ruleOf_171 ?_
                  refine fr_dup2_11 h rfl rfl dX12_ruleOf_172 ?_
                  refine fr_iald h arM_7 (by omega) (by omega) (rrM_7 5) dX12_ruleOf_173 (fun z179 w180 w181 q182 => ?_)
                  have r183 := q182.trans (fm_rd_i (a := 7) (b := 5) m178 (by decide))
                  have r184 := r183.trans (fm_rd_i (a := 7) (b := 5) m176 (by decide))
                  have r185 := r184.trans (fm_rd_i (a := 7) (b := 5) m173 (by decide))
                  have r186 := r185.trans (fm_rd_i (a := 7) (b := 5) m170 (by decide))
                  have r187 := r186.trans (fm_rd_i (a := 7) (b := 5) m116 (by decide))
                  refine fr_iload h 5 rfl dX12_ruleOf_174 ?_
                  refine fr_imul h dX12_ruleOf_176 ?_
                  refine fr_normi (fun z188 w189 q190 => ?_)
                  have w191 : fm_r ((z179 * z100)) → z188 = (z179 * z100) := fun q => (iI_inj q w189 q190).symm
                  refine fr_iast h arM_7 (by omega) (by omega) (rrM_7 5) (by omega) (by omega) dX12_ruleOf_177 ?_
                  refine fr_mem (fun x192 m193 => ?_)
                  refine fr_iinc (j := 3) (L' := [(0, vr G 0), (1, vr G b), (2, vi k), (3, vi (l3_3 + 1)), (4, vi l4_3), (5, vi z100)]) h dX12_ruleOf_178 rfl (by decide) [1, 2, 3, 0, 4, 5] rfl ?_
                  refine fr_iinc (j := 4) (L' := [(0, vr G 0), (1, vr G b), (2, vi k), (3, vi (l3_3 + 1)), (4, vi (l4_3 + 1)), (5, vi z100)]) h dX12_ruleOf_181 rfl (by decide) [1, 2, 3, 4, 0, 5] rfl ?_
                  refine fr_goto (tgt := 35) h dX12_ruleOf_184 (by decide) ?_
                  refine fr_sub (L' := [(0, vr G 0), (1, vr G b), (2, vi k), (3, vi (l3_3 + 1)), (4, vi (l4_3 + 1))]) [0, 1, 2, 3, 4] rfl ?_
                  exact ih3 (l3_3 + 1) (l4_3 + 1) x192 (by omega) (by omega) (by omega) (by omega) (by omega) (by omega) (by omega) (fun a k0 => ((fm_up_row m193 (by omega)).trans ((fm_up_row m178 (by omega)).trans ((fm_up_row m176 (by omega)).trans ((fm_up_row m173 (by omega)).trans ((fm_up_row m170 (by omega)).trans ((fm_up_row m116 (by omega)).trans (g3_7 a (by omega))))))))) (by omega)
              ·
                refine fr_goto (tgt := 181) h dX12_ruleOf_51 (by decide) ?_
                refine fr_iinc (j := 4) (L' := [(0, vr G 0), (1, vr G b), (2, vi k), (3, vi l3_3), (4, vi (l4_3 + 1))]) h dX12_ruleOf_181 rfl (by decide) [1, 2, 3, 4, 0] rfl ?_
                refine fr_goto (tgt := 35) h dX12_ruleOf_184 (by decide) ?_
                exact ih3 l3_3 (l4_3 + 1) x_3 (by omega) (by omega) (by omega) (by omega) (by omega) (by omega) (by omega) (fun a k0 => (g3_7 a (by omega))) (by omega)
        exact HL3 ((4 - 0) + 1 : Int).toNat 0 0 x_1 (by omega) (by omega) (by omega) (by omega) (by omega) (by omega) (by omega) (fun a _ => rfl) (by omega)
      ·
        refine fr_aload_n h rfl 0 rfl dX12_ruleOf_8 ?_
        refine fr_getc (z := 7) (iz := 16) h kX12 fX12_30 at_0M rfl rfl rfM_16 (by omega) dX12_ruleOf_9 ?_
        refine fr_iload_n h rfl 3 rfl dX12_ruleOf_12 ?_
        refine fr_iload_n h rfl 3 rfl dX12_ruleOf_13 ?_
        refine fr_iconst h dX12_ruleOf_14 ?_
        refine fr_icmp_ne (tgt := 22) h dX12_ruleOf_15 (by decide) (by omega) (by omega) (fun c194 => ?_) (fun c194 => ?_)
        ·
          refine fr_iconst h dX12_ruleOf_22 ?_
          refine fr_iast h arM_7 (by omega) (by omega) (rrM_7 l3_1) (by omega) (by omega) dX12_ruleOf_23 ?_
          refine fr_mem (fun x195 m196 => ?_)
          refine fr_iinc (j := 3) (L' := [(0, vr G 0), (1, vr G b), (2, vi k), (3, vi (l3_1 + 1))]) h dX12_ruleOf_24 rfl (by decide) [1, 2, 3, 0] rfl ?_
          refine fr_goto (tgt := 2) h dX12_ruleOf_27 (by decide) ?_
          exact ih1 (l3_1 + 1) x195 (by omega) (by omega) (by omega) (fun a k0 => ((fm_up_row m196 (by omega)).trans (g1_3 a (by omega)))) (by omega)
        ·
          refine fr_iconst h dX12_ruleOf_18 ?_
          refine fr_goto (tgt := 23) h dX12_ruleOf_19 (by decide) ?_
          refine fr_iast h arM_7 (by omega) (by omega) (rrM_7 l3_1) (by omega) (by omega) dX12_ruleOf_23 ?_
          refine fr_mem (fun x197 m198 => ?_)
          refine fr_iinc (j := 3) (L' := [(0, vr G 0), (1, vr G b), (2, vi k), (3, vi (l3_1 + 1))]) h dX12_ruleOf_24 rfl (by decide) [1, 2, 3, 0] rfl ?_
          refine fr_goto (tgt := 2) h dX12_ruleOf_27 (by decide) ?_
          exact ih1 (l3_1 + 1) x197 (by omega) (by omega) (by omega) (fun a k0 => ((fm_up_row m198 (by omega)).trans (g1_3 a (by omega)))) (by omega)
  exact HL1 ((7 - 0) + 1 : Int).toNat 0 x (by omega) (by omega) (by omega) (fun a _ => rfl) (by omega)
set_option maxHeartbeats 1000000 in
theorem c_X12_layChoices : ∀ (d : Nat) (x : Mm) (b : Int) (hb : isSA b) (p : Int) (w : Int) (h_p : fm_r p) (h_w : fm_r w) (e0 : 0 ≤ p) (e1 : p ≤ 4) (e2 : 0 ≤ w) (e3 : w ≤ p) (e4 : x 0 26 + pw6 (4 - p) ≤ 1300), (4 - p) < d → CnV YM yX12_layChoices cX12_layChoices 5 (d + 200) (d * 40 + 6000) (fun G => [vr G 0, vr G b, vi p, vi w]) x (fun y' => (y' 0 26 ≤ x 0 26 + pw6 (4 - p)) ∧ (x 0 26 ≤ y' 0 26) ∧ (y' 0 26 = x 0 26 + ccp (x b) p) ∧ (∀ a : Int, (a < 0 ∨ 0 < a) → (a < 7 ∨ 7 < a) → (a < 12 ∨ 14 < a) → (a < 17 ∨ 17 < a) → y' a = x a) ∧ (∀ i : Int, i ≠ 6 → i ≠ 7 → i ≠ 8 → i ≠ 9 → i ≠ 10 → i ≠ 15 → i ≠ 26 → y' 0 i = x 0 i)) := by
  intro d
  induction d with
  | zero => intro x b hb p w h_p h_w e0 e1 e2 e3 e4 hmu; exfalso; omega
  | succ d ih =>
    intro x b hb p w h_p h_w e0 e1 e2 e3 e4 hmu
    refine cn_V (by decide) (fun _ => Nat.le_of_ble_eq_true rfl) (fun G C h hq => ?_)
    have h : OK YM G C cX12_layChoices RX12 5 none (d + 1 + 200) ((d + 1) * 40 + 6000) := h
    show FW YM G C 5 x 0 [(0, vr G 0), (1, vr G b), (2, vi p), (3, vi w)] []
    have h_b := SA_b hb
    have hs_b : b = 1 ∨ b = 9 ∨ b = 10 := hb
    refine fr_rng (fun hR => ?_)
    have h26 : 0 ≤ x 0 26 := by have q := hR 0 26; rw [rfM_26] at q; exact q.1
    refine fr_iload_n h rfl 2 rfl dX12_layChoices_0 ?_
    refine fr_iconst h dX12_layChoices_1 ?_
    refine fr_icmp_ne (tgt := 34) h dX12_layChoices_2 (by decide) (by omega) (by omega) (fun c1 => ?_) (fun c1 => ?_)
    ·
      have h6 := pw6_s (p := p) (by omega)
      refine fr_aload_n h rfl 1 rfl dX12_layChoices_34 ?_
      refine fr_bipush h rfl dX12_layChoices_35 ?_
      refine fr_iload_n h rfl 2 rfl dX12_layChoices_37 ?_
      refine fr_iadd h dX12_layChoices_38 ?_
      refine fr_iald h (SA_a hb) (by omega) (by omega) ((SA_r hb (24 + p)).trans (sg_len (by omega) (by omega))) dX12_layChoices_39 (fun z2 w3 w4 q5 => ?_)
      refine fr_if_ne (tgt := 53) h dX12_layChoices_40 (by decide) (by omega) (fun c6 => ?_) (fun c6 => ?_)
      ·
        have h60 := ml_0 (pw6 (4 - (p + 1)))
        have h61 := ml_0 (ccp (x b) (p + 1))
        have hcn := ccp_n (f := x b) (p := p) (by omega) (by omega) (by omega)
        refine fr_iconst h dX12_layChoices_53 ?_
        refine fr_istore (L' := [(0, vr G 0), (1, vr G b), (2, vi p), (3, vi w), (4, vi 0)]) h dX12_layChoices_54 (by decide) [1, 2, 3, 4, 0] rfl ?_
        have HL7 : ∀ (n7 : Nat) (l4_7 : Int) (x_7 : Mm), fm_r l4_7 → 0 ≤ l4_7 → l4_7 ≤ 6 → x_7 0 26 ≤ x 0 26 + ml l4_7 (pw6 (4 - (p + 1))) → x 0 26 ≤ x_7 0 26 → x_7 0 26 = x 0 26 + ml l4_7 (ccp (x b) (p + 1)) → l4_7 ≤ x b (24 + p) → (∀ a : Int, (a < 0 ∨ 0 < a) → (a < 7 ∨ 7 < a) → (a < 12 ∨ 14 < a) → (a < 17 ∨ 17 < a) → x_7 a = x a) → (∀ i : Int, i ≠ 6 → i ≠ 7 → i ≠ 8 → i ≠ 9 → i ≠ 10 → i ≠ 15 → i ≠ 26 → x_7 0 i = x 0 i) → (6 - l4_7) < n7 → FW YM G C 5 x_7 56 [(0, vr G 0), (1, vr G b), (2, vi p), (3, vi w), (4, vi l4_7)] [] := by
          intro n7
          induction n7 with
          | zero =>
            intro l4_7 x_7 g7_0 g7_1 g7_2 g7_3 g7_4 g7_5 g7_6 g7_7 g7_8 g7_9
            exfalso; omega
          | succ n7 ih7 =>
            intro l4_7 x_7 g7_0 g7_1 g7_2 g7_3 g7_4 g7_5 g7_6 g7_7 g7_8 g7_9
            refine fr_iload h 4 rfl dX12_layChoices_56 ?_
            refine fr_aload_n h rfl 1 rfl dX12_layChoices_58 ?_
            refine fr_bipush h rfl dX12_layChoices_59 ?_
            refine fr_iload_n h rfl 2 rfl dX12_layChoices_61 ?_
            refine fr_iadd h dX12_layChoices_62 ?_
            refine fr_iald h (SA_a hb) (by omega) (by omega) ((SA_r hb (24 + p)).trans (sg_len (by omega) (by omega))) dX12_layChoices_63 (fun z8 w9 w10 q11 => ?_)
            have r12 := q11.trans (congrFun (g7_7 b (by omega) (by omega) (by omega) (by omega)) (24 + p))
            refine fr_icmp_ge (tgt := 92) h dX12_layChoices_64 (by decide) (by omega) (by omega) (fun c13 => ?_) (fun c13 => ?_)
            ·
              have hm := ml_e6 (k := l4_7) (P := pw6 (4 - (p + 1))) (by omega) (by omega)
              have hke : ml l4_7 (ccp (x b) (p + 1)) = ml (x b (24 + p)) (ccp (x b) (p + 1)) := by rw [show l4_7 = x b (24 + p) by omega]
              exact fr_vret h hq ⟨(by omega), (by omega), (by omega), (fun a k0 k1 k2 k3 => (g7_7 a (by omega) (by omega) (by omega) (by omega))), (fun i k0 k1 k2 k3 k4 k5 k6 => (g7_8 i (by omega) (by omega) (by omega) (by omega) (by omega) (by omega) (by omega)))⟩ dX12_layChoices_92
            ·
              have hm := ml_6 (k := l4_7) (P := pw6 (4 - (p + 1))) (by omega) (by omega)
              have hms := ml_s l4_7 (ccp (x b) (p + 1))
              refine fr_aload_n h rfl 0 rfl dX12_layChoices_67 ?_
              refine fr_getc (z := 17) (iz := 29) h kX12 fX12_60 at_0M rfl rfl rfM_29 (by omega) dX12_layChoices_68 ?_
              refine fr_iload_n h rfl 3 rfl dX12_layChoices_71 ?_
              refine fr_iload h 4 rfl dX12_layChoices_72 ?_
              refine fr_iast h arM_17 (by omega) (by omega) (rrM_17 w) (by omega) (by omega) dX12_layChoices_74 ?_
              refine fr_mem (fun x14 m15 => ?_)
              refine fr_aload_n h rfl 0 rfl dX12_layChoices_75 ?_
              refine fr_aload_n h rfl 1 rfl dX12_layChoices_76 ?_
              refine fr_iload_n h rfl 2 rfl dX12_layChoices_77 ?_
              refine fr_iconst h dX12_layChoices_78 ?_
              refine fr_iadd h dX12_layChoices_79 ?_
              refine fr_iload_n h rfl 3 rfl dX12_layChoices_80 ?_
              refine fr_iconst h dX12_layChoices_81 ?_
              refine fr_iadd h dX12_layChoices_82 ?_
              refine fr_normi (fun z16 w17 q18 => ?_)
              have w19 : fm_r ((w + 1)) → z16 = (w + 1) := fun q => (iI_inj q w17 q18).symm
              have r20 := (fm_rd_k (a := 0) (b := 26) m15 (by omega))
              refine fr_cvV h kX12 at_0M wX12_layChoices lX12_286 (ih x14 b hb (p + 1) z16 (by omega) (by omega) (by omega) (by omega) (by omega) (by omega) (by omega) (by omega)) rfl (by omega) (by omega) rfl (Nat.le_of_ble_eq_true rfl) dX12_layChoices_83 (fun x21 p24 => ?_)
              obtain ⟨p25, p26, p27, f28, f29⟩ := p24
              have hcb : ccp (x14 b) (p + 1) = ccp (x b) (p + 1) := by rw [show x14 b = x b from ((fm_up_row m15 (by omega)).trans (g7_7 b (by omega) (by omega) (by omega) (by omega)))]
              refine fr_iinc (j := 4) (L' := [(0, vr G 0), (1, vr G b), (2, vi p), (3, vi w), (4, vi (l4_7 + 1))]) h dX12_layChoices_86 rfl (by decide) [1, 2, 3, 4, 0] rfl ?_
              refine fr_goto (tgt := 56) h dX12_layChoices_89 (by decide) ?_
              have r30 := (fm_rd_k (a := 0) (b := 26) m15 (by omega))
              have r31 := (fm_rd_k (a := 0) (b := 26) m15 (by omega))
              have r32 := (fm_rd_k (a := 0) (b := 26) m15 (by omega))
              exact ih7 (l4_7 + 1) x21 (by omega) (by omega) (by omega) (by omega) (by omega) (by omega) (by omega) (fun a k0 k1 k2 k3 => ((f28 a (by omega) (by omega) (by omega) (by omega)).trans ((fm_up_row m15 (by omega)).trans (g7_7 a (by omega) (by omega) (by omega) (by omega))))) (fun i k0 k1 k2 k3 k4 k5 k6 => ((f29 i (by omega) (by omega) (by omega) (by omega) (by omega) (by omega) (by omega)).trans ((fm_rd_k (a := 0) (b := i) m15 (by omega)).trans (g7_8 i (by omega) (by omega) (by omega) (by omega) (by omega) (by omega) (by omega))))) (by omega)
        exact HL7 ((6 - 0) + 1 : Int).toNat 0 x (by omega) (by omega) (by omega) (by omega) (by omega) (by omega) (by omega) (fun a _ _ _ _ => rfl) (fun i _ _ _ _ _ _ _ => rfl) (by omega)
      ·
        have hcz := ccp_z (f := x b) (p := p) (by omega) (by omega) (by omega)
        refine fr_aload_n h rfl 0 rfl dX12_layChoices_43 ?_
        refine fr_aload_n h rfl 1 rfl dX12_layChoices_44 ?_
        refine fr_iload_n h rfl 2 rfl dX12_layChoices_45 ?_
        refine fr_iconst h dX12_layChoices_46 ?_
        refine fr_iadd h dX12_layChoices_47 ?_
        refine fr_iload_n h rfl 3 rfl dX12_layChoices_48 ?_
        refine fr_cvV h kX12 at_0M wX12_layChoices lX12_286 (ih x b hb (p + 1) w (by omega) (by omega) (by omega) (by omega) (by omega) (by omega) (by omega) (by omega)) rfl (by omega) (by omega) rfl (Nat.le_of_ble_eq_true rfl) dX12_layChoices_49 (fun x33 p36 => ?_)
        obtain ⟨p37, p38, p39, f40, f41⟩ := p36
        exact fr_vret h hq ⟨(by omega), (by omega), (by omega), (fun a k0 k1 k2 k3 => (f40 a (by omega) (by omega) (by omega) (by omega))), (fun i k0 k1 k2 k3 k4 k5 k6 => (f41 i (by omega) (by omega) (by omega) (by omega) (by omega) (by omega) (by omega)))⟩ dX12_layChoices_52
    ·
      have h6 := pw6_0 (n := 4 - p) (by omega)
      have hc4 := ccp_4 (f := x b) (p := p) (by omega)
      refine fr_aload_n h rfl 0 rfl dX12_layChoices_5 ?_
      refine fr_iload_n h rfl 3 rfl dX12_layChoices_6 ?_
      refine fr_iconst h dX12_layChoices_7 ?_
      refine fr_cvV h kX12 at_0M wX12_emit lX12_279 (c_X12_emit x w 0 (by omega) (by omega) (by omega) (by omega) (by omega)) rfl (by omega) (by omega) rfl (Nat.le_of_ble_eq_true rfl) dX12_layChoices_8 (fun x42 p45 => ?_)
      obtain ⟨p46, f47, f48⟩ := p45
      refine fr_aload_n h rfl 0 rfl dX12_layChoices_11 ?_
      refine fr_getc (z := 14) (iz := 25) h kX12 fX12_51 at_0M rfl rfl rfM_25 (by omega) dX12_layChoices_12 ?_
      refine fr_aload_n h rfl 0 rfl dX12_layChoices_15 ?_
      refine fr_geti (iz := 26) h kX12 fX12_276 at_0M rfl rfl (by decide) (by decide) rfM_26 dX12_layChoices_16 (fun z49 w50 w51 q52 => ?_)
      refine fr_iconst h dX12_layChoices_19 ?_
      refine fr_isub h dX12_layChoices_20 ?_
      refine fr_aload_n h rfl 0 rfl dX12_layChoices_21 ?_
      refine fr_aload_n h rfl 1 rfl dX12_layChoices_22 ?_
      refine fr_aload_n h rfl 0 rfl dX12_layChoices_23 ?_
      refine fr_geti (iz := 26) h kX12 fX12_276 at_0M rfl rfl (by decide) (by decide) rfM_26 dX12_layChoices_24 (fun z53 w54 w55 q56 => ?_)
      refine fr_iconst h dX12_layChoices_27 ?_
      refine fr_isub h dX12_layChoices_28 ?_
      refine fr_cvI h kX12 at_0M wX12_ruleOf lX12_283 (c_X12_ruleOf x42 b hb (z53 - 1) (by omega) (by omega) (by omega)) rfl (by omega) (by omega) rfl (Nat.le_of_ble_eq_true rfl) dX12_layChoices_29 (fun z58 x57 w59 p60 => ?_)
      obtain ⟨f61, f62⟩ := p60
      refine fr_iast h arM_14 (by omega) (by omega) (rrM_14 (z49 - 1)) (by omega) (by omega) dX12_layChoices_32 ?_
      refine fr_mem (fun x63 m64 => ?_)
      have r65 := (fm_rd_k (a := 0) (b := 26) m64 (by omega))
      have r66 := r65.trans (f62 26 (by decide) (by decide) (by decide) (by decide) (by decide) (by decide))
      have r67 := (fm_rd_k (a := 0) (b := 26) m64 (by omega))
      have r68 := r67.trans (f62 26 (by decide) (by decide) (by decide) (by decide) (by decide) (by decide))
      have r69 := (fm_rd_k (a := 0) (b := 26) m64 (by omega))
      have r70 := r69.trans (f62 26 (by decide) (by decide) (by decide) (by decide) (by decide) (by decide))
      exact fr_vret h hq ⟨(by omega), (by omega), (by omega), (fun a k0 k1 k2 k3 => ((fm_up_row m64 (by omega)).trans ((f61 a (by omega) (by omega)).trans (f47 a (by omega) (by omega))))), (fun i k0 k1 k2 k3 k4 k5 k6 => ((fm_rd_k (a := 0) (b := i) m64 (by omega)).trans ((f62 i (by omega) (by omega) (by omega) (by omega) (by omega) (by omega)).trans (f48 i (by omega)))))⟩ dX12_layChoices_33
