set_option maxHeartbeats 200000 in
theorem f_X8_sizeOf (x : Mm) (p : Int) (h_p : fm_r p) (e0 : ∀ j : Int, 0 ≤ j → j < 4 → x (3 + 1) j = 0) : CnI YC yX8_sizeOf cX8_sizeOf 2 .int 1 21 (fun G => [vr G 3, vi p]) x (fun z y' => (z = 0) ∧ (y' = x)) := by
  refine cn_I (by decide) (fun _ => Nat.le_of_ble_eq_true rfl) (fun G C h hq => ?_)
  have h : OK YC G C cX8_sizeOf RX8 2 (some .int) 1 21 := h
  show FW YC G C 2 x 0 [(0, vr G 3), (1, vi p)] []
  refine fr_iload_n h rfl 1 rfl dX8_sizeOf_0 ?_
  refine fr_iconst h dX8_sizeOf_1 ?_
  refine fr_csI h wX8_isBelow lX8_43 (c_X8_isBelow x p 4 (by omega) (by omega)) rfl (by decide) (by decide) rfl (Nat.le_of_ble_eq_true rfl) dX8_sizeOf_2 (fun z2 x1 w3 p4 => ?_)
  obtain ⟨p5, p6, y7⟩ := p4
  rw [y7]
  clear y7
  refine fr_if_eq (tgt := 17) h dX8_sizeOf_5 (by decide) (by omega) (fun c8 => ?_) (fun c8 => ?_)
  ·
    refine fr_iconst h dX8_sizeOf_17 ?_
    exact fr_iret h hq (by omega) ⟨(by omega), rfl⟩ dX8_sizeOf_18
  ·
    refine fr_aload_n h rfl 0 rfl dX8_sizeOf_8 ?_
    refine fr_getc (z := (3 + 1)) (iz := 0) h kX8 fX8_9 (St_at St_3) rfl rfl (St_f0 St_3) (by omega) dX8_sizeOf_9 ?_
    refine fr_iload_n h rfl 1 rfl dX8_sizeOf_12 ?_
    have hz := e0 p (by omega) (by omega)
    refine fr_iald h (St_a1 St_3) (by omega) (by omega) (St_r1 St_3 p) dX8_sizeOf_13 (fun z9 w10 w11 q12 => ?_)
    refine fr_goto (tgt := 18) h dX8_sizeOf_14 (by decide) ?_
    exact fr_iret h hq (by omega) ⟨(by omega), rfl⟩ dX8_sizeOf_18
set_option maxHeartbeats 200000 in
theorem f_X8_numberAt (x : Mm) (p : Int) (w : Int) (h_p : fm_r p) (h_w : fm_r w) (e0 : ∀ j : Int, 0 ≤ j → j < 4 → x (3 + 1) j = 0) : CnI YC yX8_numberAt cX8_numberAt 3 .int 2 42 (fun G => [vr G 3, vi p, vi w]) x (fun z y' => (z = (-1)) ∧ (y' = x)) := by
  refine cn_I (by decide) (fun _ => Nat.le_of_ble_eq_true rfl) (fun G C h hq => ?_)
  have h : OK YC G C cX8_numberAt RX8 3 (some .int) 2 42 := h
  show FW YC G C 3 x 0 [(0, vr G 3), (1, vi p), (2, vi w)] []
  refine fr_iload_n h rfl 2 rfl dX8_numberAt_0 ?_
  refine fr_aload_n h rfl 0 rfl dX8_numberAt_1 ?_
  refine fr_iload_n h rfl 1 rfl dX8_numberAt_2 ?_
  refine fr_cvI h kX8 (St_at St_3) wX8_sizeOf lX8_47 (f_X8_sizeOf x p (by omega) (fun j a b => e0 j a b)) rfl (by decide) (by decide) rfl (Nat.le_of_ble_eq_true rfl) dX8_numberAt_3 (fun z2 x1 w3 p4 => ?_)
  obtain ⟨p5, y6⟩ := p4
  rw [y6]
  clear y6
  refine fr_csI h wX8_isBelow lX8_43 (c_X8_isBelow x w z2 (by omega) (by omega)) rfl (by decide) (by decide) rfl (Nat.le_of_ble_eq_true rfl) dX8_numberAt_6 (fun z8 x7 w9 p10 => ?_)
  obtain ⟨p11, p12, y13⟩ := p10
  rw [y13]
  clear y13
  refine fr_if_eq (tgt := 26) h dX8_numberAt_9 (by decide) (by omega) (fun c14 => ?_) (fun c14 => ?_)
  ·
    refine fr_iconst h dX8_numberAt_26 ?_
    exact fr_iret h hq (by omega) ⟨(by omega), rfl⟩ dX8_numberAt_27
  ·
    exfalso; omega
set_option maxHeartbeats 200000 in
theorem f_X8_putNumber (x : Mm) (p : Int) (v : Int) (h_p : fm_r p) (h_v : fm_r v) (e0 : ∀ j : Int, 0 ≤ j → j < 4 → x (3 + 1) j = 0) : CnI YC yX8_putNumber cX8_putNumber 5 .int 1 21 (fun G => [vr G 3, vi p, vi v]) x (fun z y' => ((0 ≤ p ∧ p < 4 ∧ 0 ≤ v ∧ v ≤ 99) → z = 0) ∧ (¬ (0 ≤ p ∧ p < 4 ∧ 0 ≤ v ∧ v ≤ 99) → z = (-1)) ∧ (∀ a : Int, (a < 3 ∨ 7 < a) → y' a = x a)) := by
  refine cn_I (by decide) (fun _ => Nat.le_of_ble_eq_true rfl) (fun G C h hq => ?_)
  have h : OK YC G C cX8_putNumber RX8 5 (some .int) 1 21 := h
  show FW YC G C 5 x 0 [(0, vr G 3), (1, vi p), (2, vi v)] []
  refine fr_iload_n h rfl 1 rfl dX8_putNumber_0 ?_
  refine fr_iconst h dX8_putNumber_1 ?_
  refine fr_csI h wX8_isBelow lX8_43 (c_X8_isBelow x p 4 (by omega) (by omega)) rfl (by decide) (by decide) rfl (Nat.le_of_ble_eq_true rfl) dX8_putNumber_2 (fun z2 x1 w3 p4 => ?_)
  obtain ⟨p5, p6, y7⟩ := p4
  rw [y7]
  clear y7
  refine fr_if_eq (tgt := 17) h dX8_putNumber_5 (by decide) (by omega) (fun c8 => ?_) (fun c8 => ?_)
  ·
    refine fr_iconst h dX8_putNumber_17 ?_
    exact fr_iret h hq (by omega) ⟨(by omega), (by omega), (fun a _ => rfl)⟩ dX8_putNumber_18
  ·
    refine fr_iload_n h rfl 2 rfl dX8_putNumber_8 ?_
    refine fr_bipush h rfl dX8_putNumber_9 ?_
    refine fr_csI h wX8_isBelow lX8_43 (c_X8_isBelow x v 100 (by omega) (by omega)) rfl (by decide) (by decide) rfl (Nat.le_of_ble_eq_true rfl) dX8_putNumber_11 (fun z10 x9 w11 p12 => ?_)
    obtain ⟨p13, p14, y15⟩ := p12
    rw [y15]
    clear y15
    refine fr_if_ne (tgt := 19) h dX8_putNumber_14 (by decide) (by omega) (fun c16 => ?_) (fun c16 => ?_)
    ·
      refine fr_aload_n h rfl 0 rfl dX8_putNumber_19 ?_
      refine fr_getc (z := (3 + 1)) (iz := 0) h kX8 fX8_9 (St_at St_3) rfl rfl (St_f0 St_3) (by omega) dX8_putNumber_20 ?_
      refine fr_iload_n h rfl 1 rfl dX8_putNumber_23 ?_
      have hz := e0 p (by omega) (by omega)
      refine fr_iald h (St_a1 St_3) (by omega) (by omega) (St_r1 St_3 p) dX8_putNumber_24 (fun z17 w18 w19 q20 => ?_)
      refine fr_bipush h rfl dX8_putNumber_25 ?_
      refine fr_icmp_lt (tgt := 33) h dX8_putNumber_27 (by decide) (by omega) (by omega) (fun c21 => ?_) (fun c21 => ?_)
      ·
        refine fr_iload_n h rfl 1 rfl dX8_putNumber_33 ?_
        refine fr_bipush h rfl dX8_putNumber_34 ?_
        refine fr_imul h dX8_putNumber_36 ?_
        refine fr_normi (fun z22 w23 q24 => ?_)
        have w25 : fm_r ((p * 6)) → z22 = (p * 6) := fun q => (iI_inj q w23 q24).symm
        refine fr_istore_n (L' := [(0, vr G 3), (1, vi p), (2, vi v), (3, vi z22)]) h rfl dX8_putNumber_37 (by decide) [1, 2, 3, 0] rfl ?_
        refine fr_aload_n h rfl 0 rfl dX8_putNumber_38 ?_
        refine fr_getc (z := (3 + 1)) (iz := 0) h kX8 fX8_9 (St_at St_3) rfl rfl (St_f0 St_3) (by omega) dX8_putNumber_39 ?_
        refine fr_iload_n h rfl 1 rfl dX8_putNumber_42 ?_
        have hz := e0 p (by omega) (by omega)
        refine fr_iald h (St_a1 St_3) (by omega) (by omega) (St_r1 St_3 p) dX8_putNumber_43 (fun z26 w27 w28 q29 => ?_)
        refine fr_istore (L' := [(0, vr G 3), (1, vi p), (2, vi v), (3, vi z22), (4, vi z26)]) h dX8_putNumber_44 (by decide) [1, 2, 3, 4, 0] rfl ?_
        refine fr_iload h 4 rfl dX8_putNumber_46 ?_
        refine fr_if_le (tgt := 92) h dX8_putNumber_48 (by decide) (by omega) (fun c30 => ?_) (fun c30 => ?_)
        ·
          refine fr_aload_n h rfl 0 rfl dX8_putNumber_92 ?_
          refine fr_getc (z := (3 + 2)) (iz := 1) h kX8 fX8_15 (St_at St_3) rfl rfl (St_f1 St_3) (by omega) dX8_putNumber_93 ?_
          refine fr_iload_n h rfl 3 rfl dX8_putNumber_96 ?_
          refine fr_iload h 4 rfl dX8_putNumber_97 ?_
          refine fr_iadd h dX8_putNumber_99 ?_
          refine fr_iload_n h rfl 2 rfl dX8_putNumber_100 ?_
          refine fr_iast h (St_a2 St_3) (by omega) (by omega) (St_r2 St_3 (z22 + z26)) (by omega) (by omega) dX8_putNumber_101 ?_
          refine fr_mem (fun x31 m32 => ?_)
          refine fr_aload_n h rfl 0 rfl dX8_putNumber_102 ?_
          refine fr_getc (z := (3 + 1)) (iz := 0) h kX8 fX8_9 (St_at St_3) rfl rfl (St_f0 St_3) (by omega) dX8_putNumber_103 ?_
          refine fr_iload_n h rfl 1 rfl dX8_putNumber_106 ?_
          refine fr_dup2_11 h rfl rfl dX8_putNumber_107 ?_
          refine fr_iald h (St_a1 St_3) (by omega) (by omega) (St_r1 St_3 p) dX8_putNumber_108 (fun z33 w34 w35 q36 => ?_)
          have r37 := q36.trans (fm_rd_k (a := (3 + 1)) (b := p) m32 (by omega))
          refine fr_iconst h dX8_putNumber_109 ?_
          refine fr_iadd h dX8_putNumber_110 ?_
          refine fr_iast h (St_a1 St_3) (by omega) (by omega) (St_r1 St_3 p) (by omega) (by omega) dX8_putNumber_111 ?_
          refine fr_mem (fun x38 m39 => ?_)
          refine fr_iload h 4 rfl dX8_putNumber_112 ?_
          exact fr_iret h hq (by omega) ⟨(by omega), (by omega), (fun a k0 => ((fm_up_row m39 (by omega)).trans (fm_up_row m32 (by omega))))⟩ dX8_putNumber_114
        ·
          exfalso; omega
      ·
        exfalso; omega
    ·
      refine fr_iconst h dX8_putNumber_17 ?_
      exact fr_iret h hq (by omega) ⟨(by omega), (by omega), (fun a _ => rfl)⟩ dX8_putNumber_18
set_option maxHeartbeats 200000 in
theorem f_X8_takeNumber (x : Mm) (p : Int) (w : Int) (h_p : fm_r p) (h_w : fm_r w) (e0 : ∀ j : Int, 0 ≤ j → j < 4 → x (3 + 1) j = 0) : CnI YC yX8_takeNumber cX8_takeNumber 6 .int 3 64 (fun G => [vr G 3, vi p, vi w]) x (fun z y' => (z = (-1)) ∧ (∀ a : Int, (a < 3 ∨ 7 < a) → y' a = x a)) := by
  refine cn_I (by decide) (fun _ => Nat.le_of_ble_eq_true rfl) (fun G C h hq => ?_)
  have h : OK YC G C cX8_takeNumber RX8 6 (some .int) 3 64 := h
  show FW YC G C 6 x 0 [(0, vr G 3), (1, vi p), (2, vi w)] []
  refine fr_aload_n h rfl 0 rfl dX8_takeNumber_0 ?_
  refine fr_iload_n h rfl 1 rfl dX8_takeNumber_1 ?_
  refine fr_iload_n h rfl 2 rfl dX8_takeNumber_2 ?_
  refine fr_cvI h kX8 (St_at St_3) wX8_numberAt lX8_55 (f_X8_numberAt x p w (by omega) (by omega) (fun j a b => e0 j a b)) rfl (by decide) (by decide) rfl (Nat.le_of_ble_eq_true rfl) dX8_takeNumber_3 (fun z2 x1 w3 p4 => ?_)
  obtain ⟨p5, y6⟩ := p4
  rw [y6]
  clear y6
  refine fr_istore_n (L' := [(0, vr G 3), (1, vi p), (2, vi w), (3, vi z2)]) h rfl dX8_takeNumber_6 (by decide) [1, 2, 3, 0] rfl ?_
  refine fr_iload_n h rfl 3 rfl dX8_takeNumber_7 ?_
  refine fr_if_ge (tgt := 13) h dX8_takeNumber_8 (by decide) (by omega) (fun c7 => ?_) (fun c7 => ?_)
  ·
    exfalso; omega
  ·
    refine fr_iconst h dX8_takeNumber_11 ?_
    exact fr_iret h hq (by omega) ⟨(by omega), (fun a _ => rfl)⟩ dX8_takeNumber_12
set_option maxHeartbeats 200000 in
theorem f_X8_weight (x : Mm) (p : Int) (w : Int) (h_p : fm_r p) (h_w : fm_r w) (e0 : ∀ j : Int, 0 ≤ j → j < 49 → x (3 + 3) j = 0) : CnI YC yX8_weight cX8_weight 3 .int 2 42 (fun G => [vr G 3, vi p, vi w]) x (fun z y' => (z = 0) ∧ (y' = x)) := by
  refine cn_I (by decide) (fun _ => Nat.le_of_ble_eq_true rfl) (fun G C h hq => ?_)
  have h : OK YC G C cX8_weight RX8 3 (some .int) 2 42 := h
  show FW YC G C 3 x 0 [(0, vr G 3), (1, vi p), (2, vi w)] []
  refine fr_iload_n h rfl 1 rfl dX8_weight_0 ?_
  refine fr_iload_n h rfl 2 rfl dX8_weight_1 ?_
  refine fr_csI h wX8_areTwoNodes lX8_58 (c_X8_areTwoNodes x p w (by omega) (by omega)) rfl (by decide) (by decide) rfl (Nat.le_of_ble_eq_true rfl) dX8_weight_2 (fun z2 x1 w3 p4 => ?_)
  obtain ⟨p5, p6, y7⟩ := p4
  rw [y7]
  clear y7
  refine fr_if_eq (tgt := 21) h dX8_weight_5 (by decide) (by omega) (fun c8 => ?_) (fun c8 => ?_)
  ·
    refine fr_iconst h dX8_weight_21 ?_
    exact fr_iret h hq (by omega) ⟨(by omega), rfl⟩ dX8_weight_22
  ·
    refine fr_aload_n h rfl 0 rfl dX8_weight_8 ?_
    refine fr_getc (z := (3 + 3)) (iz := 2) h kX8 fX8_18 (St_at St_3) rfl rfl (St_f2 St_3) (by omega) dX8_weight_9 ?_
    refine fr_iload_n h rfl 1 rfl dX8_weight_12 ?_
    refine fr_iload_n h rfl 2 rfl dX8_weight_13 ?_
    refine fr_csI h wX8_pairOf lX8_61 (c_X8_pairOf x p w (by omega) (by omega) (by omega) (by omega) (by omega) (by omega)) rfl (by decide) (by decide) rfl (Nat.le_of_ble_eq_true rfl) dX8_weight_14 (fun z10 x9 w11 p12 => ?_)
    obtain ⟨p13, p14, y15⟩ := p12
    rw [y15]
    clear y15
    have hz := e0 z10 (by omega) (by omega)
    refine fr_iald h (St_a3 St_3) (by omega) (by omega) (St_r3 St_3 z10) dX8_weight_17 (fun z16 w17 w18 q19 => ?_)
    refine fr_goto (tgt := 22) h dX8_weight_18 (by decide) ?_
    exact fr_iret h hq (by omega) ⟨(by omega), rfl⟩ dX8_weight_22
set_option maxHeartbeats 200000 in
theorem f_X8_edges (x : Mm) (q : Int) (e0 : ∀ j : Int, 0 ≤ j → j < 49 → j ≠ q → x (3 + 3) j = 0) (e1 : 0 ≤ q → 0 < x (3 + 3) q) (e2 : (-1) ≤ q) (e3 : q < 49) : CnI YC yX8_edges cX8_edges 3 .int 0 0 (fun G => [vr G 3]) x (fun z y' => (q = (-1) → z = 0) ∧ (0 ≤ q → z = 1) ∧ (y' = x)) := by
  refine cn_I (by decide) (fun _ => Nat.le_of_ble_eq_true rfl) (fun G C h hq => ?_)
  have h : OK YC G C cX8_edges RX8 3 (some .int) 0 0 := h
  show FW YC G C 3 x 0 [(0, vr G 3)] []
  refine fr_iconst h dX8_edges_0 ?_
  refine fr_istore_n (L' := [(0, vr G 3), (1, vi 0)]) h rfl dX8_edges_1 (by decide) [1, 0] rfl ?_
  refine fr_iconst h dX8_edges_2 ?_
  refine fr_istore_n (L' := [(0, vr G 3), (1, vi 0), (2, vi 0)]) h rfl dX8_edges_3 (by decide) [1, 2, 0] rfl ?_
  have HL1 : ∀ (n1 : Nat) (l1_1 l2_1 : Int), fm_r l1_1 → 0 ≤ l1_1 → l1_1 ≤ 49 → fm_r l2_1 → 0 ≤ l2_1 → l2_1 ≤ 49 → (((q = (-1) ∨ l2_1 ≤ q) ∧ l1_1 = 0) ∨ (0 ≤ q ∧ q < l2_1 ∧ l1_1 = 1)) → (49 - l2_1) < n1 → FW YC G C 3 x 4 [(0, vr G 3), (1, vi l1_1), (2, vi l2_1)] [] := by
    intro n1
    induction n1 with
    | zero =>
      intro l1_1 l2_1 g1_0 g1_1 g1_2 g1_3 g1_4 g1_5 g1_6 g1_7
      exfalso; omega
    | succ n1 ih1 =>
      intro l1_1 l2_1 g1_0 g1_1 g1_2 g1_3 g1_4 g1_5 g1_6 g1_7
      refine fr_iload_n h rfl 2 rfl dX8_edges_4 ?_
      refine fr_bipush h rfl dX8_edges_5 ?_
      refine fr_icmp_ge (tgt := 33) h dX8_edges_7 (by decide) (by omega) (by omega) (fun c2 => ?_) (fun c2 => ?_)
      ·
        refine fr_iload_n h rfl 1 rfl dX8_edges_33 ?_
        exact fr_iret h hq (by omega) ⟨(by omega), (by omega), rfl⟩ dX8_edges_34
      ·
        refine fr_iload_n h rfl 1 rfl dX8_edges_10 ?_
        refine fr_aload_n h rfl 0 rfl dX8_edges_11 ?_
        refine fr_getc (z := (3 + 3)) (iz := 2) h kX8 fX8_18 (St_at St_3) rfl rfl (St_f2 St_3) (by omega) dX8_edges_12 ?_
        refine fr_iload_n h rfl 2 rfl dX8_edges_15 ?_
        have hz : l2_1 ≠ q → x (3 + 3) l2_1 = 0 := fun k => e0 l2_1 (by omega) (by omega) k
        have hq9 : l2_1 = q → 0 < x (3 + 3) l2_1 := fun k => by rw [k]; exact e1 (by omega)
        refine fr_iald h (St_a3 St_3) (by omega) (by omega) (St_r3 St_3 l2_1) dX8_edges_16 (fun z3 w4 w5 q6 => ?_)
        refine fr_if_le (tgt := 24) h dX8_edges_17 (by decide) (by omega) (fun c7 => ?_) (fun c7 => ?_)
        ·
          refine fr_iconst h dX8_edges_24 ?_
          refine fr_iadd h dX8_edges_25 ?_
          refine fr_istore_n (L' := [(0, vr G 3), (1, vi (l1_1 + 0)), (2, vi l2_1)]) h rfl dX8_edges_26 (by decide) [1, 0, 2] rfl ?_
          refine fr_iinc (j := 2) (L' := [(0, vr G 3), (1, vi (l1_1 + 0)), (2, vi (l2_1 + 1))]) h dX8_edges_27 rfl (by decide) [1, 2, 0] rfl ?_
          refine fr_goto (tgt := 4) h dX8_edges_30 (by decide) ?_
          exact ih1 (l1_1 + 0) (l2_1 + 1) (by omega) (by omega) (by omega) (by omega) (by omega) (by omega) (by omega) (by omega)
        ·
          refine fr_iconst h dX8_edges_20 ?_
          refine fr_goto (tgt := 25) h dX8_edges_21 (by decide) ?_
          refine fr_iadd h dX8_edges_25 ?_
          refine fr_istore_n (L' := [(0, vr G 3), (1, vi (l1_1 + 1)), (2, vi l2_1)]) h rfl dX8_edges_26 (by decide) [1, 0, 2] rfl ?_
          refine fr_iinc (j := 2) (L' := [(0, vr G 3), (1, vi (l1_1 + 1)), (2, vi (l2_1 + 1))]) h dX8_edges_27 rfl (by decide) [1, 2, 0] rfl ?_
          refine fr_goto (tgt := 4) h dX8_edges_30 (by decide) ?_
          exact ih1 (l1_1 + 1) (l2_1 + 1) (by omega) (by omega) (by omega) (by omega) (by omega) (by omega) (by omega) (by omega)
  exact HL1 ((49 - 0) + 1 : Int).toNat 0 0 (by omega) (by omega) (by omega) (by omega) (by omega) (by omega) (by omega) (by omega)
set_option maxHeartbeats 200000 in
theorem f_X8_pairOfEdge (x : Mm) (p : Int) (h_p : fm_r p) (e0 : ∀ j : Int, 0 ≤ j → j < 49 → x (3 + 3) j = 0) : CnI YC yX8_pairOfEdge cX8_pairOfEdge 4 .int 0 0 (fun G => [vr G 3, vi p]) x (fun z y' => (z = (-1)) ∧ (y' = x)) := by
  refine cn_I (by decide) (fun _ => Nat.le_of_ble_eq_true rfl) (fun G C h hq => ?_)
  have h : OK YC G C cX8_pairOfEdge RX8 4 (some .int) 0 0 := h
  show FW YC G C 4 x 0 [(0, vr G 3), (1, vi p)] []
  refine fr_iconst h dX8_pairOfEdge_0 ?_
  refine fr_istore_n (L' := [(0, vr G 3), (1, vi p), (2, vi 0)]) h rfl dX8_pairOfEdge_1 (by decide) [1, 2, 0] rfl ?_
  refine fr_iconst h dX8_pairOfEdge_2 ?_
  refine fr_istore_n (L' := [(0, vr G 3), (1, vi p), (2, vi 0), (3, vi 0)]) h rfl dX8_pairOfEdge_3 (by decide) [1, 2, 3, 0] rfl ?_
  have HL1 : ∀ (n1 : Nat) (l2_1 l3_1 : Int), fm_r l2_1 → fm_r l3_1 → 0 ≤ l3_1 → l3_1 ≤ 49 → (49 - l3_1) < n1 → FW YC G C 4 x 4 [(0, vr G 3), (1, vi p), (2, vi l2_1), (3, vi l3_1)] [] := by
    intro n1
    induction n1 with
    | zero =>
      intro l2_1 l3_1 g1_0 g1_1 g1_2 g1_3 g1_4
      exfalso; omega
    | succ n1 ih1 =>
      intro l2_1 l3_1 g1_0 g1_1 g1_2 g1_3 g1_4
      refine fr_iload_n h rfl 3 rfl dX8_pairOfEdge_4 ?_
      refine fr_bipush h rfl dX8_pairOfEdge_5 ?_
      refine fr_icmp_ge (tgt := 35) h dX8_pairOfEdge_7 (by decide) (by omega) (by omega) (fun c2 => ?_) (fun c2 => ?_)
      ·
        refine fr_iconst h dX8_pairOfEdge_35 ?_
        exact fr_iret h hq (by omega) ⟨(by omega), rfl⟩ dX8_pairOfEdge_36
      ·
        refine fr_aload_n h rfl 0 rfl dX8_pairOfEdge_10 ?_
        refine fr_getc (z := (3 + 3)) (iz := 2) h kX8 fX8_18 (St_at St_3) rfl rfl (St_f2 St_3) (by omega) dX8_pairOfEdge_11 ?_
        refine fr_iload_n h rfl 3 rfl dX8_pairOfEdge_14 ?_
        have hz := e0 l3_1 (by omega) (by omega)
        refine fr_iald h (St_a3 St_3) (by omega) (by omega) (St_r3 St_3 l3_1) dX8_pairOfEdge_15 (fun z3 w4 w5 q6 => ?_)
        refine fr_if_le (tgt := 29) h dX8_pairOfEdge_16 (by decide) (by omega) (fun c7 => ?_) (fun c7 => ?_)
        ·
          refine fr_iinc (j := 3) (L' := [(0, vr G 3), (1, vi p), (2, vi l2_1), (3, vi (l3_1 + 1))]) h dX8_pairOfEdge_29 rfl (by decide) [1, 2, 3, 0] rfl ?_
          refine fr_goto (tgt := 4) h dX8_pairOfEdge_32 (by decide) ?_
          exact ih1 l2_1 (l3_1 + 1) (by omega) (by omega) (by omega) (by omega) (by omega)
        ·
          exfalso; omega
  exact HL1 ((49 - 0) + 1 : Int).toNat 0 0 (by omega) (by omega) (by omega) (by omega) (by omega)
set_option maxHeartbeats 200000 in
theorem f_X8_joinedNodes (x : Mm) (e0 : ∀ j : Int, 0 ≤ j → j < 49 → x (3 + 3) j = 0) : CnI YC yX8_joinedNodes cX8_joinedNodes 3 .int 0 0 (fun G => [vr G 3]) x (fun z y' => (z = 0) ∧ (y' = x)) := by
  refine cn_I (by decide) (fun _ => Nat.le_of_ble_eq_true rfl) (fun G C h hq => ?_)
  have h : OK YC G C cX8_joinedNodes RX8 3 (some .int) 0 0 := h
  show FW YC G C 3 x 0 [(0, vr G 3)] []
  refine fr_iconst h dX8_joinedNodes_0 ?_
  refine fr_istore_n (L' := [(0, vr G 3), (1, vi 0)]) h rfl dX8_joinedNodes_1 (by decide) [1, 0] rfl ?_
  refine fr_iconst h dX8_joinedNodes_2 ?_
  refine fr_istore_n (L' := [(0, vr G 3), (1, vi 0), (2, vi 0)]) h rfl dX8_joinedNodes_3 (by decide) [1, 2, 0] rfl ?_
  have HL1 : ∀ (n1 : Nat) (l1_1 l2_1 : Int), fm_r l1_1 → fm_r l2_1 → 0 ≤ l2_1 → l2_1 ≤ 49 → l1_1 = 0 → (49 - l2_1) < n1 → FW YC G C 3 x 4 [(0, vr G 3), (1, vi l1_1), (2, vi l2_1)] [] := by
    intro n1
    induction n1 with
    | zero =>
      intro l1_1 l2_1 g1_0 g1_1 g1_2 g1_3 g1_4 g1_5
      exfalso; omega
    | succ n1 ih1 =>
      intro l1_1 l2_1 g1_0 g1_1 g1_2 g1_3 g1_4 g1_5
      refine fr_iload_n h rfl 2 rfl dX8_joinedNodes_4 ?_
      refine fr_bipush h rfl dX8_joinedNodes_5 ?_
      refine fr_icmp_ge (tgt := 41) h dX8_joinedNodes_7 (by decide) (by omega) (by omega) (fun c2 => ?_) (fun c2 => ?_)
      ·
        refine fr_iload_n h rfl 1 rfl dX8_joinedNodes_41 ?_
        exact fr_iret h hq (by omega) ⟨(by omega), rfl⟩ dX8_joinedNodes_42
      ·
        refine fr_aload_n h rfl 0 rfl dX8_joinedNodes_10 ?_
        refine fr_getc (z := (3 + 3)) (iz := 2) h kX8 fX8_18 (St_at St_3) rfl rfl (St_f2 St_3) (by omega) dX8_joinedNodes_11 ?_
        refine fr_iload_n h rfl 2 rfl dX8_joinedNodes_14 ?_
        have hz := e0 l2_1 (by omega) (by omega)
        refine fr_iald h (St_a3 St_3) (by omega) (by omega) (St_r3 St_3 l2_1) dX8_joinedNodes_15 (fun z3 w4 w5 q6 => ?_)
        refine fr_if_le (tgt := 35) h dX8_joinedNodes_16 (by decide) (by omega) (fun c7 => ?_) (fun c7 => ?_)
        ·
          refine fr_iinc (j := 2) (L' := [(0, vr G 3), (1, vi l1_1), (2, vi (l2_1 + 1))]) h dX8_joinedNodes_35 rfl (by decide) [1, 2, 0] rfl ?_
          refine fr_goto (tgt := 4) h dX8_joinedNodes_38 (by decide) ?_
          exact ih1 l1_1 (l2_1 + 1) (by omega) (by omega) (by omega) (by omega) (by omega) (by omega)
        ·
          exfalso; omega
  exact HL1 ((49 - 0) + 1 : Int).toNat 0 0 (by omega) (by omega) (by omega) (by omega) (by omega) (by omega)
set_option maxHeartbeats 200000 in
theorem f_X8_joinNodes (x : Mm) (p : Int) (w : Int) (v : Int) (h_p : fm_r p) (h_w : fm_r w) (h_v : fm_r v) (e0 : ∀ j : Int, 0 ≤ j → j < 49 → x (3 + 3) j = 0) : CnI YC yX8_joinNodes cX8_joinNodes 6 .int 2 42 (fun G => [vr G 3, vi p, vi w, vi v]) x (fun z y' => (¬ (0 ≤ p ∧ p < 7 ∧ 0 ≤ w ∧ w < 7 ∧ p ≠ w ∧ 0 ≤ v ∧ v ≤ 99) → z = (-1)) ∧ ((0 ≤ p ∧ p < 7 ∧ 0 ≤ w ∧ w < 7 ∧ p ≠ w ∧ 0 ≤ v ∧ v ≤ 99) → v = 0 → z = (-2)) ∧ ((0 ≤ p ∧ p < 7 ∧ 0 ≤ w ∧ w < 7 ∧ p ≠ w ∧ 0 ≤ v ∧ v ≤ 99) → 1 ≤ v → z = 1) ∧ (∀ a : Int, (a < 3 ∨ 7 < a) → y' a = x a)) := by
  refine cn_I (by decide) (fun _ => Nat.le_of_ble_eq_true rfl) (fun G C h hq => ?_)
  have h : OK YC G C cX8_joinNodes RX8 6 (some .int) 2 42 := h
  show FW YC G C 6 x 0 [(0, vr G 3), (1, vi p), (2, vi w), (3, vi v)] []
  refine fr_iload_n h rfl 1 rfl dX8_joinNodes_0 ?_
  refine fr_iload_n h rfl 2 rfl dX8_joinNodes_1 ?_
  refine fr_csI h wX8_areTwoNodes lX8_58 (c_X8_areTwoNodes x p w (by omega) (by omega)) rfl (by decide) (by decide) rfl (Nat.le_of_ble_eq_true rfl) dX8_joinNodes_2 (fun z2 x1 w3 p4 => ?_)
  obtain ⟨p5, p6, y7⟩ := p4
  rw [y7]
  clear y7
  refine fr_if_eq (tgt := 17) h dX8_joinNodes_5 (by decide) (by omega) (fun c8 => ?_) (fun c8 => ?_)
  ·
    refine fr_iconst h dX8_joinNodes_17 ?_
    exact fr_iret h hq (by omega) ⟨(by omega), (by omega), (by omega), (fun a _ => rfl)⟩ dX8_joinNodes_18
  ·
    refine fr_iload_n h rfl 3 rfl dX8_joinNodes_8 ?_
    refine fr_bipush h rfl dX8_joinNodes_9 ?_
    refine fr_csI h wX8_isBelow lX8_43 (c_X8_isBelow x v 100 (by omega) (by omega)) rfl (by decide) (by decide) rfl (Nat.le_of_ble_eq_true rfl) dX8_joinNodes_11 (fun z10 x9 w11 p12 => ?_)
    obtain ⟨p13, p14, y15⟩ := p12
    rw [y15]
    clear y15
    refine fr_if_ne (tgt := 19) h dX8_joinNodes_14 (by decide) (by omega) (fun c16 => ?_) (fun c16 => ?_)
    ·
      refine fr_iload_n h rfl 1 rfl dX8_joinNodes_19 ?_
      refine fr_iload_n h rfl 2 rfl dX8_joinNodes_20 ?_
      refine fr_csI h wX8_pairOf lX8_61 (c_X8_pairOf x p w (by omega) (by omega) (by omega) (by omega) (by omega) (by omega)) rfl (by decide) (by decide) rfl (Nat.le_of_ble_eq_true rfl) dX8_joinNodes_21 (fun z18 x17 w19 p20 => ?_)
      obtain ⟨p21, p22, y23⟩ := p20
      rw [y23]
      clear y23
      refine fr_istore (L' := [(0, vr G 3), (1, vi p), (2, vi w), (3, vi v), (4, vi z18)]) h dX8_joinNodes_24 (by decide) [1, 2, 3, 4, 0] rfl ?_
      refine fr_aload_n h rfl 0 rfl dX8_joinNodes_26 ?_
      refine fr_getc (z := (3 + 3)) (iz := 2) h kX8 fX8_18 (St_at St_3) rfl rfl (St_f2 St_3) (by omega) dX8_joinNodes_27 ?_
      refine fr_iload h 4 rfl dX8_joinNodes_30 ?_
      have hz := e0 z18 (by omega) (by omega)
      refine fr_iald h (St_a3 St_3) (by omega) (by omega) (St_r3 St_3 z18) dX8_joinNodes_32 (fun z24 w25 w26 q27 => ?_)
      refine fr_if_le (tgt := 40) h dX8_joinNodes_33 (by decide) (by omega) (fun c28 => ?_) (fun c28 => ?_)
      ·
        refine fr_iconst h dX8_joinNodes_40 ?_
        refine fr_istore (L' := [(0, vr G 3), (1, vi p), (2, vi w), (3, vi v), (4, vi z18), (5, vi 0)]) h dX8_joinNodes_41 (by decide) [1, 2, 3, 4, 5, 0] rfl ?_
        refine fr_iload_n h rfl 3 rfl dX8_joinNodes_43 ?_
        refine fr_if_ne (tgt := 55) h dX8_joinNodes_44 (by decide) (by omega) (fun c29 => ?_) (fun c29 => ?_)
        ·
          refine fr_iload h 5 rfl dX8_joinNodes_55 ?_
          refine fr_if_ne (tgt := 72) h dX8_joinNodes_57 (by decide) (by omega) (fun c30 => by exfalso; omega) (fun c30 => ?_)
          refine fr_aload_n h rfl 0 rfl dX8_joinNodes_60 ?_
          refine fr_cvI h kX8 (St_at St_3) wX8_edges lX8_64 (f_X8_edges x (-1) (fun j a b _ => e0 j a b) (fun k => by exfalso; omega) (by omega) (by omega)) rfl (by decide) (by decide) rfl (Nat.le_of_ble_eq_true rfl) dX8_joinNodes_61 (fun z32 x31 w33 p34 => ?_)
          obtain ⟨p35, p36, y37⟩ := p34
          rw [y37]
          clear y37
          refine fr_bipush h rfl dX8_joinNodes_64 ?_
          refine fr_icmp_lt (tgt := 72) h dX8_joinNodes_66 (by decide) (by omega) (by omega) (fun c38 => ?_) (fun c38 => ?_)
          ·
            refine fr_aload_n h rfl 0 rfl dX8_joinNodes_72 ?_
            refine fr_getc (z := (3 + 3)) (iz := 2) h kX8 fX8_18 (St_at St_3) rfl rfl (St_f2 St_3) (by omega) dX8_joinNodes_73 ?_
            refine fr_iload h 4 rfl dX8_joinNodes_76 ?_
            refine fr_iload_n h rfl 3 rfl dX8_joinNodes_78 ?_
            refine fr_iast h (St_a3 St_3) (by omega) (by omega) (St_r3 St_3 z18) (by omega) (by omega) dX8_joinNodes_79 ?_
            refine fr_mem (fun x39 m40 => ?_)
            refine fr_aload_n h rfl 0 rfl dX8_joinNodes_80 ?_
            refine fr_cvI h kX8 (St_at St_3) wX8_edges lX8_64 (f_X8_edges x39 z18 (fun j a b k => (fm_rd_i (a := (3 + 3)) (b := j) m40 k).trans (e0 j a b)) (fun _ => by rw [fm_rd_s m40]; omega) (by omega) (by omega)) rfl (by decide) (by decide) rfl (Nat.le_of_ble_eq_true rfl) dX8_joinNodes_81 (fun z42 x41 w43 p44 => ?_)
            obtain ⟨p45, p46, y47⟩ := p44
            rw [y47]
            clear y47
            exact fr_iret h hq (by omega) ⟨(by omega), (by omega), (by omega), (fun a k0 => (fm_up_row m40 (by omega)))⟩ dX8_joinNodes_84
          ·
            exfalso; omega
        ·
          refine fr_iload h 5 rfl dX8_joinNodes_47 ?_
          refine fr_if_ne (tgt := 55) h dX8_joinNodes_49 (by decide) (by omega) (fun c48 => by exfalso; omega) (fun c48 => ?_)
          refine fr_bipush h rfl dX8_joinNodes_52 ?_
          exact fr_iret h hq (by omega) ⟨(by omega), (by omega), (by omega), (fun a _ => rfl)⟩ dX8_joinNodes_54
      ·
        exfalso; omega
    ·
      refine fr_iconst h dX8_joinNodes_17 ?_
      exact fr_iret h hq (by omega) ⟨(by omega), (by omega), (by omega), (fun a _ => rfl)⟩ dX8_joinNodes_18
set_option maxHeartbeats 200000 in
theorem f_X8_weigh (x : Mm) (p : Int) (w : Int) (v : Int) (u : Int) (h_p : fm_r p) (h_w : fm_r w) (h_v : fm_r v) (h_u : fm_r u) (e0 : ∀ j : Int, 0 ≤ j → j < 49 → x (3 + 3) j = 0) : CnI YC yX8_weigh cX8_weigh 8 .int 0 0 (fun G => [vr G 3, vi p, vi w, vi v, vi u]) x (fun z y' => (z = 0) ∧ (y' = x)) := by
  refine cn_I (by decide) (fun _ => Nat.le_of_ble_eq_true rfl) (fun G C h hq => ?_)
  have h : OK YC G C cX8_weigh RX8 8 (some .int) 0 0 := h
  show FW YC G C 8 x 0 [(0, vr G 3), (1, vi p), (2, vi w), (3, vi v), (4, vi u)] []
  refine fr_iconst h dX8_weigh_0 ?_
  refine fr_istore (L' := [(0, vr G 3), (1, vi p), (2, vi w), (3, vi v), (4, vi u), (5, vi 0)]) h dX8_weigh_1 (by decide) [1, 2, 3, 4, 5, 0] rfl ?_
  refine fr_iconst h dX8_weigh_3 ?_
  refine fr_istore (L' := [(0, vr G 3), (1, vi p), (2, vi w), (3, vi v), (4, vi u), (5, vi 0), (6, vi 0)]) h dX8_weigh_4 (by decide) [1, 2, 3, 4, 5, 6, 0] rfl ?_
  refine fr_iconst h dX8_weigh_6 ?_
  refine fr_istore (L' := [(0, vr G 3), (1, vi p), (2, vi w), (3, vi v), (4, vi u), (5, vi 0), (6, vi 0), (7, vi 0)]) h dX8_weigh_7 (by decide) [1, 2, 3, 4, 5, 6, 7, 0] rfl ?_
  have HL1 : ∀ (n1 : Nat) (l5_1 l6_1 l7_1 : Int), fm_r l5_1 → fm_r l6_1 → fm_r l7_1 → 0 ≤ l7_1 → l7_1 ≤ 49 → l5_1 = 0 → (49 - l7_1) < n1 → FW YC G C 8 x 9 [(0, vr G 3), (1, vi p), (2, vi w), (3, vi v), (4, vi u), (5, vi l5_1), (6, vi l6_1), (7, vi l7_1)] [] := by
    intro n1
    induction n1 with
    | zero =>
      intro l5_1 l6_1 l7_1 g1_0 g1_1 g1_2 g1_3 g1_4 g1_5 g1_6
      exfalso; omega
    | succ n1 ih1 =>
      intro l5_1 l6_1 l7_1 g1_0 g1_1 g1_2 g1_3 g1_4 g1_5 g1_6
      refine fr_iload h 7 rfl dX8_weigh_9 ?_
      refine fr_bipush h rfl dX8_weigh_11 ?_
      refine fr_icmp_ge (tgt := 75) h dX8_weigh_13 (by decide) (by omega) (by omega) (fun c2 => ?_) (fun c2 => ?_)
      ·
        refine fr_iload h 5 rfl dX8_weigh_75 ?_
        exact fr_iret h hq (by omega) ⟨(by omega), rfl⟩ dX8_weigh_77
      ·
        refine fr_aload_n h rfl 0 rfl dX8_weigh_16 ?_
        refine fr_getc (z := (3 + 3)) (iz := 2) h kX8 fX8_18 (St_at St_3) rfl rfl (St_f2 St_3) (by omega) dX8_weigh_17 ?_
        refine fr_iload h 7 rfl dX8_weigh_20 ?_
        have hz := e0 l7_1 (by omega) (by omega)
        refine fr_iald h (St_a3 St_3) (by omega) (by omega) (St_r3 St_3 l7_1) dX8_weigh_22 (fun z3 w4 w5 q6 => ?_)
        refine fr_if_le (tgt := 69) h dX8_weigh_23 (by decide) (by omega) (fun c7 => ?_) (fun c7 => ?_)
        ·
          refine fr_iinc (j := 7) (L' := [(0, vr G 3), (1, vi p), (2, vi w), (3, vi v), (4, vi u), (5, vi l5_1), (6, vi l6_1), (7, vi (l7_1 + 1))]) h dX8_weigh_69 rfl (by decide) [1, 2, 3, 4, 5, 6, 7, 0] rfl ?_
          refine fr_goto (tgt := 9) h dX8_weigh_72 (by decide) ?_
          exact ih1 l5_1 l6_1 (l7_1 + 1) (by omega) (by omega) (by omega) (by omega) (by omega) (by omega) (by omega)
        ·
          exfalso; omega
  exact HL1 ((49 - 0) + 1 : Int).toNat 0 0 0 (by omega) (by omega) (by omega) (by omega) (by omega) (by omega) (by omega)
set_option maxHeartbeats 200000 in
theorem f_X8_setCost (x : Mm) (p : Int) (w : Int) (v : Int) (h_p : fm_r p) (h_w : fm_r w) (h_v : fm_r v) (e0 : ∀ j : Int, 0 ≤ j → j < 25 → x (3 + 4) j = 0) : CnI YC yX8_setCost cX8_setCost 5 .int 1 21 (fun G => [vr G 3, vi p, vi w, vi v]) x (fun z y' => ((0 ≤ p ∧ p < 5 ∧ 0 ≤ w ∧ w < 5 ∧ 0 ≤ v ∧ v ≤ 99) → z = 0) ∧ (¬ (0 ≤ p ∧ p < 5 ∧ 0 ≤ w ∧ w < 5 ∧ 0 ≤ v ∧ v ≤ 99) → z = (-1)) ∧ (∀ a : Int, (a < 3 ∨ 7 < a) → y' a = x a)) := by
  refine cn_I (by decide) (fun _ => Nat.le_of_ble_eq_true rfl) (fun G C h hq => ?_)
  have h : OK YC G C cX8_setCost RX8 5 (some .int) 1 21 := h
  show FW YC G C 5 x 0 [(0, vr G 3), (1, vi p), (2, vi w), (3, vi v)] []
  refine fr_iload_n h rfl 1 rfl dX8_setCost_0 ?_
  refine fr_iconst h dX8_setCost_1 ?_
  refine fr_csI h wX8_isBelow lX8_43 (c_X8_isBelow x p 5 (by omega) (by omega)) rfl (by decide) (by decide) rfl (Nat.le_of_ble_eq_true rfl) dX8_setCost_2 (fun z2 x1 w3 p4 => ?_)
  obtain ⟨p5, p6, y7⟩ := p4
  rw [y7]
  clear y7
  refine fr_if_eq (tgt := 25) h dX8_setCost_5 (by decide) (by omega) (fun c8 => ?_) (fun c8 => ?_)
  ·
    refine fr_iconst h dX8_setCost_25 ?_
    exact fr_iret h hq (by omega) ⟨(by omega), (by omega), (fun a _ => rfl)⟩ dX8_setCost_26
  ·
    refine fr_iload_n h rfl 2 rfl dX8_setCost_8 ?_
    refine fr_iconst h dX8_setCost_9 ?_
    refine fr_csI h wX8_isBelow lX8_43 (c_X8_isBelow x w 5 (by omega) (by omega)) rfl (by decide) (by decide) rfl (Nat.le_of_ble_eq_true rfl) dX8_setCost_10 (fun z10 x9 w11 p12 => ?_)
    obtain ⟨p13, p14, y15⟩ := p12
    rw [y15]
    clear y15
    refine fr_if_eq (tgt := 25) h dX8_setCost_13 (by decide) (by omega) (fun c16 => ?_) (fun c16 => ?_)
    ·
      refine fr_iconst h dX8_setCost_25 ?_
      exact fr_iret h hq (by omega) ⟨(by omega), (by omega), (fun a _ => rfl)⟩ dX8_setCost_26
    ·
      refine fr_iload_n h rfl 3 rfl dX8_setCost_16 ?_
      refine fr_bipush h rfl dX8_setCost_17 ?_
      refine fr_csI h wX8_isBelow lX8_43 (c_X8_isBelow x v 100 (by omega) (by omega)) rfl (by decide) (by decide) rfl (Nat.le_of_ble_eq_true rfl) dX8_setCost_19 (fun z18 x17 w19 p20 => ?_)
      obtain ⟨p21, p22, y23⟩ := p20
      rw [y23]
      clear y23
      refine fr_if_ne (tgt := 27) h dX8_setCost_22 (by decide) (by omega) (fun c24 => ?_) (fun c24 => ?_)
      ·
        refine fr_aload_n h rfl 0 rfl dX8_setCost_27 ?_
        refine fr_getc (z := (3 + 4)) (iz := 3) h kX8 fX8_21 (St_at St_3) rfl rfl (St_f3 St_3) (by omega) dX8_setCost_28 ?_
        refine fr_iload_n h rfl 1 rfl dX8_setCost_31 ?_
        refine fr_iconst h dX8_setCost_32 ?_
        refine fr_imul h dX8_setCost_33 ?_
        refine fr_normi (fun z25 w26 q27 => ?_)
        have w28 : fm_r ((p * 5)) → z25 = (p * 5) := fun q => (iI_inj q w26 q27).symm
        refine fr_iload_n h rfl 2 rfl dX8_setCost_34 ?_
        refine fr_iadd h dX8_setCost_35 ?_
        refine fr_normi (fun z29 w30 q31 => ?_)
        have w32 : fm_r ((z25 + w)) → z29 = (z25 + w) := fun q => (iI_inj q w30 q31).symm
        have hz := e0 z29 (by omega) (by omega)
        refine fr_iald h (St_a4 St_3) (by omega) (by omega) (St_r4 St_3 z29) dX8_setCost_36 (fun z33 w34 w35 q36 => ?_)
        refine fr_istore (L' := [(0, vr G 3), (1, vi p), (2, vi w), (3, vi v), (4, vi z33)]) h dX8_setCost_37 (by decide) [1, 2, 3, 4, 0] rfl ?_
        refine fr_aload_n h rfl 0 rfl dX8_setCost_39 ?_
        refine fr_getc (z := (3 + 4)) (iz := 3) h kX8 fX8_21 (St_at St_3) rfl rfl (St_f3 St_3) (by omega) dX8_setCost_40 ?_
        refine fr_iload_n h rfl 1 rfl dX8_setCost_43 ?_
        refine fr_iconst h dX8_setCost_44 ?_
        refine fr_imul h dX8_setCost_45 ?_
        refine fr_normi (fun z37 w38 q39 => ?_)
        have w40 : fm_r ((p * 5)) → z37 = (p * 5) := fun q => (iI_inj q w38 q39).symm
        refine fr_iload_n h rfl 2 rfl dX8_setCost_46 ?_
        refine fr_iadd h dX8_setCost_47 ?_
        refine fr_normi (fun z41 w42 q43 => ?_)
        have w44 : fm_r ((z37 + w)) → z41 = (z37 + w) := fun q => (iI_inj q w42 q43).symm
        refine fr_iload_n h rfl 3 rfl dX8_setCost_48 ?_
        refine fr_iast h (St_a4 St_3) (by omega) (by omega) (St_r4 St_3 z41) (by omega) (by omega) dX8_setCost_49 ?_
        refine fr_mem (fun x45 m46 => ?_)
        refine fr_iload h 4 rfl dX8_setCost_50 ?_
        exact fr_iret h hq (by omega) ⟨(by omega), (by omega), (fun a k0 => (fm_up_row m46 (by omega)))⟩ dX8_setCost_52
      ·
        refine fr_iconst h dX8_setCost_25 ?_
        exact fr_iret h hq (by omega) ⟨(by omega), (by omega), (fun a _ => rfl)⟩ dX8_setCost_26
set_option maxHeartbeats 200000 in
theorem f_X8_setWhat (x : Mm) (p : Int) (w : Int) (h_p : fm_r p) (h_w : fm_r w) (e0 : x 3 4 = 0) (e1 : x 3 5 = 0) : CnI YC yX8_setWhat cX8_setWhat 5 .int 1 21 (fun G => [vr G 3, vi p, vi w]) x (fun z y' => (¬ ((p = 0 ∧ 0 ≤ w ∧ w ≤ 5) ∨ (p = 1 ∧ 0 ≤ w ∧ w ≤ 3)) → z = (-1)) ∧ (((p = 0 ∧ 0 ≤ w ∧ w ≤ 5) ∨ (p = 1 ∧ 0 ≤ w ∧ w ≤ 3)) → w = 0 → z = (-2)) ∧ (((p = 0 ∧ 0 ≤ w ∧ w ≤ 5) ∨ (p = 1 ∧ 0 ≤ w ∧ w ≤ 3)) → w ≠ 0 → z = 10) ∧ (∀ a : Int, (a < 3 ∨ 7 < a) → y' a = x a)) := by
  refine cn_I (by decide) (fun _ => Nat.le_of_ble_eq_true rfl) (fun G C h hq => ?_)
  have h : OK YC G C cX8_setWhat RX8 5 (some .int) 1 21 := h
  show FW YC G C 5 x 0 [(0, vr G 3), (1, vi p), (2, vi w)] []
  refine fr_iload_n h rfl 1 rfl dX8_setWhat_0 ?_
  refine fr_if_ne (tgt := 8) h dX8_setWhat_1 (by decide) (by omega) (fun c1 => ?_) (fun c1 => ?_)
  ·
    refine fr_iconst h dX8_setWhat_8 ?_
    refine fr_istore_n (L' := [(0, vr G 3), (1, vi p), (2, vi w), (3, vi 0)]) h rfl dX8_setWhat_9 (by decide) [1, 2, 3, 0] rfl ?_
    refine fr_iload_n h rfl 1 rfl dX8_setWhat_10 ?_
    refine fr_iconst h dX8_setWhat_11 ?_
    refine fr_csI h wX8_isBelow lX8_43 (c_X8_isBelow x p 2 (by omega) (by omega)) rfl (by decide) (by decide) rfl (Nat.le_of_ble_eq_true rfl) dX8_setWhat_12 (fun z3 x2 w4 p5 => ?_)
    obtain ⟨p6, p7, y8⟩ := p5
    rw [y8]
    clear y8
    refine fr_if_eq (tgt := 35) h dX8_setWhat_15 (by decide) (by omega) (fun c9 => ?_) (fun c9 => ?_)
    ·
      refine fr_iconst h dX8_setWhat_35 ?_
      exact fr_iret h hq (by omega) ⟨(by omega), (by omega), (by omega), (fun a _ => rfl)⟩ dX8_setWhat_36
    ·
      refine fr_iload_n h rfl 2 rfl dX8_setWhat_18 ?_
      refine fr_iload_n h rfl 3 rfl dX8_setWhat_19 ?_
      refine fr_if_eq (tgt := 28) h dX8_setWhat_20 (by decide) (by omega) (fun c10 => ?_) (fun c10 => by exfalso; omega)
      refine fr_iconst h dX8_setWhat_28 ?_
      refine fr_csI h wX8_isBelow lX8_43 (c_X8_isBelow x w 4 (by omega) (by omega)) rfl (by decide) (by decide) rfl (Nat.le_of_ble_eq_true rfl) dX8_setWhat_29 (fun z12 x11 w13 p14 => ?_)
      obtain ⟨p15, p16, y17⟩ := p14
      rw [y17]
      clear y17
      refine fr_if_ne (tgt := 37) h dX8_setWhat_32 (by decide) (by omega) (fun c18 => ?_) (fun c18 => ?_)
      ·
        refine fr_iload_n h rfl 3 rfl dX8_setWhat_37 ?_
        refine fr_if_eq (tgt := 48) h dX8_setWhat_38 (by decide) (by omega) (fun c19 => ?_) (fun c19 => by exfalso; omega)
        refine fr_aload_n h rfl 0 rfl dX8_setWhat_48 ?_
        refine fr_geti (iz := 5) h kX8 fX8_37 (St_at St_3) rfl rfl (by decide) (by decide) (St_f5 St_3) dX8_setWhat_49 (fun z20 w21 w22 q23 => ?_)
        refine fr_istore (L' := [(0, vr G 3), (1, vi p), (2, vi w), (3, vi 0), (4, vi z20)]) h dX8_setWhat_52 (by decide) [1, 2, 3, 4, 0] rfl ?_
        refine fr_iload h 4 rfl dX8_setWhat_54 ?_
        refine fr_iload_n h rfl 2 rfl dX8_setWhat_56 ?_
        refine fr_icmp_ne (tgt := 63) h dX8_setWhat_57 (by decide) (by omega) (by omega) (fun c24 => ?_) (fun c24 => ?_)
        ·
          refine fr_iload_n h rfl 3 rfl dX8_setWhat_63 ?_
          refine fr_if_eq (tgt := 75) h dX8_setWhat_64 (by decide) (by omega) (fun c25 => ?_) (fun c25 => by exfalso; omega)
          refine fr_aload_n h rfl 0 rfl dX8_setWhat_75 ?_
          refine fr_iload_n h rfl 2 rfl dX8_setWhat_76 ?_
          refine fr_puti (iz := 5) h kX8 fX8_37 (St_at St_3) rfl rfl (by decide) (by decide) rfl (by decide +kernel) (St_f5 St_3) (by omega) (by omega) dX8_setWhat_77 ?_
          refine fr_mem (fun x26 m27 => ?_)
          refine fr_bipush h rfl dX8_setWhat_80 ?_
          refine fr_iload h 4 rfl dX8_setWhat_82 ?_
          refine fr_iadd h dX8_setWhat_84 ?_
          exact fr_iret h hq (by omega) ⟨(by omega), (by omega), (by omega), (fun a k0 => (fm_up_row m27 (by omega)))⟩ dX8_setWhat_85
        ·
          refine fr_bipush h rfl dX8_setWhat_60 ?_
          exact fr_iret h hq (by omega) ⟨(by omega), (by omega), (by omega), (fun a _ => rfl)⟩ dX8_setWhat_62
      ·
        refine fr_iconst h dX8_setWhat_35 ?_
        exact fr_iret h hq (by omega) ⟨(by omega), (by omega), (by omega), (fun a _ => rfl)⟩ dX8_setWhat_36
  ·
    refine fr_iconst h dX8_setWhat_4 ?_
    refine fr_goto (tgt := 9) h dX8_setWhat_5 (by decide) ?_
    refine fr_istore_n (L' := [(0, vr G 3), (1, vi p), (2, vi w), (3, vi 1)]) h rfl dX8_setWhat_9 (by decide) [1, 2, 3, 0] rfl ?_
    refine fr_iload_n h rfl 1 rfl dX8_setWhat_10 ?_
    refine fr_iconst h dX8_setWhat_11 ?_
    refine fr_csI h wX8_isBelow lX8_43 (c_X8_isBelow x p 2 (by omega) (by omega)) rfl (by decide) (by decide) rfl (Nat.le_of_ble_eq_true rfl) dX8_setWhat_12 (fun z29 x28 w30 p31 => ?_)
    obtain ⟨p32, p33, y34⟩ := p31
    rw [y34]
    clear y34
    refine fr_if_eq (tgt := 35) h dX8_setWhat_15 (by decide) (by omega) (fun c35 => ?_) (fun c35 => ?_)
    ·
      refine fr_iconst h dX8_setWhat_35 ?_
      exact fr_iret h hq (by omega) ⟨(by omega), (by omega), (by omega), (fun a _ => rfl)⟩ dX8_setWhat_36
    ·
      refine fr_iload_n h rfl 2 rfl dX8_setWhat_18 ?_
      refine fr_iload_n h rfl 3 rfl dX8_setWhat_19 ?_
      refine fr_if_eq (tgt := 28) h dX8_setWhat_20 (by decide) (by omega) (fun c36 => by exfalso; omega) (fun c36 => ?_)
      refine fr_bipush h rfl dX8_setWhat_23 ?_
      refine fr_goto (tgt := 29) h dX8_setWhat_25 (by decide) ?_
      refine fr_csI h wX8_isBelow lX8_43 (c_X8_isBelow x w 6 (by omega) (by omega)) rfl (by decide) (by decide) rfl (Nat.le_of_ble_eq_true rfl) dX8_setWhat_29 (fun z38 x37 w39 p40 => ?_)
      obtain ⟨p41, p42, y43⟩ := p40
      rw [y43]
      clear y43
      refine fr_if_ne (tgt := 37) h dX8_setWhat_32 (by decide) (by omega) (fun c44 => ?_) (fun c44 => ?_)
      ·
        refine fr_iload_n h rfl 3 rfl dX8_setWhat_37 ?_
        refine fr_if_eq (tgt := 48) h dX8_setWhat_38 (by decide) (by omega) (fun c45 => by exfalso; omega) (fun c45 => ?_)
        refine fr_aload_n h rfl 0 rfl dX8_setWhat_41 ?_
        refine fr_geti (iz := 4) h kX8 fX8_34 (St_at St_3) rfl rfl (by decide) (by decide) (St_f4 St_3) dX8_setWhat_42 (fun z46 w47 w48 q49 => ?_)
        refine fr_goto (tgt := 52) h dX8_setWhat_45 (by decide) ?_
        refine fr_istore (L' := [(0, vr G 3), (1, vi p), (2, vi w), (3, vi 1), (4, vi z46)]) h dX8_setWhat_52 (by decide) [1, 2, 3, 4, 0] rfl ?_
        refine fr_iload h 4 rfl dX8_setWhat_54 ?_
        refine fr_iload_n h rfl 2 rfl dX8_setWhat_56 ?_
        refine fr_icmp_ne (tgt := 63) h dX8_setWhat_57 (by decide) (by omega) (by omega) (fun c50 => ?_) (fun c50 => ?_)
        ·
          refine fr_iload_n h rfl 3 rfl dX8_setWhat_63 ?_
          refine fr_if_eq (tgt := 75) h dX8_setWhat_64 (by decide) (by omega) (fun c51 => by exfalso; omega) (fun c51 => ?_)
          refine fr_aload_n h rfl 0 rfl dX8_setWhat_67 ?_
          refine fr_iload_n h rfl 2 rfl dX8_setWhat_68 ?_
          refine fr_puti (iz := 4) h kX8 fX8_34 (St_at St_3) rfl rfl (by decide) (by decide) rfl (by decide +kernel) (St_f4 St_3) (by omega) (by omega) dX8_setWhat_69 ?_
          refine fr_mem (fun x52 m53 => ?_)
          refine fr_goto (tgt := 80) h dX8_setWhat_72 (by decide) ?_
          refine fr_bipush h rfl dX8_setWhat_80 ?_
          refine fr_iload h 4 rfl dX8_setWhat_82 ?_
          refine fr_iadd h dX8_setWhat_84 ?_
          exact fr_iret h hq (by omega) ⟨(by omega), (by omega), (by omega), (fun a k0 => (fm_up_row m53 (by omega)))⟩ dX8_setWhat_85
        ·
          refine fr_bipush h rfl dX8_setWhat_60 ?_
          exact fr_iret h hq (by omega) ⟨(by omega), (by omega), (by omega), (fun a _ => rfl)⟩ dX8_setWhat_62
      ·
        refine fr_iconst h dX8_setWhat_35 ?_
        exact fr_iret h hq (by omega) ⟨(by omega), (by omega), (by omega), (fun a _ => rfl)⟩ dX8_setWhat_36
set_option maxHeartbeats 200000 in
theorem f_X8_endsAsNumber (x : Mm) (e0 : x 3 6 = 0) (e1 : x 3 7 = 1) : CnI YC yX8_endsAsNumber cX8_endsAsNumber 1 .int 0 0 (fun G => [vr G 3]) x (fun z y' => (z = 1) ∧ (y' = x)) := by
  refine cn_I (by decide) (fun _ => Nat.le_of_ble_eq_true rfl) (fun G C h hq => ?_)
  have h : OK YC G C cX8_endsAsNumber RX8 1 (some .int) 0 0 := h
  show FW YC G C 1 x 0 [(0, vr G 3)] []
  refine fr_bipush h rfl dX8_endsAsNumber_0 ?_
  refine fr_aload_n h rfl 0 rfl dX8_endsAsNumber_2 ?_
  refine fr_geti (iz := 6) h kX8 fX8_40 (St_at St_3) rfl rfl (by decide) (by decide) (St_f6 St_3) dX8_endsAsNumber_3 (fun z1 w2 w3 q4 => ?_)
  refine fr_imul h dX8_endsAsNumber_6 ?_
  refine fr_aload_n h rfl 0 rfl dX8_endsAsNumber_7 ?_
  refine fr_geti (iz := 7) h kX8 fX8_24 (St_at St_3) rfl rfl (by decide) (by decide) (St_f7 St_3) dX8_endsAsNumber_8 (fun z5 w6 w7 q8 => ?_)
  refine fr_iadd h dX8_endsAsNumber_11 ?_
  exact fr_iret h hq (by omega) ⟨(by omega), rfl⟩ dX8_endsAsNumber_12
set_option maxHeartbeats 200000 in
theorem f_X8_setEnds (x : Mm) (p : Int) (w : Int) (h_p : fm_r p) (h_w : fm_r w) (e0 : x 3 6 = 0) (e1 : x 3 7 = 1) : CnI YC yX8_setEnds cX8_setEnds 4 .int 2 42 (fun G => [vr G 3, vi p, vi w]) x (fun z y' => ((0 ≤ p ∧ p < 7 ∧ 0 ≤ w ∧ w < 7 ∧ p ≠ w) → z = 1) ∧ (¬ (0 ≤ p ∧ p < 7 ∧ 0 ≤ w ∧ w < 7 ∧ p ≠ w) → z = (-1)) ∧ (∀ a : Int, (a < 3 ∨ 7 < a) → y' a = x a)) := by
  refine cn_I (by decide) (fun _ => Nat.le_of_ble_eq_true rfl) (fun G C h hq => ?_)
  have h : OK YC G C cX8_setEnds RX8 4 (some .int) 2 42 := h
  show FW YC G C 4 x 0 [(0, vr G 3), (1, vi p), (2, vi w)] []
  refine fr_iload_n h rfl 1 rfl dX8_setEnds_0 ?_
  refine fr_iload_n h rfl 2 rfl dX8_setEnds_1 ?_
  refine fr_csI h wX8_areTwoNodes lX8_58 (c_X8_areTwoNodes x p w (by omega) (by omega)) rfl (by decide) (by decide) rfl (Nat.le_of_ble_eq_true rfl) dX8_setEnds_2 (fun z2 x1 w3 p4 => ?_)
  obtain ⟨p5, p6, y7⟩ := p4
  rw [y7]
  clear y7
  refine fr_if_ne (tgt := 10) h dX8_setEnds_5 (by decide) (by omega) (fun c8 => ?_) (fun c8 => ?_)
  ·
    refine fr_aload_n h rfl 0 rfl dX8_setEnds_10 ?_
    refine fr_cvI h kX8 (St_at St_3) wX8_endsAsNumber lX8_71 (f_X8_endsAsNumber x (by omega) (by omega)) rfl (by decide) (by decide) rfl (Nat.le_of_ble_eq_true rfl) dX8_setEnds_11 (fun z10 x9 w11 p12 => ?_)
    obtain ⟨p13, y14⟩ := p12
    rw [y14]
    clear y14
    refine fr_istore_n (L' := [(0, vr G 3), (1, vi p), (2, vi w), (3, vi z10)]) h rfl dX8_setEnds_14 (by decide) [1, 2, 3, 0] rfl ?_
    refine fr_aload_n h rfl 0 rfl dX8_setEnds_15 ?_
    refine fr_iload_n h rfl 1 rfl dX8_setEnds_16 ?_
    refine fr_puti (iz := 6) h kX8 fX8_40 (St_at St_3) rfl rfl (by decide) (by decide) rfl (by decide +kernel) (St_f6 St_3) (by omega) (by omega) dX8_setEnds_17 ?_
    refine fr_mem (fun x15 m16 => ?_)
    refine fr_aload_n h rfl 0 rfl dX8_setEnds_20 ?_
    refine fr_iload_n h rfl 2 rfl dX8_setEnds_21 ?_
    refine fr_puti (iz := 7) h kX8 fX8_24 (St_at St_3) rfl rfl (by decide) (by decide) rfl (by decide +kernel) (St_f7 St_3) (by omega) (by omega) dX8_setEnds_22 ?_
    refine fr_mem (fun x17 m18 => ?_)
    refine fr_iload_n h rfl 3 rfl dX8_setEnds_25 ?_
    exact fr_iret h hq (by omega) ⟨(by omega), (by omega), (fun a k0 => ((fm_up_row m18 (by omega)).trans (fm_up_row m16 (by omega))))⟩ dX8_setEnds_26
  ·
    refine fr_iconst h dX8_setEnds_8 ?_
    exact fr_iret h hq (by omega) ⟨(by omega), (by omega), (fun a _ => rfl)⟩ dX8_setEnds_9
set_option maxHeartbeats 200000 in
theorem f_X8_allNumbers (x : Mm) (e0 : ∀ j : Int, 0 ≤ j → j < 4 → x (3 + 1) j = 0) : CnI YC yX8_allNumbers cX8_allNumbers 3 .int 0 0 (fun G => [vr G 3]) x (fun z y' => (z = 0) ∧ (y' = x)) := by
  refine cn_I (by decide) (fun _ => Nat.le_of_ble_eq_true rfl) (fun G C h hq => ?_)
  have h : OK YC G C cX8_allNumbers RX8 3 (some .int) 0 0 := h
  show FW YC G C 3 x 0 [(0, vr G 3)] []
  refine fr_iconst h dX8_allNumbers_0 ?_
  refine fr_istore_n (L' := [(0, vr G 3), (1, vi 0)]) h rfl dX8_allNumbers_1 (by decide) [1, 0] rfl ?_
  refine fr_iconst h dX8_allNumbers_2 ?_
  refine fr_istore_n (L' := [(0, vr G 3), (1, vi 0), (2, vi 0)]) h rfl dX8_allNumbers_3 (by decide) [1, 2, 0] rfl ?_
  have HL1 : ∀ (n1 : Nat) (l1_1 l2_1 : Int), fm_r l1_1 → 0 ≤ l1_1 → l1_1 ≤ 24 → fm_r l2_1 → 0 ≤ l2_1 → l2_1 ≤ 4 → l1_1 = 0 → (4 - l2_1) < n1 → FW YC G C 3 x 4 [(0, vr G 3), (1, vi l1_1), (2, vi l2_1)] [] := by
    intro n1
    induction n1 with
    | zero =>
      intro l1_1 l2_1 g1_0 g1_1 g1_2 g1_3 g1_4 g1_5 g1_6 g1_7
      exfalso; omega
    | succ n1 ih1 =>
      intro l1_1 l2_1 g1_0 g1_1 g1_2 g1_3 g1_4 g1_5 g1_6 g1_7
      refine fr_iload_n h rfl 2 rfl dX8_allNumbers_4 ?_
      refine fr_iconst h dX8_allNumbers_5 ?_
      refine fr_icmp_ge (tgt := 24) h dX8_allNumbers_6 (by decide) (by omega) (by omega) (fun c2 => ?_) (fun c2 => ?_)
      ·
        refine fr_iload_n h rfl 1 rfl dX8_allNumbers_24 ?_
        exact fr_iret h hq (by omega) ⟨(by omega), rfl⟩ dX8_allNumbers_25
      ·
        refine fr_iload_n h rfl 1 rfl dX8_allNumbers_9 ?_
        refine fr_aload_n h rfl 0 rfl dX8_allNumbers_10 ?_
        refine fr_getc (z := (3 + 1)) (iz := 0) h kX8 fX8_9 (St_at St_3) rfl rfl (St_f0 St_3) (by omega) dX8_allNumbers_11 ?_
        refine fr_iload_n h rfl 2 rfl dX8_allNumbers_14 ?_
        have hz := e0 l2_1 (by omega) (by omega)
        refine fr_iald h (St_a1 St_3) (by omega) (by omega) (St_r1 St_3 l2_1) dX8_allNumbers_15 (fun z3 w4 w5 q6 => ?_)
        refine fr_iadd h dX8_allNumbers_16 ?_
        refine fr_istore_n (L' := [(0, vr G 3), (1, vi (l1_1 + z3)), (2, vi l2_1)]) h rfl dX8_allNumbers_17 (by decide) [1, 0, 2] rfl ?_
        refine fr_iinc (j := 2) (L' := [(0, vr G 3), (1, vi (l1_1 + z3)), (2, vi (l2_1 + 1))]) h dX8_allNumbers_18 rfl (by decide) [1, 2, 0] rfl ?_
        refine fr_goto (tgt := 4) h dX8_allNumbers_21 (by decide) ?_
        exact ih1 (l1_1 + z3) (l2_1 + 1) (by omega) (by omega) (by omega) (by omega) (by omega) (by omega) (by omega) (by omega)
  exact HL1 ((4 - 0) + 1 : Int).toNat 0 0 (by omega) (by omega) (by omega) (by omega) (by omega) (by omega) (by omega) (by omega)
set_option maxHeartbeats 200000 in
theorem f_X5_takeLatest (x : Mm) (e0 : x 14 2 = 0) : CnI YC yX5_takeLatest cX5_takeLatest 2 .boolean 0 0 (fun G => [vr G 14, vr G 3]) x (fun z y' => (z = 0) ∧ (∀ a : Int, (a < 14 ∨ 65 < a) → (a < 3 ∨ 7 < a) → y' a = x a)) := by
  refine cn_I (by decide) (fun _ => Nat.le_of_ble_eq_true rfl) (fun G C h hq => ?_)
  have h : OK YC G C cX5_takeLatest RX5 2 (some .boolean) 0 0 := h
  show FW YC G C 2 x 0 [(0, vr G 14), (1, vr G 3)] []
  refine fr_aload_n h rfl 0 rfl dX5_takeLatest_0 ?_
  refine fr_geti (iz := 2) h kX5 fX5_18 at_14 rfl rfl (by decide) (by decide) rf_14_2 dX5_takeLatest_1 (fun z1 w2 w3 q4 => ?_)
  refine fr_if_ne (tgt := 9) h dX5_takeLatest_4 (by decide) (by omega) (fun c5 => ?_) (fun c5 => ?_)
  ·
    exfalso; omega
  ·
    refine fr_iconst h dX5_takeLatest_7 ?_
    exact fr_zret h rfl hq (by omega) ⟨(by omega), (fun a _ _ => rfl)⟩ dX5_takeLatest_8
set_option maxHeartbeats 200000 in
theorem f_X3_isUsable (x : Mm) (b : Int) (hb : isCu b) : CnI YC yX3_isUsable cX3_isUsable 1 .boolean 0 0 (fun G => [vr G b]) x (fun z y' => (z = 0 ∨ z = 1) ∧ (x b 2 = 0 → z = 0) ∧ (y' = x)) := by
  refine cn_I (by decide) (fun _ => Nat.le_of_ble_eq_true rfl) (fun G C h hq => ?_)
  have h : OK YC G C cX3_isUsable RX3 1 (some .boolean) 0 0 := h
  show FW YC G C 1 x 0 [(0, vr G b)] []
  have h_b := Cu_b hb
  refine fr_aload_n h rfl 0 rfl dX3_isUsable_0 ?_
  refine fr_geti (iz := 2) h kX3 fX3_18 (Cu_at hb) rfl rfl (by decide) (by decide) (Cu_f2 hb) dX3_isUsable_1 (fun z1 w2 w3 q4 => ?_)
  refine fr_if_eq (tgt := 18) h dX3_isUsable_4 (by decide) (by omega) (fun c5 => ?_) (fun c5 => ?_)
  ·
    refine fr_iconst h dX3_isUsable_18 ?_
    exact fr_zret h rfl hq (by omega) ⟨(by omega), (by omega), rfl⟩ dX3_isUsable_19
  ·
    refine fr_aload_n h rfl 0 rfl dX3_isUsable_7 ?_
    refine fr_geti (iz := 3) h kX3 fX3_22 (Cu_at hb) rfl rfl (by decide) (by decide) (Cu_f3 hb) dX3_isUsable_8 (fun z6 w7 w8 q9 => ?_)
    refine fr_if_ne (tgt := 18) h dX3_isUsable_11 (by decide) (by omega) (fun c10 => ?_) (fun c10 => ?_)
    ·
      refine fr_iconst h dX3_isUsable_18 ?_
      exact fr_zret h rfl hq (by omega) ⟨(by omega), (by omega), rfl⟩ dX3_isUsable_19
    ·
      refine fr_iconst h dX3_isUsable_14 ?_
      refine fr_goto (tgt := 19) h dX3_isUsable_15 (by decide) ?_
      exact fr_zret h rfl hq (by omega) ⟨(by omega), (by omega), rfl⟩ dX3_isUsable_19
set_option maxHeartbeats 200000 in
theorem f_X3_refusal (x : Mm) (b : Int) (hb : isCu b) : CnI YC yX3_refusal cX3_refusal 1 .int 0 0 (fun G => [vr G b]) x (fun z y' => ((-4) ≤ z) ∧ (z ≤ (-3)) ∧ (x b 2 = 0 → z = (-3)) ∧ (y' = x)) := by
  refine cn_I (by decide) (fun _ => Nat.le_of_ble_eq_true rfl) (fun G C h hq => ?_)
  have h : OK YC G C cX3_refusal RX3 1 (some .int) 0 0 := h
  show FW YC G C 1 x 0 [(0, vr G b)] []
  have h_b := Cu_b hb
  refine fr_aload_n h rfl 0 rfl dX3_refusal_0 ?_
  refine fr_geti (iz := 2) h kX3 fX3_18 (Cu_at hb) rfl rfl (by decide) (by decide) (Cu_f2 hb) dX3_refusal_1 (fun z1 w2 w3 q4 => ?_)
  refine fr_if_eq (tgt := 12) h dX3_refusal_4 (by decide) (by omega) (fun c5 => ?_) (fun c5 => ?_)
  ·
    refine fr_bipush h rfl dX3_refusal_12 ?_
    exact fr_iret h hq (by omega) ⟨(by omega), (by omega), (by omega), rfl⟩ dX3_refusal_14
  ·
    refine fr_bipush h rfl dX3_refusal_7 ?_
    refine fr_goto (tgt := 14) h dX3_refusal_9 (by decide) ?_
    exact fr_iret h hq (by omega) ⟨(by omega), (by omega), (by omega), rfl⟩ dX3_refusal_14
set_option maxHeartbeats 200000 in
theorem f_X1_allow (x : Mm) (p : Int) (v : Int) (h_p : fm_r p) (h_v : fm_l v) (e0 : x 98 3 = 0) : CnI YC yX1_allow cX1_allow 5 .boolean 0 0 (fun G => [vr G 98, vi p, vj v]) x (fun z y' => (z = 1) ∧ (y' = x)) := by
  refine cn_I (by decide) (fun _ => Nat.le_of_ble_eq_true rfl) (fun G C h hq => ?_)
  have h : OK YC G C cX1_allow RX1 5 (some .boolean) 0 0 := h
  show FW YC G C 5 x 0 [(0, vr G 98), (1, vi p), (2, vj v)] []
  refine fr_iconst h dX1_allow_0 ?_
  refine fr_istore (L' := [(0, vr G 98), (1, vi p), (2, vj v), (4, vi 0)]) h dX1_allow_1 (by decide) [1, 2, 3, 0] rfl ?_
  refine fr_iload h 3 rfl dX1_allow_3 ?_
  refine fr_aload_n h rfl 0 rfl dX1_allow_5 ?_
  refine fr_geti (iz := 3) h kX1 fX1_23 at_98 rfl rfl (by decide) (by decide) rf_98_3 dX1_allow_6 (fun z1 w2 w3 q4 => ?_)
  refine fr_icmp_ge (tgt := 42) h dX1_allow_9 (by decide) (by omega) (by omega) (fun c5 => ?_) (fun c5 => ?_)
  ·
    refine fr_iconst h dX1_allow_42 ?_
    exact fr_zret h rfl hq (by omega) ⟨(by omega), rfl⟩ dX1_allow_43
  ·
    exfalso; omega
