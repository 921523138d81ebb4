set_option maxHeartbeats 200000 in
theorem f_X2_numberAt (x : Mm) (v : Int) (p : Int) (h_v : fm_l v) (h_p : fm_r p) : CnI YC yX2_numberAt cX2_numberAt 3 .int 0 0 (fun G => [vj v, vi p]) x (fun z y' => ((-1) ≤ z) ∧ (z ≤ 14) ∧ (v = 0 → z = (-1)) ∧ (y' = x)) := by
  refine cn_I (by decide) (fun _ => Nat.le_of_ble_eq_true rfl) (fun G C h hq => ?_)
  have h : OK YC G C cX2_numberAt RX2 3 (some .int) 0 0 := h
  show FW YC G C 3 x 0 [(0, vj v), (2, vi p)] []
  refine fr_lload_n h rfl 0 rfl dX2_numberAt_0 ?_
  refine fr_bipush h rfl dX2_numberAt_1 ?_
  refine fr_iconst h dX2_numberAt_3 ?_
  refine fr_iload_n h rfl 1 rfl dX2_numberAt_4 ?_
  refine fr_imul h dX2_numberAt_5 ?_
  refine fr_normi (fun z1 w2 q3 => ?_)
  have w4 : fm_r ((4 * p)) → z1 = (4 * p) := fun q => (iI_inj q w2 q3).symm
  refine fr_isub h dX2_numberAt_6 ?_
  refine fr_normi (fun z5 w6 q7 => ?_)
  have w8 : fm_r ((28 - z1)) → z5 = (28 - z1) := fun q => (iI_inj q w6 q7).symm
  refine fr_lushr h dX2_numberAt_7 (fun z9 w10 q11 w12 => ?_)
  have w13 := z_lushr w10 q11
  refine fr_ldc2 (z := 15) h (by exact tb_4 (i := 78) (by decide +kernel) (by decide +kernel)) rfl dX2_numberAt_8 ?_
  refine fr_land h dX2_numberAt_11 (fun z14 w15 q16 w17 => ?_)
  have w18 := z_land w15 q16
  have w19 : (0 : Int) ≤ 15 → (15 : Int) ≤ 9223372036854775807 → 0 ≤ z14 ∧ z14 ≤ 15 := w17
  refine fr_l2i h dX2_numberAt_12 (fun z20 w21 q22 w23 => ?_)
  refine fr_iconst h dX2_numberAt_13 ?_
  refine fr_isub h dX2_numberAt_14 ?_
  refine fr_normi (fun z24 w25 q26 => ?_)
  have w27 : fm_r ((z20 - 1)) → z24 = (z20 - 1) := fun q => (iI_inj q w25 q26).symm
  exact fr_iret h hq (by omega) ⟨(by omega), (by omega), (by omega), rfl⟩ dX2_numberAt_15
set_option maxHeartbeats 200000 in
theorem f_X2_lengthOf (x : Mm) (v : Int) (h_v : fm_l v) : CnI YC yX2_lengthOf cX2_lengthOf 3 .int 1 22 (fun G => [vj v]) x (fun z y' => (0 ≤ z) ∧ (z ≤ 8) ∧ (v = 0 → z = 0) ∧ (y' = x)) := by
  refine cn_I (by decide) (fun _ => Nat.le_of_ble_eq_true rfl) (fun G C h hq => ?_)
  have h : OK YC G C cX2_lengthOf RX2 3 (some .int) 1 22 := h
  show FW YC G C 3 x 0 [(0, vj v)] []
  refine fr_iconst h dX2_lengthOf_0 ?_
  refine fr_istore_n (L' := [(0, vj v), (2, vi 0)]) h rfl dX2_lengthOf_1 (by decide) [1, 0] rfl ?_
  have HL1 : ∀ (n1 : Nat) (l2_1 : Int), fm_r l2_1 → 0 ≤ l2_1 → l2_1 ≤ 8 → (v = 0 → l2_1 = 0) → (8 - l2_1) < n1 → FW YC G C 3 x 2 [(0, vj v), (2, vi l2_1)] [] := by
    intro n1
    induction n1 with
    | zero =>
      intro l2_1 g1_0 g1_1 g1_2 g1_3 g1_4
      exfalso; omega
    | succ n1 ih1 =>
      intro l2_1 g1_0 g1_1 g1_2 g1_3 g1_4
      refine fr_iload_n h rfl 1 rfl dX2_lengthOf_2 ?_
      refine fr_bipush h rfl dX2_lengthOf_3 ?_
      refine fr_icmp_ge (tgt := 22) h dX2_lengthOf_5 (by decide) (by omega) (by omega) (fun c2 => ?_) (fun c2 => ?_)
      ·
        refine fr_iload_n h rfl 1 rfl dX2_lengthOf_22 ?_
        exact fr_iret h hq (by omega) ⟨(by omega), (by omega), (by omega), rfl⟩ dX2_lengthOf_23
      ·
        refine fr_lload_n h rfl 0 rfl dX2_lengthOf_8 ?_
        refine fr_iload_n h rfl 1 rfl dX2_lengthOf_9 ?_
        refine fr_csI h wX2_numberAt lX2_13 (f_X2_numberAt x v l2_1 (by omega) (by omega)) rfl (by decide) (by decide) rfl (Nat.le_of_ble_eq_true rfl) dX2_lengthOf_10 (fun z4 x3 w5 p6 => ?_)
        obtain ⟨p7, p8, p9, y10⟩ := p6
        rw [y10]
        clear y10
        refine fr_if_lt (tgt := 22) h dX2_lengthOf_13 (by decide) (by omega) (fun c11 => ?_) (fun c11 => ?_)
        ·
          refine fr_iload_n h rfl 1 rfl dX2_lengthOf_22 ?_
          exact fr_iret h hq (by omega) ⟨(by omega), (by omega), (by omega), rfl⟩ dX2_lengthOf_23
        ·
          refine fr_iinc (j := 1) (L' := [(0, vj v), (2, vi (l2_1 + 1))]) h dX2_lengthOf_16 rfl (by decide) [1, 0] rfl ?_
          refine fr_goto (tgt := 2) h dX2_lengthOf_19 (by decide) ?_
          exact ih1 (l2_1 + 1) (by omega) (by omega) (by omega) (by omega) (by omega)
  exact HL1 ((8 - 0) + 1 : Int).toNat 0 (by omega) (by omega) (by omega) (by omega) (by omega)
set_option maxHeartbeats 200000 in
theorem f_X2_differences (x : Mm) (v : Int) (w : Int) (h_v : fm_l v) (h_w : fm_l w) : CnI YC yX2_differences cX2_differences 6 .int 1 22 (fun G => [vj v, vj w]) x (fun z y' => (v = 0 → w = 0 → z = 0) ∧ (y' = x)) := by
  refine cn_I (by decide) (fun _ => Nat.le_of_ble_eq_true rfl) (fun G C h hq => ?_)
  have h : OK YC G C cX2_differences RX2 6 (some .int) 1 22 := h
  show FW YC G C 6 x 0 [(0, vj v), (2, vj w)] []
  refine fr_iconst h dX2_differences_0 ?_
  refine fr_istore (L' := [(0, vj v), (2, vj w), (4, vi 0)]) h dX2_differences_1 (by decide) [1, 2, 0] rfl ?_
  refine fr_iconst h dX2_differences_3 ?_
  refine fr_istore (L' := [(0, vj v), (2, vj w), (4, vi 0), (5, vi 0)]) h dX2_differences_4 (by decide) [1, 2, 3, 0] rfl ?_
  have HL1 : ∀ (n1 : Nat) (l4_1 l5_1 : Int), fm_r l4_1 → fm_r l5_1 → 0 ≤ l5_1 → l5_1 ≤ 8 → (v = 0 → w = 0 → l4_1 = 0) → (8 - l5_1) < n1 → FW YC G C 6 x 6 [(0, vj v), (2, vj w), (4, vi l4_1), (5, vi l5_1)] [] := by
    intro n1
    induction n1 with
    | zero =>
      intro l4_1 l5_1 g1_0 g1_1 g1_2 g1_3 g1_4 g1_5
      exfalso; omega
    | succ n1 ih1 =>
      intro l4_1 l5_1 g1_0 g1_1 g1_2 g1_3 g1_4 g1_5
      refine fr_iload h 3 rfl dX2_differences_6 ?_
      refine fr_bipush h rfl dX2_differences_8 ?_
      refine fr_icmp_ge (tgt := 43) h dX2_differences_10 (by decide) (by omega) (by omega) (fun c2 => ?_) (fun c2 => ?_)
      ·
        refine fr_iload h 2 rfl dX2_differences_43 ?_
        exact fr_iret h hq (by omega) ⟨(by omega), rfl⟩ dX2_differences_45
      ·
        refine fr_lload_n h rfl 0 rfl dX2_differences_13 ?_
        refine fr_iload h 3 rfl dX2_differences_14 ?_
        refine fr_csI h wX2_numberAt lX2_13 (f_X2_numberAt x v l5_1 (by omega) (by omega)) rfl (by decide) (by decide) rfl (Nat.le_of_ble_eq_true rfl) dX2_differences_16 (fun z4 x3 w5 p6 => ?_)
        obtain ⟨p7, p8, p9, y10⟩ := p6
        rw [y10]
        clear y10
        refine fr_lload_n h rfl 1 rfl dX2_differences_19 ?_
        refine fr_iload h 3 rfl dX2_differences_20 ?_
        refine fr_csI h wX2_numberAt lX2_13 (f_X2_numberAt x w l5_1 (by omega) (by omega)) rfl (by decide) (by decide) rfl (Nat.le_of_ble_eq_true rfl) dX2_differences_22 (fun z12 x11 w13 p14 => ?_)
        obtain ⟨p15, p16, p17, y18⟩ := p14
        rw [y18]
        clear y18
        refine fr_icmp_eq (tgt := 37) h dX2_differences_25 (by decide) (by omega) (by omega) (fun c19 => ?_) (fun c19 => ?_)
        ·
          refine fr_iinc (j := 3) (L' := [(0, vj v), (2, vj w), (4, vi l4_1), (5, vi (l5_1 + 1))]) h dX2_differences_37 rfl (by decide) [1, 2, 3, 0] rfl ?_
          refine fr_goto (tgt := 6) h dX2_differences_40 (by decide) ?_
          exact ih1 l4_1 (l5_1 + 1) (by omega) (by omega) (by omega) (by omega) (by omega) (by omega)
        ·
          refine fr_iload h 2 rfl dX2_differences_28 ?_
          refine fr_iconst h dX2_differences_30 ?_
          refine fr_iload h 3 rfl dX2_differences_31 ?_
          refine fr_ishl h dX2_differences_33 (fun z20 w21 q22 w23 => ?_)
          refine fr_ior h dX2_differences_34 (fun z24 w25 q26 w27 => ?_)
          refine fr_istore (L' := [(0, vj v), (2, vj w), (4, vi z24), (5, vi l5_1)]) h dX2_differences_35 (by decide) [1, 2, 0, 3] rfl ?_
          refine fr_iinc (j := 3) (L' := [(0, vj v), (2, vj w), (4, vi z24), (5, vi (l5_1 + 1))]) h dX2_differences_37 rfl (by decide) [1, 2, 3, 0] rfl ?_
          refine fr_goto (tgt := 6) h dX2_differences_40 (by decide) ?_
          exact ih1 z24 (l5_1 + 1) (by omega) (by omega) (by omega) (by omega) (by omega) (by omega)
  exact HL1 ((8 - 0) + 1 : Int).toNat 0 0 (by omega) (by omega) (by omega) (by omega) (by omega) (by omega)
set_option maxHeartbeats 200000 in
theorem f_X2_numbersOf (x : Mm) (v : Int) (h_v : fm_l v) : CnI YC yX2_numbersOf cX2_numbersOf 5 .int 2 44 (fun G => [vj v]) x (fun z y' => (v = 0 → z = 0) ∧ (y' = x)) := by
  refine cn_I (by decide) (fun _ => Nat.le_of_ble_eq_true rfl) (fun G C h hq => ?_)
  have h : OK YC G C cX2_numbersOf RX2 5 (some .int) 2 44 := h
  show FW YC G C 5 x 0 [(0, vj v)] []
  refine fr_iconst h dX2_numbersOf_0 ?_
  refine fr_istore_n (L' := [(0, vj v), (2, vi 0)]) h rfl dX2_numbersOf_1 (by decide) [1, 0] rfl ?_
  refine fr_lload_n h rfl 0 rfl dX2_numbersOf_2 ?_
  refine fr_csI h wX2_lengthOf lX2_17 (f_X2_lengthOf x v (by omega)) rfl (by decide) (by decide) rfl (Nat.le_of_ble_eq_true rfl) dX2_numbersOf_3 (fun z2 x1 w3 p4 => ?_)
  obtain ⟨p5, p6, p7, y8⟩ := p4
  rw [y8]
  clear y8
  refine fr_istore_n (L' := [(0, vj v), (2, vi 0), (3, vi z2)]) h rfl dX2_numbersOf_6 (by decide) [1, 2, 0] rfl ?_
  refine fr_iconst h dX2_numbersOf_7 ?_
  refine fr_istore (L' := [(0, vj v), (2, vi 0), (3, vi z2), (4, vi 0)]) h dX2_numbersOf_8 (by decide) [1, 2, 3, 0] rfl ?_
  have HL9 : ∀ (n9 : Nat) (l2_9 l4_9 : Int), fm_r l2_9 → fm_r l4_9 → 0 ≤ l4_9 → l4_9 ≤ 8 → (v = 0 → l2_9 = 0) → l4_9 ≤ z2 → (z2 - l4_9) < n9 → FW YC G C 5 x 10 [(0, vj v), (2, vi l2_9), (3, vi z2), (4, vi l4_9)] [] := by
    intro n9
    induction n9 with
    | zero =>
      intro l2_9 l4_9 g9_0 g9_1 g9_2 g9_3 g9_4 g9_5 g9_6
      exfalso; omega
    | succ n9 ih9 =>
      intro l2_9 l4_9 g9_0 g9_1 g9_2 g9_3 g9_4 g9_5 g9_6
      refine fr_iload h 3 rfl dX2_numbersOf_10 ?_
      refine fr_iload_n h rfl 2 rfl dX2_numbersOf_12 ?_
      refine fr_icmp_ge (tgt := 33) h dX2_numbersOf_13 (by decide) (by omega) (by omega) (fun c10 => ?_) (fun c10 => ?_)
      ·
        refine fr_iload_n h rfl 1 rfl dX2_numbersOf_33 ?_
        exact fr_iret h hq (by omega) ⟨(by omega), rfl⟩ dX2_numbersOf_34
      ·
        refine fr_iload_n h rfl 1 rfl dX2_numbersOf_16 ?_
        refine fr_iconst h dX2_numbersOf_17 ?_
        refine fr_lload_n h rfl 0 rfl dX2_numbersOf_18 ?_
        refine fr_iload h 3 rfl dX2_numbersOf_19 ?_
        refine fr_csI h wX2_numberAt lX2_13 (f_X2_numberAt x v l4_9 (by omega) (by omega)) rfl (by decide) (by decide) rfl (Nat.le_of_ble_eq_true rfl) dX2_numbersOf_21 (fun z12 x11 w13 p14 => ?_)
        obtain ⟨p15, p16, p17, y18⟩ := p14
        rw [y18]
        clear y18
        refine fr_ishl h dX2_numbersOf_24 (fun z19 w20 q21 w22 => ?_)
        refine fr_ior h dX2_numbersOf_25 (fun z23 w24 q25 w26 => ?_)
        refine fr_istore_n (L' := [(0, vj v), (2, vi z23), (3, vi z2), (4, vi l4_9)]) h rfl dX2_numbersOf_26 (by decide) [1, 0, 2, 3] rfl ?_
        refine fr_iinc (j := 3) (L' := [(0, vj v), (2, vi z23), (3, vi z2), (4, vi (l4_9 + 1))]) h dX2_numbersOf_27 rfl (by decide) [1, 2, 3, 0] rfl ?_
        refine fr_goto (tgt := 10) h dX2_numbersOf_30 (by decide) ?_
        exact ih9 z23 (l4_9 + 1) (by omega) (by omega) (by omega) (by omega) (by omega) (by omega) (by omega)
  exact HL9 ((z2 - 0) + 1 : Int).toNat 0 0 (by omega) (by omega) (by omega) (by omega) (by omega) (by omega) (by omega)
set_option maxHeartbeats 200000 in
theorem f_X2_fault (x : Mm) : CnI YC yX2_fault cX2_fault 2 .int 1 21 (fun G => [vr G 1]) x (fun z y' => ((-1) ≤ z) ∧ (z ≤ 80) ∧ (x 1 1 = 0 → z = (-1)) ∧ (y' = x)) := by
  refine cn_I (by decide) (fun _ => Nat.le_of_ble_eq_true rfl) (fun G C h hq => ?_)
  have h : OK YC G C cX2_fault RX2 2 (some .int) 1 21 := h
  show FW YC G C 2 x 0 [(0, vr G 1)] []
  refine fr_iconst h dX2_fault_0 ?_
  refine fr_istore_n (L' := [(0, vr G 1), (1, vi 0)]) h rfl dX2_fault_1 (by decide) [1, 0] rfl ?_
  have HL1 : ∀ (n1 : Nat) (l1_1 : Int), fm_r l1_1 → 0 ≤ l1_1 → l1_1 ≤ 80 → (80 - l1_1) < n1 → FW YC G C 2 x 2 [(0, vr G 1), (1, vi l1_1)] [] := by
    intro n1
    induction n1 with
    | zero =>
      intro l1_1 g1_0 g1_1 g1_2 g1_3
      exfalso; omega
    | succ n1 ih1 =>
      intro l1_1 g1_0 g1_1 g1_2 g1_3
      refine fr_iload_n h rfl 1 rfl dX2_fault_2 ?_
      refine fr_aload_n h rfl 0 rfl dX2_fault_3 ?_
      refine fr_cvI h kX9 at_1 wX9_length lX2_21 (c_X9_length x) rfl (by decide) (by decide) rfl (Nat.le_of_ble_eq_true rfl) dX2_fault_4 (fun z3 x2 w4 p5 => ?_)
      obtain ⟨p6, p7, p8, y9⟩ := p5
      rw [y9]
      clear y9
      refine fr_icmp_ge (tgt := 44) h dX2_fault_7 (by decide) (by omega) (by omega) (fun c10 => ?_) (fun c10 => ?_)
      ·
        refine fr_iconst h dX2_fault_44 ?_
        exact fr_iret h hq (by omega) ⟨(by omega), (by omega), (by omega), rfl⟩ dX2_fault_45
      ·
        refine fr_iload_n h rfl 1 rfl dX2_fault_10 ?_
        refine fr_bipush h rfl dX2_fault_11 ?_
        refine fr_icmp_ge (tgt := 36) h dX2_fault_13 (by decide) (by omega) (by omega) (fun c11 => ?_) (fun c11 => ?_)
        ·
          refine fr_iload_n h rfl 1 rfl dX2_fault_36 ?_
          exact fr_iret h hq (by omega) ⟨(by omega), (by omega), (by omega), rfl⟩ dX2_fault_37
        ·
          refine fr_aload_n h rfl 0 rfl dX2_fault_16 ?_
          refine fr_iload_n h rfl 1 rfl dX2_fault_17 ?_
          refine fr_cvI h kX9 at_1 wX9_at lX2_27 (c_X9_at x l1_1 (by omega)) rfl (by decide) (by decide) rfl (Nat.le_of_ble_eq_true rfl) dX2_fault_18 (fun z13 x12 w14 p15 => ?_)
          obtain ⟨p16, p17, p18, p19, y20⟩ := p15
          rw [y20]
          clear y20
          refine fr_bipush h rfl dX2_fault_21 ?_
          refine fr_icmp_lt (tgt := 36) h dX2_fault_23 (by decide) (by omega) (by omega) (fun c21 => ?_) (fun c21 => ?_)
          ·
            refine fr_iload_n h rfl 1 rfl dX2_fault_36 ?_
            exact fr_iret h hq (by omega) ⟨(by omega), (by omega), (by omega), rfl⟩ dX2_fault_37
          ·
            refine fr_aload_n h rfl 0 rfl dX2_fault_26 ?_
            refine fr_iload_n h rfl 1 rfl dX2_fault_27 ?_
            refine fr_cvI h kX9 at_1 wX9_at lX2_27 (c_X9_at x l1_1 (by omega)) rfl (by decide) (by decide) rfl (Nat.le_of_ble_eq_true rfl) dX2_fault_28 (fun z23 x22 w24 p25 => ?_)
            obtain ⟨p26, p27, p28, p29, y30⟩ := p25
            rw [y30]
            clear y30
            refine fr_bipush h rfl dX2_fault_31 ?_
            refine fr_icmp_lt (tgt := 38) h dX2_fault_33 (by decide) (by omega) (by omega) (fun c31 => ?_) (fun c31 => ?_)
            ·
              refine fr_iinc (j := 1) (L' := [(0, vr G 1), (1, vi (l1_1 + 1))]) h dX2_fault_38 rfl (by decide) [1, 0] rfl ?_
              refine fr_goto (tgt := 2) h dX2_fault_41 (by decide) ?_
              exact ih1 (l1_1 + 1) (by omega) (by omega) (by omega) (by omega)
            ·
              refine fr_iload_n h rfl 1 rfl dX2_fault_36 ?_
              exact fr_iret h hq (by omega) ⟨(by omega), (by omega), (by omega), rfl⟩ dX2_fault_37
  exact HL1 ((80 - 0) + 1 : Int).toNat 0 (by omega) (by omega) (by omega) (by omega)
set_option maxHeartbeats 200000 in
theorem f_X2_of (x : Mm) : CnL YC yX2_of cX2_of 5 1 23 (fun G => [vr G 1]) x (fun z y' => (x 1 1 = 0 → z = 0) ∧ (y' = x)) := by
  refine cn_L (by decide) (fun _ => Nat.le_of_ble_eq_true rfl) (fun G C h hq => ?_)
  have h : OK YC G C cX2_of RX2 5 (some .long) 1 23 := h
  show FW YC G C 5 x 0 [(0, vr G 1)] []
  refine fr_lconst (z := 0) h rfl dX2_of_0 ?_
  refine fr_lstore_n (L' := [(0, vr G 1), (1, vj 0)]) h rfl dX2_of_1 (by decide) [1, 0] rfl ?_
  refine fr_aload_n h rfl 0 rfl dX2_of_2 ?_
  refine fr_cvI h kX9 at_1 wX9_length lX2_21 (c_X9_length x) rfl (by decide) (by decide) rfl (Nat.le_of_ble_eq_true rfl) dX2_of_3 (fun z2 x1 w3 p4 => ?_)
  obtain ⟨p5, p6, p7, y8⟩ := p4
  rw [y8]
  clear y8
  refine fr_bipush h rfl dX2_of_6 ?_
  refine fr_mmin h (by omega) (by omega) (tb_4 (i := 113) (by decide +kernel) (by decide +kernel)) w_mmin (by decide) (by decide) (Nat.le_of_ble_eq_true rfl) dX2_of_8 (fun z9 w10 w11 w12 => ?_)
  refine fr_istore_n (L' := [(0, vr G 1), (1, vj 0), (3, vi z9)]) h rfl dX2_of_11 (by decide) [1, 2, 0] rfl ?_
  refine fr_iconst h dX2_of_12 ?_
  refine fr_istore (L' := [(0, vr G 1), (1, vj 0), (3, vi z9), (4, vi 0)]) h dX2_of_13 (by decide) [1, 2, 3, 0] rfl ?_
  have HL13 : ∀ (n13 : Nat) (l1_13 l4_13 : Int), fm_l l1_13 → fm_r l4_13 → 0 ≤ l4_13 → l4_13 ≤ 8 → (x 1 1 = 0 → l1_13 = 0) → l4_13 ≤ z9 → (z9 - l4_13) < n13 → FW YC G C 5 x 15 [(0, vr G 1), (1, vj l1_13), (3, vi z9), (4, vi l4_13)] [] := by
    intro n13
    induction n13 with
    | zero =>
      intro l1_13 l4_13 g13_0 g13_1 g13_2 g13_3 g13_4 g13_5 g13_6
      exfalso; omega
    | succ n13 ih13 =>
      intro l1_13 l4_13 g13_0 g13_1 g13_2 g13_3 g13_4 g13_5 g13_6
      refine fr_iload h 3 rfl dX2_of_15 ?_
      refine fr_iload_n h rfl 2 rfl dX2_of_17 ?_
      refine fr_icmp_ge (tgt := 43) h dX2_of_18 (by decide) (by omega) (by omega) (fun c14 => ?_) (fun c14 => ?_)
      ·
        refine fr_lload_n h rfl 1 rfl dX2_of_43 ?_
        exact fr_lret h hq (by omega) ⟨(by omega), rfl⟩ dX2_of_44
      ·
        refine fr_lload_n h rfl 1 rfl dX2_of_21 ?_
        refine fr_iload h 3 rfl dX2_of_22 ?_
        refine fr_aload_n h rfl 0 rfl dX2_of_24 ?_
        refine fr_iload h 3 rfl dX2_of_25 ?_
        refine fr_cvI h kX9 at_1 wX9_at lX2_27 (c_X9_at x l4_13 (by omega)) rfl (by decide) (by decide) rfl (Nat.le_of_ble_eq_true rfl) dX2_of_27 (fun z16 x15 w17 p18 => ?_)
        obtain ⟨p19, p20, p21, p22, y23⟩ := p18
        rw [y23]
        clear y23
        refine fr_bipush h rfl dX2_of_30 ?_
        refine fr_isub h dX2_of_32 ?_
        refine fr_csL h wX2_with lX2_37 (c_X2_with x l1_13 l4_13 (z16 - 97) (by omega) (by omega) (by omega)) rfl (by decide) (by decide) rfl (Nat.le_of_ble_eq_true rfl) dX2_of_33 (fun z25 x24 w26 p27 => ?_)
        have y28 := p27
        rw [y28]
        clear y28
        refine fr_lstore_n (L' := [(0, vr G 1), (1, vj z25), (3, vi z9), (4, vi l4_13)]) h rfl dX2_of_36 (by decide) [1, 0, 2, 3] rfl ?_
        refine fr_iinc (j := 3) (L' := [(0, vr G 1), (1, vj z25), (3, vi z9), (4, vi (l4_13 + 1))]) h dX2_of_37 rfl (by decide) [1, 2, 3, 0] rfl ?_
        refine fr_goto (tgt := 15) h dX2_of_40 (by decide) ?_
        exact ih13 z25 (l4_13 + 1) (by omega) (by omega) (by omega) (by omega) (by omega) (by omega) (by omega)
  exact HL13 ((z9 - 0) + 1 : Int).toNat 0 0 (by omega) (by omega) (by omega) (by omega) (by omega) (by omega) (by omega)
set_option maxHeartbeats 200000 in
theorem f_X1_lastOf (x : Mm) (v : Int) (h_v : fm_l v) : CnI YC yX1_lastOf cX1_lastOf 3 .int 2 44 (fun G => [vj v]) x (fun z y' => ((-1) ≤ z) ∧ (z ≤ 14) ∧ (v = 0 → z = (-1)) ∧ (y' = x)) := by
  refine cn_I (by decide) (fun _ => Nat.le_of_ble_eq_true rfl) (fun G C h hq => ?_)
  have h : OK YC G C cX1_lastOf RX1 3 (some .int) 2 44 := h
  show FW YC G C 3 x 0 [(0, vj v)] []
  refine fr_lload_n h rfl 0 rfl dX1_lastOf_0 ?_
  refine fr_csI h wX2_lengthOf lX1_44 (f_X2_lengthOf x v (by omega)) rfl (by decide) (by decide) rfl (Nat.le_of_ble_eq_true rfl) dX1_lastOf_1 (fun z2 x1 w3 p4 => ?_)
  obtain ⟨p5, p6, p7, y8⟩ := p4
  rw [y8]
  clear y8
  refine fr_istore_n (L' := [(0, vj v), (2, vi z2)]) h rfl dX1_lastOf_4 (by decide) [1, 0] rfl ?_
  refine fr_iload_n h rfl 1 rfl dX1_lastOf_5 ?_
  refine fr_if_ne (tgt := 13) h dX1_lastOf_6 (by decide) (by omega) (fun c9 => ?_) (fun c9 => ?_)
  ·
    refine fr_lload_n h rfl 0 rfl dX1_lastOf_13 ?_
    refine fr_iload_n h rfl 1 rfl dX1_lastOf_14 ?_
    refine fr_iconst h dX1_lastOf_15 ?_
    refine fr_isub h dX1_lastOf_16 ?_
    refine fr_csI h wX2_numberAt lX1_34 (f_X2_numberAt x v (z2 - 1) (by omega) (by omega)) rfl (by decide) (by decide) rfl (Nat.le_of_ble_eq_true rfl) dX1_lastOf_17 (fun z11 x10 w12 p13 => ?_)
    obtain ⟨p14, p15, p16, y17⟩ := p13
    rw [y17]
    clear y17
    exact fr_iret h hq (by omega) ⟨(by omega), (by omega), (by omega), rfl⟩ dX1_lastOf_20
  ·
    refine fr_iconst h dX1_lastOf_9 ?_
    refine fr_goto (tgt := 20) h dX1_lastOf_10 (by decide) ?_
    exact fr_iret h hq (by omega) ⟨(by omega), (by omega), (by omega), rfl⟩ dX1_lastOf_20
set_option maxHeartbeats 200000 in
theorem f_X6_keyOf (x : Mm) (p : Int) (v : Int) (h_p : fm_r p) (h_v : fm_l v) : CnL YC yX6_keyOf cX6_keyOf 3 0 0 (fun G => [vi p, vj v]) x (fun z y' => (p = 0 → v = 0 → z = 0) ∧ (y' = x)) := by
  refine cn_L (by decide) (fun _ => Nat.le_of_ble_eq_true rfl) (fun G C h hq => ?_)
  have h : OK YC G C cX6_keyOf RX6 3 (some .long) 0 0 := h
  show FW YC G C 3 x 0 [(0, vi p), (1, vj v)] []
  refine fr_iload_n h rfl 0 rfl dX6_keyOf_0 ?_
  refine fr_i2l h (by omega) dX6_keyOf_1 ?_
  refine fr_bipush h rfl dX6_keyOf_2 ?_
  refine fr_lshl h dX6_keyOf_4 (fun z1 w2 q3 w4 => ?_)
  have w5 := z_lshl w2 q3
  refine fr_lload_n h rfl 1 rfl dX6_keyOf_5 ?_
  refine fr_lor h dX6_keyOf_6 (fun z6 w7 q8 w9 => ?_)
  have w10 := z_lor w7 q8
  exact fr_lret h hq (by omega) ⟨(by omega), rfl⟩ dX6_keyOf_7
set_option maxHeartbeats 200000 in
theorem f_X6_costOf (x : Mm) (v : Int) (h_v : fm_l v) : CnI YC yX6_costOf cX6_costOf 2 .int 0 0 (fun G => [vj v]) x (fun z y' => (v = 0 → z = 0) ∧ (y' = x)) := by
  refine cn_I (by decide) (fun _ => Nat.le_of_ble_eq_true rfl) (fun G C h hq => ?_)
  have h : OK YC G C cX6_costOf RX6 2 (some .int) 0 0 := h
  show FW YC G C 2 x 0 [(0, vj v)] []
  refine fr_lload_n h rfl 0 rfl dX6_costOf_0 ?_
  refine fr_bipush h rfl dX6_costOf_1 ?_
  refine fr_lshr h dX6_costOf_3 (fun z1 w2 q3 w4 => ?_)
  have w5 := z_lshr w2 q3
  refine fr_l2i h dX6_costOf_4 (fun z6 w7 q8 w9 => ?_)
  exact fr_iret h hq (by omega) ⟨(by omega), rfl⟩ dX6_costOf_5
set_option maxHeartbeats 200000 in
theorem f_X6_isKnown (x : Mm) (o : Int) (on : Nat) (ho : OrN o on) : CnI YC yX6_isKnown cX6_isKnown 1 .boolean 0 0 (fun G => [vr G o]) x (fun z y' => (z = 0 ∨ z = 1) ∧ (z = x o 2) ∧ (y' = x)) := by
  refine cn_I (by decide) (fun _ => Nat.le_of_ble_eq_true rfl) (fun G C h hq => ?_)
  have h : OK YC G C cX6_isKnown RX6 1 (some .boolean) 0 0 := h
  show FW YC G C 1 x 0 [(0, vr G o)] []
  have h_o := OrN_b ho
  refine fr_aload_n h rfl 0 rfl dX6_isKnown_0 ?_
  refine fr_geti (iz := 2) h kX6 fX6_19 (Or_at (OrN_is ho)) rfl rfl (by decide) (by decide) (Or_f2 (OrN_is ho)) dX6_isKnown_1 (fun z1 w2 w3 q4 => ?_)
  exact fr_zret h (nr_z (by omega) (by omega)) hq (by omega) ⟨(by omega), (by omega), rfl⟩ dX6_isKnown_4
set_option maxHeartbeats 200000 in
theorem f_X6_clear (x : Mm) (o : Int) (on : Nat) (ho : OrN o on) : CnV YC yX6_clear cX6_clear 1 0 0 (fun G => [vr G o]) x (fun y' => (y' o 1 = 0) ∧ (y' o 2 = x o 2) ∧ (∀ a : Int, (a < o ∨ o < a) → y' a = x a)) := by
  refine cn_V (by decide) (fun _ => Nat.le_of_ble_eq_true rfl) (fun G C h hq => ?_)
  have h : OK YC G C cX6_clear RX6 1 none 0 0 := h
  show FW YC G C 1 x 0 [(0, vr G o)] []
  have h_o := OrN_b ho
  refine fr_aload_n h rfl 0 rfl dX6_clear_0 ?_
  refine fr_iconst h dX6_clear_1 ?_
  refine fr_puti (iz := 1) h kX6 fX6_23 (Or_at (OrN_is ho)) rfl rfl (by decide) (by decide) rfl (by decide +kernel) (OrN_f1 ho) (by omega) (by omega) dX6_clear_2 ?_
  refine fr_mem (fun x1 m2 => ?_)
  have r3 := (fm_rd_s m2)
  have r4 := (fm_rd_i (a := o) (b := 2) m2 (by decide))
  exact fr_vret h hq ⟨(by omega), (by omega), (fun a k0 => (fm_up_row m2 (by omega)))⟩ dX6_clear_5
set_option maxHeartbeats 200000 in
theorem f_X6_add (x : Mm) (o : Int) (on : Nat) (ho : OrN o on) (p : Int) (v : Int) (h_p : fm_r p) (h_v : fm_l v) : CnV YC yX6_add cX6_add 4 1 22 (fun G => [vr G o, vi p, vj v]) x (fun y' => (x o 1 < on → y' o 1 = x o 1 + 1) ∧ (x o 1 < on → p = 0 → v = 0 → y' (o + 1) (x o 1) = 0) ∧ (y' o 2 = x o 2) ∧ (∀ a : Int, (a < o ∨ o + 1 < a) → y' a = x a)) := by
  refine cn_V (by decide) (fun _ => Nat.le_of_ble_eq_true rfl) (fun G C h hq => ?_)
  have h : OK YC G C cX6_add RX6 4 none 1 22 := h
  show FW YC G C 4 x 0 [(0, vr G o), (1, vi p), (2, vj v)] []
  have h_o := OrN_b ho
  refine fr_aload_n h rfl 0 rfl dX6_add_0 ?_
  refine fr_geti (iz := 1) h kX6 fX6_23 (Or_at (OrN_is ho)) rfl rfl (by decide) (by decide) (OrN_f1 ho) dX6_add_1 (fun z1 w2 w3 q4 => ?_)
  subst q4
  refine fr_aload_n h rfl 0 rfl dX6_add_4 ?_
  refine fr_getc (z := (o + 1)) (iz := 0) h kX6 fX6_13 (Or_at (OrN_is ho)) rfl rfl (Or_f0 (OrN_is ho)) (by omega) dX6_add_5 ?_
  refine fr_alenl h (OrN_a1 ho) dX6_add_8 ?_
  refine fr_icmp_ge (tgt := 36) h dX6_add_9 (by decide) (by omega) (by omega) (fun c5 => ?_) (fun c5 => ?_)
  ·
    exact fr_vret h hq ⟨(by omega), (by omega), (by omega), (fun a _ => rfl)⟩ dX6_add_36
  ·
    refine fr_aload_n h rfl 0 rfl dX6_add_12 ?_
    refine fr_getc (z := (o + 1)) (iz := 0) h kX6 fX6_13 (Or_at (OrN_is ho)) rfl rfl (Or_f0 (OrN_is ho)) (by omega) dX6_add_13 ?_
    refine fr_aload_n h rfl 0 rfl dX6_add_16 ?_
    refine fr_geti (iz := 1) h kX6 fX6_23 (Or_at (OrN_is ho)) rfl rfl (by decide) (by decide) (OrN_f1 ho) dX6_add_17 (fun z6 w7 w8 q9 => ?_)
    subst q9
    refine fr_iload_n h rfl 1 rfl dX6_add_20 ?_
    refine fr_lload_n h rfl 2 rfl dX6_add_21 ?_
    refine fr_csL h wX6_keyOf lX6_27 (f_X6_keyOf x p v (by omega) (by omega)) rfl (by decide) (by decide) rfl (Nat.le_of_ble_eq_true rfl) dX6_add_22 (fun z11 x10 w12 p13 => ?_)
    obtain ⟨p14, y15⟩ := p13
    rw [y15]
    clear y15
    refine fr_last h (OrN_a1 ho) (by omega) (by omega) (OrN_r1 ho (x o 1)) (by omega) (by omega) dX6_add_25 ?_
    refine fr_mem (fun x16 m17 => ?_)
    refine fr_aload_n h rfl 0 rfl dX6_add_26 ?_
    refine fr_dup h rfl dX6_add_27 ?_
    refine fr_geti (iz := 1) h kX6 fX6_23 (Or_at (OrN_is ho)) rfl rfl (by decide) (by decide) (OrN_f1 ho) dX6_add_28 (fun z18 w19 w20 q21 => ?_)
    have r22 := q21.trans (fm_rd_k (a := o) (b := 1) m17 (by omega))
    subst q21
    refine fr_iconst h dX6_add_31 ?_
    refine fr_iadd h dX6_add_32 ?_
    refine fr_puti (iz := 1) h kX6 fX6_23 (Or_at (OrN_is ho)) rfl rfl (by decide) (by decide) rfl (by decide +kernel) (OrN_f1 ho) (by omega) (by omega) dX6_add_33 ?_
    refine fr_mem (fun x23 m24 => ?_)
    have r25 := (fm_rd_s m24)
    have r26 := (fm_rd_k (a := (o + 1)) (b := (x o 1)) m24 (by omega))
    have r27 := r26.trans (fm_rd_s m17)
    have r28 := (fm_rd_i (a := o) (b := 2) m24 (by decide))
    have r29 := r28.trans (fm_rd_k (a := o) (b := 2) m17 (by omega))
    exact fr_vret h hq ⟨(by omega), (by omega), (by omega), (fun a k0 => ((fm_up_row m24 (by omega)).trans (fm_up_row m17 (by omega))))⟩ dX6_add_36
set_option maxHeartbeats 200000 in
theorem f_X6_sort (x : Mm) (o : Int) (on : Nat) (ho : OrN o on) (e0 : x o 1 ≤ 1) : CnV YC yX6_sort cX6_sort 7 0 0 (fun G => [vr G o]) x (fun y' => (y' o 1 = x o 1) ∧ (∀ a : Int, (a < o ∨ o < a) → y' a = x a)) := by
  refine cn_V (by decide) (fun _ => Nat.le_of_ble_eq_true rfl) (fun G C h hq => ?_)
  have h : OK YC G C cX6_sort RX6 7 none 0 0 := h
  show FW YC G C 7 x 0 [(0, vr G o)] []
  have h_o := OrN_b ho
  refine fr_iconst h dX6_sort_0 ?_
  refine fr_istore_n (L' := [(0, vr G o), (1, vi 0)]) h rfl dX6_sort_1 (by decide) [1, 0] rfl ?_
  refine fr_iload_n h rfl 1 rfl dX6_sort_2 ?_
  refine fr_gst1 h dX6_sort_3 (fun t1 s2 => ?_)
  refine fr_slen h s2 dX6_sort_6 ?_
  show FW YC G C 7 x 7 [(0, vr G o), (1, vi 0)] [vi 8, vi 0]
  refine fr_icmp_ge (tgt := 104) h dX6_sort_7 (by decide) (by omega) (by omega) (fun c3 => by exfalso; omega) (fun c3 => ?_)
  refine fr_gst1 h dX6_sort_10 (fun t4 s5 => ?_)
  refine fr_iload_n h rfl 1 rfl dX6_sort_13 ?_
  refine fr_sld h s5 (by decide) (by omega) (by omega) dX6_sort_14 (fun z6 q7 => ?_)
  have w8 := zt_1_v (by omega) (by omega) q7
  refine fr_istore_n (L' := [(0, vr G o), (1, vi 0), (2, vi z6)]) h rfl dX6_sort_15 (by decide) [1, 2, 0] rfl ?_
  refine fr_iload_n h rfl 2 rfl dX6_sort_16 ?_
  refine fr_istore_n (L' := [(0, vr G o), (1, vi 0), (2, vi z6), (3, vi z6)]) h rfl dX6_sort_17 (by decide) [1, 2, 3, 0] rfl ?_
  refine fr_iload_n h rfl 3 rfl dX6_sort_18 ?_
  refine fr_aload_n h rfl 0 rfl dX6_sort_19 ?_
  refine fr_geti (iz := 1) h kX6 fX6_23 (Or_at (OrN_is ho)) rfl rfl (by decide) (by decide) (OrN_f1 ho) dX6_sort_20 (fun z9 w10 w11 q12 => ?_)
  refine fr_icmp_ge (tgt := 98) h dX6_sort_23 (by decide) (by omega) (by omega) (fun c13 => ?_) (fun c13 => ?_)
  ·
    refine fr_iinc (j := 1) (L' := [(0, vr G o), (1, vi (0 + 1)), (2, vi z6), (3, vi z6)]) h dX6_sort_98 rfl (by decide) [1, 0, 2, 3] rfl ?_
    refine fr_goto (tgt := 2) h dX6_sort_101 (by decide) ?_
    refine fr_iload_n h rfl 1 rfl dX6_sort_2 ?_
    refine fr_gst1 h dX6_sort_3 (fun t14 s15 => ?_)
    refine fr_slen h s15 dX6_sort_6 ?_
    show FW YC G C 7 x 7 [(0, vr G o), (1, vi (0 + 1)), (2, vi z6), (3, vi z6)] [vi 8, vi (0 + 1)]
    refine fr_icmp_ge (tgt := 104) h dX6_sort_7 (by decide) (by omega) (by omega) (fun c16 => by exfalso; omega) (fun c16 => ?_)
    refine fr_gst1 h dX6_sort_10 (fun t17 s18 => ?_)
    refine fr_iload_n h rfl 1 rfl dX6_sort_13 ?_
    refine fr_sld h s18 (by decide) (by omega) (by omega) dX6_sort_14 (fun z19 q20 => ?_)
    have w21 := zt_1_v (by omega) (by omega) q20
    refine fr_istore_n (L' := [(0, vr G o), (1, vi (0 + 1)), (2, vi z19), (3, vi z6)]) h rfl dX6_sort_15 (by decide) [1, 2, 0, 3] rfl ?_
    refine fr_iload_n h rfl 2 rfl dX6_sort_16 ?_
    refine fr_istore_n (L' := [(0, vr G o), (1, vi (0 + 1)), (2, vi z19), (3, vi z19)]) h rfl dX6_sort_17 (by decide) [1, 2, 3, 0] rfl ?_
    refine fr_iload_n h rfl 3 rfl dX6_sort_18 ?_
    refine fr_aload_n h rfl 0 rfl dX6_sort_19 ?_
    refine fr_geti (iz := 1) h kX6 fX6_23 (Or_at (OrN_is ho)) rfl rfl (by decide) (by decide) (OrN_f1 ho) dX6_sort_20 (fun z22 w23 w24 q25 => ?_)
    refine fr_icmp_ge (tgt := 98) h dX6_sort_23 (by decide) (by omega) (by omega) (fun c26 => ?_) (fun c26 => ?_)
    ·
      refine fr_iinc (j := 1) (L' := [(0, vr G o), (1, vi ((0 + 1) + 1)), (2, vi z19), (3, vi z19)]) h dX6_sort_98 rfl (by decide) [1, 0, 2, 3] rfl ?_
      refine fr_goto (tgt := 2) h dX6_sort_101 (by decide) ?_
      refine fr_iload_n h rfl 1 rfl dX6_sort_2 ?_
      refine fr_gst1 h dX6_sort_3 (fun t27 s28 => ?_)
      refine fr_slen h s28 dX6_sort_6 ?_
      show FW YC G C 7 x 7 [(0, vr G o), (1, vi ((0 + 1) + 1)), (2, vi z19), (3, vi z19)] [vi 8, vi ((0 + 1) + 1)]
      refine fr_icmp_ge (tgt := 104) h dX6_sort_7 (by decide) (by omega) (by omega) (fun c29 => by exfalso; omega) (fun c29 => ?_)
      refine fr_gst1 h dX6_sort_10 (fun t30 s31 => ?_)
      refine fr_iload_n h rfl 1 rfl dX6_sort_13 ?_
      refine fr_sld h s31 (by decide) (by omega) (by omega) dX6_sort_14 (fun z32 q33 => ?_)
      have w34 := zt_1_v (by omega) (by omega) q33
      refine fr_istore_n (L' := [(0, vr G o), (1, vi ((0 + 1) + 1)), (2, vi z32), (3, vi z19)]) h rfl dX6_sort_15 (by decide) [1, 2, 0, 3] rfl ?_
      refine fr_iload_n h rfl 2 rfl dX6_sort_16 ?_
      refine fr_istore_n (L' := [(0, vr G o), (1, vi ((0 + 1) + 1)), (2, vi z32), (3, vi z32)]) h rfl dX6_sort_17 (by decide) [1, 2, 3, 0] rfl ?_
      refine fr_iload_n h rfl 3 rfl dX6_sort_18 ?_
      refine fr_aload_n h rfl 0 rfl dX6_sort_19 ?_
      refine fr_geti (iz := 1) h kX6 fX6_23 (Or_at (OrN_is ho)) rfl rfl (by decide) (by decide) (OrN_f1 ho) dX6_sort_20 (fun z35 w36 w37 q38 => ?_)
      refine fr_icmp_ge (tgt := 98) h dX6_sort_23 (by decide) (by omega) (by omega) (fun c39 => ?_) (fun c39 => ?_)
      ·
        refine fr_iinc (j := 1) (L' := [(0, vr G o), (1, vi (((0 + 1) + 1) + 1)), (2, vi z32), (3, vi z32)]) h dX6_sort_98 rfl (by decide) [1, 0, 2, 3] rfl ?_
        refine fr_goto (tgt := 2) h dX6_sort_101 (by decide) ?_
        refine fr_iload_n h rfl 1 rfl dX6_sort_2 ?_
        refine fr_gst1 h dX6_sort_3 (fun t40 s41 => ?_)
        refine fr_slen h s41 dX6_sort_6 ?_
        show FW YC G C 7 x 7 [(0, vr G o), (1, vi (((0 + 1) + 1) + 1)), (2, vi z32), (3, vi z32)] [vi 8, vi (((0 + 1) + 1) + 1)]
        refine fr_icmp_ge (tgt := 104) h dX6_sort_7 (by decide) (by omega) (by omega) (fun c42 => by exfalso; omega) (fun c42 => ?_)
        refine fr_gst1 h dX6_sort_10 (fun t43 s44 => ?_)
        refine fr_iload_n h rfl 1 rfl dX6_sort_13 ?_
        refine fr_sld h s44 (by decide) (by omega) (by omega) dX6_sort_14 (fun z45 q46 => ?_)
        have w47 := zt_1_v (by omega) (by omega) q46
        refine fr_istore_n (L' := [(0, vr G o), (1, vi (((0 + 1) + 1) + 1)), (2, vi z45), (3, vi z32)]) h rfl dX6_sort_15 (by decide) [1, 2, 0, 3] rfl ?_
        refine fr_iload_n h rfl 2 rfl dX6_sort_16 ?_
        refine fr_istore_n (L' := [(0, vr G o), (1, vi (((0 + 1) + 1) + 1)), (2, vi z45), (3, vi z45)]) h rfl dX6_sort_17 (by decide) [1, 2, 3, 0] rfl ?_
        refine fr_iload_n h rfl 3 rfl dX6_sort_18 ?_
        refine fr_aload_n h rfl 0 rfl dX6_sort_19 ?_
        refine fr_geti (iz := 1) h kX6 fX6_23 (Or_at (OrN_is ho)) rfl rfl (by decide) (by decide) (OrN_f1 ho) dX6_sort_20 (fun z48 w49 w50 q51 => ?_)
        refine fr_icmp_ge (tgt := 98) h dX6_sort_23 (by decide) (by omega) (by omega) (fun c52 => ?_) (fun c52 => ?_)
        ·
          refine fr_iinc (j := 1) (L' := [(0, vr G o), (1, vi ((((0 + 1) + 1) + 1) + 1)), (2, vi z45), (3, vi z45)]) h dX6_sort_98 rfl (by decide) [1, 0, 2, 3] rfl ?_
          refine fr_goto (tgt := 2) h dX6_sort_101 (by decide) ?_
          refine fr_iload_n h rfl 1 rfl dX6_sort_2 ?_
          refine fr_gst1 h dX6_sort_3 (fun t53 s54 => ?_)
          refine fr_slen h s54 dX6_sort_6 ?_
          show FW YC G C 7 x 7 [(0, vr G o), (1, vi ((((0 + 1) + 1) + 1) + 1)), (2, vi z45), (3, vi z45)] [vi 8, vi ((((0 + 1) + 1) + 1) + 1)]
          refine fr_icmp_ge (tgt := 104) h dX6_sort_7 (by decide) (by omega) (by omega) (fun c55 => by exfalso; omega) (fun c55 => ?_)
          refine fr_gst1 h dX6_sort_10 (fun t56 s57 => ?_)
          refine fr_iload_n h rfl 1 rfl dX6_sort_13 ?_
          refine fr_sld h s57 (by decide) (by omega) (by omega) dX6_sort_14 (fun z58 q59 => ?_)
          have w60 := zt_1_v (by omega) (by omega) q59
          refine fr_istore_n (L' := [(0, vr G o), (1, vi ((((0 + 1) + 1) + 1) + 1)), (2, vi z58), (3, vi z45)]) h rfl dX6_sort_15 (by decide) [1, 2, 0, 3] rfl ?_
          refine fr_iload_n h rfl 2 rfl dX6_sort_16 ?_
          refine fr_istore_n (L' := [(0, vr G o), (1, vi ((((0 + 1) + 1) + 1) + 1)), (2, vi z58), (3, vi z58)]) h rfl dX6_sort_17 (by decide) [1, 2, 3, 0] rfl ?_
          refine fr_iload_n h rfl 3 rfl dX6_sort_18 ?_
          refine fr_aload_n h rfl 0 rfl dX6_sort_19 ?_
          refine fr_geti (iz := 1) h kX6 fX6_23 (Or_at (OrN_is ho)) rfl rfl (by decide) (by decide) (OrN_f1 ho) dX6_sort_20 (fun z61 w62 w63 q64 => ?_)
          refine fr_icmp_ge (tgt := 98) h dX6_sort_23 (by decide) (by omega) (by omega) (fun c65 => ?_) (fun c65 => ?_)
          ·
            refine fr_iinc (j := 1) (L' := [(0, vr G o), (1, vi (((((0 + 1) + 1) + 1) + 1) + 1)), (2, vi z58), (3, vi z58)]) h dX6_sort_98 rfl (by decide) [1, 0, 2, 3] rfl ?_
            refine fr_goto (tgt := 2) h dX6_sort_101 (by decide) ?_
            refine fr_iload_n h rfl 1 rfl dX6_sort_2 ?_
            refine fr_gst1 h dX6_sort_3 (fun t66 s67 => ?_)
            refine fr_slen h s67 dX6_sort_6 ?_
            show FW YC G C 7 x 7 [(0, vr G o), (1, vi (((((0 + 1) + 1) + 1) + 1) + 1)), (2, vi z58), (3, vi z58)] [vi 8, vi (((((0 + 1) + 1) + 1) + 1) + 1)]
            refine fr_icmp_ge (tgt := 104) h dX6_sort_7 (by decide) (by omega) (by omega) (fun c68 => by exfalso; omega) (fun c68 => ?_)
            refine fr_gst1 h dX6_sort_10 (fun t69 s70 => ?_)
            refine fr_iload_n h rfl 1 rfl dX6_sort_13 ?_
            refine fr_sld h s70 (by decide) (by omega) (by omega) dX6_sort_14 (fun z71 q72 => ?_)
            have w73 := zt_1_v (by omega) (by omega) q72
            refine fr_istore_n (L' := [(0, vr G o), (1, vi (((((0 + 1) + 1) + 1) + 1) + 1)), (2, vi z71), (3, vi z58)]) h rfl dX6_sort_15 (by decide) [1, 2, 0, 3] rfl ?_
            refine fr_iload_n h rfl 2 rfl dX6_sort_16 ?_
            refine fr_istore_n (L' := [(0, vr G o), (1, vi (((((0 + 1) + 1) + 1) + 1) + 1)), (2, vi z71), (3, vi z71)]) h rfl dX6_sort_17 (by decide) [1, 2, 3, 0] rfl ?_
            refine fr_iload_n h rfl 3 rfl dX6_sort_18 ?_
            refine fr_aload_n h rfl 0 rfl dX6_sort_19 ?_
            refine fr_geti (iz := 1) h kX6 fX6_23 (Or_at (OrN_is ho)) rfl rfl (by decide) (by decide) (OrN_f1 ho) dX6_sort_20 (fun z74 w75 w76 q77 => ?_)
            refine fr_icmp_ge (tgt := 98) h dX6_sort_23 (by decide) (by omega) (by omega) (fun c78 => ?_) (fun c78 => ?_)
            ·
              refine fr_iinc (j := 1) (L' := [(0, vr G o), (1, vi ((((((0 + 1) + 1) + 1) + 1) + 1) + 1)), (2, vi z71), (3, vi z71)]) h dX6_sort_98 rfl (by decide) [1, 0, 2, 3] rfl ?_
              refine fr_goto (tgt := 2) h dX6_sort_101 (by decide) ?_
              refine fr_iload_n h rfl 1 rfl dX6_sort_2 ?_
              refine fr_gst1 h dX6_sort_3 (fun t79 s80 => ?_)
              refine fr_slen h s80 dX6_sort_6 ?_
              show FW YC G C 7 x 7 [(0, vr G o), (1, vi ((((((0 + 1) + 1) + 1) + 1) + 1) + 1)), (2, vi z71), (3, vi z71)] [vi 8, vi ((((((0 + 1) + 1) + 1) + 1) + 1) + 1)]
              refine fr_icmp_ge (tgt := 104) h dX6_sort_7 (by decide) (by omega) (by omega) (fun c81 => by exfalso; omega) (fun c81 => ?_)
              refine fr_gst1 h dX6_sort_10 (fun t82 s83 => ?_)
              refine fr_iload_n h rfl 1 rfl dX6_sort_13 ?_
              refine fr_sld h s83 (by decide) (by omega) (by omega) dX6_sort_14 (fun z84 q85 => ?_)
              have w86 := zt_1_v (by omega) (by omega) q85
              refine fr_istore_n (L' := [(0, vr G o), (1, vi ((((((0 + 1) + 1) + 1) + 1) + 1) + 1)), (2, vi z84), (3, vi z71)]) h rfl dX6_sort_15 (by decide) [1, 2, 0, 3] rfl ?_
              refine fr_iload_n h rfl 2 rfl dX6_sort_16 ?_
              refine fr_istore_n (L' := [(0, vr G o), (1, vi ((((((0 + 1) + 1) + 1) + 1) + 1) + 1)), (2, vi z84), (3, vi z84)]) h rfl dX6_sort_17 (by decide) [1, 2, 3, 0] rfl ?_
              refine fr_iload_n h rfl 3 rfl dX6_sort_18 ?_
              refine fr_aload_n h rfl 0 rfl dX6_sort_19 ?_
              refine fr_geti (iz := 1) h kX6 fX6_23 (Or_at (OrN_is ho)) rfl rfl (by decide) (by decide) (OrN_f1 ho) dX6_sort_20 (fun z87 w88 w89 q90 => ?_)
              refine fr_icmp_ge (tgt := 98) h dX6_sort_23 (by decide) (by omega) (by omega) (fun c91 => ?_) (fun c91 => ?_)
              ·
                refine fr_iinc (j := 1) (L' := [(0, vr G o), (1, vi (((((((0 + 1) + 1) + 1) + 1) + 1) + 1) + 1)), (2, vi z84), (3, vi z84)]) h dX6_sort_98 rfl (by decide) [1, 0, 2, 3] rfl ?_
                refine fr_goto (tgt := 2) h dX6_sort_101 (by decide) ?_
                refine fr_iload_n h rfl 1 rfl dX6_sort_2 ?_
                refine fr_gst1 h dX6_sort_3 (fun t92 s93 => ?_)
                refine fr_slen h s93 dX6_sort_6 ?_
                show FW YC G C 7 x 7 [(0, vr G o), (1, vi (((((((0 + 1) + 1) + 1) + 1) + 1) + 1) + 1)), (2, vi z84), (3, vi z84)] [vi 8, vi (((((((0 + 1) + 1) + 1) + 1) + 1) + 1) + 1)]
                refine fr_icmp_ge (tgt := 104) h dX6_sort_7 (by decide) (by omega) (by omega) (fun c94 => by exfalso; omega) (fun c94 => ?_)
                refine fr_gst1 h dX6_sort_10 (fun t95 s96 => ?_)
                refine fr_iload_n h rfl 1 rfl dX6_sort_13 ?_
                refine fr_sld h s96 (by decide) (by omega) (by omega) dX6_sort_14 (fun z97 q98 => ?_)
                have w99 := zt_1_v (by omega) (by omega) q98
                refine fr_istore_n (L' := [(0, vr G o), (1, vi (((((((0 + 1) + 1) + 1) + 1) + 1) + 1) + 1)), (2, vi z97), (3, vi z84)]) h rfl dX6_sort_15 (by decide) [1, 2, 0, 3] rfl ?_
                refine fr_iload_n h rfl 2 rfl dX6_sort_16 ?_
                refine fr_istore_n (L' := [(0, vr G o), (1, vi (((((((0 + 1) + 1) + 1) + 1) + 1) + 1) + 1)), (2, vi z97), (3, vi z97)]) h rfl dX6_sort_17 (by decide) [1, 2, 3, 0] rfl ?_
                refine fr_iload_n h rfl 3 rfl dX6_sort_18 ?_
                refine fr_aload_n h rfl 0 rfl dX6_sort_19 ?_
                refine fr_geti (iz := 1) h kX6 fX6_23 (Or_at (OrN_is ho)) rfl rfl (by decide) (by decide) (OrN_f1 ho) dX6_sort_20 (fun z100 w101 w102 q103 => ?_)
                refine fr_icmp_ge (tgt := 98) h dX6_sort_23 (by decide) (by omega) (by omega) (fun c104 => ?_) (fun c104 => ?_)
                ·
                  refine fr_iinc (j := 1) (L' := [(0, vr G o), (1, vi ((((((((0 + 1) + 1) + 1) + 1) + 1) + 1) + 1) + 1)), (2, vi z97), (3, vi z97)]) h dX6_sort_98 rfl (by decide) [1, 0, 2, 3] rfl ?_
                  refine fr_goto (tgt := 2) h dX6_sort_101 (by decide) ?_
                  refine fr_iload_n h rfl 1 rfl dX6_sort_2 ?_
                  refine fr_gst1 h dX6_sort_3 (fun t105 s106 => ?_)
                  refine fr_slen h s106 dX6_sort_6 ?_
                  show FW YC G C 7 x 7 [(0, vr G o), (1, vi ((((((((0 + 1) + 1) + 1) + 1) + 1) + 1) + 1) + 1)), (2, vi z97), (3, vi z97)] [vi 8, vi ((((((((0 + 1) + 1) + 1) + 1) + 1) + 1) + 1) + 1)]
                  refine fr_icmp_ge (tgt := 104) h dX6_sort_7 (by decide) (by omega) (by omega) (fun c107 => ?_) (fun c107 => by exfalso; omega)
                  refine fr_aload_n h rfl 0 rfl dX6_sort_104 ?_
                  refine fr_iconst h dX6_sort_105 ?_
                  refine fr_putz (iz := 2) h kX6 fX6_19 (Or_at (OrN_is ho)) rfl rfl (by decide) (by decide) rfl (by decide +kernel) (Or_f2 (OrN_is ho)) (by omega) (by omega) (by omega) dX6_sort_106 ?_
                  refine fr_mem (fun x108 m109 => ?_)
                  have r110 := (fm_rd_i (a := o) (b := 1) m109 (by decide))
                  exact fr_vret h hq ⟨(by omega), (fun a k0 => (fm_up_row m109 (by omega)))⟩ dX6_sort_109
                ·
                  exfalso; omega
              ·
                exfalso; omega
            ·
              exfalso; omega
          ·
            exfalso; omega
        ·
          exfalso; omega
      ·
        exfalso; omega
    ·
      exfalso; omega
  ·
    exfalso; omega
set_option maxHeartbeats 200000 in
theorem f_X6_keyAt (x : Mm) (o : Int) (on : Nat) (ho : OrN o on) (p : Int) (h_p : fm_r p) (e0 : x o 1 ≤ 1) (e1 : x (o + 1) 0 = 0) : CnL YC yX6_keyAt cX6_keyAt 2 0 0 (fun G => [vr G o, vi p]) x (fun z y' => (z = 0) ∧ (y' = x)) := by
  refine cn_L (by decide) (fun _ => Nat.le_of_ble_eq_true rfl) (fun G C h hq => ?_)
  have h : OK YC G C cX6_keyAt RX6 2 (some .long) 0 0 := h
  show FW YC G C 2 x 0 [(0, vr G o), (1, vi p)] []
  have h_o := OrN_b ho
  refine fr_iload_n h rfl 1 rfl dX6_keyAt_0 ?_
  refine fr_iconst h dX6_keyAt_1 ?_
  refine fr_icmp_lt (tgt := 24) h dX6_keyAt_2 (by decide) (by omega) (by omega) (fun c1 => ?_) (fun c1 => ?_)
  ·
    refine fr_lconst (z := 0) h rfl dX6_keyAt_24 ?_
    exact fr_lret h hq (by omega) ⟨(by omega), rfl⟩ dX6_keyAt_25
  ·
    refine fr_iload_n h rfl 1 rfl dX6_keyAt_5 ?_
    refine fr_aload_n h rfl 0 rfl dX6_keyAt_6 ?_
    refine fr_geti (iz := 1) h kX6 fX6_23 (Or_at (OrN_is ho)) rfl rfl (by decide) (by decide) (OrN_f1 ho) dX6_keyAt_7 (fun z2 w3 w4 q5 => ?_)
    refine fr_icmp_gt (tgt := 24) h dX6_keyAt_10 (by decide) (by omega) (by omega) (fun c6 => ?_) (fun c6 => ?_)
    ·
      refine fr_lconst (z := 0) h rfl dX6_keyAt_24 ?_
      exact fr_lret h hq (by omega) ⟨(by omega), rfl⟩ dX6_keyAt_25
    ·
      refine fr_aload_n h rfl 0 rfl dX6_keyAt_13 ?_
      refine fr_getc (z := (o + 1)) (iz := 0) h kX6 fX6_13 (Or_at (OrN_is ho)) rfl rfl (Or_f0 (OrN_is ho)) (by omega) dX6_keyAt_14 ?_
      refine fr_iload_n h rfl 1 rfl dX6_keyAt_17 ?_
      refine fr_iconst h dX6_keyAt_18 ?_
      refine fr_isub h dX6_keyAt_19 ?_
      have kp : x (o + 1) (p - 1) = x (o + 1) 0 := by rw [show p - 1 = 0 by omega]
      refine fr_lald h (OrN_a1 ho) (by omega) (by omega) (OrN_r1 ho (p - 1)) dX6_keyAt_20 (fun z7 w8 w9 q10 => ?_)
      refine fr_goto (tgt := 25) h dX6_keyAt_21 (by decide) ?_
      exact fr_lret h hq (by omega) ⟨(by omega), rfl⟩ dX6_keyAt_25
set_option maxHeartbeats 200000 in
theorem f_X6_costAt (x : Mm) (o : Int) (on : Nat) (ho : OrN o on) (p : Int) (h_p : fm_r p) (e0 : x o 1 ≤ 1) (e1 : x (o + 1) 0 = 0) : CnI YC yX6_costAt cX6_costAt 2 .int 1 21 (fun G => [vr G o, vi p]) x (fun z y' => (z = 0) ∧ (y' = x)) := by
  refine cn_I (by decide) (fun _ => Nat.le_of_ble_eq_true rfl) (fun G C h hq => ?_)
  have h : OK YC G C cX6_costAt RX6 2 (some .int) 1 21 := h
  show FW YC G C 2 x 0 [(0, vr G o), (1, vi p)] []
  have h_o := OrN_b ho
  refine fr_aload_n h rfl 0 rfl dX6_costAt_0 ?_
  refine fr_iload_n h rfl 1 rfl dX6_costAt_1 ?_
  refine fr_cvL h kX6 (Or_at (OrN_is ho)) wX6_keyAt lX6_37 (f_X6_keyAt x o on ho p (by omega) (by omega) (by omega)) rfl (by decide) (by decide) rfl (Nat.le_of_ble_eq_true rfl) dX6_costAt_2 (fun z2 x1 w3 p4 => ?_)
  obtain ⟨p5, y6⟩ := p4
  rw [y6]
  clear y6
  refine fr_csI h wX6_costOf lX6_41 (f_X6_costOf x z2 (by omega)) rfl (by decide) (by decide) rfl (Nat.le_of_ble_eq_true rfl) dX6_costAt_5 (fun z8 x7 w9 p10 => ?_)
  obtain ⟨p11, y12⟩ := p10
  rw [y12]
  clear y12
  exact fr_iret h hq (by omega) ⟨(by omega), rfl⟩ dX6_costAt_8
set_option maxHeartbeats 200000 in
theorem f_X6_codeAt (x : Mm) (o : Int) (on : Nat) (ho : OrN o on) (p : Int) (h_p : fm_r p) (e0 : x o 1 ≤ 1) (e1 : x (o + 1) 0 = 0) : CnL YC yX6_codeAt cX6_codeAt 2 1 21 (fun G => [vr G o, vi p]) x (fun z y' => (z = 0) ∧ (y' = x)) := by
  refine cn_L (by decide) (fun _ => Nat.le_of_ble_eq_true rfl) (fun G C h hq => ?_)
  have h : OK YC G C cX6_codeAt RX6 2 (some .long) 1 21 := h
  show FW YC G C 2 x 0 [(0, vr G o), (1, vi p)] []
  have h_o := OrN_b ho
  refine fr_aload_n h rfl 0 rfl dX6_codeAt_0 ?_
  refine fr_iload_n h rfl 1 rfl dX6_codeAt_1 ?_
  refine fr_cvL h kX6 (Or_at (OrN_is ho)) wX6_keyAt lX6_37 (f_X6_keyAt x o on ho p (by omega) (by omega) (by omega)) rfl (by decide) (by decide) rfl (Nat.le_of_ble_eq_true rfl) dX6_codeAt_2 (fun z2 x1 w3 p4 => ?_)
  obtain ⟨p5, y6⟩ := p4
  rw [y6]
  clear y6
  refine fr_ldc2 (z := 4294967295) h (by exact tb_4 (i := 71) (by decide +kernel) (by decide +kernel)) rfl dX6_codeAt_5 ?_
  refine fr_land h dX6_codeAt_8 (fun z7 w8 q9 w10 => ?_)
  have w11 := z_land w8 q9
  have w12 : (0 : Int) ≤ 4294967295 → (4294967295 : Int) ≤ 9223372036854775807 → 0 ≤ z7 ∧ z7 ≤ 4294967295 := w10
  exact fr_lret h hq (by omega) ⟨(by omega), rfl⟩ dX6_codeAt_9
set_option maxHeartbeats 200000 in
theorem f_X6_upTo (x : Mm) (o : Int) (on : Nat) (ho : OrN o on) (p : Int) (h_p : fm_r p) (e0 : x o 1 ≤ 1) (e1 : x (o + 1) 0 = 0) : CnI YC yX6_upTo cX6_upTo 3 .int 1 21 (fun G => [vr G o, vi p]) x (fun z y' => (0 ≤ z) ∧ (z ≤ x o 1) ∧ (x o 1 = 1 → 0 ≤ p → z = 1) ∧ (p < 0 → z = 0) ∧ (y' = x)) := by
  refine cn_I (by decide) (fun _ => Nat.le_of_ble_eq_true rfl) (fun G C h hq => ?_)
  have h : OK YC G C cX6_upTo RX6 3 (some .int) 1 21 := h
  show FW YC G C 3 x 0 [(0, vr G o), (1, vi p)] []
  have h_o := OrN_b ho
  refine fr_rng (fun hR => ?_)
  have hs : 0 ≤ x o 1 ∧ x o 1 ≤ (on : Int) := by have q := hR o 1; rw [OrN_f1 ho] at q; exact q
  refine fr_iconst h dX6_upTo_0 ?_
  refine fr_istore_n (L' := [(0, vr G o), (1, vi p), (2, vi 0)]) h rfl dX6_upTo_1 (by decide) [1, 2, 0] rfl ?_
  have HL1 : ∀ (n1 : Nat) (l2_1 : Int), fm_r l2_1 → 0 ≤ l2_1 → l2_1 ≤ 1296 → l2_1 ≤ x o 1 → (1 ≤ l2_1 → 0 ≤ p) → (1296 - l2_1) < n1 → FW YC G C 3 x 2 [(0, vr G o), (1, vi p), (2, vi l2_1)] [] := by
    intro n1
    induction n1 with
    | zero =>
      intro l2_1 g1_0 g1_1 g1_2 g1_3 g1_4 g1_5
      exfalso; omega
    | succ n1 ih1 =>
      intro l2_1 g1_0 g1_1 g1_2 g1_3 g1_4 g1_5
      refine fr_iload_n h rfl 2 rfl dX6_upTo_2 ?_
      refine fr_aload_n h rfl 0 rfl dX6_upTo_3 ?_
      refine fr_geti (iz := 1) h kX6 fX6_23 (Or_at (OrN_is ho)) rfl rfl (by decide) (by decide) (OrN_f1 ho) dX6_upTo_4 (fun z2 w3 w4 q5 => ?_)
      refine fr_icmp_ge (tgt := 29) h dX6_upTo_7 (by decide) (by omega) (by omega) (fun c6 => ?_) (fun c6 => ?_)
      ·
        refine fr_iload_n h rfl 2 rfl dX6_upTo_29 ?_
        exact fr_iret h hq (by omega) ⟨(by omega), (by omega), (by omega), (by omega), rfl⟩ dX6_upTo_30
      ·
        refine fr_aload_n h rfl 0 rfl dX6_upTo_10 ?_
        refine fr_getc (z := (o + 1)) (iz := 0) h kX6 fX6_13 (Or_at (OrN_is ho)) rfl rfl (Or_f0 (OrN_is ho)) (by omega) dX6_upTo_11 ?_
        refine fr_iload_n h rfl 2 rfl dX6_upTo_14 ?_
        have kp : x (o + 1) l2_1 = x (o + 1) 0 := by rw [show l2_1 = 0 by omega]
        refine fr_lald h (OrN_a1 ho) (by omega) (by omega) (OrN_r1 ho l2_1) dX6_upTo_15 (fun z7 w8 w9 q10 => ?_)
        refine fr_csI h wX6_costOf lX6_41 (f_X6_costOf x z7 (by omega)) rfl (by decide) (by decide) rfl (Nat.le_of_ble_eq_true rfl) dX6_upTo_16 (fun z12 x11 w13 p14 => ?_)
        obtain ⟨p15, y16⟩ := p14
        rw [y16]
        clear y16
        refine fr_iload_n h rfl 1 rfl dX6_upTo_19 ?_
        refine fr_icmp_gt (tgt := 29) h dX6_upTo_20 (by decide) (by omega) (by omega) (fun c17 => ?_) (fun c17 => ?_)
        ·
          refine fr_iload_n h rfl 2 rfl dX6_upTo_29 ?_
          exact fr_iret h hq (by omega) ⟨(by omega), (by omega), (by omega), (by omega), rfl⟩ dX6_upTo_30
        ·
          refine fr_iinc (j := 2) (L' := [(0, vr G o), (1, vi p), (2, vi (l2_1 + 1))]) h dX6_upTo_23 rfl (by decide) [1, 2, 0] rfl ?_
          refine fr_goto (tgt := 2) h dX6_upTo_26 (by decide) ?_
          exact ih1 (l2_1 + 1) (by omega) (by omega) (by omega) (by omega) (by omega) (by omega)
  exact HL1 ((1296 - 0) + 1 : Int).toNat 0 (by omega) (by omega) (by omega) (by omega) (by omega) (by omega)
set_option maxHeartbeats 200000 in
theorem f_X6_firstAlike (x : Mm) (o : Int) (on : Nat) (ho : OrN o on) (p : Int) (h_p : fm_r p) (e0 : x o 1 ≤ 1) (e1 : x (o + 1) 0 = 0) (e2 : p = 1) : CnI YC yX6_firstAlike cX6_firstAlike 3 .int 0 0 (fun G => [vr G o, vi p]) x (fun z y' => (z = 1) ∧ (y' = x)) := by
  refine cn_I (by decide) (fun _ => Nat.le_of_ble_eq_true rfl) (fun G C h hq => ?_)
  have h : OK YC G C cX6_firstAlike RX6 3 (some .int) 0 0 := h
  show FW YC G C 3 x 0 [(0, vr G o), (1, vi p)] []
  have h_o := OrN_b ho
  refine fr_iload_n h rfl 1 rfl dX6_firstAlike_0 ?_
  refine fr_istore_n (L' := [(0, vr G o), (1, vi p), (2, vi p)]) h rfl dX6_firstAlike_1 (by decide) [1, 2, 0] rfl ?_
  refine fr_iload_n h rfl 2 rfl dX6_firstAlike_2 ?_
  refine fr_iconst h dX6_firstAlike_3 ?_
  refine fr_icmp_le (tgt := 28) h dX6_firstAlike_4 (by decide) (by omega) (by omega) (fun c1 => ?_) (fun c1 => ?_)
  ·
    refine fr_iload_n h rfl 2 rfl dX6_firstAlike_28 ?_
    exact fr_iret h hq (by omega) ⟨(by omega), rfl⟩ dX6_firstAlike_29
  ·
    exfalso; omega
set_option maxHeartbeats 200000 in
theorem f_X6_placeOf (x : Mm) (o : Int) (on : Nat) (ho : OrN o on) (v : Int) (h_v : fm_l v) (e0 : x o 1 ≤ 1) (e1 : x (o + 1) 0 = 0) (e2 : v = 0) : CnI YC yX6_placeOf cX6_placeOf 4 .int 2 42 (fun G => [vr G o, vj v]) x (fun z y' => (0 ≤ z) ∧ (z ≤ 1) ∧ (z = x o 1) ∧ (y' = x)) := by
  refine cn_I (by decide) (fun _ => Nat.le_of_ble_eq_true rfl) (fun G C h hq => ?_)
  have h : OK YC G C cX6_placeOf RX6 4 (some .int) 2 42 := h
  show FW YC G C 4 x 0 [(0, vr G o), (1, vj v)] []
  have h_o := OrN_b ho
  refine fr_rng (fun hR => ?_)
  have hs : 0 ≤ x o 1 ∧ x o 1 ≤ (on : Int) := by have q := hR o 1; rw [OrN_f1 ho] at q; exact q
  refine fr_iconst h dX6_placeOf_0 ?_
  refine fr_istore_n (L' := [(0, vr G o), (1, vj v), (3, vi 1)]) h rfl dX6_placeOf_1 (by decide) [1, 2, 0] rfl ?_
  refine fr_iload_n h rfl 2 rfl dX6_placeOf_2 ?_
  refine fr_aload_n h rfl 0 rfl dX6_placeOf_3 ?_
  refine fr_geti (iz := 1) h kX6 fX6_23 (Or_at (OrN_is ho)) rfl rfl (by decide) (by decide) (OrN_f1 ho) dX6_placeOf_4 (fun z1 w2 w3 q4 => ?_)
  refine fr_icmp_gt (tgt := 28) h dX6_placeOf_7 (by decide) (by omega) (by omega) (fun c5 => ?_) (fun c5 => ?_)
  ·
    refine fr_iconst h dX6_placeOf_28 ?_
    exact fr_iret h hq (by omega) ⟨(by omega), (by omega), (by omega), rfl⟩ dX6_placeOf_29
  ·
    refine fr_aload_n h rfl 0 rfl dX6_placeOf_10 ?_
    refine fr_iload_n h rfl 2 rfl dX6_placeOf_11 ?_
    refine fr_cvL h kX6 (Or_at (OrN_is ho)) wX6_codeAt lX6_51 (f_X6_codeAt x o on ho 1 (by omega) (by omega) (by omega)) rfl (by decide) (by decide) rfl (Nat.le_of_ble_eq_true rfl) dX6_placeOf_12 (fun z7 x6 w8 p9 => ?_)
    obtain ⟨p10, y11⟩ := p9
    rw [y11]
    clear y11
    refine fr_lload_n h rfl 1 rfl dX6_placeOf_15 ?_
    refine fr_lcmp h dX6_placeOf_16 (by omega) (by omega) (fun z12 w13 => ?_)
    refine fr_if_ne (tgt := 22) h dX6_placeOf_17 (by decide) (by omega) (fun c14 => ?_) (fun c14 => ?_)
    ·
      exfalso; omega
    ·
      refine fr_iload_n h rfl 2 rfl dX6_placeOf_20 ?_
      exact fr_iret h hq (by omega) ⟨(by omega), (by omega), (by omega), rfl⟩ dX6_placeOf_21
set_option maxHeartbeats 200000 in
theorem f_X6_sharedPlaces (x : Mm) (o : Int) (on : Nat) (ho : OrN o on) (p : Int) (h_p : fm_r p) (e0 : x o 1 ≤ 1) (e1 : x (o + 1) 0 = 0) (e2 : p ≤ 1) : CnI YC yX6_sharedPlaces cX6_sharedPlaces 6 .int 2 44 (fun G => [vr G o, vi p]) x (fun z y' => (z = 0) ∧ (y' = x)) := by
  refine cn_I (by decide) (fun _ => Nat.le_of_ble_eq_true rfl) (fun G C h hq => ?_)
  have h : OK YC G C cX6_sharedPlaces RX6 6 (some .int) 2 44 := h
  show FW YC G C 6 x 0 [(0, vr G o), (1, vi p)] []
  have h_o := OrN_b ho
  refine fr_aload_n h rfl 0 rfl dX6_sharedPlaces_0 ?_
  refine fr_iconst h dX6_sharedPlaces_1 ?_
  refine fr_cvL h kX6 (Or_at (OrN_is ho)) wX6_codeAt lX6_51 (f_X6_codeAt x o on ho 1 (by omega) (by omega) (by omega)) rfl (by decide) (by decide) rfl (Nat.le_of_ble_eq_true rfl) dX6_sharedPlaces_2 (fun z2 x1 w3 p4 => ?_)
  obtain ⟨p5, y6⟩ := p4
  rw [y6]
  clear y6
  refine fr_lstore_n (L' := [(0, vr G o), (1, vi p), (2, vj z2)]) h rfl dX6_sharedPlaces_5 (by decide) [1, 2, 0] rfl ?_
  refine fr_iconst h dX6_sharedPlaces_6 ?_
  refine fr_lload_n h rfl 2 rfl dX6_sharedPlaces_7 ?_
  refine fr_csI h wX2_lengthOf lX6_54 (f_X2_lengthOf x z2 (by omega)) rfl (by decide) (by decide) rfl (Nat.le_of_ble_eq_true rfl) dX6_sharedPlaces_8 (fun z8 x7 w9 p10 => ?_)
  obtain ⟨p11, p12, p13, y14⟩ := p10
  rw [y14]
  clear y14
  refine fr_ishl h dX6_sharedPlaces_11 (fun z15 w16 q17 w18 => ?_)
  have w19 := z_ishl w16 q17
  refine fr_iconst h dX6_sharedPlaces_12 ?_
  refine fr_isub h dX6_sharedPlaces_13 ?_
  refine fr_normi (fun z20 w21 q22 => ?_)
  have w23 : fm_r ((z15 - 1)) → z20 = (z15 - 1) := fun q => (iI_inj q w21 q22).symm
  refine fr_istore (L' := [(0, vr G o), (1, vi p), (2, vj z2), (4, vi z20)]) h dX6_sharedPlaces_14 (by decide) [1, 2, 3, 0] rfl ?_
  refine fr_iconst h dX6_sharedPlaces_16 ?_
  refine fr_istore (L' := [(0, vr G o), (1, vi p), (2, vj z2), (4, vi z20), (5, vi 2)]) h dX6_sharedPlaces_17 (by decide) [1, 2, 3, 4, 0] rfl ?_
  refine fr_iload h 4 rfl dX6_sharedPlaces_19 ?_
  refine fr_iload_n h rfl 1 rfl dX6_sharedPlaces_21 ?_
  refine fr_icmp_gt (tgt := 48) h dX6_sharedPlaces_22 (by decide) (by omega) (by omega) (fun c24 => ?_) (fun c24 => by exfalso; omega)
  refine fr_iload h 3 rfl dX6_sharedPlaces_48 ?_
  exact fr_iret h hq (by omega) ⟨(by omega), rfl⟩ dX6_sharedPlaces_50
set_option maxHeartbeats 200000 in
theorem f_X7_isLetter (x : Mm) (p : Int) (h_p : fm_r p) : CnI YC yX7_isLetter cX7_isLetter 1 .boolean 0 0 (fun G => [vi p]) x (fun z y' => (z = 0 ∨ z = 1) ∧ ((z = 1 ↔ p = 115 ∨ p = 109 ∨ p = 108 ∨ p = 102 ∨ p = 101 ∨ p = 112 ∨ p = 110)) ∧ (y' = x)) := by
  refine cn_I (by decide) (fun _ => Nat.le_of_ble_eq_true rfl) (fun G C h hq => ?_)
  have h : OK YC G C cX7_isLetter RX7 1 (some .boolean) 0 0 := h
  show FW YC G C 1 x 0 [(0, vi p)] []
  refine fr_iload_n h rfl 0 rfl dX7_isLetter_0 ?_
  by_cases c2 : p = 101
  ·
    refine fr_tab_in (off := 75) (tgt := 76) h dX7_isLetter_1 (by omega) (by omega) (by omega) (by rw [c2]; rfl) (by decide) ?_
    refine fr_iconst h dX7_isLetter_76 ?_
    exact fr_zret h rfl hq (by omega) ⟨(by omega), (by omega), rfl⟩ dX7_isLetter_77
  ·
    by_cases c3 : p = 102
    ·
      refine fr_tab_in (off := 75) (tgt := 76) h dX7_isLetter_1 (by omega) (by omega) (by omega) (by rw [c3]; rfl) (by decide) ?_
      refine fr_iconst h dX7_isLetter_76 ?_
      exact fr_zret h rfl hq (by omega) ⟨(by omega), (by omega), rfl⟩ dX7_isLetter_77
    ·
      by_cases c4 : p = 108
      ·
        refine fr_tab_in (off := 75) (tgt := 76) h dX7_isLetter_1 (by omega) (by omega) (by omega) (by rw [c4]; rfl) (by decide) ?_
        refine fr_iconst h dX7_isLetter_76 ?_
        exact fr_zret h rfl hq (by omega) ⟨(by omega), (by omega), rfl⟩ dX7_isLetter_77
      ·
        by_cases c5 : p = 109
        ·
          refine fr_tab_in (off := 75) (tgt := 76) h dX7_isLetter_1 (by omega) (by omega) (by omega) (by rw [c5]; rfl) (by decide) ?_
          refine fr_iconst h dX7_isLetter_76 ?_
          exact fr_zret h rfl hq (by omega) ⟨(by omega), (by omega), rfl⟩ dX7_isLetter_77
        ·
          by_cases c6 : p = 110
          ·
            refine fr_tab_in (off := 75) (tgt := 76) h dX7_isLetter_1 (by omega) (by omega) (by omega) (by rw [c6]; rfl) (by decide) ?_
            refine fr_iconst h dX7_isLetter_76 ?_
            exact fr_zret h rfl hq (by omega) ⟨(by omega), (by omega), rfl⟩ dX7_isLetter_77
          ·
            by_cases c7 : p = 112
            ·
              refine fr_tab_in (off := 75) (tgt := 76) h dX7_isLetter_1 (by omega) (by omega) (by omega) (by rw [c7]; rfl) (by decide) ?_
              refine fr_iconst h dX7_isLetter_76 ?_
              exact fr_zret h rfl hq (by omega) ⟨(by omega), (by omega), rfl⟩ dX7_isLetter_77
            ·
              by_cases c8 : p = 115
              ·
                refine fr_tab_in (off := 75) (tgt := 76) h dX7_isLetter_1 (by omega) (by omega) (by omega) (by rw [c8]; rfl) (by decide) ?_
                refine fr_iconst h dX7_isLetter_76 ?_
                exact fr_zret h rfl hq (by omega) ⟨(by omega), (by omega), rfl⟩ dX7_isLetter_77
              ·
                have J9 : FW YC G C 1 x 78 [(0, vi p)] [] := by
                  refine fr_iconst h dX7_isLetter_78 ?_
                  exact fr_zret h rfl hq (by omega) ⟨(by omega), (by omega), rfl⟩ dX7_isLetter_79
                by_cases c10 : p < 101 ∨ 115 < p
                · exact fr_tab_out (tgt := 78) h dX7_isLetter_1 (by omega) c10 (by decide) J9
                · have c11 : p = 103 ∨ p = 104 ∨ p = 105 ∨ p = 106 ∨ p = 107 ∨ p = 111 ∨ p = 113 ∨ p = 114 := by omega
                  rcases c11 with c11 | c11 | c11 | c11 | c11 | c11 | c11 | c11 <;> exact fr_tab_in (tgt := 78) h dX7_isLetter_1 (by omega) (by omega) (by omega) (by rw [c11]; rfl) (by decide) J9
set_option maxHeartbeats 200000 in
theorem f_X7_push (x : Mm) (r : Int) (hr : isRu r) (v : Int) (h_v : fm_r v) : CnV YC yX7_push cX7_push 2 0 0 (fun G => [vr G r, vi v]) x (fun y' => (y' r 4 = x r 4) ∧ (x r 7 < 40 → y' r 7 = x r 7 + 1 ∧ y' (r + 4) (x r 7) = v) ∧ (∀ a : Int, (a < r ∨ r < a) → (a < r + 4 ∨ r + 4 < a) → y' a = x a)) := by
  refine cn_V (by decide) (fun _ => Nat.le_of_ble_eq_true rfl) (fun G C h hq => ?_)
  have h : OK YC G C cX7_push RX7 2 none 0 0 := h
  show FW YC G C 2 x 0 [(0, vr G r), (1, vi v)] []
  have h_r := Ru_b hr
  refine fr_aload_n h rfl 0 rfl dX7_push_0 ?_
  refine fr_geti (iz := 7) h kX7 fX7_92 (Ru_at hr) rfl rfl (by decide) (by decide) (Ru_f7 hr) dX7_push_1 (fun z1 w2 w3 q4 => ?_)
  subst q4
  refine fr_bipush h rfl dX7_push_4 ?_
  refine fr_icmp_ge (tgt := 29) h dX7_push_6 (by decide) (by omega) (by omega) (fun c5 => ?_) (fun c5 => ?_)
  ·
    exact fr_vret h hq ⟨(by omega), (by omega), (fun a _ _ => rfl)⟩ dX7_push_29
  ·
    refine fr_aload_n h rfl 0 rfl dX7_push_9 ?_
    refine fr_getc (z := (r + 4)) (iz := 3) h kX7 fX7_22 (Ru_at hr) rfl rfl (Ru_f3 hr) (by omega) dX7_push_10 ?_
    refine fr_aload_n h rfl 0 rfl dX7_push_13 ?_
    refine fr_geti (iz := 7) h kX7 fX7_92 (Ru_at hr) rfl rfl (by decide) (by decide) (Ru_f7 hr) dX7_push_14 (fun z6 w7 w8 q9 => ?_)
    subst q9
    refine fr_iload_n h rfl 1 rfl dX7_push_17 ?_
    refine fr_iast h (Ru_a4 hr) (by omega) (by omega) (Ru_r4 hr (x r 7)) (by omega) (by omega) dX7_push_18 ?_
    refine fr_mem (fun x10 m11 => ?_)
    refine fr_aload_n h rfl 0 rfl dX7_push_19 ?_
    refine fr_dup h rfl dX7_push_20 ?_
    refine fr_geti (iz := 7) h kX7 fX7_92 (Ru_at hr) rfl rfl (by decide) (by decide) (Ru_f7 hr) dX7_push_21 (fun z12 w13 w14 q15 => ?_)
    have r16 := q15.trans (fm_rd_k (a := r) (b := 7) m11 (by omega))
    subst q15
    refine fr_iconst h dX7_push_24 ?_
    refine fr_iadd h dX7_push_25 ?_
    refine fr_puti (iz := 7) h kX7 fX7_92 (Ru_at hr) rfl rfl (by decide) (by decide) rfl (by decide +kernel) (Ru_f7 hr) (by omega) (by omega) dX7_push_26 ?_
    refine fr_mem (fun x17 m18 => ?_)
    have r19 := (fm_rd_i (a := r) (b := 4) m18 (by decide))
    have r20 := r19.trans (fm_rd_k (a := r) (b := 4) m11 (by omega))
    have r21 := (fm_rd_s m18)
    have r22 := (fm_rd_k (a := (r + 4)) (b := (x r 7)) m18 (by omega))
    have r23 := r22.trans (fm_rd_s m11)
    exact fr_vret h hq ⟨(by omega), (by omega), (fun a k0 k1 => ((fm_up_row m18 (by omega)).trans (fm_up_row m11 (by omega))))⟩ dX7_push_29
set_option maxHeartbeats 200000 in
theorem f_X7_pop (x : Mm) (r : Int) (hr : isRu r) : CnI YC yX7_pop cX7_pop 1 .int 0 0 (fun G => [vr G r]) x (fun z y' => (y' r 4 = x r 4) ∧ (x r 7 = 1 → z = x (r + 4) 0) ∧ (∀ a : Int, (a < r ∨ r < a) → y' a = x a)) := by
  refine cn_I (by decide) (fun _ => Nat.le_of_ble_eq_true rfl) (fun G C h hq => ?_)
  have h : OK YC G C cX7_pop RX7 1 (some .int) 0 0 := h
  show FW YC G C 1 x 0 [(0, vr G r)] []
  have h_r := Ru_b hr
  refine fr_aload_n h rfl 0 rfl dX7_pop_0 ?_
  refine fr_geti (iz := 7) h kX7 fX7_92 (Ru_at hr) rfl rfl (by decide) (by decide) (Ru_f7 hr) dX7_pop_1 (fun z1 w2 w3 q4 => ?_)
  subst q4
  refine fr_if_ne (tgt := 9) h dX7_pop_4 (by decide) (by omega) (fun c5 => ?_) (fun c5 => ?_)
  ·
    refine fr_aload_n h rfl 0 rfl dX7_pop_9 ?_
    refine fr_dup h rfl dX7_pop_10 ?_
    refine fr_geti (iz := 7) h kX7 fX7_92 (Ru_at hr) rfl rfl (by decide) (by decide) (Ru_f7 hr) dX7_pop_11 (fun z6 w7 w8 q9 => ?_)
    subst q9
    refine fr_iconst h dX7_pop_14 ?_
    refine fr_isub h dX7_pop_15 ?_
    refine fr_puti (iz := 7) h kX7 fX7_92 (Ru_at hr) rfl rfl (by decide) (by decide) rfl (by decide +kernel) (Ru_f7 hr) (by omega) (by omega) dX7_pop_16 ?_
    refine fr_mem (fun x10 m11 => ?_)
    refine fr_aload_n h rfl 0 rfl dX7_pop_19 ?_
    refine fr_getc (z := (r + 4)) (iz := 3) h kX7 fX7_22 (Ru_at hr) rfl rfl (Ru_f3 hr) (by omega) dX7_pop_20 ?_
    refine fr_aload_n h rfl 0 rfl dX7_pop_23 ?_
    refine fr_geti (iz := 7) h kX7 fX7_92 (Ru_at hr) rfl rfl (by decide) (by decide) (Ru_f7 hr) dX7_pop_24 (fun z12 w13 w14 q15 => ?_)
    have r16 := q15.trans (fm_rd_s m11)
    subst q15
    have kp : x r 7 = 1 → x (r + 4) (x10 r 7) = x (r + 4) 0 := fun q => by rw [show x10 r 7 = 0 by omega]
    refine fr_iald h (Ru_a4 hr) (by omega) (by omega) (Ru_r4 hr (x10 r 7)) dX7_pop_27 (fun z17 w18 w19 q20 => ?_)
    have r21 := q20.trans (fm_rd_k (a := (r + 4)) (b := (x10 r 7)) m11 (by omega))
    have r22 := (fm_rd_i (a := r) (b := 4) m11 (by decide))
    exact fr_iret h hq (by omega) ⟨(by omega), (by omega), (fun a k0 => (fm_up_row m11 (by omega)))⟩ dX7_pop_28
  ·
    refine fr_iconst h dX7_pop_7 ?_
    exact fr_iret h hq (by omega) ⟨(by omega), (by omega), (fun a _ => rfl)⟩ dX7_pop_8
set_option maxHeartbeats 200000 in
theorem f_X7_valueOf (x : Mm) (p : Int) (w : Int) (h_p : fm_r p) (h_w : fm_r w) (e0 : p = 115) (e1 : w = 0) : CnI YC yX7_valueOf cX7_valueOf 5 .int 0 0 (fun G => [vi p, vr G 90, vi w]) x (fun z y' => (z = 0) ∧ (y' = x)) := by
  refine cn_I (by decide) (fun _ => Nat.le_of_ble_eq_true rfl) (fun G C h hq => ?_)
  have h : OK YC G C cX7_valueOf RX7 5 (some .int) 0 0 := h
  show FW YC G C 5 x 0 [(0, vi p), (1, vr G 90), (2, vi w)] []
  refine fr_iload_n h rfl 0 rfl dX7_valueOf_0 ?_
  refine fr_bipush h rfl dX7_valueOf_1 ?_
  refine fr_icmp_ne (tgt := 8) h dX7_valueOf_3 (by decide) (by omega) (by omega) (fun c1 => ?_) (fun c1 => ?_)
  ·
    refine fr_iload_n h rfl 2 rfl dX7_valueOf_8 ?_
    refine fr_if_ne (tgt := 24) h dX7_valueOf_9 (by decide) (by omega) (fun c2 => ?_) (fun c2 => ?_)
    ·
      exfalso; omega
    ·
      refine fr_iload_n h rfl 0 rfl dX7_valueOf_12 ?_
      refine fr_bipush h rfl dX7_valueOf_13 ?_
      refine fr_icmp_ne (tgt := 22) h dX7_valueOf_15 (by decide) (by omega) (by omega) (fun c3 => ?_) (fun c3 => ?_)
      ·
        refine fr_iconst h dX7_valueOf_22 ?_
        exact fr_iret h hq (by omega) ⟨(by omega), rfl⟩ dX7_valueOf_23
      ·
        exfalso; omega
  ·
    exfalso; omega
set_option maxHeartbeats 200000 in
theorem f_X7_costOf (x : Mm) (r : Int) (hr : isRu r) (w : Int) (h_w : fm_r w) (e0 : w = 0) (e1 : x r 4 = 1) (e2 : x (r + 1) 0 = 1115) : CnI YC yX7_costOf cX7_costOf 9 .int 1 24 (fun G => [vr G r, vr G 90, vi w]) x (fun z y' => (z = 0) ∧ (∀ a : Int, (a < r ∨ r < a) → (a < r + 4 ∨ r + 4 < a) → y' a = x a)) := by
  refine cn_I (by decide) (fun _ => Nat.le_of_ble_eq_true rfl) (fun G C h hq => ?_)
  have h : OK YC G C cX7_costOf RX7 9 (some .int) 1 24 := h
  show FW YC G C 9 x 0 [(0, vr G r), (1, vr G 90), (2, vi w)] []
  have h_r := Ru_b hr
  refine fr_iload_n h rfl 2 rfl dX7_costOf_0 ?_
  refine fr_aload_n h rfl 1 rfl dX7_costOf_1 ?_
  refine fr_aleni h ar_90 (by decide) dX7_costOf_2 ?_
  show FW YC G C 9 x 3 [(0, vr G r), (1, vr G 90), (2, vi w)] [vi 4, vi w]
  refine fr_mmin h (by omega) (by omega) (tb_2 (i := 156) (by decide +kernel) (by decide +kernel)) w_mmin (by decide) (by decide) (Nat.le_of_ble_eq_true rfl) dX7_costOf_3 (fun z1 w2 w3 w4 => ?_)
  refine fr_istore_n (L' := [(0, vr G r), (1, vr G 90), (2, vi w), (3, vi z1)]) h rfl dX7_costOf_6 (by decide) [1, 2, 3, 0] rfl ?_
  refine fr_aload_n h rfl 0 rfl dX7_costOf_7 ?_
  refine fr_iconst h dX7_costOf_8 ?_
  refine fr_puti (iz := 7) h kX7 fX7_92 (Ru_at hr) rfl rfl (by decide) (by decide) rfl (by decide +kernel) (Ru_f7 hr) (by omega) (by omega) dX7_costOf_9 ?_
  refine fr_mem (fun x5 m6 => ?_)
  refine fr_iconst h dX7_costOf_12 ?_
  refine fr_istore (L' := [(0, vr G r), (1, vr G 90), (2, vi w), (3, vi z1), (4, vi 0)]) h dX7_costOf_13 (by decide) [1, 2, 3, 4, 0] rfl ?_
  refine fr_iload h 4 rfl dX7_costOf_15 ?_
  refine fr_aload_n h rfl 0 rfl dX7_costOf_17 ?_
  refine fr_geti (iz := 4) h kX7 fX7_25 (Ru_at hr) rfl rfl (by decide) (by decide) (Ru_f4 hr) dX7_costOf_18 (fun z7 w8 w9 q10 => ?_)
  have r11 := q10.trans (fm_rd_i (a := r) (b := 4) m6 (by decide))
  refine fr_icmp_ge (tgt := 131) h dX7_costOf_21 (by decide) (by omega) (by omega) (fun c12 => ?_) (fun c12 => ?_)
  ·
    exfalso; omega
  ·
    refine fr_aload_n h rfl 0 rfl dX7_costOf_24 ?_
    refine fr_getc (z := (r + 1)) (iz := 0) h kX7 fX7_9 (Ru_at hr) rfl rfl (Ru_f0 hr) (by omega) dX7_costOf_25 ?_
    refine fr_iload h 4 rfl dX7_costOf_28 ?_
    refine fr_iald h (Ru_a1 hr) (by omega) (by omega) (Ru_r1 hr 0) dX7_costOf_30 (fun z13 w14 w15 q16 => ?_)
    have r17 := q16.trans (fm_rd_k (a := (r + 1)) (b := 0) m6 (by omega))
    refine fr_istore (L' := [(0, vr G r), (1, vr G 90), (2, vi w), (3, vi z1), (4, vi 0), (5, vi z13)]) h dX7_costOf_31 (by decide) [1, 2, 3, 4, 5, 0] rfl ?_
    refine fr_iload h 5 rfl dX7_costOf_33 ?_
    refine fr_sipush h rfl dX7_costOf_35 ?_
    refine fr_isub h dX7_costOf_38 ?_
    refine fr_normi (fun z18 w19 q20 => ?_)
    have w21 : fm_r ((z13 - 1000)) → z18 = (z13 - 1000) := fun q => (iI_inj q w19 q20).symm
    refine fr_istore (L' := [(0, vr G r), (1, vr G 90), (2, vi w), (3, vi z1), (4, vi 0), (5, vi z13), (6, vi z18)]) h dX7_costOf_39 (by decide) [1, 2, 3, 4, 5, 6, 0] rfl ?_
    refine fr_iload h 5 rfl dX7_costOf_41 ?_
    refine fr_sipush h rfl dX7_costOf_43 ?_
    refine fr_icmp_ge (tgt := 58) h dX7_costOf_46 (by decide) (by omega) (by omega) (fun c22 => ?_) (fun c22 => ?_)
    ·
      refine fr_iload h 6 rfl dX7_costOf_58 ?_
      refine fr_csI h wX7_isLetter lX7_79 (f_X7_isLetter x5 z18 (by omega)) rfl (by decide) (by decide) rfl (Nat.le_of_ble_eq_true rfl) dX7_costOf_60 (fun z24 x23 w25 p26 => ?_)
      obtain ⟨p27, p28, y29⟩ := p26
      rw [y29]
      clear y29
      refine fr_if_eq (tgt := 80) h dX7_costOf_63 (by decide) (by omega) (fun c30 => ?_) (fun c30 => ?_)
      ·
        exfalso; omega
      ·
        refine fr_aload_n h rfl 0 rfl dX7_costOf_66 ?_
        refine fr_iload h 6 rfl dX7_costOf_67 ?_
        refine fr_aload_n h rfl 1 rfl dX7_costOf_69 ?_
        refine fr_iload_n h rfl 3 rfl dX7_costOf_70 ?_
        refine fr_csI h wX7_valueOf lX7_98 (f_X7_valueOf x5 z18 z1 (by omega) (by omega) (by omega) (by omega)) rfl (by decide) (by decide) rfl (Nat.le_of_ble_eq_true rfl) dX7_costOf_71 (fun z32 x31 w33 p34 => ?_)
        obtain ⟨p35, y36⟩ := p34
        rw [y36]
        clear y36
        have r37 := (fm_rd_s m6)
        skip
        refine fr_cvV h kX7 (Ru_at hr) wX7_push lX7_95 (f_X7_push x5 r hr z32 (by omega)) rfl (by decide) (by decide) rfl (Nat.le_of_ble_eq_true rfl) dX7_costOf_74 (fun x38 p41 => ?_)
        obtain ⟨p42, p43, f44⟩ := p41
        refine fr_goto (tgt := 125) h dX7_costOf_77 (by decide) ?_
        refine fr_iinc (j := 4) (L' := [(0, vr G r), (1, vr G 90), (2, vi w), (3, vi z1), (4, vi (0 + 1)), (5, vi z13), (6, vi z18)]) h dX7_costOf_125 rfl (by decide) [1, 2, 3, 4, 0, 5, 6] rfl ?_
        refine fr_goto (tgt := 15) h dX7_costOf_128 (by decide) ?_
        refine fr_iload h 4 rfl dX7_costOf_15 ?_
        refine fr_aload_n h rfl 0 rfl dX7_costOf_17 ?_
        refine fr_geti (iz := 4) h kX7 fX7_25 (Ru_at hr) rfl rfl (by decide) (by decide) (Ru_f4 hr) dX7_costOf_18 (fun z45 w46 w47 q48 => ?_)
        have r49 := (fm_rd_i (a := r) (b := 4) m6 (by decide))
        refine fr_icmp_ge (tgt := 131) h dX7_costOf_21 (by decide) (by omega) (by omega) (fun c50 => ?_) (fun c50 => ?_)
        ·
          refine fr_aload_n h rfl 0 rfl dX7_costOf_131 ?_
          have kp : x38 (r + 4) (x5 r 7) = x38 (r + 4) 0 := by rw [show x5 r 7 = 0 by omega]
          refine fr_cvI h kX7 (Ru_at hr) wX7_pop lX7_102 (f_X7_pop x38 r hr) rfl (by decide) (by decide) rfl (Nat.le_of_ble_eq_true rfl) dX7_costOf_132 (fun z52 x51 w53 p54 => ?_)
          obtain ⟨p55, p56, f57⟩ := p54
          exact fr_iret h hq (by omega) ⟨(by omega), (fun a k0 k1 => ((f57 a (by omega)).trans ((f44 a (by omega) (by omega)).trans (fm_up_row m6 (by omega)))))⟩ dX7_costOf_135
        ·
          exfalso; omega
    ·
      exfalso; omega
