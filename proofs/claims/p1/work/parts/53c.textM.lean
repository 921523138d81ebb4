set_option maxHeartbeats 400000 in
theorem d_X12_sign (x : Mm) (v : Int) (h_v : fm_r v) : CnI YM yX12_sign cX12_sign 3 .int 0 0 (fun G => [vr G 0, vi v]) x (fun z y' => (x 0 2 ≤ 76 → z = x 0 2 + 4 ∧ y' 0 2 = x 0 2 + 4) ∧ (76 < x 0 2 → z = (-1) ∧ y' 0 2 = x 0 2) ∧ (y' 0 5 = 0) ∧ (∀ j : Int, 0 ≤ j → j < x 0 2 → y' 2 j = x 2 j) ∧ (x 0 2 ≤ 76 → ∀ j : Int, 0 ≤ j → j < 4 → uch (y' 2 (x 0 2 + j)) = bch v (24 - 8 * j)) ∧ (∀ a : Int, (a < 0 ∨ 0 < a) → (a < 2 ∨ 2 < a) → y' a = x a) ∧ (∀ i : Int, i ≠ 2 → i ≠ 5 → y' 0 i = x 0 i)) := by
  refine cn_I (by decide) (fun _ => Nat.le_of_ble_eq_true rfl) (fun G C h hq => ?_)
  have h : OK YM G C cX12_sign RX12 3 (some .int) 0 0 := h
  show FW YM G C 3 x 0 [(0, vr G 0), (1, vi v)] []
  refine fr_aload_n h rfl 0 rfl dX12_sign_0 ?_
  refine fr_iconst h dX12_sign_1 ?_
  refine fr_puti (iz := 5) h kX12 fX12_94 at_0M rfl rfl (by decide) (by decide) rfl (by decide +kernel) rfM_5 (by omega) (by omega) dX12_sign_2 ?_
  refine fr_mem (fun x1 m2 => ?_)
  refine fr_aload_n h rfl 0 rfl dX12_sign_5 ?_
  refine fr_geti (iz := 2) h kX12 fX12_109 at_0M rfl rfl (by decide) (by decide) rfM_2 dX12_sign_6 (fun z3 w4 w5 q6 => ?_)
  have r7 := q6.trans (fm_rd_i (a := 0) (b := 2) m2 (by decide))
  refine fr_iconst h dX12_sign_9 ?_
  refine fr_iadd h dX12_sign_10 ?_
  refine fr_bipush h rfl dX12_sign_11 ?_
  refine fr_icmp_le (tgt := 18) h dX12_sign_13 (by decide) (by omega) (by omega) (fun c8 => ?_) (fun c8 => ?_)
  ·
    refine fr_iconst h dX12_sign_18 ?_
    refine fr_istore_n (L' := [(0, vr G 0), (1, vi v), (2, vi 3)]) h rfl dX12_sign_19 (by decide) [1, 2, 0] rfl ?_
    have HL9 : ∀ (n9 : Nat) (l2_9 : Int) (x_9 : Mm), fm_r l2_9 → (-1) ≤ l2_9 → l2_9 ≤ 3 → x 0 2 ≤ 76 → x_9 0 2 + l2_9 = x 0 2 + 3 → (∀ j : Int, 0 ≤ j → j < x 0 2 → x_9 2 j = x 2 j) → (∀ j : Int, 0 ≤ j → j < x_9 0 2 - x 0 2 → uch (x_9 2 (x 0 2 + j)) = bch v (24 - 8 * j)) → (∀ a : Int, (a < 0 ∨ 0 < a) → (a < 2 ∨ 2 < a) → x_9 a = x1 a) → (∀ i : Int, i ≠ 2 → x_9 0 i = x1 0 i) → (l2_9 + 1) < n9 → FW YM G C 3 x_9 20 [(0, vr G 0), (1, vi v), (2, vi l2_9)] [] := by
      intro n9
      induction n9 with
      | zero =>
        intro l2_9 x_9 g9_0 g9_1 g9_2 g9_3 g9_4 g9_5 g9_6 g9_7 g9_8 g9_9
        exfalso; omega
      | succ n9 ih9 =>
        intro l2_9 x_9 g9_0 g9_1 g9_2 g9_3 g9_4 g9_5 g9_6 g9_7 g9_8 g9_9
        refine fr_iload_n h rfl 2 rfl dX12_sign_20 ?_
        refine fr_if_lt (tgt := 53) h dX12_sign_21 (by decide) (by omega) (fun c10 => ?_) (fun c10 => ?_)
        ·
          refine fr_aload_n h rfl 0 rfl dX12_sign_53 ?_
          refine fr_geti (iz := 2) h kX12 fX12_109 at_0M rfl rfl (by decide) (by decide) rfM_2 dX12_sign_54 (fun z11 w12 w13 q14 => ?_)
          have r15 := (fm_rd_i (a := 0) (b := 2) m2 (by decide))
          have r16 := (fm_rd_i (a := 0) (b := 2) m2 (by decide))
          have r17 := (fm_rd_i (a := 0) (b := 2) m2 (by decide))
          have r18 := (g9_8 5 (by decide))
          have r19 := r18.trans (fm_rd_s m2)
          exact fr_iret h hq (by omega) ⟨(by omega), (by omega), (by omega), (fun j a b => g9_5 j a b), (fun _ j a b => g9_6 j a (by omega)), (fun a k0 k1 => ((g9_7 a (by omega) (by omega)).trans (fm_up_row m2 (by omega)))), (fun i k0 k1 => ((g9_8 i (by omega)).trans (fm_rd_i (a := 0) (b := i) m2 (by omega))))⟩ dX12_sign_57
        ·
          refine fr_aload_n h rfl 0 rfl dX12_sign_24 ?_
          refine fr_getc (z := 2) (iz := 1) h kX12 fX12_13 at_0M rfl rfl rfM_1 (by omega) dX12_sign_25 ?_
          refine fr_aload_n h rfl 0 rfl dX12_sign_28 ?_
          refine fr_dup h rfl dX12_sign_29 ?_
          refine fr_geti (iz := 2) h kX12 fX12_109 at_0M rfl rfl (by decide) (by decide) rfM_2 dX12_sign_30 (fun z20 w21 w22 q23 => ?_)
          have r24 := (fm_rd_i (a := 0) (b := 2) m2 (by decide))
          refine fr_dup_x1 h rfl rfl dX12_sign_33 ?_
          refine fr_iconst h dX12_sign_34 ?_
          refine fr_iadd h dX12_sign_35 ?_
          refine fr_puti (iz := 2) h kX12 fX12_109 at_0M rfl rfl (by decide) (by decide) rfl (by decide +kernel) rfM_2 (by omega) (by omega) dX12_sign_36 ?_
          refine fr_mem (fun x25 m26 => ?_)
          refine fr_iload_n h rfl 1 rfl dX12_sign_39 ?_
          refine fr_bipush h rfl dX12_sign_40 ?_
          refine fr_iload_n h rfl 2 rfl dX12_sign_42 ?_
          refine fr_imul h dX12_sign_43 ?_
          refine fr_ishr h dX12_sign_44 (fun z27 w28 q29 w30 => ?_)
          refine fr_i2b h dX12_sign_45 (fun z31 w32 q33 w34 => ?_)
          have kc := bch_r (v := v) (w := 8 * l2_9) (by omega) h_v w28 q29
          have kd := b8_mod w28 w34 q33
          refine fr_bast h (RB_a (Or.inl ⟨rfl, rfl⟩)) (by omega) (by omega) (RB_r (Or.inl ⟨rfl, rfl⟩) z20) (by omega) (by omega) (by omega) dX12_sign_46 ?_
          refine fr_mem (fun x35 m36 => ?_)
          refine fr_iinc (j := 2) (L' := [(0, vr G 0), (1, vi v), (2, vi (l2_9 + (-1)))]) h dX12_sign_47 rfl (by decide) [1, 2, 0] rfl ?_
          refine fr_goto (tgt := 20) h dX12_sign_50 (by decide) ?_
          have r37 := (fm_rd_k (a := 0) (b := 2) m36 (by omega))
          have r38 := r37.trans (fm_rd_s m26)
          have r39 := (fm_rd_k (a := 0) (b := 2) m36 (by omega))
          have r40 := r39.trans (fm_rd_s m26)
          exact ih9 (l2_9 + (-1)) x35 (by omega) (by omega) (by omega) (by omega) (by omega) (fun j a b => ((fm_rd_i (a := 2) (b := j) m36 (by omega)).trans (fm_rd_k (a := 2) (b := j) m26 (by omega))).trans (g9_5 j a b)) (by intro j a b; by_cases hj : x 0 2 + j = z20; (rw [hj, fm_rd_s m36, show 24 - 8 * j = 8 * l2_9 by omega]; omega); (exact (congrArg uch ((fm_rd_i (a := 2) m36 hj).trans (fm_rd_k (a := 2) m26 (by omega)))).trans (g9_6 j a (by omega)))) (fun a k0 k1 => ((fm_up_row m36 (by omega)).trans ((fm_up_row m26 (by omega)).trans (g9_7 a (by omega) (by omega))))) (fun i k0 => ((fm_rd_k (a := 0) (b := i) m36 (by omega)).trans ((fm_rd_i (a := 0) (b := i) m26 (by omega)).trans (g9_8 i (by omega))))) (by omega)
    have r41 := (fm_rd_i (a := 0) (b := 2) m2 (by decide))
    have r42 := (fm_rd_i (a := 0) (b := 2) m2 (by decide))
    exact HL9 ((3 + 1) + 1 : Int).toNat 3 x1 (by omega) (by omega) (by omega) (by omega) (by omega) (fun j a b => congrFun (fm_up_row m2 (by omega)) j) (fun j a b => by exfalso; omega) (fun a _ _ => rfl) (fun i _ => rfl) (by omega)
  ·
    refine fr_iconst h dX12_sign_16 ?_
    have r43 := (fm_rd_i (a := 0) (b := 2) m2 (by decide))
    have r44 := (fm_rd_i (a := 0) (b := 2) m2 (by decide))
    have r45 := (fm_rd_s m2)
    exact fr_iret h hq (by omega) ⟨(by omega), (by omega), (by omega), (fun j a b => congrFun (fm_up_row m2 (by omega)) j), (fun q => by exfalso; omega), (fun a k0 k1 => (fm_up_row m2 (by omega))), (fun i k0 k1 => (fm_rd_i (a := 0) (b := i) m2 (by omega)))⟩ dX12_sign_17
set_option maxHeartbeats 200000 in
theorem d_X12_here (x : Mm) (f : Int → Int) (n : Int) (a : Int) (e0 : x 0 6 = 2) (e1 : (x 0 7 ≤ x 0 8 ∧ n = x 0 7) ∨ (x 0 8 < x 0 7 ∧ n = x 0 8)) (e2 : x 0 9 = a) (e3 : a ≤ n) (e4 : ∀ j : Int, uch (x 2 j) = f j) (e5 : x 0 8 ≤ 80) : CnI YM yX12_here cX12_here 1 .int 0 0 (fun G => [vr G 0]) x (fun z y' => ((-1) ≤ z) ∧ (z ≤ 255) ∧ (a < n → z = f a) ∧ (n ≤ a → z = (-1)) ∧ (y' = x)) := by
  refine cn_I (by decide) (fun _ => Nat.le_of_ble_eq_true rfl) (fun G C h hq => ?_)
  have h : OK YM G C cX12_here RX12 1 (some .int) 0 0 := h
  show FW YM G C 1 x 0 [(0, vr G 0)] []
  refine fr_aload_n h rfl 0 rfl dX12_here_0 ?_
  refine fr_geti (iz := 9) h kX12 fX12_121 at_0M rfl rfl (by decide) (by decide) rfM_9 dX12_here_1 (fun z1 w2 w3 q4 => ?_)
  subst q4
  refine fr_aload_n h rfl 0 rfl dX12_here_4 ?_
  refine fr_geti (iz := 7) h kX12 fX12_115 at_0M rfl rfl (by decide) (by decide) rfM_7 dX12_here_5 (fun z5 w6 w7 q8 => ?_)
  subst q8
  refine fr_icmp_ge (tgt := 38) h dX12_here_8 (by decide) (by omega) (by omega) (fun c9 => ?_) (fun c9 => ?_)
  ·
    refine fr_iconst h dX12_here_38 ?_
    have ka := e4 (x 0 9)
    have kb : f (x 0 9) = f a := by rw [e2]
    have ku := @uch_n (x 2 (x 0 9))
    have kp := @uch_p (x 2 (x 0 9))
    exact fr_iret h hq (by omega) ⟨(by omega), (by omega), (by omega), (by omega), rfl⟩ dX12_here_39
  ·
    refine fr_aload_n h rfl 0 rfl dX12_here_11 ?_
    refine fr_geti (iz := 9) h kX12 fX12_121 at_0M rfl rfl (by decide) (by decide) rfM_9 dX12_here_12 (fun z10 w11 w12 q13 => ?_)
    subst q13
    refine fr_aload_n h rfl 0 rfl dX12_here_15 ?_
    refine fr_geti (iz := 8) h kX12 fX12_118 at_0M rfl rfl (by decide) (by decide) rfM_8 dX12_here_16 (fun z14 w15 w16 q17 => ?_)
    subst q17
    refine fr_icmp_ge (tgt := 38) h dX12_here_19 (by decide) (by omega) (by omega) (fun c18 => ?_) (fun c18 => ?_)
    ·
      refine fr_iconst h dX12_here_38 ?_
      have ka := e4 (x 0 9)
      have kb : f (x 0 9) = f a := by rw [e2]
      have ku := @uch_n (x 2 (x 0 9))
      have kp := @uch_p (x 2 (x 0 9))
      exact fr_iret h hq (by omega) ⟨(by omega), (by omega), (by omega), (by omega), rfl⟩ dX12_here_39
    ·
      refine fr_aload_n h rfl 0 rfl dX12_here_22 ?_
      refine fr_getr (z := 2) (iz := 6) h kX12 fX12_112 at_0M rfl rfl e0 (by omega) dX12_here_23 ?_
      refine fr_aload_n h rfl 0 rfl dX12_here_26 ?_
      refine fr_geti (iz := 9) h kX12 fX12_121 at_0M rfl rfl (by decide) (by decide) rfM_9 dX12_here_27 (fun z19 w20 w21 q22 => ?_)
      subst q22
      refine fr_bald h (RB_a (Or.inl ⟨rfl, rfl⟩)) (by omega) (by omega) (RB_r (Or.inl ⟨rfl, rfl⟩) (x 0 9)) dX12_here_30 (fun z23 w24 w25 q26 => ?_)
      refine fr_sipush h rfl dX12_here_31 ?_
      refine fr_iand h dX12_here_34 (fun z27 w28 q29 w30 => ?_)
      have w31 := w30 (by omega) (by omega)
      have w32 := b255 (by omega) w28 q29
      refine fr_goto (tgt := 39) h dX12_here_35 (by decide) ?_
      have ka := e4 (x 0 9)
      have kb : f (x 0 9) = f a := by rw [e2]
      have ku := @uch_n (x 2 (x 0 9))
      have kp := @uch_p (x 2 (x 0 9))
      exact fr_iret h hq (by omega) ⟨(by omega), (by omega), (by omega), (by omega), rfl⟩ dX12_here_39
set_option maxHeartbeats 200000 in
theorem d_X12_fault (x : Mm) (p : Int) (h_p : fm_r p) (e0 : 0 ≤ p) (e1 : p ≤ 80) : CnV YM yX12_fault cX12_fault 2 1 20 (fun G => [vr G 0, vi p]) x (fun y' => (x 0 10 = (-1) → y' 0 10 = p) ∧ (x 0 10 ≠ (-1) → y' 0 10 = x 0 10) ∧ (∀ a : Int, (a < 0 ∨ 0 < a) → y' a = x a) ∧ (∀ i : Int, i ≠ 10 → y' 0 i = x 0 i)) := by
  refine cn_V (by decide) (fun _ => Nat.le_of_ble_eq_true rfl) (fun G C h hq => ?_)
  have h : OK YM G C cX12_fault RX12 2 none 1 20 := h
  show FW YM G C 2 x 0 [(0, vr G 0), (1, vi p)] []
  refine fr_aload_n h rfl 0 rfl dX12_fault_0 ?_
  refine fr_cvI h kX12 at_0M wX12_fine lX12_131 (c_X12_fine x) rfl (by decide) (by decide) rfl (Nat.le_of_ble_eq_true rfl) dX12_fault_1 (fun z2 x1 w3 p4 => ?_)
  obtain ⟨p5, p6, y7⟩ := p4
  rw [y7]
  clear y7
  refine fr_if_eq (tgt := 12) h dX12_fault_4 (by decide) (by omega) (fun c8 => ?_) (fun c8 => ?_)
  ·
    exact fr_vret h hq ⟨(by omega), (by omega), (fun a _ => rfl), (fun i _ => rfl)⟩ dX12_fault_12
  ·
    refine fr_aload_n h rfl 0 rfl dX12_fault_7 ?_
    refine fr_iload_n h rfl 1 rfl dX12_fault_8 ?_
    refine fr_puti (iz := 10) h kX12 fX12_124 at_0M rfl rfl (by decide) (by decide) rfl (by decide +kernel) rfM_10 (by omega) (by omega) dX12_fault_9 ?_
    refine fr_mem (fun x9 m10 => ?_)
    have r11 := (fm_rd_s m10)
    have r12 := (fm_rd_s m10)
    exact fr_vret h hq ⟨(by omega), (by omega), (fun a k0 => (fm_up_row m10 (by omega))), (fun i k0 => (fm_rd_i (a := 0) (b := i) m10 (by omega)))⟩ dX12_fault_12
set_option maxHeartbeats 200000 in
theorem d_X12_passes (x : Mm) (p : Int) (f : Int → Int) (n : Int) (a : Int) (h_p : fm_r p) (e0 : x 0 6 = 2) (e1 : (x 0 7 ≤ x 0 8 ∧ n = x 0 7) ∨ (x 0 8 < x 0 7 ∧ n = x 0 8)) (e2 : x 0 9 = a) (e3 : a ≤ n) (e4 : ∀ j : Int, uch (x 2 j) = f j) (e5 : x 0 8 ≤ 80) (e6 : 0 ≤ p) (e7 : p ≤ 255) : CnI YM yX12_passes cX12_passes 2 .boolean 1 20 (fun G => [vr G 0, vi p]) x (fun z y' => (z = 0 ∨ z = 1) ∧ ((z = 1 ↔ x 0 10 = (-1) ∧ a < n ∧ f a = p)) ∧ (z = 1 → y' 0 9 = a + 1) ∧ (z = 0 → y' 0 9 = a) ∧ (∀ a : Int, (a < 0 ∨ 0 < a) → y' a = x a) ∧ (∀ i : Int, i ≠ 9 → y' 0 i = x 0 i)) := by
  refine cn_I (by decide) (fun _ => Nat.le_of_ble_eq_true rfl) (fun G C h hq => ?_)
  have h : OK YM G C cX12_passes RX12 2 (some .boolean) 1 20 := h
  show FW YM G C 2 x 0 [(0, vr G 0), (1, vi p)] []
  refine fr_aload_n h rfl 0 rfl dX12_passes_0 ?_
  refine fr_cvI h kX12 at_0M wX12_fine lX12_131 (c_X12_fine x) rfl (by decide) (by decide) rfl (Nat.le_of_ble_eq_true rfl) dX12_passes_1 (fun z2 x1 w3 p4 => ?_)
  obtain ⟨p5, p6, y7⟩ := p4
  rw [y7]
  clear y7
  refine fr_if_eq (tgt := 15) h dX12_passes_4 (by decide) (by omega) (fun c8 => ?_) (fun c8 => ?_)
  ·
    refine fr_iconst h dX12_passes_15 ?_
    exact fr_zret h rfl hq (by omega) ⟨(by omega), (by omega), (by omega), (by omega), (fun a _ => rfl), (fun i _ => rfl)⟩ dX12_passes_16
  ·
    refine fr_aload_n h rfl 0 rfl dX12_passes_7 ?_
    refine fr_cvI h kX12 at_0M wX12_here lX12_135 (d_X12_here x f n a (by omega) (by omega) (by omega) (by omega) e4 (by omega)) rfl (by decide) (by decide) rfl (Nat.le_of_ble_eq_true rfl) dX12_passes_8 (fun z10 x9 w11 p12 => ?_)
    obtain ⟨p13, p14, p15, p16, y17⟩ := p12
    rw [y17]
    clear y17
    refine fr_iload_n h rfl 1 rfl dX12_passes_11 ?_
    refine fr_icmp_eq (tgt := 17) h dX12_passes_12 (by decide) (by omega) (by omega) (fun c18 => ?_) (fun c18 => ?_)
    ·
      refine fr_aload_n h rfl 0 rfl dX12_passes_17 ?_
      refine fr_dup h rfl dX12_passes_18 ?_
      refine fr_geti (iz := 9) h kX12 fX12_121 at_0M rfl rfl (by decide) (by decide) rfM_9 dX12_passes_19 (fun z19 w20 w21 q22 => ?_)
      refine fr_iconst h dX12_passes_22 ?_
      refine fr_iadd h dX12_passes_23 ?_
      refine fr_puti (iz := 9) h kX12 fX12_121 at_0M rfl rfl (by decide) (by decide) rfl (by decide +kernel) rfM_9 (by omega) (by omega) dX12_passes_24 ?_
      refine fr_mem (fun x23 m24 => ?_)
      refine fr_iconst h dX12_passes_27 ?_
      have r25 := (fm_rd_s m24)
      have r26 := (fm_rd_s m24)
      exact fr_zret h rfl hq (by omega) ⟨(by omega), (by omega), (by omega), (by omega), (fun a k0 => (fm_up_row m24 (by omega))), (fun i k0 => (fm_rd_i (a := 0) (b := i) m24 (by omega)))⟩ dX12_passes_28
    ·
      refine fr_iconst h dX12_passes_15 ?_
      exact fr_zret h rfl hq (by omega) ⟨(by omega), (by omega), (by omega), (by omega), (fun a _ => rfl), (fun i _ => rfl)⟩ dX12_passes_16
set_option maxHeartbeats 200000 in
theorem d_X12_oneOf (x : Mm) (p : Int) (w : Int) (f : Int → Int) (n : Int) (a : Int) (h_p : fm_r p) (h_w : fm_r w) (e0 : x 0 6 = 2) (e1 : (x 0 7 ≤ x 0 8 ∧ n = x 0 7) ∨ (x 0 8 < x 0 7 ∧ n = x 0 8)) (e2 : x 0 9 = a) (e3 : a ≤ n) (e4 : ∀ j : Int, uch (x 2 j) = f j) (e5 : x 0 8 ≤ 80) (e6 : 0 ≤ p) (e7 : p ≤ 97) (e8 : 1 ≤ w) (e9 : w ≤ 12) (e10 : x 0 10 = (-1)) : CnI YM yX12_oneOf cX12_oneOf 3 .int 2 41 (fun G => [vr G 0, vi p, vi w]) x (fun z y' => (0 ≤ z) ∧ (z < w) ∧ (a < n ∧ p ≤ f a ∧ f a < p + w → y' 0 9 = a + 1 ∧ y' 0 10 = (-1)) ∧ (¬ (a < n ∧ p ≤ f a ∧ f a < p + w) → y' 0 9 = a ∧ y' 0 10 = a) ∧ (∀ a : Int, (a < 0 ∨ 0 < a) → y' a = x a) ∧ (∀ i : Int, i ≠ 9 → i ≠ 10 → y' 0 i = x 0 i)) := by
  refine cn_I (by decide) (fun _ => Nat.le_of_ble_eq_true rfl) (fun G C h hq => ?_)
  have h : OK YM G C cX12_oneOf RX12 3 (some .int) 2 41 := h
  show FW YM G C 3 x 0 [(0, vr G 0), (1, vi p), (2, vi w)] []
  refine fr_aload_n h rfl 0 rfl dX12_oneOf_0 ?_
  refine fr_cvI h kX12 at_0M wX12_fine lX12_131 (c_X12_fine x) rfl (by decide) (by decide) rfl (Nat.le_of_ble_eq_true rfl) dX12_oneOf_1 (fun z2 x1 w3 p4 => ?_)
  obtain ⟨p5, p6, y7⟩ := p4
  rw [y7]
  clear y7
  refine fr_if_ne (tgt := 9) h dX12_oneOf_4 (by decide) (by omega) (fun c8 => ?_) (fun c8 => ?_)
  ·
    refine fr_aload_n h rfl 0 rfl dX12_oneOf_9 ?_
    refine fr_cvI h kX12 at_0M wX12_here lX12_135 (d_X12_here x f n a (by omega) (by omega) (by omega) (by omega) e4 (by omega)) rfl (by decide) (by decide) rfl (Nat.le_of_ble_eq_true rfl) dX12_oneOf_10 (fun z10 x9 w11 p12 => ?_)
    obtain ⟨p13, p14, p15, p16, y17⟩ := p12
    rw [y17]
    clear y17
    refine fr_iload_n h rfl 1 rfl dX12_oneOf_13 ?_
    refine fr_iload_n h rfl 1 rfl dX12_oneOf_14 ?_
    refine fr_iload_n h rfl 2 rfl dX12_oneOf_15 ?_
    refine fr_iadd h dX12_oneOf_16 ?_
    refine fr_iconst h dX12_oneOf_17 ?_
    refine fr_isub h dX12_oneOf_18 ?_
    refine fr_csI h wX12_in lX12_101 (c_X12_in x z10 p ((p + w) - 1) (by omega) (by omega) (by omega)) rfl (by decide) (by decide) rfl (Nat.le_of_ble_eq_true rfl) dX12_oneOf_19 (fun z19 x18 w20 p21 => ?_)
    obtain ⟨p22, p23, y24⟩ := p21
    rw [y24]
    clear y24
    refine fr_if_ne (tgt := 35) h dX12_oneOf_22 (by decide) (by omega) (fun c25 => ?_) (fun c25 => ?_)
    ·
      refine fr_aload_n h rfl 0 rfl dX12_oneOf_35 ?_
      refine fr_dup h rfl dX12_oneOf_36 ?_
      refine fr_geti (iz := 9) h kX12 fX12_121 at_0M rfl rfl (by decide) (by decide) rfM_9 dX12_oneOf_37 (fun z26 w27 w28 q29 => ?_)
      subst q29
      refine fr_iconst h dX12_oneOf_40 ?_
      refine fr_iadd h dX12_oneOf_41 ?_
      refine fr_puti (iz := 9) h kX12 fX12_121 at_0M rfl rfl (by decide) (by decide) rfl (by decide +kernel) rfM_9 (by omega) (by omega) dX12_oneOf_42 ?_
      refine fr_mem (fun x30 m31 => ?_)
      refine fr_aload_n h rfl 0 rfl dX12_oneOf_45 ?_
      refine fr_getr (z := 2) (iz := 6) h kX12 fX12_112 at_0M rfl rfl ((fm_rd_i (a := 0) (b := 6) m31 (by decide)).trans e0) (by omega) dX12_oneOf_46 ?_
      refine fr_aload_n h rfl 0 rfl dX12_oneOf_49 ?_
      refine fr_geti (iz := 9) h kX12 fX12_121 at_0M rfl rfl (by decide) (by decide) rfM_9 dX12_oneOf_50 (fun z32 w33 w34 q35 => ?_)
      have r36 := q35.trans (fm_rd_s m31)
      subst q35
      refine fr_iconst h dX12_oneOf_53 ?_
      refine fr_isub h dX12_oneOf_54 ?_
      refine fr_bald h (RB_a (Or.inl ⟨rfl, rfl⟩)) (by omega) (by omega) (RB_r (Or.inl ⟨rfl, rfl⟩) ((x30 0 9) - 1)) dX12_oneOf_55 (fun z37 w38 w39 q40 => ?_)
      have r41 := q40.trans (fm_rd_k (a := 2) (b := ((x30 0 9) - 1)) m31 (by omega))
      have kk : x30 2 (x30 0 9 - 1) = x 2 (x 0 9) := (fm_rd_k m31 (by omega)).trans (by rw [show x30 0 9 - 1 = x 0 9 by omega])
      have ka := e4 (x 0 9)
      have kb : f (x 0 9) = f a := by rw [e2]
      have ku := @uch_n (x 2 (x 0 9))
      have kp := @uch_p (x 2 (x 0 9))
      refine fr_iload_n h rfl 1 rfl dX12_oneOf_56 ?_
      refine fr_isub h dX12_oneOf_57 ?_
      have r42 := (fm_rd_s m31)
      have r43 := (fm_rd_i (a := 0) (b := 10) m31 (by decide))
      have r44 := (fm_rd_s m31)
      have r45 := (fm_rd_i (a := 0) (b := 10) m31 (by decide))
      exact fr_iret h hq (by omega) ⟨(by omega), (by omega), (by omega), (by omega), (fun a k0 => (fm_up_row m31 (by omega))), (fun i k0 k1 => (fm_rd_i (a := 0) (b := i) m31 (by omega)))⟩ dX12_oneOf_58
    ·
      refine fr_aload_n h rfl 0 rfl dX12_oneOf_25 ?_
      refine fr_aload_n h rfl 0 rfl dX12_oneOf_26 ?_
      refine fr_geti (iz := 9) h kX12 fX12_121 at_0M rfl rfl (by decide) (by decide) rfM_9 dX12_oneOf_27 (fun z46 w47 w48 q49 => ?_)
      subst q49
      refine fr_cvV h kX12 at_0M wX12_fault lX12_143 (d_X12_fault x (x 0 9) (by omega) (by omega) (by omega)) rfl (by decide) (by decide) rfl (Nat.le_of_ble_eq_true rfl) dX12_oneOf_30 (fun x50 p53 => ?_)
      obtain ⟨p54, p55, f56, f57⟩ := p53
      refine fr_iconst h dX12_oneOf_33 ?_
      have r58 := (f57 9 (by decide))
      have r59 := (f57 9 (by decide))
      exact fr_iret h hq (by omega) ⟨(by omega), (by omega), (by omega), (by omega), (fun a k0 => (f56 a (by omega))), (fun i k0 k1 => (f57 i (by omega)))⟩ dX12_oneOf_34
  ·
    refine fr_iconst h dX12_oneOf_7 ?_
    exact fr_iret h hq (by omega) ⟨(by omega), (by omega), (by omega), (by omega), (fun a _ => rfl), (fun i _ _ => rfl)⟩ dX12_oneOf_8
set_option maxHeartbeats 2000000 in
theorem d_X12_number (x : Mm) (p : Int) (f : Int → Int) (n : Int) (a : Int) (h_p : fm_r p) (e0 : x 0 6 = 2) (e1 : (x 0 7 ≤ x 0 8 ∧ n = x 0 7) ∨ (x 0 8 < x 0 7 ∧ n = x 0 8)) (e2 : x 0 9 = a) (e3 : a ≤ n) (e4 : ∀ j : Int, uch (x 2 j) = f j) (e5 : x 0 8 ≤ 80) (e6 : 2 ≤ p) (e7 : p ≤ 3) (e8 : x 0 10 = (-1)) : CnI YM yX12_number cX12_number 4 .int 3 63 (fun G => [vr G 0, vi p]) x (fun z y' => (0 ≤ z) ∧ (z ≤ 999) ∧ (p = 2 → z ≤ 99) ∧ (¬ (a < n ∧ 48 ≤ f (a) ∧ f (a) ≤ 57) → y' 0 9 = a ∧ y' 0 10 = a) ∧ ((a < n ∧ 48 ≤ f (a) ∧ f (a) ≤ 57) → y' 0 10 = (-1) ∧ a + 1 ≤ y' 0 9 ∧ y' 0 9 ≤ a + p) ∧ ((a < n ∧ 48 ≤ f (a) ∧ f (a) ≤ 57) → a + 2 ≤ y' 0 9 → (a + 1 < n ∧ 48 ≤ f (a + 1) ∧ f (a + 1) ≤ 57)) ∧ ((a < n ∧ 48 ≤ f (a) ∧ f (a) ≤ 57) → y' 0 9 = a + 1 → ¬ (a + 1 < n ∧ 48 ≤ f (a + 1) ∧ f (a + 1) ≤ 57)) ∧ ((a < n ∧ 48 ≤ f (a) ∧ f (a) ≤ 57) → a + 3 ≤ y' 0 9 → (a + 1 + 1 < n ∧ 48 ≤ f (a + 1 + 1) ∧ f (a + 1 + 1) ≤ 57)) ∧ ((a < n ∧ 48 ≤ f (a) ∧ f (a) ≤ 57) → y' 0 9 = a + 2 → 2 < p → ¬ (a + 1 + 1 < n ∧ 48 ≤ f (a + 1 + 1) ∧ f (a + 1 + 1) ≤ 57)) ∧ (∀ a : Int, (a < 0 ∨ 0 < a) → y' a = x a) ∧ (∀ i : Int, i ≠ 9 → i ≠ 10 → y' 0 i = x 0 i)) := by
  refine cn_I (by decide) (fun _ => Nat.le_of_ble_eq_true rfl) (fun G C h hq => ?_)
  have h : OK YM G C cX12_number RX12 4 (some .int) 3 63 := h
  show FW YM G C 4 x 0 [(0, vr G 0), (1, vi p)] []
  refine fr_rng (fun hR9 => ?_)
  have h9 : 0 ≤ x 0 9 := by have q := hR9 0 9; rw [rfM_9] at q; exact q.1
  refine fr_aload_n h rfl 0 rfl dX12_number_0 ?_
  refine fr_bipush h rfl dX12_number_1 ?_
  refine fr_bipush h rfl dX12_number_3 ?_
  refine fr_cvI h kX12 at_0M wX12_oneOf lX12_147 (d_X12_oneOf x 48 10 f n a (by omega) (by omega) (by omega) (by omega) (by omega) (by omega) e4 (by omega) (by omega) (by omega) (by omega) (by omega) (by omega)) rfl (by decide) (by decide) rfl (Nat.le_of_ble_eq_true rfl) dX12_number_5 (fun z2 x1 w3 p4 => ?_)
  obtain ⟨p5, p6, p7, p8, f9, f10⟩ := p4
  refine fr_istore_n (L' := [(0, vr G 0), (1, vi p), (2, vi z2)]) h rfl dX12_number_8 (by decide) [1, 2, 0] rfl ?_
  refine fr_iconst h dX12_number_9 ?_
  refine fr_istore_n (L' := [(0, vr G 0), (1, vi p), (2, vi z2), (3, vi 1)]) h rfl dX12_number_10 (by decide) [1, 2, 3, 0] rfl ?_
  have HL11 : ∀ (n11 : Nat) (l2_11 l3_11 : Int) (x_11 : Mm), fm_r l2_11 → 0 ≤ l2_11 → l2_11 ≤ 999 → fm_r l3_11 → 1 ≤ l3_11 → l3_11 ≤ 3 → 1 ≤ l3_11 → (l3_11 = 1 → l2_11 ≤ 9) → (l3_11 = 2 → l2_11 ≤ 99) → l3_11 ≤ p → (¬ (a < n ∧ 48 ≤ f (a) ∧ f (a) ≤ 57) → x_11 0 9 = a ∧ x_11 0 10 = a) → ((a < n ∧ 48 ≤ f (a) ∧ f (a) ≤ 57) → x_11 0 9 = a + l3_11 ∧ x_11 0 10 = (-1)) → (2 ≤ l3_11 → (a < n ∧ 48 ≤ f (a) ∧ f (a) ≤ 57) ∧ (a + 1 < n ∧ 48 ≤ f (a + 1) ∧ f (a + 1) ≤ 57)) → (3 ≤ l3_11 → (a + 1 + 1 < n ∧ 48 ≤ f (a + 1 + 1) ∧ f (a + 1 + 1) ≤ 57)) → a ≤ x_11 0 9 → x_11 0 9 ≤ n → (∀ a : Int, (a < 0 ∨ 0 < a) → x_11 a = x1 a) → (∀ i : Int, i ≠ 9 → i ≠ 10 → x_11 0 i = x1 0 i) → (3 - l3_11) < n11 → FW YM G C 4 x_11 11 [(0, vr G 0), (1, vi p), (2, vi l2_11), (3, vi l3_11)] [] := by
    intro n11
    induction n11 with
    | zero =>
      intro l2_11 l3_11 x_11 g11_0 g11_1 g11_2 g11_3 g11_4 g11_5 g11_6 g11_7 g11_8 g11_9 g11_10 g11_11 g11_12 g11_13 g11_14 g11_15 g11_16 g11_17 g11_18
      exfalso; omega
    | succ n11 ih11 =>
      intro l2_11 l3_11 x_11 g11_0 g11_1 g11_2 g11_3 g11_4 g11_5 g11_6 g11_7 g11_8 g11_9 g11_10 g11_11 g11_12 g11_13 g11_14 g11_15 g11_16 g11_17 g11_18
      refine fr_iload_n h rfl 3 rfl dX12_number_11 ?_
      refine fr_iload_n h rfl 1 rfl dX12_number_12 ?_
      refine fr_icmp_ge (tgt := 57) h dX12_number_13 (by decide) (by omega) (by omega) (fun c12 => ?_) (fun c12 => ?_)
      ·
        refine fr_iload_n h rfl 2 rfl dX12_number_57 ?_
        exact fr_iret h hq (by omega) ⟨(by omega), (by omega), (by omega), (by omega), (by omega), (by omega), (by omega), (by omega), (by omega), (fun a k0 => ((g11_16 a (by omega)).trans (f9 a (by omega)))), (fun i k0 k1 => ((g11_17 i (by omega) (by omega)).trans (f10 i (by omega) (by omega))))⟩ dX12_number_58
      ·
        refine fr_aload_n h rfl 0 rfl dX12_number_16 ?_
        refine fr_cvI h kX12 at_0M wX12_fine lX12_131 (c_X12_fine x_11) rfl (by decide) (by decide) rfl (Nat.le_of_ble_eq_true rfl) dX12_number_17 (fun z14 x13 w15 p16 => ?_)
        obtain ⟨p17, p18, y19⟩ := p16
        rw [y19]
        clear y19
        refine fr_if_eq (tgt := 57) h dX12_number_20 (by decide) (by omega) (fun c20 => ?_) (fun c20 => ?_)
        ·
          refine fr_iload_n h rfl 2 rfl dX12_number_57 ?_
          exact fr_iret h hq (by omega) ⟨(by omega), (by omega), (by omega), (by omega), (by omega), (by omega), (by omega), (by omega), (by omega), (fun a k0 => ((g11_16 a (by omega)).trans (f9 a (by omega)))), (fun i k0 k1 => ((g11_17 i (by omega) (by omega)).trans (f10 i (by omega) (by omega))))⟩ dX12_number_58
        ·
          have j1 : l3_11 = 1 → f (x_11 0 9) = f (a + 1) := fun q => by rw [show x_11 0 9 = a + 1 by omega]
          have j2 : l3_11 = 2 → f (x_11 0 9) = f (a + 1 + 1) := fun q => by rw [show x_11 0 9 = a + 1 + 1 by omega]
          refine fr_aload_n h rfl 0 rfl dX12_number_23 ?_
          have r21 := (g11_17 6 (by decide) (by decide))
          have r22 := r21.trans (f10 6 (by decide) (by decide))
          have r23 := (g11_17 7 (by decide) (by decide))
          have r24 := r23.trans (f10 7 (by decide) (by decide))
          have r25 := (g11_17 8 (by decide) (by decide))
          have r26 := r25.trans (f10 8 (by decide) (by decide))
          have r27 := (g11_17 7 (by decide) (by decide))
          have r28 := r27.trans (f10 7 (by decide) (by decide))
          have r29 := (g11_17 8 (by decide) (by decide))
          have r30 := r29.trans (f10 8 (by decide) (by decide))
          have r31 := (g11_17 7 (by decide) (by decide))
          have r32 := r31.trans (f10 7 (by decide) (by decide))
          have r33 := (g11_17 8 (by decide) (by decide))
          have r34 := r33.trans (f10 8 (by decide) (by decide))
          have r35 := (g11_17 8 (by decide) (by decide))
          have r36 := r35.trans (f10 8 (by decide) (by decide))
          refine fr_cvI h kX12 at_0M wX12_here lX12_135 (d_X12_here x_11 f n (x_11 0 9) (by omega) (by omega) (by omega) (by omega) (fun j => (congrArg uch (congrFun ((g11_16 2 (by omega)).trans (f9 2 (by omega))) j)).trans (e4 j)) (by omega)) rfl (by decide) (by decide) rfl (Nat.le_of_ble_eq_true rfl) dX12_number_24 (fun z38 x37 w39 p40 => ?_)
          obtain ⟨p41, p42, p43, p44, y45⟩ := p40
          rw [y45]
          clear y45
          refine fr_bipush h rfl dX12_number_27 ?_
          refine fr_bipush h rfl dX12_number_29 ?_
          refine fr_csI h wX12_in lX12_101 (c_X12_in x_11 z38 48 57 (by omega) (by omega) (by omega)) rfl (by decide) (by decide) rfl (Nat.le_of_ble_eq_true rfl) dX12_number_31 (fun z47 x46 w48 p49 => ?_)
          obtain ⟨p50, p51, y52⟩ := p49
          rw [y52]
          clear y52
          refine fr_if_eq (tgt := 57) h dX12_number_34 (by decide) (by omega) (fun c53 => ?_) (fun c53 => ?_)
          ·
            refine fr_iload_n h rfl 2 rfl dX12_number_57 ?_
            exact fr_iret h hq (by omega) ⟨(by omega), (by omega), (by omega), (by omega), (by omega), (by omega), (by omega), (by omega), (by omega), (fun a k0 => ((g11_16 a (by omega)).trans (f9 a (by omega)))), (fun i k0 k1 => ((g11_17 i (by omega) (by omega)).trans (f10 i (by omega) (by omega))))⟩ dX12_number_58
          ·
            refine fr_bipush h rfl dX12_number_37 ?_
            refine fr_iload_n h rfl 2 rfl dX12_number_39 ?_
            refine fr_imul h dX12_number_40 ?_
            refine fr_aload_n h rfl 0 rfl dX12_number_41 ?_
            refine fr_bipush h rfl dX12_number_42 ?_
            refine fr_bipush h rfl dX12_number_44 ?_
            have r54 := (g11_17 6 (by decide) (by decide))
            have r55 := r54.trans (f10 6 (by decide) (by decide))
            have r56 := (g11_17 7 (by decide) (by decide))
            have r57 := r56.trans (f10 7 (by decide) (by decide))
            have r58 := (g11_17 8 (by decide) (by decide))
            have r59 := r58.trans (f10 8 (by decide) (by decide))
            have r60 := (g11_17 7 (by decide) (by decide))
            have r61 := r60.trans (f10 7 (by decide) (by decide))
            have r62 := (g11_17 8 (by decide) (by decide))
            have r63 := r62.trans (f10 8 (by decide) (by decide))
            have r64 := (g11_17 7 (by decide) (by decide))
            have r65 := r64.trans (f10 7 (by decide) (by decide))
            have r66 := (g11_17 8 (by decide) (by decide))
            have r67 := r66.trans (f10 8 (by decide) (by decide))
            have r68 := (g11_17 8 (by decide) (by decide))
            have r69 := r68.trans (f10 8 (by decide) (by decide))
            refine fr_cvI h kX12 at_0M wX12_oneOf lX12_147 (d_X12_oneOf x_11 48 10 f n (x_11 0 9) (by omega) (by omega) (by omega) (by omega) (by omega) (by omega) (fun j => (congrArg uch (congrFun ((g11_16 2 (by omega)).trans (f9 2 (by omega))) j)).trans (e4 j)) (by omega) (by omega) (by omega) (by omega) (by omega) (by omega)) rfl (by decide) (by decide) rfl (Nat.le_of_ble_eq_true rfl) dX12_number_46 (fun z71 x70 w72 p73 => ?_)
            obtain ⟨p74, p75, p76, p77, f78, f79⟩ := p73
            refine fr_iadd h dX12_number_49 ?_
            refine fr_istore_n (L' := [(0, vr G 0), (1, vi p), (2, vi ((10 * l2_11) + z71)), (3, vi l3_11)]) h rfl dX12_number_50 (by decide) [1, 2, 0, 3] rfl ?_
            refine fr_iinc (j := 3) (L' := [(0, vr G 0), (1, vi p), (2, vi ((10 * l2_11) + z71)), (3, vi (l3_11 + 1))]) h dX12_number_51 rfl (by decide) [1, 2, 3, 0] rfl ?_
            refine fr_goto (tgt := 11) h dX12_number_54 (by decide) ?_
            exact ih11 ((10 * l2_11) + z71) (l3_11 + 1) x70 (by omega) (by omega) (by omega) (by omega) (by omega) (by omega) (by omega) (by omega) (by omega) (by omega) (by omega) (by omega) (by omega) (by omega) (by omega) (by omega) (fun a k0 => ((f78 a (by omega)).trans (g11_16 a (by omega)))) (fun i k0 k1 => ((f79 i (by omega) (by omega)).trans (g11_17 i (by omega) (by omega)))) (by omega)
  exact HL11 ((3 - 1) + 1 : Int).toNat z2 1 x1 (by omega) (by omega) (by omega) (by omega) (by omega) (by omega) (by omega) (by omega) (by omega) (by omega) (by omega) (by omega) (by omega) (by omega) (by omega) (by omega) (fun a _ => rfl) (fun i _ _ => rfl) (by omega)
set_option maxHeartbeats 200000 in
theorem d_X12_wasRight (x : Mm) (e0 : x 0 9 ≤ 80) : CnI YM yX12_wasRight cX12_wasRight 1 .boolean 2 41 (fun G => [vr G 0]) x (fun z y' => (z = 0 ∨ z = 1) ∧ ((z = 1 ↔ y' 0 10 = (-1))) ∧ (x 0 10 ≠ (-1) → y' 0 10 = x 0 10) ∧ (x 0 7 ≤ x 0 9 → y' 0 10 = x 0 10) ∧ (x 0 9 < x 0 7 → x 0 10 = (-1) → y' 0 10 = x 0 9) ∧ (∀ a : Int, (a < 0 ∨ 0 < a) → y' a = x a) ∧ (∀ i : Int, i ≠ 10 → y' 0 i = x 0 i)) := by
  refine cn_I (by decide) (fun _ => Nat.le_of_ble_eq_true rfl) (fun G C h hq => ?_)
  have h : OK YM G C cX12_wasRight RX12 1 (some .boolean) 2 41 := h
  show FW YM G C 1 x 0 [(0, vr G 0)] []
  refine fr_aload_n h rfl 0 rfl dX12_wasRight_0 ?_
  refine fr_geti (iz := 9) h kX12 fX12_121 at_0M rfl rfl (by decide) (by decide) rfM_9 dX12_wasRight_1 (fun z1 w2 w3 q4 => ?_)
  refine fr_aload_n h rfl 0 rfl dX12_wasRight_4 ?_
  refine fr_geti (iz := 7) h kX12 fX12_115 at_0M rfl rfl (by decide) (by decide) rfM_7 dX12_wasRight_5 (fun z5 w6 w7 q8 => ?_)
  refine fr_icmp_ge (tgt := 19) h dX12_wasRight_8 (by decide) (by omega) (by omega) (fun c9 => ?_) (fun c9 => ?_)
  ·
    refine fr_aload_n h rfl 0 rfl dX12_wasRight_19 ?_
    refine fr_cvI h kX12 at_0M wX12_fine lX12_131 (c_X12_fine x) rfl (by decide) (by decide) rfl (Nat.le_of_ble_eq_true rfl) dX12_wasRight_20 (fun z11 x10 w12 p13 => ?_)
    obtain ⟨p14, p15, y16⟩ := p13
    rw [y16]
    clear y16
    exact fr_zret h (nr_z (by omega) (by omega)) hq (by omega) ⟨(by omega), (by omega), (by omega), (by omega), (by omega), (fun a _ => rfl), (fun i _ => rfl)⟩ dX12_wasRight_23
  ·
    refine fr_aload_n h rfl 0 rfl dX12_wasRight_11 ?_
    refine fr_aload_n h rfl 0 rfl dX12_wasRight_12 ?_
    refine fr_geti (iz := 9) h kX12 fX12_121 at_0M rfl rfl (by decide) (by decide) rfM_9 dX12_wasRight_13 (fun z17 w18 w19 q20 => ?_)
    refine fr_cvV h kX12 at_0M wX12_fault lX12_143 (d_X12_fault x z17 (by omega) (by omega) (by omega)) rfl (by decide) (by decide) rfl (Nat.le_of_ble_eq_true rfl) dX12_wasRight_16 (fun x21 p24 => ?_)
    obtain ⟨p25, p26, f27, f28⟩ := p24
    refine fr_aload_n h rfl 0 rfl dX12_wasRight_19 ?_
    refine fr_cvI h kX12 at_0M wX12_fine lX12_131 (c_X12_fine x21) rfl (by decide) (by decide) rfl (Nat.le_of_ble_eq_true rfl) dX12_wasRight_20 (fun z30 x29 w31 p32 => ?_)
    obtain ⟨p33, p34, y35⟩ := p32
    rw [y35]
    clear y35
    exact fr_zret h (nr_z (by omega) (by omega)) hq (by omega) ⟨(by omega), (by omega), (by omega), (by omega), (by omega), (fun a k0 => (f27 a (by omega))), (fun i k0 => (f28 i (by omega)))⟩ dX12_wasRight_23
