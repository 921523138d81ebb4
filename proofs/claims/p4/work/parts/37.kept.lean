set_option maxHeartbeats 200000 in
theorem c_X12_undo (x : Mm) (e0 : GI x) (e1 : x 0 21 ≤ 2000) : CnI YM yX12_undo cX12_undo 2 .int 0 0 (fun G => [vr G 0]) x (fun z y' => (y' 0 5 = 0) ∧ (CHG x y') ∧ (GI y') ∧ (∀ a : Int, (a < 0 ∨ 0 < a) → (a < 1 ∨ 1 < a) → y' a = x a) ∧ (∀ i : Int, i ≠ 5 → i ≠ 18 → i ≠ 21 → y' 0 i = x 0 i)) := by
  refine cn_I (by decide) (fun _ => Nat.le_of_ble_eq_true rfl) (fun G C h hq => ?_)
  have h : OK YM G C cX12_undo RX12 2 (some .int) 0 0 := h
  show FW YM G C 2 x 0 [(0, vr G 0)] []
  have e12 := e0.2.2.2
  refine fr_aload_n h rfl 0 rfl dX12_undo_0 ?_
  refine fr_iconst h dX12_undo_1 ?_
  refine fr_puti (iz := 5) h kX12 fX12_94 at_0M rfl rfl (by decide) (by decide) rfl (by decide +kernel) rfM_5 (by omega) (by omega) dX12_undo_2 ?_
  refine fr_mem (fun x1 m2 => ?_)
  refine fr_aload_n h rfl 0 rfl dX12_undo_5 ?_
  refine fr_geti (iz := 18) h kX12 fX12_228 at_0M rfl rfl (by decide) (by decide) rfM_18 dX12_undo_6 (fun z3 w4 w5 q6 => ?_)
  have r7 := q6.trans (fm_rd_i (a := 0) (b := 18) m2 (by decide))
  subst q6
  refine fr_if_ne (tgt := 14) h dX12_undo_9 (by decide) (by omega) (fun c8 => ?_) (fun c8 => ?_)
  ·
    refine fr_aload_n h rfl 0 rfl dX12_undo_14 ?_
    refine fr_dup h rfl dX12_undo_15 ?_
    refine fr_geti (iz := 18) h kX12 fX12_228 at_0M rfl rfl (by decide) (by decide) rfM_18 dX12_undo_16 (fun z9 w10 w11 q12 => ?_)
    have r13 := q12.trans (fm_rd_i (a := 0) (b := 18) m2 (by decide))
    subst q12
    refine fr_iconst h dX12_undo_19 ?_
    refine fr_isub h dX12_undo_20 ?_
    refine fr_puti (iz := 18) h kX12 fX12_228 at_0M rfl rfl (by decide) (by decide) rfl (by decide +kernel) rfM_18 (by omega) (by omega) dX12_undo_21 ?_
    refine fr_mem (fun x14 m15 => ?_)
    refine fr_iconst h dX12_undo_24 ?_
    refine fr_istore_n (L' := [(0, vr G 0), (1, vi 0)]) h rfl dX12_undo_25 (by decide) [1, 0] rfl ?_
    have HL16 : ∀ (n16 : Nat) (l1_16 : Int) (x_16 : Mm), fm_r l1_16 → 0 ≤ l1_16 → l1_16 ≤ 106 → (∀ i : Int, 0 ≤ i → i < l1_16 → x_16 1 i = x_16 8 (106 * x_16 0 18 + i)) → 0 ≤ x_16 0 18 → x_16 0 18 ≤ 9 → (∀ a : Int, (a < 1 ∨ 1 < a) → x_16 a = x14 a) → (106 - l1_16) < n16 → FW YM G C 2 x_16 26 [(0, vr G 0), (1, vi l1_16)] [] := by
      intro n16
      induction n16 with
      | zero =>
        intro l1_16 x_16 g16_0 g16_1 g16_2 g16_3 g16_4 g16_5 g16_6 g16_7
        exfalso; omega
      | succ n16 ih16 =>
        intro l1_16 x_16 g16_0 g16_1 g16_2 g16_3 g16_4 g16_5 g16_6 g16_7
        refine fr_iload_n h rfl 1 rfl dX12_undo_26 ?_
        refine fr_bipush h rfl dX12_undo_27 ?_
        refine fr_icmp_ge (tgt := 58) h dX12_undo_29 (by decide) (by omega) (by omega) (fun c17 => ?_) (fun c17 => ?_)
        ·
          refine fr_aload_n h rfl 0 rfl dX12_undo_58 ?_
          refine fr_dup h rfl dX12_undo_59 ?_
          refine fr_geti (iz := 21) h kX12 fX12_201 at_0M rfl rfl (by decide) (by decide) rfM_21 dX12_undo_60 (fun z18 w19 w20 q21 => ?_)
          have r22 := q21.trans (congrFun (g16_6 0 (by omega)) 21)
          have r23 := r22.trans (fm_rd_i (a := 0) (b := 21) m15 (by decide))
          have r24 := r23.trans (fm_rd_i (a := 0) (b := 21) m2 (by decide))
          subst q21
          refine fr_iconst h dX12_undo_63 ?_
          refine fr_iadd h dX12_undo_64 ?_
          refine fr_normi (fun z25 w26 q27 => ?_)
          have w28 : fm_r (((x_16 0 21) + 1)) → z25 = ((x_16 0 21) + 1) := fun q => (iI_inj q w26 q27).symm
          refine fr_puti (iz := 21) h kX12 fX12_201 at_0M rfl rfl (by decide) (by decide) rfl (by decide +kernel) rfM_21 (by omega) (by omega) dX12_undo_65 ?_
          refine fr_mem (fun x29 m30 => ?_)
          refine fr_aload_n h rfl 0 rfl dX12_undo_68 ?_
          refine fr_geti (iz := 18) h kX12 fX12_228 at_0M rfl rfl (by decide) (by decide) rfM_18 dX12_undo_69 (fun z31 w32 w33 q34 => ?_)
          have r35 := q34.trans (fm_rd_i (a := 0) (b := 18) m30 (by decide))
          have r36 := r35.trans (congrFun (g16_6 0 (by omega)) 18)
          have r37 := r36.trans (fm_rd_s m15)
          subst q34
          have r38 := (fm_rd_i (a := 0) (b := 5) m30 (by decide))
          have r39 := r38.trans (congrFun (g16_6 0 (by omega)) 5)
          have r40 := r39.trans (fm_rd_i (a := 0) (b := 5) m15 (by decide))
          have r41 := r40.trans (fm_rd_s m2)
          have r42 := (fm_rd_s m30)
          have r43 := (fm_rd_i (a := 0) (b := 12) m30 (by decide))
          have r44 := r43.trans (congrFun (g16_6 0 (by omega)) 12)
          have r45 := r44.trans (fm_rd_i (a := 0) (b := 12) m15 (by decide))
          have r46 := r45.trans (fm_rd_i (a := 0) (b := 12) m2 (by decide))
          exact fr_iret h hq (by omega) ⟨(by omega), (Or.inr (by omega)), ⟨(MI_cong ((show UB (x_16 8) from (by rw [show x_16 8 = x 8 from ((g16_6 8 (by omega)).trans ((fm_up_row m15 (by omega)).trans (fm_up_row m2 (by omega))))]; exact e0.2.1)) (x_16 0 18) (by omega) (by omega)) (fun i a b => (congrFun (fm_up_row m30 (by omega)) i).trans (g16_3 i (by omega) (by omega)))), (by rw [show x29 8 = x 8 from ((fm_up_row m30 (by omega)).trans ((g16_6 8 (by omega)).trans ((fm_up_row m15 (by omega)).trans (fm_up_row m2 (by omega)))))]; exact e0.2.1), (by rw [show x29 26 = x 26 from ((fm_up_row m30 (by omega)).trans ((g16_6 26 (by omega)).trans ((fm_up_row m15 (by omega)).trans (fm_up_row m2 (by omega)))))]; exact e0.2.2.1), (by have := e0.2.2.2; omega)⟩, (fun a k0 k1 => ((fm_up_row m30 (by omega)).trans ((g16_6 a (by omega)).trans ((fm_up_row m15 (by omega)).trans (fm_up_row m2 (by omega)))))), (fun i k0 k1 k2 => ((fm_rd_i (a := 0) (b := i) m30 (by omega)).trans ((congrFun (g16_6 0 (by omega)) i).trans ((fm_rd_i (a := 0) (b := i) m15 (by omega)).trans (fm_rd_i (a := 0) (b := i) m2 (by omega))))))⟩ dX12_undo_72
        ·
          refine fr_aload_n h rfl 0 rfl dX12_undo_32 ?_
          refine fr_getc (z := 1) (iz := 0) h kX12 fX12_9 at_0M rfl rfl rfM_0 (by omega) dX12_undo_33 ?_
          refine fr_iload_n h rfl 1 rfl dX12_undo_36 ?_
          refine fr_aload_n h rfl 0 rfl dX12_undo_37 ?_
          refine fr_getc (z := 8) (iz := 17) h kX12 fX12_33 at_0M rfl rfl rfM_17 (by omega) dX12_undo_38 ?_
          refine fr_bipush h rfl dX12_undo_41 ?_
          refine fr_aload_n h rfl 0 rfl dX12_undo_43 ?_
          refine fr_geti (iz := 18) h kX12 fX12_228 at_0M rfl rfl (by decide) (by decide) rfM_18 dX12_undo_44 (fun z47 w48 w49 q50 => ?_)
          have r51 := q50.trans (congrFun (g16_6 0 (by omega)) 18)
          have r52 := r51.trans (fm_rd_s m15)
          subst q50
          refine fr_imul h dX12_undo_47 ?_
          refine fr_iload_n h rfl 1 rfl dX12_undo_48 ?_
          refine fr_iadd h dX12_undo_49 ?_
          refine fr_iald h arM_8 (by omega) (by omega) ((rrM_8 ((106 * (x_16 0 18)) + l1_16)).trans ((sg_shift (by omega) _).trans (show YM_s l1_16 = ((YM_s l1_16).1, (YM_s l1_16).2) from rfl))) dX12_undo_50 (fun z53 w54 w55 q56 => ?_)
          have w57 := sg_any ((106 * (x_16 0 18)) + l1_16)
          have r58 := q56.trans (congrFun (g16_6 8 (by omega)) ((106 * (x_16 0 18)) + l1_16))
          have r59 := r58.trans (fm_rd_k (a := 8) (b := ((106 * (x_16 0 18)) + l1_16)) m15 (by omega))
          have r60 := r59.trans (fm_rd_k (a := 8) (b := ((106 * (x_16 0 18)) + l1_16)) m2 (by omega))
          refine fr_iast h (SA_a SA_1) (by omega) (by omega) ((SA_r SA_1 l1_16).trans (show YM_s l1_16 = ((YM_s l1_16).1, (YM_s l1_16).2) from rfl)) (by omega) (by omega) dX12_undo_51 ?_
          refine fr_mem (fun x61 m62 => ?_)
          refine fr_iinc (j := 1) (L' := [(0, vr G 0), (1, vi (l1_16 + 1))]) h dX12_undo_52 rfl (by decide) [1, 0] rfl ?_
          refine fr_goto (tgt := 26) h dX12_undo_55 (by decide) ?_
          have r63 := (fm_rd_k (a := 0) (b := 18) m62 (by omega))
          have r64 := r63.trans (congrFun (g16_6 0 (by omega)) 18)
          have r65 := r64.trans (fm_rd_s m15)
          have r66 := (fm_rd_k (a := 0) (b := 18) m62 (by omega))
          have r67 := r66.trans (congrFun (g16_6 0 (by omega)) 18)
          have r68 := r67.trans (fm_rd_s m15)
          exact ih16 (l1_16 + 1) x61 (by omega) (by omega) (by omega) (fun i a c => if q9 : i = l1_16 then (by rw [q9, fm_rd_s m62, q56, fm_rd_k (a := 8) (b := 106 * x61 0 18 + l1_16) m62 (by omega), fm_rd_k (a := 0) (b := 18) m62 (by omega)]) else (by rw [fm_rd_i (a := 1) (b := i) m62 (by omega), g16_3 i a (by omega), fm_rd_k (a := 8) (b := 106 * x61 0 18 + i) m62 (by omega), fm_rd_k (a := 0) (b := 18) m62 (by omega)])) (by omega) (by omega) (fun a k0 => ((fm_up_row m62 (by omega)).trans (g16_6 a (by omega)))) (by omega)
    have r69 := (fm_rd_s m15)
    have r70 := (fm_rd_s m15)
    exact HL16 ((106 - 0) + 1 : Int).toNat 0 x14 (by omega) (by omega) (by omega) (fun i a c => by exfalso; omega) (by omega) (by omega) (fun a _ => rfl) (by omega)
  ·
    refine fr_iconst h dX12_undo_12 ?_
    have r71 := (fm_rd_s m2)
    have r72 := (fm_rd_i (a := 0) (b := 21) m2 (by decide))
    have r73 := (fm_rd_i (a := 0) (b := 12) m2 (by decide))
    exact fr_iret h hq (by omega) ⟨(by omega), (Or.inl ⟨(by omega), (fm_up_row m2 (by omega))⟩), ⟨(by rw [show x1 1 = x 1 from (fm_up_row m2 (by omega))]; exact e0.1), (by rw [show x1 8 = x 8 from (fm_up_row m2 (by omega))]; exact e0.2.1), (by rw [show x1 26 = x 26 from (fm_up_row m2 (by omega))]; exact e0.2.2.1), (by have := e0.2.2.2; omega)⟩, (fun a k0 k1 => (fm_up_row m2 (by omega))), (fun i k0 k1 k2 => (fm_rd_i (a := 0) (b := i) m2 (by omega)))⟩ dX12_undo_13
set_option maxHeartbeats 200000 in
theorem c_X12_keep (x : Mm) (p : Int) (h_p : fm_r p) (e0 : GI x) : CnI YM yX12_keep cX12_keep 2 .boolean 1 23 (fun G => [vr G 0, vi p]) x (fun z y' => (y' 0 5 = 0) ∧ (z = 0 ∨ z = 1) ∧ ((z = 1 ↔ 0 ≤ p ∧ p < 2)) ∧ (z = 1 → y' 27 p = 1) ∧ (∀ j : Int, ¬ (z = 1 ∧ j = p) → y' 27 j = x 27 j) ∧ (GI y') ∧ (∀ a : Int, (a < 0 ∨ 0 < a) → (a < 26 ∨ 27 < a) → y' a = x a) ∧ (∀ i : Int, i ≠ 5 → y' 0 i = x 0 i)) := by
  refine cn_I (by decide) (fun _ => Nat.le_of_ble_eq_true rfl) (fun G C h hq => ?_)
  have h : OK YM G C cX12_keep RX12 2 (some .boolean) 1 23 := h
  show FW YM G C 2 x 0 [(0, vr G 0), (1, vi p)] []
  have e12 := e0.2.2.2
  refine fr_aload_n h rfl 0 rfl dX12_keep_0 ?_
  refine fr_iconst h dX12_keep_1 ?_
  refine fr_puti (iz := 5) h kX12 fX12_94 at_0M rfl rfl (by decide) (by decide) rfl (by decide +kernel) rfM_5 (by omega) (by omega) dX12_keep_2 ?_
  refine fr_mem (fun x1 m2 => ?_)
  refine fr_iload_n h rfl 1 rfl dX12_keep_5 ?_
  refine fr_iconst h dX12_keep_6 ?_
  refine fr_iconst h dX12_keep_7 ?_
  refine fr_csI h wX12_in lX12_101 (c_X12_in x1 p 0 1 (by omega) (by omega) (by omega)) rfl (by decide) (by decide) rfl (Nat.le_of_ble_eq_true rfl) dX12_keep_8 (fun z4 x3 w5 p6 => ?_)
  obtain ⟨p7, p8, y9⟩ := p6
  rw [y9]
  clear y9
  refine fr_if_ne (tgt := 16) h dX12_keep_11 (by decide) (by omega) (fun c10 => ?_) (fun c10 => ?_)
  ·
    refine fr_aload_n h rfl 0 rfl dX12_keep_16 ?_
    refine fr_getc (z := 27) (iz := 41) h kX12 fX12_91 at_0M rfl rfl rfM_41 (by omega) dX12_keep_17 ?_
    refine fr_iload_n h rfl 1 rfl dX12_keep_20 ?_
    refine fr_iconst h dX12_keep_21 ?_
    refine fr_zast h arM_27 (by omega) (by omega) (rrM_27 p) (by omega) (by omega) (by omega) dX12_keep_22 ?_
    refine fr_mem (fun x11 m12 => ?_)
    refine fr_aload_n h rfl 0 rfl dX12_keep_23 ?_
    refine fr_getc (z := 1) (iz := 0) h kX12 fX12_9 at_0M rfl rfl rfM_0 (by omega) dX12_keep_24 ?_
    refine fr_aload_n h rfl 0 rfl dX12_keep_27 ?_
    refine fr_getc (z := 26) (iz := 40) h kX12 fX12_88 at_0M rfl rfl rfM_40 (by omega) dX12_keep_28 ?_
    refine fr_bipush h rfl dX12_keep_31 ?_
    refine fr_iload_n h rfl 1 rfl dX12_keep_33 ?_
    refine fr_imul h dX12_keep_34 ?_
    refine fr_csV h wX12_lay lX12_231 (c_X12_lay x11 1 SA_1 26 212 (by unfold LTN; omega) (106 * p) (by omega) (by omega) (by omega) (by omega) (by omega)) rfl (by decide) (by decide) rfl (Nat.le_of_ble_eq_true rfl) dX12_keep_35 (fun x13 p16 => ?_)
    obtain ⟨p17, p18, f19⟩ := p16
    refine fr_iconst h dX12_keep_38 ?_
    have r20 := (congrFun (f19 0 (by omega)) 5)
    have r21 := r20.trans (fm_rd_k (a := 0) (b := 5) m12 (by omega))
    have r22 := r21.trans (fm_rd_s m2)
    have r23 := (congrFun (f19 27 (by omega)) p)
    have r24 := r23.trans (fm_rd_s m12)
    have r25 := (congrFun (f19 0 (by omega)) 12)
    have r26 := r25.trans (fm_rd_k (a := 0) (b := 12) m12 (by omega))
    have r27 := r26.trans (fm_rd_i (a := 0) (b := 12) m2 (by decide))
    exact fr_zret h rfl hq (by omega) ⟨(by omega), (by omega), (by omega), (by omega), (fun j hj => ((congrFun (f19 27 (by omega)) j).trans ((fm_rd_i (a := 27) (b := j) m12 (by omega)).trans ((fm_rd_k (a := 27) (b := j) m2 (by omega)))))), ⟨(by rw [show x13 1 = x11 1 from (f19 1 (by omega))]; exact (by rw [show x11 1 = x1 1 from (fm_up_row m12 (by omega))]; exact (by rw [show x1 1 = x 1 from (fm_up_row m2 (by omega))]; exact e0.1))), (by rw [show x13 8 = x 8 from ((f19 8 (by omega)).trans ((fm_up_row m12 (by omega)).trans (fm_up_row m2 (by omega))))]; exact e0.2.1), (KB_lay (k := p) (by rw [show x11 26 = x 26 from ((fm_up_row m12 (by omega)).trans (fm_up_row m2 (by omega)))]; exact e0.2.2.1) (by rw [show x11 1 = x1 1 from (fm_up_row m12 (by omega))]; exact (by rw [show x1 1 = x 1 from (fm_up_row m2 (by omega))]; exact e0.1)) p17 (fun i a => p18 i (by omega))), (by have := e0.2.2.2; omega)⟩, (fun a k0 k1 => ((f19 a (by omega)).trans ((fm_up_row m12 (by omega)).trans (fm_up_row m2 (by omega))))), (fun i k0 => ((congrFun (f19 0 (by omega)) i).trans ((fm_rd_k (a := 0) (b := i) m12 (by omega)).trans (fm_rd_i (a := 0) (b := i) m2 (by omega)))))⟩ dX12_keep_39
  ·
    refine fr_iconst h dX12_keep_14 ?_
    have r28 := (fm_rd_s m2)
    have r29 := (fm_rd_k (a := 27) (b := p) m2 (by omega))
    have r30 := (fm_rd_i (a := 0) (b := 12) m2 (by decide))
    exact fr_zret h rfl hq (by omega) ⟨(by omega), (by omega), (by omega), (by omega), (fun j hj => ((fm_rd_k (a := 27) (b := j) m2 (by omega)))), ⟨(by rw [show x1 1 = x 1 from (fm_up_row m2 (by omega))]; exact e0.1), (by rw [show x1 8 = x 8 from (fm_up_row m2 (by omega))]; exact e0.2.1), (by rw [show x1 26 = x 26 from (fm_up_row m2 (by omega))]; exact e0.2.2.1), (by have := e0.2.2.2; omega)⟩, (fun a k0 k1 => (fm_up_row m2 (by omega))), (fun i k0 => (fm_rd_i (a := 0) (b := i) m2 (by omega)))⟩ dX12_keep_15
set_option maxHeartbeats 200000 in
theorem c_X12_again (x : Mm) (p : Int) (h_p : fm_r p) (e0 : GI x) (e1 : x 0 21 ≤ 2000) : CnI YM yX12_again cX12_again 3 .boolean 1 22 (fun G => [vr G 0, vi p]) x (fun z y' => (y' 0 5 = 0) ∧ (z = 0 ∨ z = 1) ∧ ((z = 1 ↔ 0 ≤ p ∧ p < 2 ∧ x 27 p ≠ 0)) ∧ (CHG x y') ∧ (GI y') ∧ (∀ a : Int, (a < 0 ∨ 0 < a) → (a < 1 ∨ 1 < a) → y' a = x a) ∧ (∀ i : Int, i ≠ 5 → i ≠ 18 → i ≠ 21 → y' 0 i = x 0 i)) := by
  refine cn_I (by decide) (fun _ => Nat.le_of_ble_eq_true rfl) (fun G C h hq => ?_)
  have h : OK YM G C cX12_again RX12 3 (some .boolean) 1 22 := h
  show FW YM G C 3 x 0 [(0, vr G 0), (1, vi p)] []
  have e12 := e0.2.2.2
  refine fr_aload_n h rfl 0 rfl dX12_again_0 ?_
  refine fr_iconst h dX12_again_1 ?_
  refine fr_puti (iz := 5) h kX12 fX12_94 at_0M rfl rfl (by decide) (by decide) rfl (by decide +kernel) rfM_5 (by omega) (by omega) dX12_again_2 ?_
  refine fr_mem (fun x1 m2 => ?_)
  refine fr_iload_n h rfl 1 rfl dX12_again_5 ?_
  refine fr_iconst h dX12_again_6 ?_
  refine fr_iconst h dX12_again_7 ?_
  refine fr_csI h wX12_in lX12_101 (c_X12_in x1 p 0 1 (by omega) (by omega) (by omega)) rfl (by decide) (by decide) rfl (Nat.le_of_ble_eq_true rfl) dX12_again_8 (fun z4 x3 w5 p6 => ?_)
  obtain ⟨p7, p8, y9⟩ := p6
  rw [y9]
  clear y9
  refine fr_if_eq (tgt := 23) h dX12_again_11 (by decide) (by omega) (fun c10 => ?_) (fun c10 => ?_)
  ·
    refine fr_iconst h dX12_again_23 ?_
    have r11 := (fm_rd_s m2)
    have r12 := (fm_rd_i (a := 0) (b := 21) m2 (by decide))
    have r13 := (fm_rd_i (a := 0) (b := 12) m2 (by decide))
    exact fr_zret h rfl hq (by omega) ⟨(by omega), (by omega), (by omega), (Or.inl ⟨(by omega), (fm_up_row m2 (by omega))⟩), ⟨(by rw [show x1 1 = x 1 from (fm_up_row m2 (by omega))]; exact e0.1), (by rw [show x1 8 = x 8 from (fm_up_row m2 (by omega))]; exact e0.2.1), (by rw [show x1 26 = x 26 from (fm_up_row m2 (by omega))]; exact e0.2.2.1), (by have := e0.2.2.2; omega)⟩, (fun a k0 k1 => (fm_up_row m2 (by omega))), (fun i k0 k1 k2 => (fm_rd_i (a := 0) (b := i) m2 (by omega)))⟩ dX12_again_24
  ·
    refine fr_aload_n h rfl 0 rfl dX12_again_14 ?_
    refine fr_getc (z := 27) (iz := 41) h kX12 fX12_91 at_0M rfl rfl rfM_41 (by omega) dX12_again_15 ?_
    refine fr_iload_n h rfl 1 rfl dX12_again_18 ?_
    refine fr_zald h arM_27 (by omega) (by omega) (rrM_27 p) dX12_again_19 (fun z14 w15 w16 q17 => ?_)
    have r18 := q17.trans (fm_rd_k (a := 27) (b := p) m2 (by omega))
    refine fr_if_ne (tgt := 25) h dX12_again_20 (by decide) (by omega) (fun c19 => ?_) (fun c19 => ?_)
    ·
      refine fr_iconst h dX12_again_25 ?_
      refine fr_istore_n (L' := [(0, vr G 0), (1, vi p), (2, vi 0)]) h rfl dX12_again_26 (by decide) [1, 2, 0] rfl ?_
      have HL20 : ∀ (n20 : Nat) (l2_20 : Int) (x_20 : Mm), fm_r l2_20 → 0 ≤ l2_20 → l2_20 ≤ 106 → (∀ i : Int, 0 ≤ i → i < l2_20 → x_20 1 i = x_20 26 (106 * p + i)) → (∀ a : Int, (a < 1 ∨ 1 < a) → x_20 a = x1 a) → (106 - l2_20) < n20 → FW YM G C 3 x_20 27 [(0, vr G 0), (1, vi p), (2, vi l2_20)] [] := by
        intro n20
        induction n20 with
        | zero =>
          intro l2_20 x_20 g20_0 g20_1 g20_2 g20_3 g20_4 g20_5
          exfalso; omega
        | succ n20 ih20 =>
          intro l2_20 x_20 g20_0 g20_1 g20_2 g20_3 g20_4 g20_5
          refine fr_iload_n h rfl 2 rfl dX12_again_27 ?_
          refine fr_bipush h rfl dX12_again_28 ?_
          refine fr_icmp_ge (tgt := 56) h dX12_again_30 (by decide) (by omega) (by omega) (fun c21 => ?_) (fun c21 => ?_)
          ·
            refine fr_aload_n h rfl 0 rfl dX12_again_56 ?_
            refine fr_iconst h dX12_again_57 ?_
            refine fr_puti (iz := 18) h kX12 fX12_228 at_0M rfl rfl (by decide) (by decide) rfl (by decide +kernel) rfM_18 (by omega) (by omega) dX12_again_58 ?_
            refine fr_mem (fun x22 m23 => ?_)
            refine fr_aload_n h rfl 0 rfl dX12_again_61 ?_
            refine fr_dup h rfl dX12_again_62 ?_
            refine fr_geti (iz := 21) h kX12 fX12_201 at_0M rfl rfl (by decide) (by decide) rfM_21 dX12_again_63 (fun z24 w25 w26 q27 => ?_)
            have r28 := q27.trans (fm_rd_i (a := 0) (b := 21) m23 (by decide))
            have r29 := r28.trans (congrFun (g20_4 0 (by omega)) 21)
            have r30 := r29.trans (fm_rd_i (a := 0) (b := 21) m2 (by decide))
            refine fr_iconst h dX12_again_66 ?_
            refine fr_iadd h dX12_again_67 ?_
            refine fr_normi (fun z31 w32 q33 => ?_)
            have w34 : fm_r ((z24 + 1)) → z31 = (z24 + 1) := fun q => (iI_inj q w32 q33).symm
            refine fr_puti (iz := 21) h kX12 fX12_201 at_0M rfl rfl (by decide) (by decide) rfl (by decide +kernel) rfM_21 (by omega) (by omega) dX12_again_68 ?_
            refine fr_mem (fun x35 m36 => ?_)
            refine fr_iconst h dX12_again_71 ?_
            have r37 := (fm_rd_i (a := 0) (b := 5) m36 (by decide))
            have r38 := r37.trans (fm_rd_i (a := 0) (b := 5) m23 (by decide))
            have r39 := r38.trans (congrFun (g20_4 0 (by omega)) 5)
            have r40 := r39.trans (fm_rd_s m2)
            have r41 := (fm_rd_s m36)
            have r42 := (fm_rd_i (a := 0) (b := 12) m36 (by decide))
            have r43 := r42.trans (fm_rd_i (a := 0) (b := 12) m23 (by decide))
            have r44 := r43.trans (congrFun (g20_4 0 (by omega)) 12)
            have r45 := r44.trans (fm_rd_i (a := 0) (b := 12) m2 (by decide))
            exact fr_zret h rfl hq (by omega) ⟨(by omega), (by omega), (by omega), (Or.inr (by omega)), ⟨(MI_cong ((show KB (x_20 26) from (by rw [show x_20 26 = x 26 from ((g20_4 26 (by omega)).trans (fm_up_row m2 (by omega)))]; exact e0.2.2.1)) p (by omega) (by omega)) (fun i a b => (congrFun ((fm_up_row m36 (by omega)).trans (fm_up_row m23 (by omega))) i).trans (g20_3 i (by omega) (by omega)))), (by rw [show x35 8 = x 8 from ((fm_up_row m36 (by omega)).trans ((fm_up_row m23 (by omega)).trans ((g20_4 8 (by omega)).trans (fm_up_row m2 (by omega)))))]; exact e0.2.1), (by rw [show x35 26 = x 26 from ((fm_up_row m36 (by omega)).trans ((fm_up_row m23 (by omega)).trans ((g20_4 26 (by omega)).trans (fm_up_row m2 (by omega)))))]; exact e0.2.2.1), (by have := e0.2.2.2; omega)⟩, (fun a k0 k1 => ((fm_up_row m36 (by omega)).trans ((fm_up_row m23 (by omega)).trans ((g20_4 a (by omega)).trans (fm_up_row m2 (by omega)))))), (fun i k0 k1 k2 => ((fm_rd_i (a := 0) (b := i) m36 (by omega)).trans ((fm_rd_i (a := 0) (b := i) m23 (by omega)).trans ((congrFun (g20_4 0 (by omega)) i).trans (fm_rd_i (a := 0) (b := i) m2 (by omega))))))⟩ dX12_again_72
          ·
            refine fr_aload_n h rfl 0 rfl dX12_again_33 ?_
            refine fr_getc (z := 1) (iz := 0) h kX12 fX12_9 at_0M rfl rfl rfM_0 (by omega) dX12_again_34 ?_
            refine fr_iload_n h rfl 2 rfl dX12_again_37 ?_
            refine fr_aload_n h rfl 0 rfl dX12_again_38 ?_
            refine fr_getc (z := 26) (iz := 40) h kX12 fX12_88 at_0M rfl rfl rfM_40 (by omega) dX12_again_39 ?_
            refine fr_bipush h rfl dX12_again_42 ?_
            refine fr_iload_n h rfl 1 rfl dX12_again_44 ?_
            refine fr_imul h dX12_again_45 ?_
            refine fr_iload_n h rfl 2 rfl dX12_again_46 ?_
            refine fr_iadd h dX12_again_47 ?_
            refine fr_iald h arM_26 (by omega) (by omega) ((rrM_26 ((106 * p) + l2_20)).trans ((sg_shift (by omega) _).trans (show YM_s l2_20 = ((YM_s l2_20).1, (YM_s l2_20).2) from rfl))) dX12_again_48 (fun z46 w47 w48 q49 => ?_)
            have w50 := sg_any ((106 * p) + l2_20)
            have r51 := q49.trans (congrFun (g20_4 26 (by omega)) ((106 * p) + l2_20))
            have r52 := r51.trans (fm_rd_k (a := 26) (b := ((106 * p) + l2_20)) m2 (by omega))
            refine fr_iast h (SA_a SA_1) (by omega) (by omega) ((SA_r SA_1 l2_20).trans (show YM_s l2_20 = ((YM_s l2_20).1, (YM_s l2_20).2) from rfl)) (by omega) (by omega) dX12_again_49 ?_
            refine fr_mem (fun x53 m54 => ?_)
            refine fr_iinc (j := 2) (L' := [(0, vr G 0), (1, vi p), (2, vi (l2_20 + 1))]) h dX12_again_50 rfl (by decide) [1, 2, 0] rfl ?_
            refine fr_goto (tgt := 27) h dX12_again_53 (by decide) ?_
            exact ih20 (l2_20 + 1) x53 (by omega) (by omega) (by omega) (fun i a c => if q9 : i = l2_20 then (by rw [q9, fm_rd_s m54, q49, fm_rd_k (a := 26) (b := 106 * p + l2_20) m54 (by omega)]) else (by rw [fm_rd_i (a := 1) (b := i) m54 (by omega), g20_3 i a (by omega), fm_rd_k (a := 26) (b := 106 * p + i) m54 (by omega)])) (fun a k0 => ((fm_up_row m54 (by omega)).trans (g20_4 a (by omega)))) (by omega)
      exact HL20 ((106 - 0) + 1 : Int).toNat 0 x1 (by omega) (by omega) (by omega) (fun i a c => by exfalso; omega) (fun a _ => rfl) (by omega)
    ·
      refine fr_iconst h dX12_again_23 ?_
      have r55 := (fm_rd_s m2)
      have r56 := (fm_rd_i (a := 0) (b := 21) m2 (by decide))
      have r57 := (fm_rd_i (a := 0) (b := 12) m2 (by decide))
      exact fr_zret h rfl hq (by omega) ⟨(by omega), (by omega), (by omega), (Or.inl ⟨(by omega), (fm_up_row m2 (by omega))⟩), ⟨(by rw [show x1 1 = x 1 from (fm_up_row m2 (by omega))]; exact e0.1), (by rw [show x1 8 = x 8 from (fm_up_row m2 (by omega))]; exact e0.2.1), (by rw [show x1 26 = x 26 from (fm_up_row m2 (by omega))]; exact e0.2.2.1), (by have := e0.2.2.2; omega)⟩, (fun a k0 k1 => (fm_up_row m2 (by omega))), (fun i k0 k1 k2 => (fm_rd_i (a := 0) (b := i) m2 (by omega)))⟩ dX12_again_24
set_option maxHeartbeats 200000 in
theorem c_X12_twoDigits (x : Mm) (e0 : ((x 0 6 = 2 ∧ x 0 8 ≤ 80) ∨ (x 0 6 = 5 ∧ x 0 8 ≤ 40) ∨ (x 0 6 = 6 ∧ x 0 8 ≤ 40)) ∧ x 0 9 ≤ x 0 8) : CnI YM yX12_twoDigits cX12_twoDigits 2 .int 3 63 (fun G => [vr G 0]) x (fun z y' => (0 ≤ z) ∧ (z ≤ 99) ∧ (x 0 9 ≤ y' 0 9) ∧ (y' 0 9 ≤ x 0 8) ∧ (∀ a : Int, (a < 0 ∨ 0 < a) → y' a = x a) ∧ (∀ i : Int, i ≠ 9 → i ≠ 10 → y' 0 i = x 0 i)) := by
  refine cn_I (by decide) (fun _ => Nat.le_of_ble_eq_true rfl) (fun G C h hq => ?_)
  have h : OK YM G C cX12_twoDigits RX12 2 (some .int) 3 63 := h
  show FW YM G C 2 x 0 [(0, vr G 0)] []
  refine fr_aload_n h rfl 0 rfl dX12_twoDigits_0 ?_
  refine fr_bipush h rfl dX12_twoDigits_1 ?_
  refine fr_bipush h rfl dX12_twoDigits_3 ?_
  refine fr_cvI h kX12 at_0M wX12_oneOf lX12_147 (c_X12_oneOf x 48 10 (by omega) (by omega) (by omega) (by omega) (by omega) (by omega) (by omega)) rfl (by decide) (by decide) rfl (Nat.le_of_ble_eq_true rfl) dX12_twoDigits_5 (fun z2 x1 w3 p4 => ?_)
  obtain ⟨p5, p6, p7, p8, p9, f10, f11⟩ := p4
  refine fr_istore_n (L' := [(0, vr G 0), (1, vi z2)]) h rfl dX12_twoDigits_8 (by decide) [1, 0] rfl ?_
  refine fr_bipush h rfl dX12_twoDigits_9 ?_
  refine fr_iload_n h rfl 1 rfl dX12_twoDigits_11 ?_
  refine fr_imul h dX12_twoDigits_12 ?_
  refine fr_aload_n h rfl 0 rfl dX12_twoDigits_13 ?_
  refine fr_bipush h rfl dX12_twoDigits_14 ?_
  refine fr_bipush h rfl dX12_twoDigits_16 ?_
  have r12 := (f11 6 (by decide) (by decide))
  have r13 := (f11 8 (by decide) (by decide))
  have r14 := (f11 6 (by decide) (by decide))
  have r15 := (f11 8 (by decide) (by decide))
  have r16 := (f11 6 (by decide) (by decide))
  have r17 := (f11 8 (by decide) (by decide))
  have r18 := (f11 8 (by decide) (by decide))
  refine fr_cvI h kX12 at_0M wX12_oneOf lX12_147 (c_X12_oneOf x1 48 10 (by omega) (by omega) (by omega) (by omega) (by omega) (by omega) (by omega)) rfl (by decide) (by decide) rfl (Nat.le_of_ble_eq_true rfl) dX12_twoDigits_18 (fun z20 x19 w21 p22 => ?_)
  obtain ⟨p23, p24, p25, p26, p27, f28, f29⟩ := p22
  refine fr_iadd h dX12_twoDigits_21 ?_
  exact fr_iret h hq (by omega) ⟨(by omega), (by omega), (by omega), (by omega), (fun a k0 => ((f28 a (by omega)).trans (f10 a (by omega)))), (fun i k0 k1 => ((f29 i (by omega) (by omega)).trans (f11 i (by omega) (by omega))))⟩ dX12_twoDigits_22
