set_option maxHeartbeats 1000000 in
theorem c_X12_readRule (x : Mm) : CnI YM yX12_readRule cX12_readRule 1 .boolean 181 5322 (fun G => [vr G 0]) x (fun z y' => (z = 0 ∨ z = 1) ∧ (z = 1 → x 0 2 ≤ 40) ∧ (y' 0 2 = 0) ∧ (∀ a : Int, (a < 0 ∨ 0 < a) → y' a = x a) ∧ (∀ i : Int, i ≠ 2 → i ≠ 6 → i ≠ 7 → i ≠ 8 → i ≠ 9 → i ≠ 10 → i ≠ 15 → y' 0 i = x 0 i)) := by
  refine cn_I (by decide) (fun _ => Nat.le_of_ble_eq_true rfl) (fun G C h hq => ?_)
  have h : OK YM G C cX12_readRule RX12 1 (some .boolean) 181 5322 := h
  show FW YM G C 1 x 0 [(0, vr G 0)] []
  refine fr_aload_n h rfl 0 rfl dX12_readRule_0 ?_
  refine fr_bipush h rfl dX12_readRule_1 ?_
  refine fr_cvV h kX12 at_0M wX12_beginText lX12_151 (c_X12_beginText x 40 (by omega) (by omega) (by omega)) rfl (by decide) (by decide) rfl (Nat.le_of_ble_eq_true rfl) dX12_readRule_3 (fun x1 p4 => ?_)
  obtain ⟨p5, p6, p7, p8, p9, p10, f11, f12⟩ := p4
  refine fr_aload_n h rfl 0 rfl dX12_readRule_6 ?_
  refine fr_iconst h dX12_readRule_7 ?_
  refine fr_putz (iz := 15) h kX12 fX12_191 at_0M rfl rfl (by decide) (by decide) rfl (by decide +kernel) rfM_15 (by omega) (by omega) (by omega) dX12_readRule_8 ?_
  refine fr_mem (fun x13 m14 => ?_)
  refine fr_aload_n h rfl 0 rfl dX12_readRule_11 ?_
  refine fr_geti (iz := 7) h kX12 fX12_115 at_0M rfl rfl (by decide) (by decide) rfM_7 dX12_readRule_12 (fun z15 w16 w17 q18 => ?_)
  have r19 := q18.trans (fm_rd_i (a := 0) (b := 7) m14 (by decide))
  refine fr_if_le (tgt := 24) h dX12_readRule_15 (by decide) (by omega) (fun c20 => ?_) (fun c20 => ?_)
  ·
    have r21 := (fm_rd_i (a := 0) (b := 7) m14 (by decide))
    have r22 := (fm_rd_i (a := 0) (b := 8) m14 (by decide))
    skip
    refine fr_aload_n h rfl 0 rfl dX12_readRule_24 ?_
    refine fr_cvI h kX12 at_0M wX12_wasRight lX12_158 (c_X12_wasRight x13) rfl (by decide) (by decide) rfl (Nat.le_of_ble_eq_true rfl) dX12_readRule_25 (fun z24 x23 w25 p26 => ?_)
    obtain ⟨p27, p28, p29, f30, f31⟩ := p26
    have r32 := (f31 2 (by decide))
    have r33 := r32.trans (fm_rd_i (a := 0) (b := 2) m14 (by decide))
    exact fr_zret h (nr_z (by omega) (by omega)) hq (by omega) ⟨(by omega), (by omega), (by omega), (fun a k0 => ((f30 a (by omega)).trans ((fm_up_row m14 (by omega)).trans (f11 a (by omega))))), (fun i k0 k1 k2 k3 k4 k5 k6 => ((f31 i (by omega)).trans ((fm_rd_i (a := 0) (b := i) m14 (by omega)).trans (f12 i (by omega) (by omega) (by omega) (by omega) (by omega) (by omega)))))⟩ dX12_readRule_28
  ·
    refine fr_aload_n h rfl 0 rfl dX12_readRule_18 ?_
    refine fr_iconst h dX12_readRule_19 ?_
    have r34 := (fm_rd_i (a := 0) (b := 6) m14 (by decide))
    have r35 := (fm_rd_i (a := 0) (b := 8) m14 (by decide))
    have r36 := (fm_rd_i (a := 0) (b := 6) m14 (by decide))
    have r37 := (fm_rd_i (a := 0) (b := 8) m14 (by decide))
    have r38 := (fm_rd_i (a := 0) (b := 6) m14 (by decide))
    have r39 := (fm_rd_i (a := 0) (b := 8) m14 (by decide))
    have r40 := (fm_rd_i (a := 0) (b := 9) m14 (by decide))
    have r41 := (fm_rd_i (a := 0) (b := 8) m14 (by decide))
    refine fr_cvI h kX12 at_0M wX12_held lX12_181 (c_X12_held 170 x13 0 (by omega) (by omega) (by omega) (by omega) (by omega)) rfl (by decide) (by decide) rfl (Nat.le_of_ble_eq_true rfl) dX12_readRule_20 (fun z43 x42 w44 p45 => ?_)
    obtain ⟨p46, p47, f48, f49⟩ := p45
    refine fr_pop h rfl dX12_readRule_23 ?_
    have r50 := (f49 7 (by decide) (by decide))
    have r51 := r50.trans (fm_rd_i (a := 0) (b := 7) m14 (by decide))
    have r52 := (f49 8 (by decide) (by decide))
    have r53 := r52.trans (fm_rd_i (a := 0) (b := 8) m14 (by decide))
    skip
    refine fr_aload_n h rfl 0 rfl dX12_readRule_24 ?_
    refine fr_cvI h kX12 at_0M wX12_wasRight lX12_158 (c_X12_wasRight x42) rfl (by decide) (by decide) rfl (Nat.le_of_ble_eq_true rfl) dX12_readRule_25 (fun z55 x54 w56 p57 => ?_)
    obtain ⟨p58, p59, p60, f61, f62⟩ := p57
    have r63 := (f62 2 (by decide))
    have r64 := r63.trans (f49 2 (by decide) (by decide))
    have r65 := r64.trans (fm_rd_i (a := 0) (b := 2) m14 (by decide))
    exact fr_zret h (nr_z (by omega) (by omega)) hq (by omega) ⟨(by omega), (by omega), (by omega), (fun a k0 => ((f61 a (by omega)).trans ((f48 a (by omega)).trans ((fm_up_row m14 (by omega)).trans (f11 a (by omega)))))), (fun i k0 k1 k2 k3 k4 k5 k6 => ((f62 i (by omega)).trans ((f49 i (by omega) (by omega)).trans ((fm_rd_i (a := 0) (b := i) m14 (by omega)).trans (f12 i (by omega) (by omega) (by omega) (by omega) (by omega) (by omega))))))⟩ dX12_readRule_28
set_option maxHeartbeats 2000000 in
theorem c_X12_rule (x : Mm) (e0 : GI x) (e1 : x 0 21 ≤ 2000) : CnI YM yX12_rule cX12_rule 3 .int 182 5342 (fun G => [vr G 0]) x (fun z y' => (y' 0 5 = 0) ∧ (y' 0 2 = 0) ∧ (CHG x y') ∧ (GI y') ∧ (∀ a : Int, (a < 0 ∨ 0 < a) → (a < 5 ∨ 6 < a) → y' a = x a) ∧ (∀ i : Int, i ≠ 2 → i ≠ 6 → i ≠ 7 → i ≠ 8 → i ≠ 9 → i ≠ 10 → i ≠ 5 → i ≠ 14 → i ≠ 15 → i ≠ 21 → y' 0 i = x 0 i)) := by
  refine cn_I (by decide) (fun _ => Nat.le_of_ble_eq_true rfl) (fun G C h hq => ?_)
  have h : OK YM G C cX12_rule RX12 3 (some .int) 182 5342 := h
  show FW YM G C 3 x 0 [(0, vr G 0)] []
  have e12 := e0.2.2.2
  refine fr_aload_n h rfl 0 rfl dX12_rule_0 ?_
  refine fr_iconst h dX12_rule_1 ?_
  refine fr_puti (iz := 5) h kX12 fX12_94 at_0M rfl rfl (by decide) (by decide) rfl (by decide +kernel) rfM_5 (by omega) (by omega) dX12_rule_2 ?_
  refine fr_mem (fun x1 m2 => ?_)
  refine fr_aload_n h rfl 0 rfl dX12_rule_5 ?_
  refine fr_geti (iz := 2) h kX12 fX12_109 at_0M rfl rfl (by decide) (by decide) rfM_2 dX12_rule_6 (fun z3 w4 w5 q6 => ?_)
  have r7 := q6.trans (fm_rd_i (a := 0) (b := 2) m2 (by decide))
  refine fr_istore_n (L' := [(0, vr G 0), (1, vi z3)]) h rfl dX12_rule_9 (by decide) [1, 0] rfl ?_
  refine fr_aload_n h rfl 0 rfl dX12_rule_10 ?_
  refine fr_cvI h kX12 at_0M wX12_readRule lX12_195 (c_X12_readRule x1) rfl (by decide) (by decide) rfl (Nat.le_of_ble_eq_true rfl) dX12_rule_11 (fun z9 x8 w10 p11 => ?_)
  obtain ⟨p12, p13, p14, f15, f16⟩ := p11
  refine fr_if_ne (tgt := 24) h dX12_rule_14 (by decide) (by omega) (fun c17 => ?_) (fun c17 => ?_)
  ·
    refine fr_iconst h dX12_rule_24 ?_
    refine fr_istore_n (L' := [(0, vr G 0), (1, vi z3), (2, vi 0)]) h rfl dX12_rule_25 (by decide) [1, 2, 0] rfl ?_
    have HL18 : ∀ (n18 : Nat) (l2_18 : Int) (x_18 : Mm), fm_r l2_18 → 0 ≤ l2_18 → l2_18 ≤ 40 → (∀ a : Int, (a < 5 ∨ 6 < a) → x_18 a = x8 a) → (40 - l2_18) < n18 → FW YM G C 3 x_18 26 [(0, vr G 0), (1, vi z3), (2, vi l2_18)] [] := by
      intro n18
      induction n18 with
      | zero =>
        intro l2_18 x_18 g18_0 g18_1 g18_2 g18_3 g18_4
        exfalso; omega
      | succ n18 ih18 =>
        intro l2_18 x_18 g18_0 g18_1 g18_2 g18_3 g18_4
        refine fr_iload_n h rfl 2 rfl dX12_rule_26 ?_
        refine fr_iload_n h rfl 1 rfl dX12_rule_27 ?_
        refine fr_icmp_ge (tgt := 49) h dX12_rule_28 (by decide) (by omega) (by omega) (fun c19 => ?_) (fun c19 => ?_)
        ·
          refine fr_aload_n h rfl 0 rfl dX12_rule_49 ?_
          refine fr_iload_n h rfl 1 rfl dX12_rule_50 ?_
          refine fr_puti (iz := 14) h kX12 fX12_198 at_0M rfl rfl (by decide) (by decide) rfl (by decide +kernel) rfM_14 (by omega) (by omega) dX12_rule_51 ?_
          refine fr_mem (fun x20 m21 => ?_)
          refine fr_aload_n h rfl 0 rfl dX12_rule_54 ?_
          refine fr_dup h rfl dX12_rule_55 ?_
          refine fr_geti (iz := 21) h kX12 fX12_201 at_0M rfl rfl (by decide) (by decide) rfM_21 dX12_rule_56 (fun z22 w23 w24 q25 => ?_)
          have r26 := q25.trans (fm_rd_i (a := 0) (b := 21) m21 (by decide))
          have r27 := r26.trans (congrFun (g18_3 0 (by omega)) 21)
          have r28 := r27.trans (f16 21 (by decide) (by decide) (by decide) (by decide) (by decide) (by decide) (by decide))
          have r29 := r28.trans (fm_rd_i (a := 0) (b := 21) m2 (by decide))
          refine fr_iconst h dX12_rule_59 ?_
          refine fr_iadd h dX12_rule_60 ?_
          refine fr_normi (fun z30 w31 q32 => ?_)
          have w33 : fm_r ((z22 + 1)) → z30 = (z22 + 1) := fun q => (iI_inj q w31 q32).symm
          refine fr_puti (iz := 21) h kX12 fX12_201 at_0M rfl rfl (by decide) (by decide) rfl (by decide +kernel) rfM_21 (by omega) (by omega) dX12_rule_61 ?_
          refine fr_mem (fun x34 m35 => ?_)
          refine fr_iconst h dX12_rule_64 ?_
          have r36 := (fm_rd_i (a := 0) (b := 5) m35 (by decide))
          have r37 := r36.trans (fm_rd_i (a := 0) (b := 5) m21 (by decide))
          have r38 := r37.trans (congrFun (g18_3 0 (by omega)) 5)
          have r39 := r38.trans (f16 5 (by decide) (by decide) (by decide) (by decide) (by decide) (by decide) (by decide))
          have r40 := r39.trans (fm_rd_s m2)
          have r41 := (fm_rd_i (a := 0) (b := 2) m35 (by decide))
          have r42 := r41.trans (fm_rd_i (a := 0) (b := 2) m21 (by decide))
          have r43 := r42.trans (congrFun (g18_3 0 (by omega)) 2)
          have r44 := (fm_rd_i (a := 0) (b := 2) m2 (by decide))
          have r45 := (fm_rd_s m35)
          have r46 := (fm_rd_i (a := 0) (b := 12) m35 (by decide))
          have r47 := r46.trans (fm_rd_i (a := 0) (b := 12) m21 (by decide))
          have r48 := r47.trans (congrFun (g18_3 0 (by omega)) 12)
          have r49 := r48.trans (f16 12 (by decide) (by decide) (by decide) (by decide) (by decide) (by decide) (by decide))
          have r50 := r49.trans (fm_rd_i (a := 0) (b := 12) m2 (by decide))
          exact fr_iret h hq (by omega) ⟨(by omega), (by omega), (Or.inr (by omega)), ⟨(by rw [show x34 1 = x20 1 from (fm_up_row m35 (by omega))]; exact (by rw [show x20 1 = x_18 1 from (fm_up_row m21 (by omega))]; exact (by rw [show x_18 1 = x8 1 from (g18_3 1 (by omega))]; exact (by rw [show x8 1 = x1 1 from (f15 1 (by omega))]; exact (by rw [show x1 1 = x 1 from (fm_up_row m2 (by omega))]; exact e0.1))))), (by rw [show x34 8 = x 8 from ((fm_up_row m35 (by omega)).trans ((fm_up_row m21 (by omega)).trans ((g18_3 8 (by omega)).trans ((f15 8 (by omega)).trans (fm_up_row m2 (by omega))))))]; exact e0.2.1), (by rw [show x34 26 = x 26 from ((fm_up_row m35 (by omega)).trans ((fm_up_row m21 (by omega)).trans ((g18_3 26 (by omega)).trans ((f15 26 (by omega)).trans (fm_up_row m2 (by omega))))))]; exact e0.2.2.1), (by have := e0.2.2.2; omega)⟩, (fun a k0 k1 => ((fm_up_row m35 (by omega)).trans ((fm_up_row m21 (by omega)).trans ((g18_3 a (by omega)).trans ((f15 a (by omega)).trans (fm_up_row m2 (by omega))))))), (fun i k0 k1 k2 k3 k4 k5 k6 k7 k8 k9 => ((fm_rd_i (a := 0) (b := i) m35 (by omega)).trans ((fm_rd_i (a := 0) (b := i) m21 (by omega)).trans ((congrFun (g18_3 0 (by omega)) i).trans ((f16 i (by omega) (by omega) (by omega) (by omega) (by omega) (by omega) (by omega)).trans (fm_rd_i (a := 0) (b := i) m2 (by omega)))))))⟩ dX12_rule_65
        ·
          refine fr_aload_n h rfl 0 rfl dX12_rule_31 ?_
          refine fr_rng (fun h51 => ?_)
          have w52 : 5 ≤ x_18 0 12 ∧ x_18 0 12 ≤ 6 := h51 0 12
          obtain ⟨u53, q54⟩ : ∃ z, x_18 0 12 = z := ⟨_, rfl⟩
          rw [q54] at w52
          have i55 : RBN u53 40 := by unfold RBN; omega
          refine fr_getr (z := u53) (iz := 12) h kX12 fX12_24 at_0M rfl rfl q54 (by omega) dX12_rule_32 ?_
          refine fr_iload_n h rfl 2 rfl dX12_rule_35 ?_
          refine fr_aload_n h rfl 0 rfl dX12_rule_36 ?_
          refine fr_getc (z := 2) (iz := 1) h kX12 fX12_13 at_0M rfl rfl rfM_1 (by omega) dX12_rule_37 ?_
          refine fr_iload_n h rfl 2 rfl dX12_rule_40 ?_
          refine fr_bald h (RB_a (Or.inl ⟨rfl, rfl⟩)) (by omega) (by omega) (RB_r (Or.inl ⟨rfl, rfl⟩) l2_18) dX12_rule_41 (fun z56 w57 w58 q59 => ?_)
          have r60 := q59.trans (congrFun (g18_3 2 (by omega)) l2_18)
          have r61 := r60.trans (congrFun (f15 2 (by omega)) l2_18)
          have r62 := r61.trans (fm_rd_k (a := 2) (b := l2_18) m2 (by omega))
          refine fr_bast h (RB_a i55) (by omega) (by omega) (RB_r i55 l2_18) (by omega) (by omega) (by omega) dX12_rule_42 ?_
          refine fr_mem (fun x63 m64 => ?_)
          refine fr_iinc (j := 2) (L' := [(0, vr G 0), (1, vi z3), (2, vi (l2_18 + 1))]) h dX12_rule_43 rfl (by decide) [1, 2, 0] rfl ?_
          refine fr_goto (tgt := 26) h dX12_rule_46 (by decide) ?_
          exact ih18 (l2_18 + 1) x63 (by omega) (by omega) (by omega) (fun a k0 => ((fm_up_row m64 (by omega)).trans (g18_3 a (by omega)))) (by omega)
    exact HL18 ((40 - 0) + 1 : Int).toNat 0 x8 (by omega) (by omega) (by omega) (fun a _ => rfl) (by omega)
  ·
    refine fr_iconst h dX12_rule_17 ?_
    refine fr_aload_n h rfl 0 rfl dX12_rule_18 ?_
    refine fr_geti (iz := 10) h kX12 fX12_124 at_0M rfl rfl (by decide) (by decide) rfM_10 dX12_rule_19 (fun z65 w66 w67 q68 => ?_)
    have r69 := (fm_rd_i (a := 0) (b := 10) m2 (by decide))
    refine fr_isub h dX12_rule_22 ?_
    have r70 := (f16 5 (by decide) (by decide) (by decide) (by decide) (by decide) (by decide) (by decide))
    have r71 := r70.trans (fm_rd_s m2)
    have r72 := (fm_rd_i (a := 0) (b := 2) m2 (by decide))
    have r73 := (f16 21 (by decide) (by decide) (by decide) (by decide) (by decide) (by decide) (by decide))
    have r74 := r73.trans (fm_rd_i (a := 0) (b := 21) m2 (by decide))
    have r75 := (f16 12 (by decide) (by decide) (by decide) (by decide) (by decide) (by decide) (by decide))
    have r76 := r75.trans (fm_rd_i (a := 0) (b := 12) m2 (by decide))
    exact fr_iret h hq (by omega) ⟨(by omega), (by omega), (Or.inl ⟨(by omega), ((f15 1 (by omega)).trans (fm_up_row m2 (by omega)))⟩), ⟨(by rw [show x8 1 = x1 1 from (f15 1 (by omega))]; exact (by rw [show x1 1 = x 1 from (fm_up_row m2 (by omega))]; exact e0.1)), (by rw [show x8 8 = x 8 from ((f15 8 (by omega)).trans (fm_up_row m2 (by omega)))]; exact e0.2.1), (by rw [show x8 26 = x 26 from ((f15 26 (by omega)).trans (fm_up_row m2 (by omega)))]; exact e0.2.2.1), (by have := e0.2.2.2; omega)⟩, (fun a k0 k1 => ((f15 a (by omega)).trans (fm_up_row m2 (by omega)))), (fun i k0 k1 k2 k3 k4 k5 k6 k7 k8 k9 => ((f16 i (by omega) (by omega) (by omega) (by omega) (by omega) (by omega) (by omega)).trans (fm_rd_i (a := 0) (b := i) m2 (by omega))))⟩ dX12_rule_23
set_option maxHeartbeats 8000000 in
theorem c_X12_lists (x : Mm) (p : Int) (h_p : fm_r p) (e0 : GI x) (e1 : x 0 21 ≤ 2000) : CnI YM yX12_lists cX12_lists 5 .int 4 86 (fun G => [vr G 0, vi p]) x (fun z y' => (y' 0 5 = 0) ∧ (y' 0 2 = 0) ∧ (CHG x y') ∧ (GI y') ∧ (∀ a : Int, (a < 0 ∨ 0 < a) → (a < 1 ∨ 1 < a) → (a < 4 ∨ 4 < a) → (a < 8 ∨ 8 < a) → y' a = x a) ∧ (∀ i : Int, i ≠ 2 → i ≠ 6 → i ≠ 7 → i ≠ 8 → i ≠ 9 → i ≠ 10 → i ≠ 5 → i ≠ 18 → i ≠ 21 → y' 0 i = x 0 i)) := by
  refine cn_I (by decide) (fun _ => Nat.le_of_ble_eq_true rfl) (fun G C h hq => ?_)
  have h : OK YM G C cX12_lists RX12 5 (some .int) 4 86 := h
  show FW YM G C 5 x 0 [(0, vr G 0), (1, vi p)] []
  have e12 := e0.2.2.2
  refine fr_aload_n h rfl 0 rfl dX12_lists_0 ?_
  refine fr_iconst h dX12_lists_1 ?_
  refine fr_puti (iz := 5) h kX12 fX12_94 at_0M rfl rfl (by decide) (by decide) rfl (by decide +kernel) rfM_5 (by omega) (by omega) dX12_lists_2 ?_
  refine fr_mem (fun x1 m2 => ?_)
  refine fr_aload_n h rfl 0 rfl dX12_lists_5 ?_
  refine fr_bipush h rfl dX12_lists_6 ?_
  refine fr_cvV h kX12 at_0M wX12_beginText lX12_151 (c_X12_beginText x1 80 (by omega) (by omega) (by omega)) rfl (by decide) (by decide) rfl (Nat.le_of_ble_eq_true rfl) dX12_lists_8 (fun x3 p6 => ?_)
  obtain ⟨p7, p8, p9, p10, p11, p12, f13, f14⟩ := p6
  refine fr_iconst h dX12_lists_11 ?_
  refine fr_istore_n (L' := [(0, vr G 0), (1, vi p), (2, vi 0)]) h rfl dX12_lists_12 (by decide) [1, 2, 0] rfl ?_
  refine fr_aload_n h rfl 0 rfl dX12_lists_13 ?_
  refine fr_geti (iz := 7) h kX12 fX12_115 at_0M rfl rfl (by decide) (by decide) rfM_7 dX12_lists_14 (fun z15 w16 w17 q18 => ?_)
  have r19 := (fm_rd_i (a := 0) (b := 7) m2 (by decide))
  refine fr_if_le (tgt := 24) h dX12_lists_17 (by decide) (by omega) (fun c20 => ?_) (fun c20 => ?_)
  ·
    refine fr_iconst h dX12_lists_24 ?_
    refine fr_istore_n (L' := [(0, vr G 0), (1, vi p), (2, vi 0), (3, vi 0)]) h rfl dX12_lists_25 (by decide) [1, 2, 3, 0] rfl ?_
    have HL21 : ∀ (n21 : Nat) (l2_21 l3_21 : Int) (x_21 : Mm), fm_r l2_21 → 0 ≤ l2_21 → l2_21 ≤ 7 → fm_r l3_21 → 0 ≤ l3_21 → l3_21 ≤ 1 → (l2_21 ≤ 6 ∨ x_21 0 10 ≠ (-1)) → x_21 0 9 ≤ x_21 0 8 → (∀ a : Int, (a < 0 ∨ 0 < a) → (a < 4 ∨ 4 < a) → x_21 a = x3 a) → (∀ i : Int, i ≠ 9 → i ≠ 10 → x_21 0 i = x3 0 i) → (7 - l2_21) < n21 → FW YM G C 5 x_21 26 [(0, vr G 0), (1, vi p), (2, vi l2_21), (3, vi l3_21)] [] := by
      intro n21
      induction n21 with
      | zero =>
        intro l2_21 l3_21 x_21 g21_0 g21_1 g21_2 g21_3 g21_4 g21_5 g21_6 g21_7 g21_8 g21_9 g21_10
        exfalso; omega
      | succ n21 ih21 =>
        intro l2_21 l3_21 x_21 g21_0 g21_1 g21_2 g21_3 g21_4 g21_5 g21_6 g21_7 g21_8 g21_9 g21_10
        refine fr_iload_n h rfl 3 rfl dX12_lists_26 ?_
        refine fr_if_eq (tgt := 78) h dX12_lists_27 (by decide) (by omega) (fun c22 => ?_) (fun c22 => ?_)
        ·
          refine fr_aload_n h rfl 0 rfl dX12_lists_78 ?_
          refine fr_cvI h kX12 at_0M wX12_wasRight lX12_158 (c_X12_wasRight x_21) rfl (by decide) (by decide) rfl (Nat.le_of_ble_eq_true rfl) dX12_lists_79 (fun z24 x23 w25 p26 => ?_)
          obtain ⟨p27, p28, p29, f30, f31⟩ := p26
          refine fr_if_ne (tgt := 92) h dX12_lists_82 (by decide) (by omega) (fun c32 => ?_) (fun c32 => ?_)
          ·
            refine fr_iload_n h rfl 1 rfl dX12_lists_92 ?_
            refine fr_csI h wX12_isList lX12_161 (c_X12_isList x23 p (by omega)) rfl (by decide) (by decide) rfl (Nat.le_of_ble_eq_true rfl) dX12_lists_93 (fun z34 x33 w35 p36 => ?_)
            obtain ⟨p37, p38, y39⟩ := p36
            rw [y39]
            clear y39
            refine fr_if_ne (tgt := 101) h dX12_lists_96 (by decide) (by omega) (fun c40 => ?_) (fun c40 => ?_)
            ·
              refine fr_aload_n h rfl 0 rfl dX12_lists_101 ?_
              refine fr_aload_n h rfl 0 rfl dX12_lists_102 ?_
              refine fr_getc (z := 1) (iz := 0) h kX12 fX12_9 at_0M rfl rfl rfM_0 (by omega) dX12_lists_103 ?_
              refine fr_cvV h kX12 at_0M wX12_change lX12_165 (c_X12_change x23 1 SA_1 (by rw [show x23 8 = x 8 from ((f30 8 (by omega)).trans ((g21_8 8 (by omega) (by omega)).trans ((f13 8 (by omega)).trans (fm_up_row m2 (by omega)))))]; exact e0.2.1) (by rw [show x23 1 = x_21 1 from (f30 1 (by omega))]; exact (by rw [show x_21 1 = x3 1 from (g21_8 1 (by omega) (by omega))]; exact (by rw [show x3 1 = x1 1 from (f13 1 (by omega))]; exact (by rw [show x1 1 = x 1 from (fm_up_row m2 (by omega))]; exact e0.1))))) rfl (by decide) (by decide) rfl (Nat.le_of_ble_eq_true rfl) dX12_lists_106 (fun x41 p44 => ?_)
              obtain ⟨p45, p46, f47, f48⟩ := p44
              refine fr_aload_n h rfl 0 rfl dX12_lists_109 ?_
              refine fr_getc (z := 1) (iz := 0) h kX12 fX12_9 at_0M rfl rfl rfM_0 (by omega) dX12_lists_110 ?_
              refine fr_bipush h rfl dX12_lists_113 ?_
              refine fr_iload_n h rfl 1 rfl dX12_lists_115 ?_
              refine fr_iadd h dX12_lists_116 ?_
              refine fr_iconst h dX12_lists_117 ?_
              refine fr_iast h (SA_a SA_1) (by omega) (by omega) ((SA_r SA_1 (24 + p)).trans (sg_len (by omega) (by omega))) (by omega) (by omega) dX12_lists_118 ?_
              refine fr_mem (fun x49 m50 => ?_)
              refine fr_iconst h dX12_lists_119 ?_
              refine fr_istore (L' := [(0, vr G 0), (1, vi p), (2, vi l2_21), (3, vi l3_21), (4, vi 0)]) h dX12_lists_120 (by decide) [1, 2, 3, 4, 0] rfl ?_
              have HL51 : ∀ (n51 : Nat) (l4_51 : Int) (x_51 : Mm), fm_r l4_51 → 0 ≤ l4_51 → l4_51 ≤ 6 → MI (x_51 1) → x_51 1 (24 + p) = l4_51 → (∀ a : Int, (a < 1 ∨ 1 < a) → x_51 a = x49 a) → (6 - l4_51) < n51 → FW YM G C 5 x_51 122 [(0, vr G 0), (1, vi p), (2, vi l2_21), (3, vi l3_21), (4, vi l4_51)] [] := by
                intro n51
                induction n51 with
                | zero =>
                  intro l4_51 x_51 g51_0 g51_1 g51_2 g51_3 g51_4 g51_5 g51_6
                  exfalso; omega
                | succ n51 ih51 =>
                  intro l4_51 x_51 g51_0 g51_1 g51_2 g51_3 g51_4 g51_5 g51_6
                  refine fr_iload h 4 rfl dX12_lists_122 ?_
                  refine fr_iload_n h rfl 2 rfl dX12_lists_124 ?_
                  refine fr_icmp_ge (tgt := 150) h dX12_lists_125 (by decide) (by omega) (by omega) (fun c52 => ?_) (fun c52 => ?_)
                  ·
                    refine fr_iload_n h rfl 2 rfl dX12_lists_150 ?_
                    have r53 := (congrFun (g51_5 0 (by omega)) 5)
                    have r54 := r53.trans (fm_rd_k (a := 0) (b := 5) m50 (by omega))
                    have r55 := r54.trans (f48 5 (by decide) (by decide))
                    have r56 := r55.trans (f31 5 (by decide))
                    have r57 := r56.trans (g21_9 5 (by decide) (by decide))
                    have r58 := r57.trans (f14 5 (by decide) (by decide) (by decide) (by decide) (by decide) (by decide))
                    have r59 := r58.trans (fm_rd_s m2)
                    have r60 := (congrFun (g51_5 0 (by omega)) 2)
                    have r61 := r60.trans (fm_rd_k (a := 0) (b := 2) m50 (by omega))
                    have r62 := r61.trans (f48 2 (by decide) (by decide))
                    have r63 := r62.trans (f31 2 (by decide))
                    have r64 := r63.trans (g21_9 2 (by decide) (by decide))
                    have r65 := (fm_rd_i (a := 0) (b := 2) m2 (by decide))
                    have r66 := (congrFun (g51_5 0 (by omega)) 21)
                    have r67 := r66.trans (fm_rd_k (a := 0) (b := 21) m50 (by omega))
                    have r68 := (f31 21 (by decide))
                    have r69 := r68.trans (g21_9 21 (by decide) (by decide))
                    have r70 := r69.trans (f14 21 (by decide) (by decide) (by decide) (by decide) (by decide) (by decide))
                    have r71 := r70.trans (fm_rd_i (a := 0) (b := 21) m2 (by decide))
                    have r72 := (congrFun (g51_5 0 (by omega)) 12)
                    have r73 := r72.trans (fm_rd_k (a := 0) (b := 12) m50 (by omega))
                    have r74 := r73.trans (f48 12 (by decide) (by decide))
                    have r75 := r74.trans (f31 12 (by decide))
                    have r76 := r75.trans (g21_9 12 (by decide) (by decide))
                    have r77 := r76.trans (f14 12 (by decide) (by decide) (by decide) (by decide) (by decide) (by decide))
                    have r78 := r77.trans (fm_rd_i (a := 0) (b := 12) m2 (by decide))
                    exact fr_iret h hq (by omega) ⟨(by omega), (by omega), (Or.inr (by omega)), ⟨g51_3, (by rw [show x_51 8 = x41 8 from ((g51_5 8 (by omega)).trans (fm_up_row m50 (by omega)))]; exact p45), (by rw [show x_51 26 = x 26 from ((g51_5 26 (by omega)).trans ((fm_up_row m50 (by omega)).trans ((f47 26 (by omega) (by omega)).trans ((f30 26 (by omega)).trans ((g21_8 26 (by omega) (by omega)).trans ((f13 26 (by omega)).trans (fm_up_row m2 (by omega))))))))]; exact e0.2.2.1), (by have := e0.2.2.2; omega)⟩, (fun a k0 k1 k2 k3 => ((g51_5 a (by omega)).trans ((fm_up_row m50 (by omega)).trans ((f47 a (by omega) (by omega)).trans ((f30 a (by omega)).trans ((g21_8 a (by omega) (by omega)).trans ((f13 a (by omega)).trans (fm_up_row m2 (by omega))))))))), (fun i k0 k1 k2 k3 k4 k5 k6 k7 k8 => ((congrFun (g51_5 0 (by omega)) i).trans ((fm_rd_k (a := 0) (b := i) m50 (by omega)).trans ((f48 i (by omega) (by omega)).trans ((f31 i (by omega)).trans ((g21_9 i (by omega) (by omega)).trans ((f14 i (by omega) (by omega) (by omega) (by omega) (by omega) (by omega)).trans (fm_rd_i (a := 0) (b := i) m2 (by omega)))))))))⟩ dX12_lists_151
                  ·
                    refine fr_aload_n h rfl 0 rfl dX12_lists_128 ?_
                    refine fr_getc (z := 1) (iz := 0) h kX12 fX12_9 at_0M rfl rfl rfM_0 (by omega) dX12_lists_129 ?_
                    refine fr_iload_n h rfl 1 rfl dX12_lists_132 ?_
                    refine fr_aload_n h rfl 0 rfl dX12_lists_133 ?_
                    refine fr_getc (z := 4) (iz := 11) h kX12 fX12_21 at_0M rfl rfl rfM_11 (by omega) dX12_lists_134 ?_
                    refine fr_iload h 4 rfl dX12_lists_137 ?_
                    refine fr_iald h arM_4 (by omega) (by omega) (rrM_4 l4_51) dX12_lists_139 (fun z79 w80 w81 q82 => ?_)
                    have r83 := q82.trans (congrFun (g51_5 4 (by omega)) l4_51)
                    have r84 := r83.trans (fm_rd_k (a := 4) (b := l4_51) m50 (by omega))
                    have r85 := r84.trans (congrFun (f47 4 (by omega) (by omega)) l4_51)
                    have r86 := r85.trans (congrFun (f30 4 (by omega)) l4_51)
                    have r87 := (congrFun (f13 4 (by omega)) l4_51)
                    have r88 := r87.trans (fm_rd_k (a := 4) (b := l4_51) m2 (by omega))
                    have r89 := (fm_rd_s m50)
                    refine fr_csI h wX12_goPut lX12_169 (c_X12_goPut x_51 1 SA_1 p z79 (by omega) (by omega) (by omega) (by omega) (by omega) (by omega) (by omega)) rfl (by decide) (by decide) rfl (Nat.le_of_ble_eq_true rfl) dX12_lists_140 (fun z91 x90 w92 p93 => ?_)
                    obtain ⟨p94, p95, p96, f97⟩ := p93
                    refine fr_pop h rfl dX12_lists_143 ?_
                    refine fr_iinc (j := 4) (L' := [(0, vr G 0), (1, vi p), (2, vi l2_21), (3, vi l3_21), (4, vi (l4_51 + 1))]) h dX12_lists_144 rfl (by decide) [1, 2, 3, 4, 0] rfl ?_
                    refine fr_goto (tgt := 122) h dX12_lists_147 (by decide) ?_
                    have r98 := (fm_rd_s m50)
                    exact ih51 (l4_51 + 1) x90 (by omega) (by omega) (by omega) (MI_cong g51_3 (fun i a b => p96 i (by omega) (by omega))) (by omega) (fun a k0 => ((f97 a (by omega)).trans (g51_5 a (by omega)))) (by omega)
              have r99 := (fm_rd_s m50)
              exact HL51 ((6 - 0) + 1 : Int).toNat 0 x49 (by omega) (by omega) (by omega) (MI_cong (by rw [show x41 1 = x23 1 from (f47 1 (by omega) (by omega))]; exact (by rw [show x23 1 = x_21 1 from (f30 1 (by omega))]; exact (by rw [show x_21 1 = x3 1 from (g21_8 1 (by omega) (by omega))]; exact (by rw [show x3 1 = x1 1 from (f13 1 (by omega))]; exact (by rw [show x1 1 = x 1 from (fm_up_row m2 (by omega))]; exact e0.1))))) (fun i a b => fm_rd_i m50 (by omega))) (by omega) (fun a _ => rfl) (by omega)
            ·
              refine fr_iconst h dX12_lists_99 ?_
              have r100 := (f31 5 (by decide))
              have r101 := r100.trans (g21_9 5 (by decide) (by decide))
              have r102 := r101.trans (f14 5 (by decide) (by decide) (by decide) (by decide) (by decide) (by decide))
              have r103 := r102.trans (fm_rd_s m2)
              have r104 := (f31 2 (by decide))
              have r105 := r104.trans (g21_9 2 (by decide) (by decide))
              have r106 := (fm_rd_i (a := 0) (b := 2) m2 (by decide))
              have r107 := (f31 21 (by decide))
              have r108 := r107.trans (g21_9 21 (by decide) (by decide))
              have r109 := r108.trans (f14 21 (by decide) (by decide) (by decide) (by decide) (by decide) (by decide))
              have r110 := r109.trans (fm_rd_i (a := 0) (b := 21) m2 (by decide))
              have r111 := (f31 12 (by decide))
              have r112 := r111.trans (g21_9 12 (by decide) (by decide))
              have r113 := r112.trans (f14 12 (by decide) (by decide) (by decide) (by decide) (by decide) (by decide))
              have r114 := r113.trans (fm_rd_i (a := 0) (b := 12) m2 (by decide))
              exact fr_iret h hq (by omega) ⟨(by omega), (by omega), (Or.inl ⟨(by omega), ((f30 1 (by omega)).trans ((g21_8 1 (by omega) (by omega)).trans ((f13 1 (by omega)).trans (fm_up_row m2 (by omega)))))⟩), ⟨(by rw [show x23 1 = x_21 1 from (f30 1 (by omega))]; exact (by rw [show x_21 1 = x3 1 from (g21_8 1 (by omega) (by omega))]; exact (by rw [show x3 1 = x1 1 from (f13 1 (by omega))]; exact (by rw [show x1 1 = x 1 from (fm_up_row m2 (by omega))]; exact e0.1)))), (by rw [show x23 8 = x 8 from ((f30 8 (by omega)).trans ((g21_8 8 (by omega) (by omega)).trans ((f13 8 (by omega)).trans (fm_up_row m2 (by omega)))))]; exact e0.2.1), (by rw [show x23 26 = x 26 from ((f30 26 (by omega)).trans ((g21_8 26 (by omega) (by omega)).trans ((f13 26 (by omega)).trans (fm_up_row m2 (by omega)))))]; exact e0.2.2.1), (by have := e0.2.2.2; omega)⟩, (fun a k0 k1 k2 k3 => ((f30 a (by omega)).trans ((g21_8 a (by omega) (by omega)).trans ((f13 a (by omega)).trans (fm_up_row m2 (by omega)))))), (fun i k0 k1 k2 k3 k4 k5 k6 k7 k8 => ((f31 i (by omega)).trans ((g21_9 i (by omega) (by omega)).trans ((f14 i (by omega) (by omega) (by omega) (by omega) (by omega) (by omega)).trans (fm_rd_i (a := 0) (b := i) m2 (by omega))))))⟩ dX12_lists_100
          ·
            refine fr_iconst h dX12_lists_85 ?_
            refine fr_aload_n h rfl 0 rfl dX12_lists_86 ?_
            refine fr_geti (iz := 10) h kX12 fX12_124 at_0M rfl rfl (by decide) (by decide) rfM_10 dX12_lists_87 (fun z115 w116 w117 q118 => ?_)
            have r119 := (fm_rd_i (a := 0) (b := 10) m2 (by decide))
            refine fr_isub h dX12_lists_90 ?_
            have r120 := (f31 5 (by decide))
            have r121 := r120.trans (g21_9 5 (by decide) (by decide))
            have r122 := r121.trans (f14 5 (by decide) (by decide) (by decide) (by decide) (by decide) (by decide))
            have r123 := r122.trans (fm_rd_s m2)
            have r124 := (f31 2 (by decide))
            have r125 := r124.trans (g21_9 2 (by decide) (by decide))
            have r126 := (fm_rd_i (a := 0) (b := 2) m2 (by decide))
            have r127 := (f31 21 (by decide))
            have r128 := r127.trans (g21_9 21 (by decide) (by decide))
            have r129 := r128.trans (f14 21 (by decide) (by decide) (by decide) (by decide) (by decide) (by decide))
            have r130 := r129.trans (fm_rd_i (a := 0) (b := 21) m2 (by decide))
            have r131 := (f31 12 (by decide))
            have r132 := r131.trans (g21_9 12 (by decide) (by decide))
            have r133 := r132.trans (f14 12 (by decide) (by decide) (by decide) (by decide) (by decide) (by decide))
            have r134 := r133.trans (fm_rd_i (a := 0) (b := 12) m2 (by decide))
            exact fr_iret h hq (by omega) ⟨(by omega), (by omega), (Or.inl ⟨(by omega), ((f30 1 (by omega)).trans ((g21_8 1 (by omega) (by omega)).trans ((f13 1 (by omega)).trans (fm_up_row m2 (by omega)))))⟩), ⟨(by rw [show x23 1 = x_21 1 from (f30 1 (by omega))]; exact (by rw [show x_21 1 = x3 1 from (g21_8 1 (by omega) (by omega))]; exact (by rw [show x3 1 = x1 1 from (f13 1 (by omega))]; exact (by rw [show x1 1 = x 1 from (fm_up_row m2 (by omega))]; exact e0.1)))), (by rw [show x23 8 = x 8 from ((f30 8 (by omega)).trans ((g21_8 8 (by omega) (by omega)).trans ((f13 8 (by omega)).trans (fm_up_row m2 (by omega)))))]; exact e0.2.1), (by rw [show x23 26 = x 26 from ((f30 26 (by omega)).trans ((g21_8 26 (by omega) (by omega)).trans ((f13 26 (by omega)).trans (fm_up_row m2 (by omega)))))]; exact e0.2.2.1), (by have := e0.2.2.2; omega)⟩, (fun a k0 k1 k2 k3 => ((f30 a (by omega)).trans ((g21_8 a (by omega) (by omega)).trans ((f13 a (by omega)).trans (fm_up_row m2 (by omega)))))), (fun i k0 k1 k2 k3 k4 k5 k6 k7 k8 => ((f31 i (by omega)).trans ((g21_9 i (by omega) (by omega)).trans ((f14 i (by omega) (by omega) (by omega) (by omega) (by omega) (by omega)).trans (fm_rd_i (a := 0) (b := i) m2 (by omega))))))⟩ dX12_lists_91
        ·
          refine fr_aload_n h rfl 0 rfl dX12_lists_30 ?_
          refine fr_cvI h kX12 at_0M wX12_fine lX12_131 (c_X12_fine x_21) rfl (by decide) (by decide) rfl (Nat.le_of_ble_eq_true rfl) dX12_lists_31 (fun z136 x135 w137 p138 => ?_)
          obtain ⟨p139, p140, y141⟩ := p138
          rw [y141]
          clear y141
          refine fr_if_eq (tgt := 78) h dX12_lists_34 (by decide) (by omega) (fun c142 => ?_) (fun c142 => ?_)
          ·
            refine fr_aload_n h rfl 0 rfl dX12_lists_78 ?_
            refine fr_cvI h kX12 at_0M wX12_wasRight lX12_158 (c_X12_wasRight x_21) rfl (by decide) (by decide) rfl (Nat.le_of_ble_eq_true rfl) dX12_lists_79 (fun z144 x143 w145 p146 => ?_)
            obtain ⟨p147, p148, p149, f150, f151⟩ := p146
            refine fr_if_ne (tgt := 92) h dX12_lists_82 (by decide) (by omega) (fun c152 => ?_) (fun c152 => ?_)
            ·
              refine fr_iload_n h rfl 1 rfl dX12_lists_92 ?_
              refine fr_csI h wX12_isList lX12_161 (c_X12_isList x143 p (by omega)) rfl (by decide) (by decide) rfl (Nat.le_of_ble_eq_true rfl) dX12_lists_93 (fun z154 x153 w155 p156 => ?_)
              obtain ⟨p157, p158, y159⟩ := p156
              rw [y159]
              clear y159
              refine fr_if_ne (tgt := 101) h dX12_lists_96 (by decide) (by omega) (fun c160 => ?_) (fun c160 => ?_)
              ·
                refine fr_aload_n h rfl 0 rfl dX12_lists_101 ?_
                refine fr_aload_n h rfl 0 rfl dX12_lists_102 ?_
                refine fr_getc (z := 1) (iz := 0) h kX12 fX12_9 at_0M rfl rfl rfM_0 (by omega) dX12_lists_103 ?_
                refine fr_cvV h kX12 at_0M wX12_change lX12_165 (c_X12_change x143 1 SA_1 (by rw [show x143 8 = x 8 from ((f150 8 (by omega)).trans ((g21_8 8 (by omega) (by omega)).trans ((f13 8 (by omega)).trans (fm_up_row m2 (by omega)))))]; exact e0.2.1) (by rw [show x143 1 = x_21 1 from (f150 1 (by omega))]; exact (by rw [show x_21 1 = x3 1 from (g21_8 1 (by omega) (by omega))]; exact (by rw [show x3 1 = x1 1 from (f13 1 (by omega))]; exact (by rw [show x1 1 = x 1 from (fm_up_row m2 (by omega))]; exact e0.1))))) rfl (by decide) (by decide) rfl (Nat.le_of_ble_eq_true rfl) dX12_lists_106 (fun x161 p164 => ?_)
                obtain ⟨p165, p166, f167, f168⟩ := p164
                refine fr_aload_n h rfl 0 rfl dX12_lists_109 ?_
                refine fr_getc (z := 1) (iz := 0) h kX12 fX12_9 at_0M rfl rfl rfM_0 (by omega) dX12_lists_110 ?_
                refine fr_bipush h rfl dX12_lists_113 ?_
                refine fr_iload_n h rfl 1 rfl dX12_lists_115 ?_
                refine fr_iadd h dX12_lists_116 ?_
                refine fr_iconst h dX12_lists_117 ?_
                refine fr_iast h (SA_a SA_1) (by omega) (by omega) ((SA_r SA_1 (24 + p)).trans (sg_len (by omega) (by omega))) (by omega) (by omega) dX12_lists_118 ?_
                refine fr_mem (fun x169 m170 => ?_)
                refine fr_iconst h dX12_lists_119 ?_
                refine fr_istore (L' := [(0, vr G 0), (1, vi p), (2, vi l2_21), (3, vi l3_21), (4, vi 0)]) h dX12_lists_120 (by decide) [1, 2, 3, 4, 0] rfl ?_
                have HL171 : ∀ (n171 : Nat) (l4_171 : Int) (x_171 : Mm), fm_r l4_171 → 0 ≤ l4_171 → l4_171 ≤ 6 → MI (x_171 1) → x_171 1 (24 + p) = l4_171 → (∀ a : Int, (a < 1 ∨ 1 < a) → x_171 a = x169 a) → (6 - l4_171) < n171 → FW YM G C 5 x_171 122 [(0, vr G 0), (1, vi p), (2, vi l2_21), (3, vi l3_21), (4, vi l4_171)] [] := by
                  intro n171
                  induction n171 with
                  | zero =>
                    intro l4_171 x_171 g171_0 g171_1 g171_2 g171_3 g171_4 g171_5 g171_6
                    exfalso; omega
                  | succ n171 ih171 =>
                    intro l4_171 x_171 g171_0 g171_1 g171_2 g171_3 g171_4 g171_5 g171_6
                    refine fr_iload h 4 rfl dX12_lists_122 ?_
                    refine fr_iload_n h rfl 2 rfl dX12_lists_124 ?_
                    refine fr_icmp_ge (tgt := 150) h dX12_lists_125 (by decide) (by omega) (by omega) (fun c172 => ?_) (fun c172 => ?_)
                    ·
                      refine fr_iload_n h rfl 2 rfl dX12_lists_150 ?_
                      have r173 := (congrFun (g171_5 0 (by omega)) 5)
                      have r174 := r173.trans (fm_rd_k (a := 0) (b := 5) m170 (by omega))
                      have r175 := r174.trans (f168 5 (by decide) (by decide))
                      have r176 := r175.trans (f151 5 (by decide))
                      have r177 := r176.trans (g21_9 5 (by decide) (by decide))
                      have r178 := r177.trans (f14 5 (by decide) (by decide) (by decide) (by decide) (by decide) (by decide))
                      have r179 := r178.trans (fm_rd_s m2)
                      have r180 := (congrFun (g171_5 0 (by omega)) 2)
                      have r181 := r180.trans (fm_rd_k (a := 0) (b := 2) m170 (by omega))
                      have r182 := r181.trans (f168 2 (by decide) (by decide))
                      have r183 := r182.trans (f151 2 (by decide))
                      have r184 := r183.trans (g21_9 2 (by decide) (by decide))
                      have r185 := (fm_rd_i (a := 0) (b := 2) m2 (by decide))
                      have r186 := (congrFun (g171_5 0 (by omega)) 21)
                      have r187 := r186.trans (fm_rd_k (a := 0) (b := 21) m170 (by omega))
                      have r188 := (f151 21 (by decide))
                      have r189 := r188.trans (g21_9 21 (by decide) (by decide))
                      have r190 := r189.trans (f14 21 (by decide) (by decide) (by decide) (by decide) (by decide) (by decide))
                      have r191 := r190.trans (fm_rd_i (a := 0) (b := 21) m2 (by decide))
                      have r192 := (congrFun (g171_5 0 (by omega)) 12)
                      have r193 := r192.trans (fm_rd_k (a := 0) (b := 12) m170 (by omega))
                      have r194 := r193.trans (f168 12 (by decide) (by decide))
                      have r195 := r194.trans (f151 12 (by decide))
                      have r196 := r195.trans (g21_9 12 (by decide) (by decide))
                      have r197 := r196.trans (f14 12 (by decide) (by decide) (by decide) (by decide) (by decide) (by decide))
                      have r198 := r197.trans (fm_rd_i (a := 0) (b := 12) m2 (by decide))
                      exact fr_iret h hq (by omega) ⟨(by omega), (by omega), (Or.inr (by omega)), ⟨g171_3, (by rw [show x_171 8 = x161 8 from ((g171_5 8 (by omega)).trans (fm_up_row m170 (by omega)))]; exact p165), (by rw [show x_171 26 = x 26 from ((g171_5 26 (by omega)).trans ((fm_up_row m170 (by omega)).trans ((f167 26 (by omega) (by omega)).trans ((f150 26 (by omega)).trans ((g21_8 26 (by omega) (by omega)).trans ((f13 26 (by omega)).trans (fm_up_row m2 (by omega))))))))]; exact e0.2.2.1), (by have := e0.2.2.2; omega)⟩, (fun a k0 k1 k2 k3 => ((g171_5 a (by omega)).trans ((fm_up_row m170 (by omega)).trans ((f167 a (by omega) (by omega)).trans ((f150 a (by omega)).trans ((g21_8 a (by omega) (by omega)).trans ((f13 a (by omega)).trans (fm_up_row m2 (by omega))))))))), (fun i k0 k1 k2 k3 k4 k5 k6 k7 k8 => ((congrFun (g171_5 0 (by omega)) i).trans ((fm_rd_k (a := 0) (b := i) m170 (by omega)).trans ((f168 i (by omega) (by omega)).trans ((f151 i (by omega)).trans ((g21_9 i (by omega) (by omega)).trans ((f14 i (by omega) (by omega) (by omega) (by omega) (by omega) (by omega)).trans (fm_rd_i (a := 0) (b := i) m2 (by omega)))))))))⟩ dX12_lists_151
                    ·
                      refine fr_aload_n h rfl 0 rfl dX12_lists_128 ?_
                      refine fr_getc (z := 1) (iz := 0) h kX12 fX12_9 at_0M rfl rfl rfM_0 (by omega) dX12_lists_129 ?_
                      refine fr_iload_n h rfl 1 rfl dX12_lists_132 ?_
                      refine fr_aload_n h rfl 0 rfl dX12_lists_133 ?_
                      refine fr_getc (z := 4) (iz := 11) h kX12 fX12_21 at_0M rfl rfl rfM_11 (by omega) dX12_lists_134 ?_
                      refine fr_iload h 4 rfl dX12_lists_137 ?_
                      refine fr_iald h arM_4 (by omega) (by omega) (rrM_4 l4_171) dX12_lists_139 (fun z199 w200 w201 q202 => ?_)
                      have r203 := q202.trans (congrFun (g171_5 4 (by omega)) l4_171)
                      have r204 := r203.trans (fm_rd_k (a := 4) (b := l4_171) m170 (by omega))
                      have r205 := r204.trans (congrFun (f167 4 (by omega) (by omega)) l4_171)
                      have r206 := r205.trans (congrFun (f150 4 (by omega)) l4_171)
                      have r207 := (congrFun (f13 4 (by omega)) l4_171)
                      have r208 := r207.trans (fm_rd_k (a := 4) (b := l4_171) m2 (by omega))
                      have r209 := (fm_rd_s m170)
                      refine fr_csI h wX12_goPut lX12_169 (c_X12_goPut x_171 1 SA_1 p z199 (by omega) (by omega) (by omega) (by omega) (by omega) (by omega) (by omega)) rfl (by decide) (by decide) rfl (Nat.le_of_ble_eq_true rfl) dX12_lists_140 (fun z211 x210 w212 p213 => ?_)
                      obtain ⟨p214, p215, p216, f217⟩ := p213
                      refine fr_pop h rfl dX12_lists_143 ?_
                      refine fr_iinc (j := 4) (L' := [(0, vr G 0), (1, vi p), (2, vi l2_21), (3, vi l3_21), (4, vi (l4_171 + 1))]) h dX12_lists_144 rfl (by decide) [1, 2, 3, 4, 0] rfl ?_
                      refine fr_goto (tgt := 122) h dX12_lists_147 (by decide) ?_
                      have r218 := (fm_rd_s m170)
                      exact ih171 (l4_171 + 1) x210 (by omega) (by omega) (by omega) (MI_cong g171_3 (fun i a b => p216 i (by omega) (by omega))) (by omega) (fun a k0 => ((f217 a (by omega)).trans (g171_5 a (by omega)))) (by omega)
                have r219 := (fm_rd_s m170)
                exact HL171 ((6 - 0) + 1 : Int).toNat 0 x169 (by omega) (by omega) (by omega) (MI_cong (by rw [show x161 1 = x143 1 from (f167 1 (by omega) (by omega))]; exact (by rw [show x143 1 = x_21 1 from (f150 1 (by omega))]; exact (by rw [show x_21 1 = x3 1 from (g21_8 1 (by omega) (by omega))]; exact (by rw [show x3 1 = x1 1 from (f13 1 (by omega))]; exact (by rw [show x1 1 = x 1 from (fm_up_row m2 (by omega))]; exact e0.1))))) (fun i a b => fm_rd_i m170 (by omega))) (by omega) (fun a _ => rfl) (by omega)
              ·
                refine fr_iconst h dX12_lists_99 ?_
                have r220 := (f151 5 (by decide))
                have r221 := r220.trans (g21_9 5 (by decide) (by decide))
                have r222 := r221.trans (f14 5 (by decide) (by decide) (by decide) (by decide) (by decide) (by decide))
                have r223 := r222.trans (fm_rd_s m2)
                have r224 := (f151 2 (by decide))
                have r225 := r224.trans (g21_9 2 (by decide) (by decide))
                have r226 := (fm_rd_i (a := 0) (b := 2) m2 (by decide))
                have r227 := (f151 21 (by decide))
                have r228 := r227.trans (g21_9 21 (by decide) (by decide))
                have r229 := r228.trans (f14 21 (by decide) (by decide) (by decide) (by decide) (by decide) (by decide))
                have r230 := r229.trans (fm_rd_i (a := 0) (b := 21) m2 (by decide))
                have r231 := (f151 12 (by decide))
                have r232 := r231.trans (g21_9 12 (by decide) (by decide))
                have r233 := r232.trans (f14 12 (by decide) (by decide) (by decide) (by decide) (by decide) (by decide))
                have r234 := r233.trans (fm_rd_i (a := 0) (b := 12) m2 (by decide))
                exact fr_iret h hq (by omega) ⟨(by omega), (by omega), (Or.inl ⟨(by omega), ((f150 1 (by omega)).trans ((g21_8 1 (by omega) (by omega)).trans ((f13 1 (by omega)).trans (fm_up_row m2 (by omega)))))⟩), ⟨(by rw [show x143 1 = x_21 1 from (f150 1 (by omega))]; exact (by rw [show x_21 1 = x3 1 from (g21_8 1 (by omega) (by omega))]; exact (by rw [show x3 1 = x1 1 from (f13 1 (by omega))]; exact (by rw [show x1 1 = x 1 from (fm_up_row m2 (by omega))]; exact e0.1)))), (by rw [show x143 8 = x 8 from ((f150 8 (by omega)).trans ((g21_8 8 (by omega) (by omega)).trans ((f13 8 (by omega)).trans (fm_up_row m2 (by omega)))))]; exact e0.2.1), (by rw [show x143 26 = x 26 from ((f150 26 (by omega)).trans ((g21_8 26 (by omega) (by omega)).trans ((f13 26 (by omega)).trans (fm_up_row m2 (by omega)))))]; exact e0.2.2.1), (by have := e0.2.2.2; omega)⟩, (fun a k0 k1 k2 k3 => ((f150 a (by omega)).trans ((g21_8 a (by omega) (by omega)).trans ((f13 a (by omega)).trans (fm_up_row m2 (by omega)))))), (fun i k0 k1 k2 k3 k4 k5 k6 k7 k8 => ((f151 i (by omega)).trans ((g21_9 i (by omega) (by omega)).trans ((f14 i (by omega) (by omega) (by omega) (by omega) (by omega) (by omega)).trans (fm_rd_i (a := 0) (b := i) m2 (by omega))))))⟩ dX12_lists_100
            ·
              refine fr_iconst h dX12_lists_85 ?_
              refine fr_aload_n h rfl 0 rfl dX12_lists_86 ?_
              refine fr_geti (iz := 10) h kX12 fX12_124 at_0M rfl rfl (by decide) (by decide) rfM_10 dX12_lists_87 (fun z235 w236 w237 q238 => ?_)
              have r239 := (fm_rd_i (a := 0) (b := 10) m2 (by decide))
              refine fr_isub h dX12_lists_90 ?_
              have r240 := (f151 5 (by decide))
              have r241 := r240.trans (g21_9 5 (by decide) (by decide))
              have r242 := r241.trans (f14 5 (by decide) (by decide) (by decide) (by decide) (by decide) (by decide))
              have r243 := r242.trans (fm_rd_s m2)
              have r244 := (f151 2 (by decide))
              have r245 := r244.trans (g21_9 2 (by decide) (by decide))
              have r246 := (fm_rd_i (a := 0) (b := 2) m2 (by decide))
              have r247 := (f151 21 (by decide))
              have r248 := r247.trans (g21_9 21 (by decide) (by decide))
              have r249 := r248.trans (f14 21 (by decide) (by decide) (by decide) (by decide) (by decide) (by decide))
              have r250 := r249.trans (fm_rd_i (a := 0) (b := 21) m2 (by decide))
              have r251 := (f151 12 (by decide))
              have r252 := r251.trans (g21_9 12 (by decide) (by decide))
              have r253 := r252.trans (f14 12 (by decide) (by decide) (by decide) (by decide) (by decide) (by decide))
              have r254 := r253.trans (fm_rd_i (a := 0) (b := 12) m2 (by decide))
              exact fr_iret h hq (by omega) ⟨(by omega), (by omega), (Or.inl ⟨(by omega), ((f150 1 (by omega)).trans ((g21_8 1 (by omega) (by omega)).trans ((f13 1 (by omega)).trans (fm_up_row m2 (by omega)))))⟩), ⟨(by rw [show x143 1 = x_21 1 from (f150 1 (by omega))]; exact (by rw [show x_21 1 = x3 1 from (g21_8 1 (by omega) (by omega))]; exact (by rw [show x3 1 = x1 1 from (f13 1 (by omega))]; exact (by rw [show x1 1 = x 1 from (fm_up_row m2 (by omega))]; exact e0.1)))), (by rw [show x143 8 = x 8 from ((f150 8 (by omega)).trans ((g21_8 8 (by omega) (by omega)).trans ((f13 8 (by omega)).trans (fm_up_row m2 (by omega)))))]; exact e0.2.1), (by rw [show x143 26 = x 26 from ((f150 26 (by omega)).trans ((g21_8 26 (by omega) (by omega)).trans ((f13 26 (by omega)).trans (fm_up_row m2 (by omega)))))]; exact e0.2.2.1), (by have := e0.2.2.2; omega)⟩, (fun a k0 k1 k2 k3 => ((f150 a (by omega)).trans ((g21_8 a (by omega) (by omega)).trans ((f13 a (by omega)).trans (fm_up_row m2 (by omega)))))), (fun i k0 k1 k2 k3 k4 k5 k6 k7 k8 => ((f151 i (by omega)).trans ((g21_9 i (by omega) (by omega)).trans ((f14 i (by omega) (by omega) (by omega) (by omega) (by omega) (by omega)).trans (fm_rd_i (a := 0) (b := i) m2 (by omega))))))⟩ dX12_lists_91
          ·
            refine fr_iload_n h rfl 2 rfl dX12_lists_37 ?_
            refine fr_bipush h rfl dX12_lists_38 ?_
            refine fr_icmp_ne (tgt := 54) h dX12_lists_40 (by decide) (by omega) (by omega) (fun c255 => ?_) (fun c255 => ?_)
            ·
              refine fr_aload_n h rfl 0 rfl dX12_lists_54 ?_
              refine fr_getc (z := 4) (iz := 11) h kX12 fX12_21 at_0M rfl rfl rfM_11 (by omega) dX12_lists_55 ?_
              refine fr_iload_n h rfl 2 rfl dX12_lists_58 ?_
              refine fr_aload_n h rfl 0 rfl dX12_lists_59 ?_
              refine fr_iconst h dX12_lists_60 ?_
              have r256 := (g21_9 6 (by decide) (by decide))
              have r257 := (fm_rd_i (a := 0) (b := 6) m2 (by decide))
              have r258 := (g21_9 8 (by decide) (by decide))
              have r259 := (fm_rd_i (a := 0) (b := 8) m2 (by decide))
              have r260 := (g21_9 6 (by decide) (by decide))
              have r261 := (fm_rd_i (a := 0) (b := 6) m2 (by decide))
              have r262 := (g21_9 8 (by decide) (by decide))
              have r263 := (fm_rd_i (a := 0) (b := 8) m2 (by decide))
              have r264 := (g21_9 6 (by decide) (by decide))
              have r265 := (fm_rd_i (a := 0) (b := 6) m2 (by decide))
              have r266 := (g21_9 8 (by decide) (by decide))
              have r267 := (fm_rd_i (a := 0) (b := 8) m2 (by decide))
              have r268 := (fm_rd_i (a := 0) (b := 9) m2 (by decide))
              have r269 := (g21_9 8 (by decide) (by decide))
              have r270 := (fm_rd_i (a := 0) (b := 8) m2 (by decide))
              refine fr_cvI h kX12 at_0M wX12_number lX12_154 (c_X12_number x_21 2 (by omega) (by omega) (by omega) (by omega)) rfl (by decide) (by decide) rfl (Nat.le_of_ble_eq_true rfl) dX12_lists_61 (fun z272 x271 w273 p274 => ?_)
              obtain ⟨p275, p276, p277, p278, p279, f280, f281⟩ := p274
              refine fr_iast h arM_4 (by omega) (by omega) (rrM_4 l2_21) (by omega) (by omega) dX12_lists_64 ?_
              refine fr_mem (fun x282 m283 => ?_)
              refine fr_iinc (j := 2) (L' := [(0, vr G 0), (1, vi p), (2, vi (l2_21 + 1)), (3, vi l3_21)]) h dX12_lists_65 rfl (by decide) [1, 2, 0, 3] rfl ?_
              refine fr_aload_n h rfl 0 rfl dX12_lists_68 ?_
              refine fr_bipush h rfl dX12_lists_69 ?_
              have r284 := (fm_rd_k (a := 0) (b := 6) m283 (by omega))
              have r285 := r284.trans (f281 6 (by decide) (by decide))
              have r286 := r285.trans (g21_9 6 (by decide) (by decide))
              have r287 := (fm_rd_i (a := 0) (b := 6) m2 (by decide))
              have r288 := (fm_rd_k (a := 0) (b := 8) m283 (by omega))
              have r289 := r288.trans (f281 8 (by decide) (by decide))
              have r290 := r289.trans (g21_9 8 (by decide) (by decide))
              have r291 := (fm_rd_i (a := 0) (b := 8) m2 (by decide))
              have r292 := (fm_rd_k (a := 0) (b := 6) m283 (by omega))
              have r293 := r292.trans (f281 6 (by decide) (by decide))
              have r294 := r293.trans (g21_9 6 (by decide) (by decide))
              have r295 := (fm_rd_i (a := 0) (b := 6) m2 (by decide))
              have r296 := (fm_rd_k (a := 0) (b := 8) m283 (by omega))
              have r297 := r296.trans (f281 8 (by decide) (by decide))
              have r298 := r297.trans (g21_9 8 (by decide) (by decide))
              have r299 := (fm_rd_i (a := 0) (b := 8) m2 (by decide))
              have r300 := (fm_rd_k (a := 0) (b := 6) m283 (by omega))
              have r301 := r300.trans (f281 6 (by decide) (by decide))
              have r302 := r301.trans (g21_9 6 (by decide) (by decide))
              have r303 := (fm_rd_i (a := 0) (b := 6) m2 (by decide))
              have r304 := (fm_rd_k (a := 0) (b := 8) m283 (by omega))
              have r305 := r304.trans (f281 8 (by decide) (by decide))
              have r306 := r305.trans (g21_9 8 (by decide) (by decide))
              have r307 := (fm_rd_i (a := 0) (b := 8) m2 (by decide))
              have r308 := (fm_rd_k (a := 0) (b := 9) m283 (by omega))
              have r309 := (fm_rd_i (a := 0) (b := 9) m2 (by decide))
              have r310 := (fm_rd_k (a := 0) (b := 8) m283 (by omega))
              have r311 := r310.trans (f281 8 (by decide) (by decide))
              have r312 := r311.trans (g21_9 8 (by decide) (by decide))
              have r313 := (fm_rd_i (a := 0) (b := 8) m2 (by decide))
              refine fr_cvI h kX12 at_0M wX12_passes lX12_139 (c_X12_passes x282 44 (by omega) (by omega) (by omega) (by omega)) rfl (by decide) (by decide) rfl (Nat.le_of_ble_eq_true rfl) dX12_lists_71 (fun z315 x314 w316 p317 => ?_)
              obtain ⟨p318, p319, p320, f321, f322⟩ := p317
              refine fr_istore_n (L' := [(0, vr G 0), (1, vi p), (2, vi (l2_21 + 1)), (3, vi z315)]) h rfl dX12_lists_74 (by decide) [1, 2, 3, 0] rfl ?_
              refine fr_goto (tgt := 26) h dX12_lists_75 (by decide) ?_
              have r323 := (f322 10 (by decide))
              have r324 := r323.trans (fm_rd_k (a := 0) (b := 10) m283 (by omega))
              have r325 := (fm_rd_i (a := 0) (b := 10) m2 (by decide))
              have r326 := (fm_rd_k (a := 0) (b := 9) m283 (by omega))
              have r327 := (fm_rd_i (a := 0) (b := 9) m2 (by decide))
              have r328 := (f322 8 (by decide))
              have r329 := r328.trans (fm_rd_k (a := 0) (b := 8) m283 (by omega))
              have r330 := r329.trans (f281 8 (by decide) (by decide))
              have r331 := r330.trans (g21_9 8 (by decide) (by decide))
              have r332 := (fm_rd_i (a := 0) (b := 8) m2 (by decide))
              exact ih21 (l2_21 + 1) z315 x314 (by omega) (by omega) (by omega) (by omega) (by omega) (by omega) (by omega) (by omega) (fun a k0 k1 => ((f321 a (by omega)).trans ((fm_up_row m283 (by omega)).trans ((f280 a (by omega)).trans (g21_8 a (by omega) (by omega)))))) (fun i k0 k1 => ((f322 i (by omega)).trans ((fm_rd_k (a := 0) (b := i) m283 (by omega)).trans ((f281 i (by omega) (by omega)).trans (g21_9 i (by omega) (by omega)))))) (by omega)
            ·
              refine fr_aload_n h rfl 0 rfl dX12_lists_43 ?_
              refine fr_aload_n h rfl 0 rfl dX12_lists_44 ?_
              refine fr_geti (iz := 9) h kX12 fX12_121 at_0M rfl rfl (by decide) (by decide) rfM_9 dX12_lists_45 (fun z333 w334 w335 q336 => ?_)
              have r337 := (fm_rd_i (a := 0) (b := 9) m2 (by decide))
              refine fr_cvV h kX12 at_0M wX12_fault lX12_143 (c_X12_fault x_21 z333 (by omega) (by omega) (by omega)) rfl (by decide) (by decide) rfl (Nat.le_of_ble_eq_true rfl) dX12_lists_48 (fun x338 p341 => ?_)
              obtain ⟨p342, f343, f344⟩ := p341
              refine fr_goto (tgt := 65) h dX12_lists_51 (by decide) ?_
              refine fr_iinc (j := 2) (L' := [(0, vr G 0), (1, vi p), (2, vi (l2_21 + 1)), (3, vi l3_21)]) h dX12_lists_65 rfl (by decide) [1, 2, 0, 3] rfl ?_
              refine fr_aload_n h rfl 0 rfl dX12_lists_68 ?_
              refine fr_bipush h rfl dX12_lists_69 ?_
              have r345 := (f344 6 (by decide))
              have r346 := r345.trans (g21_9 6 (by decide) (by decide))
              have r347 := (fm_rd_i (a := 0) (b := 6) m2 (by decide))
              have r348 := (f344 8 (by decide))
              have r349 := r348.trans (g21_9 8 (by decide) (by decide))
              have r350 := (fm_rd_i (a := 0) (b := 8) m2 (by decide))
              have r351 := (f344 6 (by decide))
              have r352 := r351.trans (g21_9 6 (by decide) (by decide))
              have r353 := (fm_rd_i (a := 0) (b := 6) m2 (by decide))
              have r354 := (f344 8 (by decide))
              have r355 := r354.trans (g21_9 8 (by decide) (by decide))
              have r356 := (fm_rd_i (a := 0) (b := 8) m2 (by decide))
              have r357 := (f344 6 (by decide))
              have r358 := r357.trans (g21_9 6 (by decide) (by decide))
              have r359 := (fm_rd_i (a := 0) (b := 6) m2 (by decide))
              have r360 := (f344 8 (by decide))
              have r361 := r360.trans (g21_9 8 (by decide) (by decide))
              have r362 := (fm_rd_i (a := 0) (b := 8) m2 (by decide))
              have r363 := (f344 9 (by decide))
              have r364 := (fm_rd_i (a := 0) (b := 9) m2 (by decide))
              have r365 := (f344 8 (by decide))
              have r366 := r365.trans (g21_9 8 (by decide) (by decide))
              have r367 := (fm_rd_i (a := 0) (b := 8) m2 (by decide))
              refine fr_cvI h kX12 at_0M wX12_passes lX12_139 (c_X12_passes x338 44 (by omega) (by omega) (by omega) (by omega)) rfl (by decide) (by decide) rfl (Nat.le_of_ble_eq_true rfl) dX12_lists_71 (fun z369 x368 w370 p371 => ?_)
              obtain ⟨p372, p373, p374, f375, f376⟩ := p371
              refine fr_istore_n (L' := [(0, vr G 0), (1, vi p), (2, vi (l2_21 + 1)), (3, vi z369)]) h rfl dX12_lists_74 (by decide) [1, 2, 3, 0] rfl ?_
              refine fr_goto (tgt := 26) h dX12_lists_75 (by decide) ?_
              have r377 := (f376 10 (by decide))
              have r378 := (fm_rd_i (a := 0) (b := 10) m2 (by decide))
              have r379 := (f344 9 (by decide))
              have r380 := (fm_rd_i (a := 0) (b := 9) m2 (by decide))
              have r381 := (f376 8 (by decide))
              have r382 := r381.trans (f344 8 (by decide))
              have r383 := r382.trans (g21_9 8 (by decide) (by decide))
              have r384 := (fm_rd_i (a := 0) (b := 8) m2 (by decide))
              exact ih21 (l2_21 + 1) z369 x368 (by omega) (by omega) (by omega) (by omega) (by omega) (by omega) (by omega) (by omega) (fun a k0 k1 => ((f375 a (by omega)).trans ((f343 a (by omega)).trans (g21_8 a (by omega) (by omega))))) (fun i k0 k1 => ((f376 i (by omega)).trans ((f344 i (by omega)).trans (g21_9 i (by omega) (by omega))))) (by omega)
    have r385 := (fm_rd_i (a := 0) (b := 10) m2 (by decide))
    have r386 := (fm_rd_i (a := 0) (b := 9) m2 (by decide))
    have r387 := (fm_rd_i (a := 0) (b := 8) m2 (by decide))
    exact HL21 ((7 - 0) + 1 : Int).toNat 0 0 x3 (by omega) (by omega) (by omega) (by omega) (by omega) (by omega) (by omega) (by omega) (fun a _ _ => rfl) (fun i _ _ => rfl) (by omega)
  ·
    refine fr_iconst h dX12_lists_20 ?_
    refine fr_goto (tgt := 25) h dX12_lists_21 (by decide) ?_
    refine fr_istore_n (L' := [(0, vr G 0), (1, vi p), (2, vi 0), (3, vi 1)]) h rfl dX12_lists_25 (by decide) [1, 2, 3, 0] rfl ?_
    have HL388 : ∀ (n388 : Nat) (l2_388 l3_388 : Int) (x_388 : Mm), fm_r l2_388 → 0 ≤ l2_388 → l2_388 ≤ 7 → fm_r l3_388 → 0 ≤ l3_388 → l3_388 ≤ 1 → (l2_388 ≤ 6 ∨ x_388 0 10 ≠ (-1)) → x_388 0 9 ≤ x_388 0 8 → (∀ a : Int, (a < 0 ∨ 0 < a) → (a < 4 ∨ 4 < a) → x_388 a = x3 a) → (∀ i : Int, i ≠ 9 → i ≠ 10 → x_388 0 i = x3 0 i) → (7 - l2_388) < n388 → FW YM G C 5 x_388 26 [(0, vr G 0), (1, vi p), (2, vi l2_388), (3, vi l3_388)] [] := by
      intro n388
      induction n388 with
      | zero =>
        intro l2_388 l3_388 x_388 g388_0 g388_1 g388_2 g388_3 g388_4 g388_5 g388_6 g388_7 g388_8 g388_9 g388_10
        exfalso; omega
      | succ n388 ih388 =>
        intro l2_388 l3_388 x_388 g388_0 g388_1 g388_2 g388_3 g388_4 g388_5 g388_6 g388_7 g388_8 g388_9 g388_10
        refine fr_iload_n h rfl 3 rfl dX12_lists_26 ?_
        refine fr_if_eq (tgt := 78) h dX12_lists_27 (by decide) (by omega) (fun c389 => ?_) (fun c389 => ?_)
        ·
          refine fr_aload_n h rfl 0 rfl dX12_lists_78 ?_
          refine fr_cvI h kX12 at_0M wX12_wasRight lX12_158 (c_X12_wasRight x_388) rfl (by decide) (by decide) rfl (Nat.le_of_ble_eq_true rfl) dX12_lists_79 (fun z391 x390 w392 p393 => ?_)
          obtain ⟨p394, p395, p396, f397, f398⟩ := p393
          refine fr_if_ne (tgt := 92) h dX12_lists_82 (by decide) (by omega) (fun c399 => ?_) (fun c399 => ?_)
          ·
            refine fr_iload_n h rfl 1 rfl dX12_lists_92 ?_
            refine fr_csI h wX12_isList lX12_161 (c_X12_isList x390 p (by omega)) rfl (by decide) (by decide) rfl (Nat.le_of_ble_eq_true rfl) dX12_lists_93 (fun z401 x400 w402 p403 => ?_)
            obtain ⟨p404, p405, y406⟩ := p403
            rw [y406]
            clear y406
            refine fr_if_ne (tgt := 101) h dX12_lists_96 (by decide) (by omega) (fun c407 => ?_) (fun c407 => ?_)
            ·
              refine fr_aload_n h rfl 0 rfl dX12_lists_101 ?_
              refine fr_aload_n h rfl 0 rfl dX12_lists_102 ?_
              refine fr_getc (z := 1) (iz := 0) h kX12 fX12_9 at_0M rfl rfl rfM_0 (by omega) dX12_lists_103 ?_
              refine fr_cvV h kX12 at_0M wX12_change lX12_165 (c_X12_change x390 1 SA_1 (by rw [show x390 8 = x 8 from ((f397 8 (by omega)).trans ((g388_8 8 (by omega) (by omega)).trans ((f13 8 (by omega)).trans (fm_up_row m2 (by omega)))))]; exact e0.2.1) (by rw [show x390 1 = x_388 1 from (f397 1 (by omega))]; exact (by rw [show x_388 1 = x3 1 from (g388_8 1 (by omega) (by omega))]; exact (by rw [show x3 1 = x1 1 from (f13 1 (by omega))]; exact (by rw [show x1 1 = x 1 from (fm_up_row m2 (by omega))]; exact e0.1))))) rfl (by decide) (by decide) rfl (Nat.le_of_ble_eq_true rfl) dX12_lists_106 (fun x408 p411 => ?_)
              obtain ⟨p412, p413, f414, f415⟩ := p411
              refine fr_aload_n h rfl 0 rfl dX12_lists_109 ?_
              refine fr_getc (z := 1) (iz := 0) h kX12 fX12_9 at_0M rfl rfl rfM_0 (by omega) dX12_lists_110 ?_
              refine fr_bipush h rfl dX12_lists_113 ?_
              refine fr_iload_n h rfl 1 rfl dX12_lists_115 ?_
              refine fr_iadd h dX12_lists_116 ?_
              refine fr_iconst h dX12_lists_117 ?_
              refine fr_iast h (SA_a SA_1) (by omega) (by omega) ((SA_r SA_1 (24 + p)).trans (sg_len (by omega) (by omega))) (by omega) (by omega) dX12_lists_118 ?_
              refine fr_mem (fun x416 m417 => ?_)
              refine fr_iconst h dX12_lists_119 ?_
              refine fr_istore (L' := [(0, vr G 0), (1, vi p), (2, vi l2_388), (3, vi l3_388), (4, vi 0)]) h dX12_lists_120 (by decide) [1, 2, 3, 4, 0] rfl ?_
              have HL418 : ∀ (n418 : Nat) (l4_418 : Int) (x_418 : Mm), fm_r l4_418 → 0 ≤ l4_418 → l4_418 ≤ 6 → MI (x_418 1) → x_418 1 (24 + p) = l4_418 → (∀ a : Int, (a < 1 ∨ 1 < a) → x_418 a = x416 a) → (6 - l4_418) < n418 → FW YM G C 5 x_418 122 [(0, vr G 0), (1, vi p), (2, vi l2_388), (3, vi l3_388), (4, vi l4_418)] [] := by
                intro n418
                induction n418 with
                | zero =>
                  intro l4_418 x_418 g418_0 g418_1 g418_2 g418_3 g418_4 g418_5 g418_6
                  exfalso; omega
                | succ n418 ih418 =>
                  intro l4_418 x_418 g418_0 g418_1 g418_2 g418_3 g418_4 g418_5 g418_6
                  refine fr_iload h 4 rfl dX12_lists_122 ?_
                  refine fr_iload_n h rfl 2 rfl dX12_lists_124 ?_
                  refine fr_icmp_ge (tgt := 150) h dX12_lists_125 (by decide) (by omega) (by omega) (fun c419 => ?_) (fun c419 => ?_)
                  ·
                    refine fr_iload_n h rfl 2 rfl dX12_lists_150 ?_
                    have r420 := (congrFun (g418_5 0 (by omega)) 5)
                    have r421 := r420.trans (fm_rd_k (a := 0) (b := 5) m417 (by omega))
                    have r422 := r421.trans (f415 5 (by decide) (by decide))
                    have r423 := r422.trans (f398 5 (by decide))
                    have r424 := r423.trans (g388_9 5 (by decide) (by decide))
                    have r425 := r424.trans (f14 5 (by decide) (by decide) (by decide) (by decide) (by decide) (by decide))
                    have r426 := r425.trans (fm_rd_s m2)
                    have r427 := (congrFun (g418_5 0 (by omega)) 2)
                    have r428 := r427.trans (fm_rd_k (a := 0) (b := 2) m417 (by omega))
                    have r429 := r428.trans (f415 2 (by decide) (by decide))
                    have r430 := r429.trans (f398 2 (by decide))
                    have r431 := r430.trans (g388_9 2 (by decide) (by decide))
                    have r432 := (fm_rd_i (a := 0) (b := 2) m2 (by decide))
                    have r433 := (congrFun (g418_5 0 (by omega)) 21)
                    have r434 := r433.trans (fm_rd_k (a := 0) (b := 21) m417 (by omega))
                    have r435 := (f398 21 (by decide))
                    have r436 := r435.trans (g388_9 21 (by decide) (by decide))
                    have r437 := r436.trans (f14 21 (by decide) (by decide) (by decide) (by decide) (by decide) (by decide))
                    have r438 := r437.trans (fm_rd_i (a := 0) (b := 21) m2 (by decide))
                    have r439 := (congrFun (g418_5 0 (by omega)) 12)
                    have r440 := r439.trans (fm_rd_k (a := 0) (b := 12) m417 (by omega))
                    have r441 := r440.trans (f415 12 (by decide) (by decide))
                    have r442 := r441.trans (f398 12 (by decide))
                    have r443 := r442.trans (g388_9 12 (by decide) (by decide))
                    have r444 := r443.trans (f14 12 (by decide) (by decide) (by decide) (by decide) (by decide) (by decide))
                    have r445 := r444.trans (fm_rd_i (a := 0) (b := 12) m2 (by decide))
                    exact fr_iret h hq (by omega) ⟨(by omega), (by omega), (Or.inr (by omega)), ⟨g418_3, (by rw [show x_418 8 = x408 8 from ((g418_5 8 (by omega)).trans (fm_up_row m417 (by omega)))]; exact p412), (by rw [show x_418 26 = x 26 from ((g418_5 26 (by omega)).trans ((fm_up_row m417 (by omega)).trans ((f414 26 (by omega) (by omega)).trans ((f397 26 (by omega)).trans ((g388_8 26 (by omega) (by omega)).trans ((f13 26 (by omega)).trans (fm_up_row m2 (by omega))))))))]; exact e0.2.2.1), (by have := e0.2.2.2; omega)⟩, (fun a k0 k1 k2 k3 => ((g418_5 a (by omega)).trans ((fm_up_row m417 (by omega)).trans ((f414 a (by omega) (by omega)).trans ((f397 a (by omega)).trans ((g388_8 a (by omega) (by omega)).trans ((f13 a (by omega)).trans (fm_up_row m2 (by omega))))))))), (fun i k0 k1 k2 k3 k4 k5 k6 k7 k8 => ((congrFun (g418_5 0 (by omega)) i).trans ((fm_rd_k (a := 0) (b := i) m417 (by omega)).trans ((f415 i (by omega) (by omega)).trans ((f398 i (by omega)).trans ((g388_9 i (by omega) (by omega)).trans ((f14 i (by omega) (by omega) (by omega) (by omega) (by omega) (by omega)).trans (fm_rd_i (a := 0) (b := i) m2 (by omega)))))))))⟩ dX12_lists_151
                  ·
                    refine fr_aload_n h rfl 0 rfl dX12_lists_128 ?_
                    refine fr_getc (z := 1) (iz := 0) h kX12 fX12_9 at_0M rfl rfl rfM_0 (by omega) dX12_lists_129 ?_
                    refine fr_iload_n h rfl 1 rfl dX12_lists_132 ?_
                    refine fr_aload_n h rfl 0 rfl dX12_lists_133 ?_
                    refine fr_getc (z := 4) (iz := 11) h kX12 fX12_21 at_0M rfl rfl rfM_11 (by omega) dX12_lists_134 ?_
                    refine fr_iload h 4 rfl dX12_lists_137 ?_
                    refine fr_iald h arM_4 (by omega) (by omega) (rrM_4 l4_418) dX12_lists_139 (fun z446 w447 w448 q449 => ?_)
                    have r450 := q449.trans (congrFun (g418_5 4 (by omega)) l4_418)
                    have r451 := r450.trans (fm_rd_k (a := 4) (b := l4_418) m417 (by omega))
                    have r452 := r451.trans (congrFun (f414 4 (by omega) (by omega)) l4_418)
                    have r453 := r452.trans (congrFun (f397 4 (by omega)) l4_418)
                    have r454 := (congrFun (f13 4 (by omega)) l4_418)
                    have r455 := r454.trans (fm_rd_k (a := 4) (b := l4_418) m2 (by omega))
                    have r456 := (fm_rd_s m417)
                    refine fr_csI h wX12_goPut lX12_169 (c_X12_goPut x_418 1 SA_1 p z446 (by omega) (by omega) (by omega) (by omega) (by omega) (by omega) (by omega)) rfl (by decide) (by decide) rfl (Nat.le_of_ble_eq_true rfl) dX12_lists_140 (fun z458 x457 w459 p460 => ?_)
                    obtain ⟨p461, p462, p463, f464⟩ := p460
                    refine fr_pop h rfl dX12_lists_143 ?_
                    refine fr_iinc (j := 4) (L' := [(0, vr G 0), (1, vi p), (2, vi l2_388), (3, vi l3_388), (4, vi (l4_418 + 1))]) h dX12_lists_144 rfl (by decide) [1, 2, 3, 4, 0] rfl ?_
                    refine fr_goto (tgt := 122) h dX12_lists_147 (by decide) ?_
                    have r465 := (fm_rd_s m417)
                    exact ih418 (l4_418 + 1) x457 (by omega) (by omega) (by omega) (MI_cong g418_3 (fun i a b => p463 i (by omega) (by omega))) (by omega) (fun a k0 => ((f464 a (by omega)).trans (g418_5 a (by omega)))) (by omega)
              have r466 := (fm_rd_s m417)
              exact HL418 ((6 - 0) + 1 : Int).toNat 0 x416 (by omega) (by omega) (by omega) (MI_cong (by rw [show x408 1 = x390 1 from (f414 1 (by omega) (by omega))]; exact (by rw [show x390 1 = x_388 1 from (f397 1 (by omega))]; exact (by rw [show x_388 1 = x3 1 from (g388_8 1 (by omega) (by omega))]; exact (by rw [show x3 1 = x1 1 from (f13 1 (by omega))]; exact (by rw [show x1 1 = x 1 from (fm_up_row m2 (by omega))]; exact e0.1))))) (fun i a b => fm_rd_i m417 (by omega))) (by omega) (fun a _ => rfl) (by omega)
            ·
              refine fr_iconst h dX12_lists_99 ?_
              have r467 := (f398 5 (by decide))
              have r468 := r467.trans (g388_9 5 (by decide) (by decide))
              have r469 := r468.trans (f14 5 (by decide) (by decide) (by decide) (by decide) (by decide) (by decide))
              have r470 := r469.trans (fm_rd_s m2)
              have r471 := (f398 2 (by decide))
              have r472 := r471.trans (g388_9 2 (by decide) (by decide))
              have r473 := (fm_rd_i (a := 0) (b := 2) m2 (by decide))
              have r474 := (f398 21 (by decide))
              have r475 := r474.trans (g388_9 21 (by decide) (by decide))
              have r476 := r475.trans (f14 21 (by decide) (by decide) (by decide) (by decide) (by decide) (by decide))
              have r477 := r476.trans (fm_rd_i (a := 0) (b := 21) m2 (by decide))
              have r478 := (f398 12 (by decide))
              have r479 := r478.trans (g388_9 12 (by decide) (by decide))
              have r480 := r479.trans (f14 12 (by decide) (by decide) (by decide) (by decide) (by decide) (by decide))
              have r481 := r480.trans (fm_rd_i (a := 0) (b := 12) m2 (by decide))
              exact fr_iret h hq (by omega) ⟨(by omega), (by omega), (Or.inl ⟨(by omega), ((f397 1 (by omega)).trans ((g388_8 1 (by omega) (by omega)).trans ((f13 1 (by omega)).trans (fm_up_row m2 (by omega)))))⟩), ⟨(by rw [show x390 1 = x_388 1 from (f397 1 (by omega))]; exact (by rw [show x_388 1 = x3 1 from (g388_8 1 (by omega) (by omega))]; exact (by rw [show x3 1 = x1 1 from (f13 1 (by omega))]; exact (by rw [show x1 1 = x 1 from (fm_up_row m2 (by omega))]; exact e0.1)))), (by rw [show x390 8 = x 8 from ((f397 8 (by omega)).trans ((g388_8 8 (by omega) (by omega)).trans ((f13 8 (by omega)).trans (fm_up_row m2 (by omega)))))]; exact e0.2.1), (by rw [show x390 26 = x 26 from ((f397 26 (by omega)).trans ((g388_8 26 (by omega) (by omega)).trans ((f13 26 (by omega)).trans (fm_up_row m2 (by omega)))))]; exact e0.2.2.1), (by have := e0.2.2.2; omega)⟩, (fun a k0 k1 k2 k3 => ((f397 a (by omega)).trans ((g388_8 a (by omega) (by omega)).trans ((f13 a (by omega)).trans (fm_up_row m2 (by omega)))))), (fun i k0 k1 k2 k3 k4 k5 k6 k7 k8 => ((f398 i (by omega)).trans ((g388_9 i (by omega) (by omega)).trans ((f14 i (by omega) (by omega) (by omega) (by omega) (by omega) (by omega)).trans (fm_rd_i (a := 0) (b := i) m2 (by omega))))))⟩ dX12_lists_100
          ·
            refine fr_iconst h dX12_lists_85 ?_
            refine fr_aload_n h rfl 0 rfl dX12_lists_86 ?_
            refine fr_geti (iz := 10) h kX12 fX12_124 at_0M rfl rfl (by decide) (by decide) rfM_10 dX12_lists_87 (fun z482 w483 w484 q485 => ?_)
            have r486 := (fm_rd_i (a := 0) (b := 10) m2 (by decide))
            refine fr_isub h dX12_lists_90 ?_
            have r487 := (f398 5 (by decide))
            have r488 := r487.trans (g388_9 5 (by decide) (by decide))
            have r489 := r488.trans (f14 5 (by decide) (by decide) (by decide) (by decide) (by decide) (by decide))
            have r490 := r489.trans (fm_rd_s m2)
            have r491 := (f398 2 (by decide))
            have r492 := r491.trans (g388_9 2 (by decide) (by decide))
            have r493 := (fm_rd_i (a := 0) (b := 2) m2 (by decide))
            have r494 := (f398 21 (by decide))
            have r495 := r494.trans (g388_9 21 (by decide) (by decide))
            have r496 := r495.trans (f14 21 (by decide) (by decide) (by decide) (by decide) (by decide) (by decide))
            have r497 := r496.trans (fm_rd_i (a := 0) (b := 21) m2 (by decide))
            have r498 := (f398 12 (by decide))
            have r499 := r498.trans (g388_9 12 (by decide) (by decide))
            have r500 := r499.trans (f14 12 (by decide) (by decide) (by decide) (by decide) (by decide) (by decide))
            have r501 := r500.trans (fm_rd_i (a := 0) (b := 12) m2 (by decide))
            exact fr_iret h hq (by omega) ⟨(by omega), (by omega), (Or.inl ⟨(by omega), ((f397 1 (by omega)).trans ((g388_8 1 (by omega) (by omega)).trans ((f13 1 (by omega)).trans (fm_up_row m2 (by omega)))))⟩), ⟨(by rw [show x390 1 = x_388 1 from (f397 1 (by omega))]; exact (by rw [show x_388 1 = x3 1 from (g388_8 1 (by omega) (by omega))]; exact (by rw [show x3 1 = x1 1 from (f13 1 (by omega))]; exact (by rw [show x1 1 = x 1 from (fm_up_row m2 (by omega))]; exact e0.1)))), (by rw [show x390 8 = x 8 from ((f397 8 (by omega)).trans ((g388_8 8 (by omega) (by omega)).trans ((f13 8 (by omega)).trans (fm_up_row m2 (by omega)))))]; exact e0.2.1), (by rw [show x390 26 = x 26 from ((f397 26 (by omega)).trans ((g388_8 26 (by omega) (by omega)).trans ((f13 26 (by omega)).trans (fm_up_row m2 (by omega)))))]; exact e0.2.2.1), (by have := e0.2.2.2; omega)⟩, (fun a k0 k1 k2 k3 => ((f397 a (by omega)).trans ((g388_8 a (by omega) (by omega)).trans ((f13 a (by omega)).trans (fm_up_row m2 (by omega)))))), (fun i k0 k1 k2 k3 k4 k5 k6 k7 k8 => ((f398 i (by omega)).trans ((g388_9 i (by omega) (by omega)).trans ((f14 i (by omega) (by omega) (by omega) (by omega) (by omega) (by omega)).trans (fm_rd_i (a := 0) (b := i) m2 (by omega))))))⟩ dX12_lists_91
        ·
          refine fr_aload_n h rfl 0 rfl dX12_lists_30 ?_
          refine fr_cvI h kX12 at_0M wX12_fine lX12_131 (c_X12_fine x_388) rfl (by decide) (by decide) rfl (Nat.le_of_ble_eq_true rfl) dX12_lists_31 (fun z503 x502 w504 p505 => ?_)
          obtain ⟨p506, p507, y508⟩ := p505
          rw [y508]
          clear y508
          refine fr_if_eq (tgt := 78) h dX12_lists_34 (by decide) (by omega) (fun c509 => ?_) (fun c509 => ?_)
          ·
            refine fr_aload_n h rfl 0 rfl dX12_lists_78 ?_
            refine fr_cvI h kX12 at_0M wX12_wasRight lX12_158 (c_X12_wasRight x_388) rfl (by decide) (by decide) rfl (Nat.le_of_ble_eq_true rfl) dX12_lists_79 (fun z511 x510 w512 p513 => ?_)
            obtain ⟨p514, p515, p516, f517, f518⟩ := p513
            refine fr_if_ne (tgt := 92) h dX12_lists_82 (by decide) (by omega) (fun c519 => ?_) (fun c519 => ?_)
            ·
              refine fr_iload_n h rfl 1 rfl dX12_lists_92 ?_
              refine fr_csI h wX12_isList lX12_161 (c_X12_isList x510 p (by omega)) rfl (by decide) (by decide) rfl (Nat.le_of_ble_eq_true rfl) dX12_lists_93 (fun z521 x520 w522 p523 => ?_)
              obtain ⟨p524, p525, y526⟩ := p523
              rw [y526]
              clear y526
              refine fr_if_ne (tgt := 101) h dX12_lists_96 (by decide) (by omega) (fun c527 => ?_) (fun c527 => ?_)
              ·
                refine fr_aload_n h rfl 0 rfl dX12_lists_101 ?_
                refine fr_aload_n h rfl 0 rfl dX12_lists_102 ?_
                refine fr_getc (z := 1) (iz := 0) h kX12 fX12_9 at_0M rfl rfl rfM_0 (by omega) dX12_lists_103 ?_
                refine fr_cvV h kX12 at_0M wX12_change lX12_165 (c_X12_change x510 1 SA_1 (by rw [show x510 8 = x 8 from ((f517 8 (by omega)).trans ((g388_8 8 (by omega) (by omega)).trans ((f13 8 (by omega)).trans (fm_up_row m2 (by omega)))))]; exact e0.2.1) (by rw [show x510 1 = x_388 1 from (f517 1 (by omega))]; exact (by rw [show x_388 1 = x3 1 from (g388_8 1 (by omega) (by omega))]; exact (by rw [show x3 1 = x1 1 from (f13 1 (by omega))]; exact (by rw [show x1 1 = x 1 from (fm_up_row m2 (by omega))]; exact e0.1))))) rfl (by decide) (by decide) rfl (Nat.le_of_ble_eq_true rfl) dX12_lists_106 (fun x528 p531 => ?_)
                obtain ⟨p532, p533, f534, f535⟩ := p531
                refine fr_aload_n h rfl 0 rfl dX12_lists_109 ?_
                refine fr_getc (z := 1) (iz := 0) h kX12 fX12_9 at_0M rfl rfl rfM_0 (by omega) dX12_lists_110 ?_
                refine fr_bipush h rfl dX12_lists_113 ?_
                refine fr_iload_n h rfl 1 rfl dX12_lists_115 ?_
                refine fr_iadd h dX12_lists_116 ?_
                refine fr_iconst h dX12_lists_117 ?_
                refine fr_iast h (SA_a SA_1) (by omega) (by omega) ((SA_r SA_1 (24 + p)).trans (sg_len (by omega) (by omega))) (by omega) (by omega) dX12_lists_118 ?_
                refine fr_mem (fun x536 m537 => ?_)
                refine fr_iconst h dX12_lists_119 ?_
                refine fr_istore (L' := [(0, vr G 0), (1, vi p), (2, vi l2_388), (3, vi l3_388), (4, vi 0)]) h dX12_lists_120 (by decide) [1, 2, 3, 4, 0] rfl ?_
                have HL538 : ∀ (n538 : Nat) (l4_538 : Int) (x_538 : Mm), fm_r l4_538 → 0 ≤ l4_538 → l4_538 ≤ 6 → MI (x_538 1) → x_538 1 (24 + p) = l4_538 → (∀ a : Int, (a < 1 ∨ 1 < a) → x_538 a = x536 a) → (6 - l4_538) < n538 → FW YM G C 5 x_538 122 [(0, vr G 0), (1, vi p), (2, vi l2_388), (3, vi l3_388), (4, vi l4_538)] [] := by
                  intro n538
                  induction n538 with
                  | zero =>
                    intro l4_538 x_538 g538_0 g538_1 g538_2 g538_3 g538_4 g538_5 g538_6
                    exfalso; omega
                  | succ n538 ih538 =>
                    intro l4_538 x_538 g538_0 g538_1 g538_2 g538_3 g538_4 g538_5 g538_6
                    refine fr_iload h 4 rfl dX12_lists_122 ?_
                    refine fr_iload_n h rfl 2 rfl dX12_lists_124 ?_
                    refine fr_icmp_ge (tgt := 150) h dX12_lists_125 (by decide) (by omega) (by omega) (fun c539 => ?_) (fun c539 => ?_)
                    ·
                      refine fr_iload_n h rfl 2 rfl dX12_lists_150 ?_
                      have r540 := (congrFun (g538_5 0 (by omega)) 5)
                      have r541 := r540.trans (fm_rd_k (a := 0) (b := 5) m537 (by omega))
                      have r542 := r541.trans (f535 5 (by decide) (by decide))
                      have r543 := r542.trans (f518 5 (by decide))
                      have r544 := r543.trans (g388_9 5 (by decide) (by decide))
                      have r545 := r544.trans (f14 5 (by decide) (by decide) (by decide) (by decide) (by decide) (by decide))
                      have r546 := r545.trans (fm_rd_s m2)
                      have r547 := (congrFun (g538_5 0 (by omega)) 2)
                      have r548 := r547.trans (fm_rd_k (a := 0) (b := 2) m537 (by omega))
                      have r549 := r548.trans (f535 2 (by decide) (by decide))
                      have r550 := r549.trans (f518 2 (by decide))
                      have r551 := r550.trans (g388_9 2 (by decide) (by decide))
                      have r552 := (fm_rd_i (a := 0) (b := 2) m2 (by decide))
                      have r553 := (congrFun (g538_5 0 (by omega)) 21)
                      have r554 := r553.trans (fm_rd_k (a := 0) (b := 21) m537 (by omega))
                      have r555 := (f518 21 (by decide))
                      have r556 := r555.trans (g388_9 21 (by decide) (by decide))
                      have r557 := r556.trans (f14 21 (by decide) (by decide) (by decide) (by decide) (by decide) (by decide))
                      have r558 := r557.trans (fm_rd_i (a := 0) (b := 21) m2 (by decide))
                      have r559 := (congrFun (g538_5 0 (by omega)) 12)
                      have r560 := r559.trans (fm_rd_k (a := 0) (b := 12) m537 (by omega))
                      have r561 := r560.trans (f535 12 (by decide) (by decide))
                      have r562 := r561.trans (f518 12 (by decide))
                      have r563 := r562.trans (g388_9 12 (by decide) (by decide))
                      have r564 := r563.trans (f14 12 (by decide) (by decide) (by decide) (by decide) (by decide) (by decide))
                      have r565 := r564.trans (fm_rd_i (a := 0) (b := 12) m2 (by decide))
                      exact fr_iret h hq (by omega) ⟨(by omega), (by omega), (Or.inr (by omega)), ⟨g538_3, (by rw [show x_538 8 = x528 8 from ((g538_5 8 (by omega)).trans (fm_up_row m537 (by omega)))]; exact p532), (by rw [show x_538 26 = x 26 from ((g538_5 26 (by omega)).trans ((fm_up_row m537 (by omega)).trans ((f534 26 (by omega) (by omega)).trans ((f517 26 (by omega)).trans ((g388_8 26 (by omega) (by omega)).trans ((f13 26 (by omega)).trans (fm_up_row m2 (by omega))))))))]; exact e0.2.2.1), (by have := e0.2.2.2; omega)⟩, (fun a k0 k1 k2 k3 => ((g538_5 a (by omega)).trans ((fm_up_row m537 (by omega)).trans ((f534 a (by omega) (by omega)).trans ((f517 a (by omega)).trans ((g388_8 a (by omega) (by omega)).trans ((f13 a (by omega)).trans (fm_up_row m2 (by omega))))))))), (fun i k0 k1 k2 k3 k4 k5 k6 k7 k8 => ((congrFun (g538_5 0 (by omega)) i).trans ((fm_rd_k (a := 0) (b := i) m537 (by omega)).trans ((f535 i (by omega) (by omega)).trans ((f518 i (by omega)).trans ((g388_9 i (by omega) (by omega)).trans ((f14 i (by omega) (by omega) (by omega) (by omega) (by omega) (by omega)).trans (fm_rd_i (a := 0) (b := i) m2 (by omega)))))))))⟩ dX12_lists_151
                    ·
                      refine fr_aload_n h rfl 0 rfl dX12_lists_128 ?_
                      refine fr_getc (z := 1) (iz := 0) h kX12 fX12_9 at_0M rfl rfl rfM_0 (by omega) dX12_lists_129 ?_
                      refine fr_iload_n h rfl 1 rfl dX12_lists_132 ?_
                      refine fr_aload_n h rfl 0 rfl dX12_lists_133 ?_
                      refine fr_getc (z := 4) (iz := 11) h kX12 fX12_21 at_0M rfl rfl rfM_11 (by omega) dX12_lists_134 ?_
                      refine fr_iload h 4 rfl dX12_lists_137 ?_
                      refine fr_iald h arM_4 (by omega) (by omega) (rrM_4 l4_538) dX12_lists_139 (fun z566 w567 w568 q569 => ?_)
                      have r570 := q569.trans (congrFun (g538_5 4 (by omega)) l4_538)
                      have r571 := r570.trans (fm_rd_k (a := 4) (b := l4_538) m537 (by omega))
                      have r572 := r571.trans (congrFun (f534 4 (by omega) (by omega)) l4_538)
                      have r573 := r572.trans (congrFun (f517 4 (by omega)) l4_538)
                      have r574 := (congrFun (f13 4 (by omega)) l4_538)
                      have r575 := r574.trans (fm_rd_k (a := 4) (b := l4_538) m2 (by omega))
                      have r576 := (fm_rd_s m537)
                      refine fr_csI h wX12_goPut lX12_169 (c_X12_goPut x_538 1 SA_1 p z566 (by omega) (by omega) (by omega) (by omega) (by omega) (by omega) (by omega)) rfl (by decide) (by decide) rfl (Nat.le_of_ble_eq_true rfl) dX12_lists_140 (fun z578 x577 w579 p580 => ?_)
                      obtain ⟨p581, p582, p583, f584⟩ := p580
                      refine fr_pop h rfl dX12_lists_143 ?_
                      refine fr_iinc (j := 4) (L' := [(0, vr G 0), (1, vi p), (2, vi l2_388), (3, vi l3_388), (4, vi (l4_538 + 1))]) h dX12_lists_144 rfl (by decide) [1, 2, 3, 4, 0] rfl ?_
                      refine fr_goto (tgt := 122) h dX12_lists_147 (by decide) ?_
                      have r585 := (fm_rd_s m537)
                      exact ih538 (l4_538 + 1) x577 (by omega) (by omega) (by omega) (MI_cong g538_3 (fun i a b => p583 i (by omega) (by omega))) (by omega) (fun a k0 => ((f584 a (by omega)).trans (g538_5 a (by omega)))) (by omega)
                have r586 := (fm_rd_s m537)
                exact HL538 ((6 - 0) + 1 : Int).toNat 0 x536 (by omega) (by omega) (by omega) (MI_cong (by rw [show x528 1 = x510 1 from (f534 1 (by omega) (by omega))]; exact (by rw [show x510 1 = x_388 1 from (f517 1 (by omega))]; exact (by rw [show x_388 1 = x3 1 from (g388_8 1 (by omega) (by omega))]; exact (by rw [show x3 1 = x1 1 from (f13 1 (by omega))]; exact (by rw [show x1 1 = x 1 from (fm_up_row m2 (by omega))]; exact e0.1))))) (fun i a b => fm_rd_i m537 (by omega))) (by omega) (fun a _ => rfl) (by omega)
              ·
                refine fr_iconst h dX12_lists_99 ?_
                have r587 := (f518 5 (by decide))
                have r588 := r587.trans (g388_9 5 (by decide) (by decide))
                have r589 := r588.trans (f14 5 (by decide) (by decide) (by decide) (by decide) (by decide) (by decide))
                have r590 := r589.trans (fm_rd_s m2)
                have r591 := (f518 2 (by decide))
                have r592 := r591.trans (g388_9 2 (by decide) (by decide))
                have r593 := (fm_rd_i (a := 0) (b := 2) m2 (by decide))
                have r594 := (f518 21 (by decide))
                have r595 := r594.trans (g388_9 21 (by decide) (by decide))
                have r596 := r595.trans (f14 21 (by decide) (by decide) (by decide) (by decide) (by decide) (by decide))
                have r597 := r596.trans (fm_rd_i (a := 0) (b := 21) m2 (by decide))
                have r598 := (f518 12 (by decide))
                have r599 := r598.trans (g388_9 12 (by decide) (by decide))
                have r600 := r599.trans (f14 12 (by decide) (by decide) (by decide) (by decide) (by decide) (by decide))
                have r601 := r600.trans (fm_rd_i (a := 0) (b := 12) m2 (by decide))
                exact fr_iret h hq (by omega) ⟨(by omega), (by omega), (Or.inl ⟨(by omega), ((f517 1 (by omega)).trans ((g388_8 1 (by omega) (by omega)).trans ((f13 1 (by omega)).trans (fm_up_row m2 (by omega)))))⟩), ⟨(by rw [show x510 1 = x_388 1 from (f517 1 (by omega))]; exact (by rw [show x_388 1 = x3 1 from (g388_8 1 (by omega) (by omega))]; exact (by rw [show x3 1 = x1 1 from (f13 1 (by omega))]; exact (by rw [show x1 1 = x 1 from (fm_up_row m2 (by omega))]; exact e0.1)))), (by rw [show x510 8 = x 8 from ((f517 8 (by omega)).trans ((g388_8 8 (by omega) (by omega)).trans ((f13 8 (by omega)).trans (fm_up_row m2 (by omega)))))]; exact e0.2.1), (by rw [show x510 26 = x 26 from ((f517 26 (by omega)).trans ((g388_8 26 (by omega) (by omega)).trans ((f13 26 (by omega)).trans (fm_up_row m2 (by omega)))))]; exact e0.2.2.1), (by have := e0.2.2.2; omega)⟩, (fun a k0 k1 k2 k3 => ((f517 a (by omega)).trans ((g388_8 a (by omega) (by omega)).trans ((f13 a (by omega)).trans (fm_up_row m2 (by omega)))))), (fun i k0 k1 k2 k3 k4 k5 k6 k7 k8 => ((f518 i (by omega)).trans ((g388_9 i (by omega) (by omega)).trans ((f14 i (by omega) (by omega) (by omega) (by omega) (by omega) (by omega)).trans (fm_rd_i (a := 0) (b := i) m2 (by omega))))))⟩ dX12_lists_100
            ·
              refine fr_iconst h dX12_lists_85 ?_
              refine fr_aload_n h rfl 0 rfl dX12_lists_86 ?_
              refine fr_geti (iz := 10) h kX12 fX12_124 at_0M rfl rfl (by decide) (by decide) rfM_10 dX12_lists_87 (fun z602 w603 w604 q605 => ?_)
              have r606 := (fm_rd_i (a := 0) (b := 10) m2 (by decide))
              refine fr_isub h dX12_lists_90 ?_
              have r607 := (f518 5 (by decide))
              have r608 := r607.trans (g388_9 5 (by decide) (by decide))
              have r609 := r608.trans (f14 5 (by decide) (by decide) (by decide) (by decide) (by decide) (by decide))
              have r610 := r609.trans (fm_rd_s m2)
              have r611 := (f518 2 (by decide))
              have r612 := r611.trans (g388_9 2 (by decide) (by decide))
              have r613 := (fm_rd_i (a := 0) (b := 2) m2 (by decide))
              have r614 := (f518 21 (by decide))
              have r615 := r614.trans (g388_9 21 (by decide) (by decide))
              have r616 := r615.trans (f14 21 (by decide) (by decide) (by decide) (by decide) (by decide) (by decide))
              have r617 := r616.trans (fm_rd_i (a := 0) (b := 21) m2 (by decide))
              have r618 := (f518 12 (by decide))
              have r619 := r618.trans (g388_9 12 (by decide) (by decide))
              have r620 := r619.trans (f14 12 (by decide) (by decide) (by decide) (by decide) (by decide) (by decide))
              have r621 := r620.trans (fm_rd_i (a := 0) (b := 12) m2 (by decide))
              exact fr_iret h hq (by omega) ⟨(by omega), (by omega), (Or.inl ⟨(by omega), ((f517 1 (by omega)).trans ((g388_8 1 (by omega) (by omega)).trans ((f13 1 (by omega)).trans (fm_up_row m2 (by omega)))))⟩), ⟨(by rw [show x510 1 = x_388 1 from (f517 1 (by omega))]; exact (by rw [show x_388 1 = x3 1 from (g388_8 1 (by omega) (by omega))]; exact (by rw [show x3 1 = x1 1 from (f13 1 (by omega))]; exact (by rw [show x1 1 = x 1 from (fm_up_row m2 (by omega))]; exact e0.1)))), (by rw [show x510 8 = x 8 from ((f517 8 (by omega)).trans ((g388_8 8 (by omega) (by omega)).trans ((f13 8 (by omega)).trans (fm_up_row m2 (by omega)))))]; exact e0.2.1), (by rw [show x510 26 = x 26 from ((f517 26 (by omega)).trans ((g388_8 26 (by omega) (by omega)).trans ((f13 26 (by omega)).trans (fm_up_row m2 (by omega)))))]; exact e0.2.2.1), (by have := e0.2.2.2; omega)⟩, (fun a k0 k1 k2 k3 => ((f517 a (by omega)).trans ((g388_8 a (by omega) (by omega)).trans ((f13 a (by omega)).trans (fm_up_row m2 (by omega)))))), (fun i k0 k1 k2 k3 k4 k5 k6 k7 k8 => ((f518 i (by omega)).trans ((g388_9 i (by omega) (by omega)).trans ((f14 i (by omega) (by omega) (by omega) (by omega) (by omega) (by omega)).trans (fm_rd_i (a := 0) (b := i) m2 (by omega))))))⟩ dX12_lists_91
          ·
            refine fr_iload_n h rfl 2 rfl dX12_lists_37 ?_
            refine fr_bipush h rfl dX12_lists_38 ?_
            refine fr_icmp_ne (tgt := 54) h dX12_lists_40 (by decide) (by omega) (by omega) (fun c622 => ?_) (fun c622 => ?_)
            ·
              refine fr_aload_n h rfl 0 rfl dX12_lists_54 ?_
              refine fr_getc (z := 4) (iz := 11) h kX12 fX12_21 at_0M rfl rfl rfM_11 (by omega) dX12_lists_55 ?_
              refine fr_iload_n h rfl 2 rfl dX12_lists_58 ?_
              refine fr_aload_n h rfl 0 rfl dX12_lists_59 ?_
              refine fr_iconst h dX12_lists_60 ?_
              have r623 := (g388_9 6 (by decide) (by decide))
              have r624 := (fm_rd_i (a := 0) (b := 6) m2 (by decide))
              have r625 := (g388_9 8 (by decide) (by decide))
              have r626 := (fm_rd_i (a := 0) (b := 8) m2 (by decide))
              have r627 := (g388_9 6 (by decide) (by decide))
              have r628 := (fm_rd_i (a := 0) (b := 6) m2 (by decide))
              have r629 := (g388_9 8 (by decide) (by decide))
              have r630 := (fm_rd_i (a := 0) (b := 8) m2 (by decide))
              have r631 := (g388_9 6 (by decide) (by decide))
              have r632 := (fm_rd_i (a := 0) (b := 6) m2 (by decide))
              have r633 := (g388_9 8 (by decide) (by decide))
              have r634 := (fm_rd_i (a := 0) (b := 8) m2 (by decide))
              have r635 := (fm_rd_i (a := 0) (b := 9) m2 (by decide))
              have r636 := (g388_9 8 (by decide) (by decide))
              have r637 := (fm_rd_i (a := 0) (b := 8) m2 (by decide))
              refine fr_cvI h kX12 at_0M wX12_number lX12_154 (c_X12_number x_388 2 (by omega) (by omega) (by omega) (by omega)) rfl (by decide) (by decide) rfl (Nat.le_of_ble_eq_true rfl) dX12_lists_61 (fun z639 x638 w640 p641 => ?_)
              obtain ⟨p642, p643, p644, p645, p646, f647, f648⟩ := p641
              refine fr_iast h arM_4 (by omega) (by omega) (rrM_4 l2_388) (by omega) (by omega) dX12_lists_64 ?_
              refine fr_mem (fun x649 m650 => ?_)
              refine fr_iinc (j := 2) (L' := [(0, vr G 0), (1, vi p), (2, vi (l2_388 + 1)), (3, vi l3_388)]) h dX12_lists_65 rfl (by decide) [1, 2, 0, 3] rfl ?_
              refine fr_aload_n h rfl 0 rfl dX12_lists_68 ?_
              refine fr_bipush h rfl dX12_lists_69 ?_
              have r651 := (fm_rd_k (a := 0) (b := 6) m650 (by omega))
              have r652 := r651.trans (f648 6 (by decide) (by decide))
              have r653 := r652.trans (g388_9 6 (by decide) (by decide))
              have r654 := (fm_rd_i (a := 0) (b := 6) m2 (by decide))
              have r655 := (fm_rd_k (a := 0) (b := 8) m650 (by omega))
              have r656 := r655.trans (f648 8 (by decide) (by decide))
              have r657 := r656.trans (g388_9 8 (by decide) (by decide))
              have r658 := (fm_rd_i (a := 0) (b := 8) m2 (by decide))
              have r659 := (fm_rd_k (a := 0) (b := 6) m650 (by omega))
              have r660 := r659.trans (f648 6 (by decide) (by decide))
              have r661 := r660.trans (g388_9 6 (by decide) (by decide))
              have r662 := (fm_rd_i (a := 0) (b := 6) m2 (by decide))
              have r663 := (fm_rd_k (a := 0) (b := 8) m650 (by omega))
              have r664 := r663.trans (f648 8 (by decide) (by decide))
              have r665 := r664.trans (g388_9 8 (by decide) (by decide))
              have r666 := (fm_rd_i (a := 0) (b := 8) m2 (by decide))
              have r667 := (fm_rd_k (a := 0) (b := 6) m650 (by omega))
              have r668 := r667.trans (f648 6 (by decide) (by decide))
              have r669 := r668.trans (g388_9 6 (by decide) (by decide))
              have r670 := (fm_rd_i (a := 0) (b := 6) m2 (by decide))
              have r671 := (fm_rd_k (a := 0) (b := 8) m650 (by omega))
              have r672 := r671.trans (f648 8 (by decide) (by decide))
              have r673 := r672.trans (g388_9 8 (by decide) (by decide))
              have r674 := (fm_rd_i (a := 0) (b := 8) m2 (by decide))
              have r675 := (fm_rd_k (a := 0) (b := 9) m650 (by omega))
              have r676 := (fm_rd_i (a := 0) (b := 9) m2 (by decide))
              have r677 := (fm_rd_k (a := 0) (b := 8) m650 (by omega))
              have r678 := r677.trans (f648 8 (by decide) (by decide))
              have r679 := r678.trans (g388_9 8 (by decide) (by decide))
              have r680 := (fm_rd_i (a := 0) (b := 8) m2 (by decide))
              refine fr_cvI h kX12 at_0M wX12_passes lX12_139 (c_X12_passes x649 44 (by omega) (by omega) (by omega) (by omega)) rfl (by decide) (by decide) rfl (Nat.le_of_ble_eq_true rfl) dX12_lists_71 (fun z682 x681 w683 p684 => ?_)
              obtain ⟨p685, p686, p687, f688, f689⟩ := p684
              refine fr_istore_n (L' := [(0, vr G 0), (1, vi p), (2, vi (l2_388 + 1)), (3, vi z682)]) h rfl dX12_lists_74 (by decide) [1, 2, 3, 0] rfl ?_
              refine fr_goto (tgt := 26) h dX12_lists_75 (by decide) ?_
              have r690 := (f689 10 (by decide))
              have r691 := r690.trans (fm_rd_k (a := 0) (b := 10) m650 (by omega))
              have r692 := (fm_rd_i (a := 0) (b := 10) m2 (by decide))
              have r693 := (fm_rd_k (a := 0) (b := 9) m650 (by omega))
              have r694 := (fm_rd_i (a := 0) (b := 9) m2 (by decide))
              have r695 := (f689 8 (by decide))
              have r696 := r695.trans (fm_rd_k (a := 0) (b := 8) m650 (by omega))
              have r697 := r696.trans (f648 8 (by decide) (by decide))
              have r698 := r697.trans (g388_9 8 (by decide) (by decide))
              have r699 := (fm_rd_i (a := 0) (b := 8) m2 (by decide))
              exact ih388 (l2_388 + 1) z682 x681 (by omega) (by omega) (by omega) (by omega) (by omega) (by omega) (by omega) (by omega) (fun a k0 k1 => ((f688 a (by omega)).trans ((fm_up_row m650 (by omega)).trans ((f647 a (by omega)).trans (g388_8 a (by omega) (by omega)))))) (fun i k0 k1 => ((f689 i (by omega)).trans ((fm_rd_k (a := 0) (b := i) m650 (by omega)).trans ((f648 i (by omega) (by omega)).trans (g388_9 i (by omega) (by omega)))))) (by omega)
            ·
              refine fr_aload_n h rfl 0 rfl dX12_lists_43 ?_
              refine fr_aload_n h rfl 0 rfl dX12_lists_44 ?_
              refine fr_geti (iz := 9) h kX12 fX12_121 at_0M rfl rfl (by decide) (by decide) rfM_9 dX12_lists_45 (fun z700 w701 w702 q703 => ?_)
              have r704 := (fm_rd_i (a := 0) (b := 9) m2 (by decide))
              refine fr_cvV h kX12 at_0M wX12_fault lX12_143 (c_X12_fault x_388 z700 (by omega) (by omega) (by omega)) rfl (by decide) (by decide) rfl (Nat.le_of_ble_eq_true rfl) dX12_lists_48 (fun x705 p708 => ?_)
              obtain ⟨p709, f710, f711⟩ := p708
              refine fr_goto (tgt := 65) h dX12_lists_51 (by decide) ?_
              refine fr_iinc (j := 2) (L' := [(0, vr G 0), (1, vi p), (2, vi (l2_388 + 1)), (3, vi l3_388)]) h dX12_lists_65 rfl (by decide) [1, 2, 0, 3] rfl ?_
              refine fr_aload_n h rfl 0 rfl dX12_lists_68 ?_
              refine fr_bipush h rfl dX12_lists_69 ?_
              have r712 := (f711 6 (by decide))
              have r713 := r712.trans (g388_9 6 (by decide) (by decide))
              have r714 := (fm_rd_i (a := 0) (b := 6) m2 (by decide))
              have r715 := (f711 8 (by decide))
              have r716 := r715.trans (g388_9 8 (by decide) (by decide))
              have r717 := (fm_rd_i (a := 0) (b := 8) m2 (by decide))
              have r718 := (f711 6 (by decide))
              have r719 := r718.trans (g388_9 6 (by decide) (by decide))
              have r720 := (fm_rd_i (a := 0) (b := 6) m2 (by decide))
              have r721 := (f711 8 (by decide))
              have r722 := r721.trans (g388_9 8 (by decide) (by decide))
              have r723 := (fm_rd_i (a := 0) (b := 8) m2 (by decide))
              have r724 := (f711 6 (by decide))
              have r725 := r724.trans (g388_9 6 (by decide) (by decide))
              have r726 := (fm_rd_i (a := 0) (b := 6) m2 (by decide))
              have r727 := (f711 8 (by decide))
              have r728 := r727.trans (g388_9 8 (by decide) (by decide))
              have r729 := (fm_rd_i (a := 0) (b := 8) m2 (by decide))
              have r730 := (f711 9 (by decide))
              have r731 := (fm_rd_i (a := 0) (b := 9) m2 (by decide))
              have r732 := (f711 8 (by decide))
              have r733 := r732.trans (g388_9 8 (by decide) (by decide))
              have r734 := (fm_rd_i (a := 0) (b := 8) m2 (by decide))
              refine fr_cvI h kX12 at_0M wX12_passes lX12_139 (c_X12_passes x705 44 (by omega) (by omega) (by omega) (by omega)) rfl (by decide) (by decide) rfl (Nat.le_of_ble_eq_true rfl) dX12_lists_71 (fun z736 x735 w737 p738 => ?_)
              obtain ⟨p739, p740, p741, f742, f743⟩ := p738
              refine fr_istore_n (L' := [(0, vr G 0), (1, vi p), (2, vi (l2_388 + 1)), (3, vi z736)]) h rfl dX12_lists_74 (by decide) [1, 2, 3, 0] rfl ?_
              refine fr_goto (tgt := 26) h dX12_lists_75 (by decide) ?_
              have r744 := (f743 10 (by decide))
              have r745 := (fm_rd_i (a := 0) (b := 10) m2 (by decide))
              have r746 := (f711 9 (by decide))
              have r747 := (fm_rd_i (a := 0) (b := 9) m2 (by decide))
              have r748 := (f743 8 (by decide))
              have r749 := r748.trans (f711 8 (by decide))
              have r750 := r749.trans (g388_9 8 (by decide) (by decide))
              have r751 := (fm_rd_i (a := 0) (b := 8) m2 (by decide))
              exact ih388 (l2_388 + 1) z736 x735 (by omega) (by omega) (by omega) (by omega) (by omega) (by omega) (by omega) (by omega) (fun a k0 k1 => ((f742 a (by omega)).trans ((f710 a (by omega)).trans (g388_8 a (by omega) (by omega))))) (fun i k0 k1 => ((f743 i (by omega)).trans ((f711 i (by omega)).trans (g388_9 i (by omega) (by omega))))) (by omega)
    have r752 := (fm_rd_i (a := 0) (b := 10) m2 (by decide))
    have r753 := (fm_rd_i (a := 0) (b := 9) m2 (by decide))
    have r754 := (fm_rd_i (a := 0) (b := 8) m2 (by decide))
    exact HL388 ((7 - 0) + 1 : Int).toNat 0 1 x3 (by omega) (by omega) (by omega) (by omega) (by omega) (by omega) (by omega) (by omega) (fun a _ _ => rfl) (fun i _ _ => rfl) (by omega)
set_option maxHeartbeats 200000 in
theorem c_X12_number_ (x : Mm) (p : Int) (w : Int) (h_p : fm_r p) (h_w : fm_r w) (e0 : GI x) : CnI YM yX12_number_ cX12_number_ 3 .int 2 42 (fun G => [vr G 0, vi p, vi w]) x (fun z y' => (GI y') ∧ (∀ a : Int, (a < 0 ∨ 0 < a) → y' a = x a) ∧ (∀ i : Int, i ≠ 5 → y' 0 i = x 0 i)) := by
  refine cn_I (by decide) (fun _ => Nat.le_of_ble_eq_true rfl) (fun G C h hq => ?_)
  have h : OK YM G C cX12_number_ RX12 3 (some .int) 2 42 := h
  show FW YM G C 3 x 0 [(0, vr G 0), (1, vi p), (2, vi w)] []
  have e12 := e0.2.2.2
  refine fr_aload_n h rfl 0 rfl dX12_number__0 ?_
  refine fr_iconst h dX12_number__1 ?_
  refine fr_puti (iz := 5) h kX12 fX12_94 at_0M rfl rfl (by decide) (by decide) rfl (by decide +kernel) rfM_5 (by omega) (by omega) dX12_number__2 ?_
  refine fr_mem (fun x1 m2 => ?_)
  refine fr_iload_n h rfl 1 rfl dX12_number__5 ?_
  refine fr_csI h wX12_isList lX12_161 (c_X12_isList x1 p (by omega)) rfl (by decide) (by decide) rfl (Nat.le_of_ble_eq_true rfl) dX12_number__6 (fun z4 x3 w5 p6 => ?_)
  obtain ⟨p7, p8, y9⟩ := p6
  rw [y9]
  clear y9
  refine fr_if_eq (tgt := 45) h dX12_number__9 (by decide) (by omega) (fun c10 => ?_) (fun c10 => ?_)
  ·
    refine fr_aload_n h rfl 0 rfl dX12_number__45 ?_
    refine fr_cvI h kX12 at_0M wX12_lost lX12_213 (c_X12_lost x1) rfl (by decide) (by decide) rfl (Nat.le_of_ble_eq_true rfl) dX12_number__46 (fun z12 x11 w13 p14 => ?_)
    obtain ⟨p15, p16, f17, f18⟩ := p14
    have r19 := (f18 12 (by decide))
    have r20 := r19.trans (fm_rd_i (a := 0) (b := 12) m2 (by decide))
    exact fr_iret h hq (by omega) ⟨⟨(by rw [show x11 1 = x1 1 from (f17 1 (by omega))]; exact (by rw [show x1 1 = x 1 from (fm_up_row m2 (by omega))]; exact e0.1)), (by rw [show x11 8 = x 8 from ((f17 8 (by omega)).trans (fm_up_row m2 (by omega)))]; exact e0.2.1), (by rw [show x11 26 = x 26 from ((f17 26 (by omega)).trans (fm_up_row m2 (by omega)))]; exact e0.2.2.1), (by have := e0.2.2.2; omega)⟩, (fun a k0 => ((f17 a (by omega)).trans (fm_up_row m2 (by omega)))), (fun i k0 => ((f18 i (by omega)).trans (fm_rd_i (a := 0) (b := i) m2 (by omega))))⟩ dX12_number__49
  ·
    refine fr_iload_n h rfl 2 rfl dX12_number__12 ?_
    refine fr_iconst h dX12_number__13 ?_
    refine fr_aload_n h rfl 0 rfl dX12_number__14 ?_
    refine fr_getc (z := 1) (iz := 0) h kX12 fX12_9 at_0M rfl rfl rfM_0 (by omega) dX12_number__15 ?_
    refine fr_bipush h rfl dX12_number__18 ?_
    refine fr_iload_n h rfl 1 rfl dX12_number__20 ?_
    refine fr_iadd h dX12_number__21 ?_
    refine fr_iald h (SA_a SA_1) (by omega) (by omega) ((SA_r SA_1 (24 + p)).trans (sg_len (by omega) (by omega))) dX12_number__22 (fun z21 w22 w23 q24 => ?_)
    have r25 := q24.trans (fm_rd_k (a := 1) (b := (24 + p)) m2 (by omega))
    refine fr_iconst h dX12_number__23 ?_
    refine fr_isub h dX12_number__24 ?_
    refine fr_csI h wX12_in lX12_101 (c_X12_in x1 w 0 (z21 - 1) (by omega) (by omega) (by omega)) rfl (by decide) (by decide) rfl (Nat.le_of_ble_eq_true rfl) dX12_number__25 (fun z27 x26 w28 p29 => ?_)
    obtain ⟨p30, p31, y32⟩ := p29
    rw [y32]
    clear y32
    refine fr_if_eq (tgt := 45) h dX12_number__28 (by decide) (by omega) (fun c33 => ?_) (fun c33 => ?_)
    ·
      refine fr_aload_n h rfl 0 rfl dX12_number__45 ?_
      refine fr_cvI h kX12 at_0M wX12_lost lX12_213 (c_X12_lost x1) rfl (by decide) (by decide) rfl (Nat.le_of_ble_eq_true rfl) dX12_number__46 (fun z35 x34 w36 p37 => ?_)
      obtain ⟨p38, p39, f40, f41⟩ := p37
      have r42 := (f41 12 (by decide))
      have r43 := r42.trans (fm_rd_i (a := 0) (b := 12) m2 (by decide))
      exact fr_iret h hq (by omega) ⟨⟨(by rw [show x34 1 = x1 1 from (f40 1 (by omega))]; exact (by rw [show x1 1 = x 1 from (fm_up_row m2 (by omega))]; exact e0.1)), (by rw [show x34 8 = x 8 from ((f40 8 (by omega)).trans (fm_up_row m2 (by omega)))]; exact e0.2.1), (by rw [show x34 26 = x 26 from ((f40 26 (by omega)).trans (fm_up_row m2 (by omega)))]; exact e0.2.2.1), (by have := e0.2.2.2; omega)⟩, (fun a k0 => ((f40 a (by omega)).trans (fm_up_row m2 (by omega)))), (fun i k0 => ((f41 i (by omega)).trans (fm_rd_i (a := 0) (b := i) m2 (by omega))))⟩ dX12_number__49
    ·
      refine fr_aload_n h rfl 0 rfl dX12_number__31 ?_
      refine fr_getc (z := 1) (iz := 0) h kX12 fX12_9 at_0M rfl rfl rfM_0 (by omega) dX12_number__32 ?_
      refine fr_bipush h rfl dX12_number__35 ?_
      refine fr_iload_n h rfl 1 rfl dX12_number__37 ?_
      refine fr_imul h dX12_number__38 ?_
      refine fr_iload_n h rfl 2 rfl dX12_number__39 ?_
      refine fr_iadd h dX12_number__40 ?_
      refine fr_iald h (SA_a SA_1) (by omega) (by omega) ((SA_r SA_1 ((6 * p) + w)).trans (sg_num (by omega) (by omega))) dX12_number__41 (fun z44 w45 w46 q47 => ?_)
      have r48 := q47.trans (fm_rd_k (a := 1) (b := ((6 * p) + w)) m2 (by omega))
      refine fr_goto (tgt := 49) h dX12_number__42 (by decide) ?_
      have r49 := (fm_rd_i (a := 0) (b := 12) m2 (by decide))
      exact fr_iret h hq (by omega) ⟨⟨(by rw [show x1 1 = x 1 from (fm_up_row m2 (by omega))]; exact e0.1), (by rw [show x1 8 = x 8 from (fm_up_row m2 (by omega))]; exact e0.2.1), (by rw [show x1 26 = x 26 from (fm_up_row m2 (by omega))]; exact e0.2.2.1), (by have := e0.2.2.2; omega)⟩, (fun a k0 => (fm_up_row m2 (by omega))), (fun i k0 => (fm_rd_i (a := 0) (b := i) m2 (by omega)))⟩ dX12_number__49
set_option maxHeartbeats 200000 in
theorem c_X12_edge (x : Mm) (k : Int) (w : Int) (h_k : fm_r k) (h_w : fm_r w) (e0 : GI x) : CnI YM yX12_edge cX12_edge 4 .int 2 46 (fun G => [vr G 0, vi k, vi w]) x (fun z y' => (GI y') ∧ (∀ a : Int, (a < 0 ∨ 0 < a) → y' a = x a) ∧ (∀ i : Int, i ≠ 5 → y' 0 i = x 0 i)) := by
  refine cn_I (by decide) (fun _ => Nat.le_of_ble_eq_true rfl) (fun G C h hq => ?_)
  have h : OK YM G C cX12_edge RX12 4 (some .int) 2 46 := h
  show FW YM G C 4 x 0 [(0, vr G 0), (1, vi k), (2, vi w)] []
  have e12 := e0.2.2.2
  refine fr_aload_n h rfl 0 rfl dX12_edge_0 ?_
  refine fr_iconst h dX12_edge_1 ?_
  refine fr_puti (iz := 5) h kX12 fX12_94 at_0M rfl rfl (by decide) (by decide) rfl (by decide +kernel) rfM_5 (by omega) (by omega) dX12_edge_2 ?_
  refine fr_mem (fun x1 m2 => ?_)
  refine fr_iload_n h rfl 1 rfl dX12_edge_5 ?_
  refine fr_iconst h dX12_edge_6 ?_
  refine fr_aload_n h rfl 0 rfl dX12_edge_7 ?_
  refine fr_getc (z := 1) (iz := 0) h kX12 fX12_9 at_0M rfl rfl rfM_0 (by omega) dX12_edge_8 ?_
  refine fr_csI h wX12_edgesOf lX12_216 (c_X12_edgesOf x1 1 SA_1) rfl (by decide) (by decide) rfl (Nat.le_of_ble_eq_true rfl) dX12_edge_11 (fun z4 x3 w5 p6 => ?_)
  obtain ⟨p7, p8, p9, y10⟩ := p6
  rw [y10]
  clear y10
  refine fr_iconst h dX12_edge_14 ?_
  refine fr_isub h dX12_edge_15 ?_
  refine fr_csI h wX12_in lX12_101 (c_X12_in x1 k 0 (z4 - 1) (by omega) (by omega) (by omega)) rfl (by decide) (by decide) rfl (Nat.le_of_ble_eq_true rfl) dX12_edge_16 (fun z12 x11 w13 p14 => ?_)
  obtain ⟨p15, p16, y17⟩ := p14
  rw [y17]
  clear y17
  refine fr_if_eq (tgt := 31) h dX12_edge_19 (by decide) (by omega) (fun c18 => ?_) (fun c18 => ?_)
  ·
    refine fr_aload_n h rfl 0 rfl dX12_edge_31 ?_
    refine fr_cvI h kX12 at_0M wX12_lost lX12_213 (c_X12_lost x1) rfl (by decide) (by decide) rfl (Nat.le_of_ble_eq_true rfl) dX12_edge_32 (fun z20 x19 w21 p22 => ?_)
    obtain ⟨p23, p24, f25, f26⟩ := p22
    have r27 := (f26 12 (by decide))
    have r28 := r27.trans (fm_rd_i (a := 0) (b := 12) m2 (by decide))
    exact fr_iret h hq (by omega) ⟨⟨(by rw [show x19 1 = x1 1 from (f25 1 (by omega))]; exact (by rw [show x1 1 = x 1 from (fm_up_row m2 (by omega))]; exact e0.1)), (by rw [show x19 8 = x 8 from ((f25 8 (by omega)).trans (fm_up_row m2 (by omega)))]; exact e0.2.1), (by rw [show x19 26 = x 26 from ((f25 26 (by omega)).trans (fm_up_row m2 (by omega)))]; exact e0.2.2.1), (by have := e0.2.2.2; omega)⟩, (fun a k0 => ((f25 a (by omega)).trans (fm_up_row m2 (by omega)))), (fun i k0 => ((f26 i (by omega)).trans (fm_rd_i (a := 0) (b := i) m2 (by omega))))⟩ dX12_edge_35
  ·
    refine fr_iload_n h rfl 2 rfl dX12_edge_22 ?_
    refine fr_iconst h dX12_edge_23 ?_
    refine fr_iconst h dX12_edge_24 ?_
    refine fr_csI h wX12_in lX12_101 (c_X12_in x1 w 0 2 (by omega) (by omega) (by omega)) rfl (by decide) (by decide) rfl (Nat.le_of_ble_eq_true rfl) dX12_edge_25 (fun z30 x29 w31 p32 => ?_)
    obtain ⟨p33, p34, y35⟩ := p32
    rw [y35]
    clear y35
    refine fr_if_ne (tgt := 36) h dX12_edge_28 (by decide) (by omega) (fun c36 => ?_) (fun c36 => ?_)
    ·
      refine fr_aload_n h rfl 0 rfl dX12_edge_36 ?_
      refine fr_getc (z := 1) (iz := 0) h kX12 fX12_9 at_0M rfl rfl rfM_0 (by omega) dX12_edge_37 ?_
      refine fr_iload_n h rfl 1 rfl dX12_edge_40 ?_
      refine fr_csI h wX12_edgeAt lX12_220 (c_X12_edgeAt x1 1 SA_1 k (by omega) (by omega)) rfl (by decide) (by decide) rfl (Nat.le_of_ble_eq_true rfl) dX12_edge_41 (fun z38 x37 w39 p40 => ?_)
      obtain ⟨p41, p42, p43, p44, y45⟩ := p40
      rw [y45]
      clear y45
      refine fr_istore_n (L' := [(0, vr G 0), (1, vi k), (2, vi w), (3, vi z38)]) h rfl dX12_edge_44 (by decide) [1, 2, 3, 0] rfl ?_
      refine fr_iload_n h rfl 2 rfl dX12_edge_45 ?_
      refine fr_if_ne (tgt := 56) h dX12_edge_46 (by decide) (by omega) (fun c46 => ?_) (fun c46 => ?_)
      ·
        refine fr_iload_n h rfl 2 rfl dX12_edge_56 ?_
        refine fr_iconst h dX12_edge_57 ?_
        refine fr_icmp_ne (tgt := 68) h dX12_edge_58 (by decide) (by omega) (by omega) (fun c47 => ?_) (fun c47 => ?_)
        ·
          refine fr_aload_n h rfl 0 rfl dX12_edge_68 ?_
          refine fr_getc (z := 1) (iz := 0) h kX12 fX12_9 at_0M rfl rfl rfM_0 (by omega) dX12_edge_69 ?_
          refine fr_bipush h rfl dX12_edge_72 ?_
          refine fr_iload_n h rfl 3 rfl dX12_edge_74 ?_
          refine fr_iadd h dX12_edge_75 ?_
          refine fr_iald h (SA_a SA_1) (by omega) (by omega) ((SA_r SA_1 (28 + z38)).trans (sg_wt (by omega) (by omega))) dX12_edge_76 (fun z48 w49 w50 q51 => ?_)
          have r52 := q51.trans (fm_rd_k (a := 1) (b := (28 + z38)) m2 (by omega))
          have r53 := (fm_rd_i (a := 0) (b := 12) m2 (by decide))
          exact fr_iret h hq (by omega) ⟨⟨(by rw [show x1 1 = x 1 from (fm_up_row m2 (by omega))]; exact e0.1), (by rw [show x1 8 = x 8 from (fm_up_row m2 (by omega))]; exact e0.2.1), (by rw [show x1 26 = x 26 from (fm_up_row m2 (by omega))]; exact e0.2.2.1), (by have := e0.2.2.2; omega)⟩, (fun a k0 => (fm_up_row m2 (by omega))), (fun i k0 => (fm_rd_i (a := 0) (b := i) m2 (by omega)))⟩ dX12_edge_77
        ·
          refine fr_iload_n h rfl 3 rfl dX12_edge_61 ?_
          refine fr_bipush h rfl dX12_edge_62 ?_
          refine fr_irem h (by omega) (by omega) (by omega) dX12_edge_64 (fun z54 w55 q56 w57 => ?_)
          have w58 := w57
          refine fr_goto (tgt := 77) h dX12_edge_65 (by decide) ?_
          have r59 := (fm_rd_i (a := 0) (b := 12) m2 (by decide))
          exact fr_iret h hq (by omega) ⟨⟨(by rw [show x1 1 = x 1 from (fm_up_row m2 (by omega))]; exact e0.1), (by rw [show x1 8 = x 8 from (fm_up_row m2 (by omega))]; exact e0.2.1), (by rw [show x1 26 = x 26 from (fm_up_row m2 (by omega))]; exact e0.2.2.1), (by have := e0.2.2.2; omega)⟩, (fun a k0 => (fm_up_row m2 (by omega))), (fun i k0 => (fm_rd_i (a := 0) (b := i) m2 (by omega)))⟩ dX12_edge_77
      ·
        refine fr_iload_n h rfl 3 rfl dX12_edge_49 ?_
        refine fr_bipush h rfl dX12_edge_50 ?_
        refine fr_idiv h (by omega) (by omega) (by omega) dX12_edge_52 (fun z60 w61 q62 w63 => ?_)
        have w64 := w63
        refine fr_goto (tgt := 77) h dX12_edge_53 (by decide) ?_
        have r65 := (fm_rd_i (a := 0) (b := 12) m2 (by decide))
        exact fr_iret h hq (by omega) ⟨⟨(by rw [show x1 1 = x 1 from (fm_up_row m2 (by omega))]; exact e0.1), (by rw [show x1 8 = x 8 from (fm_up_row m2 (by omega))]; exact e0.2.1), (by rw [show x1 26 = x 26 from (fm_up_row m2 (by omega))]; exact e0.2.2.1), (by have := e0.2.2.2; omega)⟩, (fun a k0 => (fm_up_row m2 (by omega))), (fun i k0 => (fm_rd_i (a := 0) (b := i) m2 (by omega)))⟩ dX12_edge_77
    ·
      refine fr_aload_n h rfl 0 rfl dX12_edge_31 ?_
      refine fr_cvI h kX12 at_0M wX12_lost lX12_213 (c_X12_lost x1) rfl (by decide) (by decide) rfl (Nat.le_of_ble_eq_true rfl) dX12_edge_32 (fun z67 x66 w68 p69 => ?_)
      obtain ⟨p70, p71, f72, f73⟩ := p69
      have r74 := (f73 12 (by decide))
      have r75 := r74.trans (fm_rd_i (a := 0) (b := 12) m2 (by decide))
      exact fr_iret h hq (by omega) ⟨⟨(by rw [show x66 1 = x1 1 from (f72 1 (by omega))]; exact (by rw [show x1 1 = x 1 from (fm_up_row m2 (by omega))]; exact e0.1)), (by rw [show x66 8 = x 8 from ((f72 8 (by omega)).trans (fm_up_row m2 (by omega)))]; exact e0.2.1), (by rw [show x66 26 = x 26 from ((f72 26 (by omega)).trans (fm_up_row m2 (by omega)))]; exact e0.2.2.1), (by have := e0.2.2.2; omega)⟩, (fun a k0 => ((f72 a (by omega)).trans (fm_up_row m2 (by omega)))), (fun i k0 => ((f73 i (by omega)).trans (fm_rd_i (a := 0) (b := i) m2 (by omega))))⟩ dX12_edge_35
