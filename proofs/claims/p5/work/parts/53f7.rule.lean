set_option maxHeartbeats 4000000 in
theorem d_X12_rule (x : Mm) (f : Int → Int) (e0 : GI x) (e1 : ∀ j : Int, uch (x 2 j) = f j) (e2 : x 0 21 ≤ 2000) : CnI YM yX12_rule cX12_rule 3 .int 182 5342 (fun G => [vr G 0]) x (fun z y' => (y' 0 5 = 0) ∧ (y' 0 2 = 0) ∧ (x 0 2 = 0 → z = 0) ∧ (0 < x 0 2 → (ARd f (x 0 2) = (-1) → z = 0) ∧ (ARd f (x 0 2) ≠ (-1) → z = -1 - ARd f (x 0 2))) ∧ (CHG x y') ∧ (GI y') ∧ (∀ a : Int, (a < 0 ∨ 0 < a) → (a < 5 ∨ 6 < a) → y' a = x a) ∧ (∀ i : Int, i ≠ 2 → i ≠ 6 → i ≠ 7 → i ≠ 8 → i ≠ 9 → i ≠ 10 → i ≠ 5 → i ≠ 14 → i ≠ 15 → i ≠ 21 → y' 0 i = x 0 i)) := by
  refine cn_I (by decide) (fun _ => Nat.le_of_ble_eq_true rfl) (fun G C h hq => ?_)
  have h : OK YM G C cX12_rule RX12 3 (some .int) 182 5342 := h
  show FW YM G C 3 x 0 [(0, vr G 0)] []
  have e12 := e0.2.2.2
  refine fr_aload_n h rfl 0 rfl dX12_rule_0 ?_
  refine fr_iconst h dX12_rule_1 ?_
  refine fr_puti (iz := 5) h kX12 fX12_94 at_0M rfl rfl (by decide) (by decide) rfl (by decide +kernel) rfM_5 (by omega) (by omega) dX12_rule_2 ?_
  refine fr_mem (fun x1 m2 => ?_)
  refine fr_aload_n h rfl 0 rfl dX12_rule_5 ?_
  refine fr_geti (iz := 2) h kX12 fX12_109 at_0M rfl rfl (by decide) (by decide) rfM_2 dX12_rule_6 (fun z3 w4 w5 q6 => ?_)
  have r7 := q6.trans (fm_rd_i (a := 0) (b := 2) m2 (by decide))
  refine fr_istore_n (L' := [(0, vr G 0), (1, vi z3)]) h rfl dX12_rule_9 (by decide) [1, 0] rfl ?_
  refine fr_aload_n h rfl 0 rfl dX12_rule_10 ?_
  refine fr_cvI h kX12 at_0M wX12_readRule lX12_195 (d_X12_readRule x1 f (fun j => (congrArg uch (congrFun (fm_up_row m2 (by omega)) j)).trans (e1 j))) rfl (by decide) (by decide) rfl (Nat.le_of_ble_eq_true rfl) dX12_rule_11 (fun z9 x8 w10 p11 => ?_)
  obtain ⟨p12, p13, p14, p15, p16, p17, f18, f19⟩ := p11
  have ke : ARd f (x1 0 2) = ARd f (x 0 2) := by rw [show x1 0 2 = x 0 2 from (fm_rd_i (a := 0) (b := 2) m2 (by decide))]
  refine fr_if_ne (tgt := 24) h dX12_rule_14 (by decide) (by omega) (fun c20 => ?_) (fun c20 => ?_)
  ·
    refine fr_iconst h dX12_rule_24 ?_
    refine fr_istore_n (L' := [(0, vr G 0), (1, vi z3), (2, vi 0)]) h rfl dX12_rule_25 (by decide) [1, 2, 0] rfl ?_
    have HL21 : ∀ (n21 : Nat) (l2_21 : Int) (x_21 : Mm), fm_r l2_21 → 0 ≤ l2_21 → l2_21 ≤ 40 → (∀ a : Int, (a < 5 ∨ 6 < a) → x_21 a = x8 a) → (40 - l2_21) < n21 → FW YM G C 3 x_21 26 [(0, vr G 0), (1, vi z3), (2, vi l2_21)] [] := by
      intro n21
      induction n21 with
      | zero =>
        intro l2_21 x_21 g21_0 g21_1 g21_2 g21_3 g21_4
        exfalso; omega
      | succ n21 ih21 =>
        intro l2_21 x_21 g21_0 g21_1 g21_2 g21_3 g21_4
        refine fr_iload_n h rfl 2 rfl dX12_rule_26 ?_
        refine fr_iload_n h rfl 1 rfl dX12_rule_27 ?_
        refine fr_icmp_ge (tgt := 49) h dX12_rule_28 (by decide) (by omega) (by omega) (fun c22 => ?_) (fun c22 => ?_)
        ·
          refine fr_aload_n h rfl 0 rfl dX12_rule_49 ?_
          refine fr_iload_n h rfl 1 rfl dX12_rule_50 ?_
          refine fr_puti (iz := 14) h kX12 fX12_198 at_0M rfl rfl (by decide) (by decide) rfl (by decide +kernel) rfM_14 (by omega) (by omega) dX12_rule_51 ?_
          refine fr_mem (fun x23 m24 => ?_)
          refine fr_aload_n h rfl 0 rfl dX12_rule_54 ?_
          refine fr_dup h rfl dX12_rule_55 ?_
          refine fr_geti (iz := 21) h kX12 fX12_201 at_0M rfl rfl (by decide) (by decide) rfM_21 dX12_rule_56 (fun z25 w26 w27 q28 => ?_)
          have r29 := q28.trans (fm_rd_i (a := 0) (b := 21) m24 (by decide))
          have r30 := r29.trans (congrFun (g21_3 0 (by omega)) 21)
          have r31 := r30.trans (f19 21 (by decide) (by decide) (by decide) (by decide) (by decide) (by decide) (by decide))
          have r32 := r31.trans (fm_rd_i (a := 0) (b := 21) m2 (by decide))
          refine fr_iconst h dX12_rule_59 ?_
          refine fr_iadd h dX12_rule_60 ?_
          refine fr_normi (fun z33 w34 q35 => ?_)
          have w36 : fm_r ((z25 + 1)) → z33 = (z25 + 1) := fun q => (iI_inj q w34 q35).symm
          refine fr_puti (iz := 21) h kX12 fX12_201 at_0M rfl rfl (by decide) (by decide) rfl (by decide +kernel) rfM_21 (by omega) (by omega) dX12_rule_61 ?_
          refine fr_mem (fun x37 m38 => ?_)
          refine fr_iconst h dX12_rule_64 ?_
          have r39 := (fm_rd_i (a := 0) (b := 5) m38 (by decide))
          have r40 := r39.trans (fm_rd_i (a := 0) (b := 5) m24 (by decide))
          have r41 := r40.trans (congrFun (g21_3 0 (by omega)) 5)
          have r42 := r41.trans (f19 5 (by decide) (by decide) (by decide) (by decide) (by decide) (by decide) (by decide))
          have r43 := r42.trans (fm_rd_s m2)
          have r44 := (fm_rd_i (a := 0) (b := 2) m38 (by decide))
          have r45 := r44.trans (fm_rd_i (a := 0) (b := 2) m24 (by decide))
          have r46 := r45.trans (congrFun (g21_3 0 (by omega)) 2)
          have r47 := (fm_rd_i (a := 0) (b := 2) m2 (by decide))
          have r48 := (fm_rd_s m38)
          have r49 := (fm_rd_i (a := 0) (b := 12) m38 (by decide))
          have r50 := r49.trans (fm_rd_i (a := 0) (b := 12) m24 (by decide))
          have r51 := r50.trans (congrFun (g21_3 0 (by omega)) 12)
          have r52 := r51.trans (f19 12 (by decide) (by decide) (by decide) (by decide) (by decide) (by decide) (by decide))
          have r53 := r52.trans (fm_rd_i (a := 0) (b := 12) m2 (by decide))
          exact fr_iret h hq (by omega) ⟨(by omega), (by omega), (by omega), (by omega), (Or.inr (by omega)), ⟨(by rw [show x37 1 = x23 1 from (fm_up_row m38 (by omega))]; exact (by rw [show x23 1 = x_21 1 from (fm_up_row m24 (by omega))]; exact (by rw [show x_21 1 = x8 1 from (g21_3 1 (by omega))]; exact (by rw [show x8 1 = x1 1 from (f18 1 (by omega))]; exact (by rw [show x1 1 = x 1 from (fm_up_row m2 (by omega))]; exact e0.1))))), (by rw [show x37 8 = x 8 from ((fm_up_row m38 (by omega)).trans ((fm_up_row m24 (by omega)).trans ((g21_3 8 (by omega)).trans ((f18 8 (by omega)).trans (fm_up_row m2 (by omega))))))]; exact e0.2.1), (by rw [show x37 26 = x 26 from ((fm_up_row m38 (by omega)).trans ((fm_up_row m24 (by omega)).trans ((g21_3 26 (by omega)).trans ((f18 26 (by omega)).trans (fm_up_row m2 (by omega))))))]; exact e0.2.2.1), (by have := e0.2.2.2; omega)⟩, (fun a k0 k1 => ((fm_up_row m38 (by omega)).trans ((fm_up_row m24 (by omega)).trans ((g21_3 a (by omega)).trans ((f18 a (by omega)).trans (fm_up_row m2 (by omega))))))), (fun i k0 k1 k2 k3 k4 k5 k6 k7 k8 k9 => ((fm_rd_i (a := 0) (b := i) m38 (by omega)).trans ((fm_rd_i (a := 0) (b := i) m24 (by omega)).trans ((congrFun (g21_3 0 (by omega)) i).trans ((f19 i (by omega) (by omega) (by omega) (by omega) (by omega) (by omega) (by omega)).trans (fm_rd_i (a := 0) (b := i) m2 (by omega)))))))⟩ dX12_rule_65
        ·
          refine fr_aload_n h rfl 0 rfl dX12_rule_31 ?_
          refine fr_rng (fun h54 => ?_)
          have w55 : 5 ≤ x_21 0 12 ∧ x_21 0 12 ≤ 6 := h54 0 12
          obtain ⟨u56, q57⟩ : ∃ z, x_21 0 12 = z := ⟨_, rfl⟩
          rw [q57] at w55
          have i58 : RBN u56 40 := by unfold RBN; omega
          refine fr_getr (z := u56) (iz := 12) h kX12 fX12_24 at_0M rfl rfl q57 (by omega) dX12_rule_32 ?_
          refine fr_iload_n h rfl 2 rfl dX12_rule_35 ?_
          refine fr_aload_n h rfl 0 rfl dX12_rule_36 ?_
          refine fr_getc (z := 2) (iz := 1) h kX12 fX12_13 at_0M rfl rfl rfM_1 (by omega) dX12_rule_37 ?_
          refine fr_iload_n h rfl 2 rfl dX12_rule_40 ?_
          refine fr_bald h (RB_a (Or.inl ⟨rfl, rfl⟩)) (by omega) (by omega) (RB_r (Or.inl ⟨rfl, rfl⟩) l2_21) dX12_rule_41 (fun z59 w60 w61 q62 => ?_)
          have r63 := q62.trans (congrFun (g21_3 2 (by omega)) l2_21)
          have r64 := r63.trans (congrFun (f18 2 (by omega)) l2_21)
          have r65 := r64.trans (fm_rd_k (a := 2) (b := l2_21) m2 (by omega))
          refine fr_bast h (RB_a i58) (by omega) (by omega) (RB_r i58 l2_21) (by omega) (by omega) (by omega) dX12_rule_42 ?_
          refine fr_mem (fun x66 m67 => ?_)
          refine fr_iinc (j := 2) (L' := [(0, vr G 0), (1, vi z3), (2, vi (l2_21 + 1))]) h dX12_rule_43 rfl (by decide) [1, 2, 0] rfl ?_
          refine fr_goto (tgt := 26) h dX12_rule_46 (by decide) ?_
          exact ih21 (l2_21 + 1) x66 (by omega) (by omega) (by omega) (fun a k0 => ((fm_up_row m67 (by omega)).trans (g21_3 a (by omega)))) (by omega)
    exact HL21 ((40 - 0) + 1 : Int).toNat 0 x8 (by omega) (by omega) (by omega) (fun a _ => rfl) (by omega)
  ·
    refine fr_iconst h dX12_rule_17 ?_
    refine fr_aload_n h rfl 0 rfl dX12_rule_18 ?_
    refine fr_geti (iz := 10) h kX12 fX12_124 at_0M rfl rfl (by decide) (by decide) rfM_10 dX12_rule_19 (fun z68 w69 w70 q71 => ?_)
    have r72 := (fm_rd_i (a := 0) (b := 10) m2 (by decide))
    refine fr_isub h dX12_rule_22 ?_
    have r73 := (f19 5 (by decide) (by decide) (by decide) (by decide) (by decide) (by decide) (by decide))
    have r74 := r73.trans (fm_rd_s m2)
    have r75 := (fm_rd_i (a := 0) (b := 2) m2 (by decide))
    have r76 := (f19 21 (by decide) (by decide) (by decide) (by decide) (by decide) (by decide) (by decide))
    have r77 := r76.trans (fm_rd_i (a := 0) (b := 21) m2 (by decide))
    have r78 := (f19 12 (by decide) (by decide) (by decide) (by decide) (by decide) (by decide) (by decide))
    have r79 := r78.trans (fm_rd_i (a := 0) (b := 12) m2 (by decide))
    exact fr_iret h hq (by omega) ⟨(by omega), (by omega), (by omega), (by omega), (Or.inl ⟨(by omega), ((f18 1 (by omega)).trans (fm_up_row m2 (by omega)))⟩), ⟨(by rw [show x8 1 = x1 1 from (f18 1 (by omega))]; exact (by rw [show x1 1 = x 1 from (fm_up_row m2 (by omega))]; exact e0.1)), (by rw [show x8 8 = x 8 from ((f18 8 (by omega)).trans (fm_up_row m2 (by omega)))]; exact e0.2.1), (by rw [show x8 26 = x 26 from ((f18 26 (by omega)).trans (fm_up_row m2 (by omega)))]; exact e0.2.2.1), (by have := e0.2.2.2; omega)⟩, (fun a k0 k1 => ((f18 a (by omega)).trans (fm_up_row m2 (by omega)))), (fun i k0 k1 k2 k3 k4 k5 k6 k7 k8 k9 => ((f19 i (by omega) (by omega) (by omega) (by omega) (by omega) (by omega) (by omega)).trans (fm_rd_i (a := 0) (b := i) m2 (by omega))))⟩ dX12_rule_23
