set_option maxHeartbeats 200000 in
theorem c_X12_lay (x : Mm) (b : Int) (hb : isSA b) (t : Int) (tn : Nat) (ht : LTN t tn) (k : Int) (h_k : fm_r k) (e0 : 0 ≤ k) (e1 : k + 106 ≤ tn) (e2 : k % 106 = 0) (e3 : b ≠ t) : CnV YM yX12_lay cX12_lay 4 0 0 (fun G => [vr G b, vr G t, vi k]) x (fun y' => (∀ i : Int, 0 ≤ i → i < 106 → y' t (k + i) = x b i) ∧ (∀ i : Int, i < k ∨ k + 106 ≤ i → y' t i = x t i) ∧ (∀ a : Int, (a < t ∨ t < a) → y' a = x a)) := by
  refine cn_V (by decide) (fun _ => Nat.le_of_ble_eq_true rfl) (fun G C h hq => ?_)
  have h : OK YM G C cX12_lay RX12 4 none 0 0 := h
  show FW YM G C 4 x 0 [(0, vr G b), (1, vr G t), (2, vi k)] []
  have h_b := SA_b hb
  have h_t := LTN_b ht
  refine fr_iconst h dX12_lay_0 ?_
  refine fr_istore_n (L' := [(0, vr G b), (1, vr G t), (2, vi k), (3, vi 0)]) h rfl dX12_lay_1 (by decide) [1, 2, 3, 0] rfl ?_
  have HL1 : ∀ (n1 : Nat) (l3_1 : Int) (x_1 : Mm), fm_r l3_1 → 0 ≤ l3_1 → l3_1 ≤ 106 → (∀ i : Int, 0 ≤ i → i < l3_1 → x_1 t (k + i) = x b i) → (∀ i : Int, i < k ∨ k + l3_1 ≤ i → x_1 t i = x t i) → (∀ a : Int, (a < t ∨ t < a) → x_1 a = x a) → (106 - l3_1) < n1 → FW YM G C 4 x_1 2 [(0, vr G b), (1, vr G t), (2, vi k), (3, vi l3_1)] [] := by
    intro n1
    induction n1 with
    | zero =>
      intro l3_1 x_1 g1_0 g1_1 g1_2 g1_3 g1_4 g1_5 g1_6
      exfalso; omega
    | succ n1 ih1 =>
      intro l3_1 x_1 g1_0 g1_1 g1_2 g1_3 g1_4 g1_5 g1_6
      refine fr_iload_n h rfl 3 rfl dX12_lay_2 ?_
      refine fr_bipush h rfl dX12_lay_3 ?_
      refine fr_icmp_ge (tgt := 22) h dX12_lay_5 (by decide) (by omega) (by omega) (fun c2 => ?_) (fun c2 => ?_)
      ·
        exact fr_vret h hq ⟨(fun i a c => g1_3 i a (by omega)), (fun i a => g1_4 i (by omega)), (fun a k0 => (g1_5 a (by omega)))⟩ dX12_lay_22
      ·
        refine fr_aload_n h rfl 1 rfl dX12_lay_8 ?_
        refine fr_iload_n h rfl 2 rfl dX12_lay_9 ?_
        refine fr_iload_n h rfl 3 rfl dX12_lay_10 ?_
        refine fr_iadd h dX12_lay_11 ?_
        refine fr_aload_n h rfl 0 rfl dX12_lay_12 ?_
        refine fr_iload_n h rfl 3 rfl dX12_lay_13 ?_
        refine fr_iald h (SA_a hb) (by omega) (by omega) ((SA_r hb l3_1).trans (show YM_s l3_1 = ((YM_s l3_1).1, (YM_s l3_1).2) from rfl)) dX12_lay_14 (fun z3 w4 w5 q6 => ?_)
        have w7 := sg_any l3_1
        refine fr_iast h (LT_a ht) (by omega) (by omega) ((LT_r ht (k + l3_1)).trans ((sg_shift (by omega) _).trans (show YM_s l3_1 = ((YM_s l3_1).1, (YM_s l3_1).2) from rfl))) (by omega) (by omega) dX12_lay_15 ?_
        refine fr_mem (fun x8 m9 => ?_)
        refine fr_iinc (j := 3) (L' := [(0, vr G b), (1, vr G t), (2, vi k), (3, vi (l3_1 + 1))]) h dX12_lay_16 rfl (by decide) [1, 2, 3, 0] rfl ?_
        refine fr_goto (tgt := 2) h dX12_lay_19 (by decide) ?_
        exact ih1 (l3_1 + 1) x8 (by omega) (by omega) (by omega) (fun i a c => if q9 : i = l3_1 then (by rw [q9, fm_rd_s m9, q6, show x_1 b = x b from (g1_5 b (by omega))]) else (fm_rd_i m9 (by omega)).trans (g1_3 i a (by omega))) (fun i a => (fm_rd_i m9 (by omega)).trans (g1_4 i (by omega))) (fun a k0 => ((fm_up_row m9 (by omega)).trans (g1_5 a (by omega)))) (by omega)
  exact HL1 ((106 - 0) + 1 : Int).toNat 0 x (by omega) (by omega) (by omega) (fun i a b => by exfalso; omega) (fun i a => rfl) (fun a _ => rfl) (by omega)
set_option maxHeartbeats 200000 in
theorem c_X12_change (x : Mm) (b : Int) (hb : isSA b) (e0 : UB (x 8)) (e1 : MI (x b)) : CnV YM yX12_change cX12_change 3 1 23 (fun G => [vr G 0, vr G b]) x (fun y' => (UB (y' 8)) ∧ (x 0 21 ≤ 2000 → y' 0 21 = x 0 21 + 1) ∧ (∀ a : Int, (a < 0 ∨ 0 < a) → (a < 8 ∨ 8 < a) → y' a = x a) ∧ (∀ i : Int, i ≠ 18 → i ≠ 21 → y' 0 i = x 0 i)) := by
  refine cn_V (by decide) (fun _ => Nat.le_of_ble_eq_true rfl) (fun G C h hq => ?_)
  have h : OK YM G C cX12_change RX12 3 none 1 23 := h
  show FW YM G C 3 x 0 [(0, vr G 0), (1, vr G b)] []
  have h_b := SA_b hb
  have hb8 : b ≠ 8 := by have q := hb; unfold isSA at q; omega
  refine fr_aload_n h rfl 0 rfl dX12_change_0 ?_
  refine fr_dup h rfl dX12_change_1 ?_
  refine fr_geti (iz := 21) h kX12 fX12_201 at_0M rfl rfl (by decide) (by decide) rfM_21 dX12_change_2 (fun z1 w2 w3 q4 => ?_)
  refine fr_iconst h dX12_change_5 ?_
  refine fr_iadd h dX12_change_6 ?_
  refine fr_normi (fun z5 w6 q7 => ?_)
  have w8 : fm_r ((z1 + 1)) → z5 = (z1 + 1) := fun q => (iI_inj q w6 q7).symm
  refine fr_puti (iz := 21) h kX12 fX12_201 at_0M rfl rfl (by decide) (by decide) rfl (by decide +kernel) rfM_21 (by omega) (by omega) dX12_change_7 ?_
  refine fr_mem (fun x9 m10 => ?_)
  refine fr_aload_n h rfl 0 rfl dX12_change_10 ?_
  refine fr_geti (iz := 18) h kX12 fX12_228 at_0M rfl rfl (by decide) (by decide) rfM_18 dX12_change_11 (fun z11 w12 w13 q14 => ?_)
  have r15 := q14.trans (fm_rd_i (a := 0) (b := 18) m10 (by decide))
  refine fr_bipush h rfl dX12_change_14 ?_
  refine fr_icmp_ne (tgt := 59) h dX12_change_16 (by decide) (by omega) (by omega) (fun c16 => ?_) (fun c16 => ?_)
  ·
    refine fr_aload_n h rfl 1 rfl dX12_change_59 ?_
    refine fr_aload_n h rfl 0 rfl dX12_change_60 ?_
    refine fr_getc (z := 8) (iz := 17) h kX12 fX12_33 at_0M rfl rfl rfM_17 (by omega) dX12_change_61 ?_
    refine fr_bipush h rfl dX12_change_64 ?_
    refine fr_aload_n h rfl 0 rfl dX12_change_66 ?_
    refine fr_geti (iz := 18) h kX12 fX12_228 at_0M rfl rfl (by decide) (by decide) rfM_18 dX12_change_67 (fun z17 w18 w19 q20 => ?_)
    have r21 := q20.trans (fm_rd_i (a := 0) (b := 18) m10 (by decide))
    refine fr_imul h dX12_change_70 ?_
    skip
    refine fr_csV h wX12_lay lX12_231 (c_X12_lay x9 b hb 8 1060 (by unfold LTN; omega) (106 * z17) (by omega) (by omega) (by omega) (by omega) (by have q := hb; unfold isSA at q; omega)) rfl (by decide) (by decide) rfl (Nat.le_of_ble_eq_true rfl) dX12_change_71 (fun x22 p25 => ?_)
    obtain ⟨p26, p27, f28⟩ := p25
    refine fr_aload_n h rfl 0 rfl dX12_change_74 ?_
    refine fr_dup h rfl dX12_change_75 ?_
    refine fr_geti (iz := 18) h kX12 fX12_228 at_0M rfl rfl (by decide) (by decide) rfM_18 dX12_change_76 (fun z29 w30 w31 q32 => ?_)
    have r33 := q32.trans (congrFun (f28 0 (by omega)) 18)
    have r34 := r33.trans (fm_rd_i (a := 0) (b := 18) m10 (by decide))
    refine fr_iconst h dX12_change_79 ?_
    refine fr_iadd h dX12_change_80 ?_
    refine fr_puti (iz := 18) h kX12 fX12_228 at_0M rfl rfl (by decide) (by decide) rfl (by decide +kernel) rfM_18 (by omega) (by omega) dX12_change_81 ?_
    refine fr_mem (fun x35 m36 => ?_)
    have r37 := (fm_rd_i (a := 0) (b := 21) m36 (by decide))
    have r38 := r37.trans (congrFun (f28 0 (by omega)) 21)
    have r39 := r38.trans (fm_rd_s m10)
    exact fr_vret h hq ⟨(UB_lay (k := z17) (by rw [show x9 8 = x 8 from (fm_up_row m10 (by omega))]; exact e0) (by rw [show x9 b = x b from (fm_up_row m10 (by omega))]; exact e1) (fun i a c => (congrFun (fm_up_row m36 (by omega)) _).trans (p26 i a c)) (fun i a => (congrFun (fm_up_row m36 (by omega)) i).trans (p27 i (by omega)))), (by omega), (fun a k0 k1 => ((fm_up_row m36 (by omega)).trans ((f28 a (by omega)).trans (fm_up_row m10 (by omega))))), (fun i k0 k1 => ((fm_rd_i (a := 0) (b := i) m36 (by omega)).trans ((congrFun (f28 0 (by omega)) i).trans (fm_rd_i (a := 0) (b := i) m10 (by omega)))))⟩ dX12_change_84
  ·
    refine fr_iconst h dX12_change_19 ?_
    refine fr_istore_n (L' := [(0, vr G 0), (1, vr G b), (2, vi 0)]) h rfl dX12_change_20 (by decide) [1, 2, 0] rfl ?_
    have HL40 : ∀ (n40 : Nat) (l2_40 : Int) (x_40 : Mm), fm_r l2_40 → 0 ≤ l2_40 → l2_40 ≤ 954 → (∀ i : Int, 0 ≤ i → i < l2_40 → x_40 8 i = x 8 (i + 106)) → (∀ i : Int, l2_40 ≤ i → x_40 8 i = x 8 i) → (∀ a : Int, (a < 8 ∨ 8 < a) → x_40 a = x9 a) → (954 - l2_40) < n40 → FW YM G C 3 x_40 21 [(0, vr G 0), (1, vr G b), (2, vi l2_40)] [] := by
      intro n40
      induction n40 with
      | zero =>
        intro l2_40 x_40 g40_0 g40_1 g40_2 g40_3 g40_4 g40_5 g40_6
        exfalso; omega
      | succ n40 ih40 =>
        intro l2_40 x_40 g40_0 g40_1 g40_2 g40_3 g40_4 g40_5 g40_6
        refine fr_iload_n h rfl 2 rfl dX12_change_21 ?_
        refine fr_sipush h rfl dX12_change_22 ?_
        refine fr_icmp_ge (tgt := 49) h dX12_change_25 (by decide) (by omega) (by omega) (fun c41 => ?_) (fun c41 => ?_)
        ·
          refine fr_aload_n h rfl 0 rfl dX12_change_49 ?_
          refine fr_dup h rfl dX12_change_50 ?_
          refine fr_geti (iz := 18) h kX12 fX12_228 at_0M rfl rfl (by decide) (by decide) rfM_18 dX12_change_51 (fun z42 w43 w44 q45 => ?_)
          have r46 := q45.trans (congrFun (g40_5 0 (by omega)) 18)
          have r47 := r46.trans (fm_rd_i (a := 0) (b := 18) m10 (by decide))
          refine fr_iconst h dX12_change_54 ?_
          refine fr_isub h dX12_change_55 ?_
          refine fr_puti (iz := 18) h kX12 fX12_228 at_0M rfl rfl (by decide) (by decide) rfl (by decide +kernel) rfM_18 (by omega) (by omega) dX12_change_56 ?_
          refine fr_mem (fun x48 m49 => ?_)
          refine fr_aload_n h rfl 1 rfl dX12_change_59 ?_
          refine fr_aload_n h rfl 0 rfl dX12_change_60 ?_
          refine fr_getc (z := 8) (iz := 17) h kX12 fX12_33 at_0M rfl rfl rfM_17 (by omega) dX12_change_61 ?_
          refine fr_bipush h rfl dX12_change_64 ?_
          refine fr_aload_n h rfl 0 rfl dX12_change_66 ?_
          refine fr_geti (iz := 18) h kX12 fX12_228 at_0M rfl rfl (by decide) (by decide) rfM_18 dX12_change_67 (fun z50 w51 w52 q53 => ?_)
          have r54 := q53.trans (fm_rd_s m49)
          refine fr_imul h dX12_change_70 ?_
          skip
          refine fr_csV h wX12_lay lX12_231 (c_X12_lay x48 b hb 8 1060 (by unfold LTN; omega) (106 * z50) (by omega) (by omega) (by omega) (by omega) (by have q := hb; unfold isSA at q; omega)) rfl (by decide) (by decide) rfl (Nat.le_of_ble_eq_true rfl) dX12_change_71 (fun x55 p58 => ?_)
          obtain ⟨p59, p60, f61⟩ := p58
          refine fr_aload_n h rfl 0 rfl dX12_change_74 ?_
          refine fr_dup h rfl dX12_change_75 ?_
          refine fr_geti (iz := 18) h kX12 fX12_228 at_0M rfl rfl (by decide) (by decide) rfM_18 dX12_change_76 (fun z62 w63 w64 q65 => ?_)
          have r66 := q65.trans (congrFun (f61 0 (by omega)) 18)
          have r67 := r66.trans (fm_rd_s m49)
          refine fr_iconst h dX12_change_79 ?_
          refine fr_iadd h dX12_change_80 ?_
          refine fr_puti (iz := 18) h kX12 fX12_228 at_0M rfl rfl (by decide) (by decide) rfl (by decide +kernel) rfM_18 (by omega) (by omega) dX12_change_81 ?_
          refine fr_mem (fun x68 m69 => ?_)
          have r70 := (fm_rd_i (a := 0) (b := 21) m69 (by decide))
          have r71 := r70.trans (congrFun (f61 0 (by omega)) 21)
          have r72 := r71.trans (fm_rd_i (a := 0) (b := 21) m49 (by decide))
          have r73 := r72.trans (congrFun (g40_5 0 (by omega)) 21)
          have r74 := r73.trans (fm_rd_s m10)
          exact fr_vret h hq ⟨(UB_lay (k := z50) (UB_shift (g := x48 8) e0 (fun i a c => (congrFun (fm_up_row m49 (by omega)) i).trans (g40_3 i a (by omega))) (fun i a => (congrFun (fm_up_row m49 (by omega)) i).trans (g40_4 i (by omega)))) (by rw [show x48 b = x b from ((fm_up_row m49 (by omega)).trans ((g40_5 b (by omega)).trans (fm_up_row m10 (by omega))))]; exact e1) (fun i a c => (congrFun (fm_up_row m69 (by omega)) _).trans (p59 i a c)) (fun i a => (congrFun (fm_up_row m69 (by omega)) i).trans (p60 i (by omega)))), (by omega), (fun a k0 k1 => ((fm_up_row m69 (by omega)).trans ((f61 a (by omega)).trans ((fm_up_row m49 (by omega)).trans ((g40_5 a (by omega)).trans (fm_up_row m10 (by omega))))))), (fun i k0 k1 => ((fm_rd_i (a := 0) (b := i) m69 (by omega)).trans ((congrFun (f61 0 (by omega)) i).trans ((fm_rd_i (a := 0) (b := i) m49 (by omega)).trans ((congrFun (g40_5 0 (by omega)) i).trans (fm_rd_i (a := 0) (b := i) m10 (by omega)))))))⟩ dX12_change_84
        ·
          refine fr_aload_n h rfl 0 rfl dX12_change_28 ?_
          refine fr_getc (z := 8) (iz := 17) h kX12 fX12_33 at_0M rfl rfl rfM_17 (by omega) dX12_change_29 ?_
          refine fr_iload_n h rfl 2 rfl dX12_change_32 ?_
          refine fr_aload_n h rfl 0 rfl dX12_change_33 ?_
          refine fr_getc (z := 8) (iz := 17) h kX12 fX12_33 at_0M rfl rfl rfM_17 (by omega) dX12_change_34 ?_
          refine fr_iload_n h rfl 2 rfl dX12_change_37 ?_
          refine fr_bipush h rfl dX12_change_38 ?_
          refine fr_iadd h dX12_change_40 ?_
          refine fr_iald h arM_8 (by omega) (by omega) ((rrM_8 (l2_40 + 106)).trans ((sg_106 _).trans (show YM_s l2_40 = ((YM_s l2_40).1, (YM_s l2_40).2) from rfl))) dX12_change_41 (fun z75 w76 w77 q78 => ?_)
          have w79 := sg_any (l2_40 + 106)
          have r80 := (fm_rd_k (a := 8) (b := (l2_40 + 106)) m10 (by omega))
          refine fr_iast h arM_8 (by omega) (by omega) ((rrM_8 l2_40).trans (show YM_s l2_40 = ((YM_s l2_40).1, (YM_s l2_40).2) from rfl)) (by omega) (by omega) dX12_change_42 ?_
          refine fr_mem (fun x81 m82 => ?_)
          refine fr_iinc (j := 2) (L' := [(0, vr G 0), (1, vr G b), (2, vi (l2_40 + 1))]) h dX12_change_43 rfl (by decide) [1, 2, 0] rfl ?_
          refine fr_goto (tgt := 21) h dX12_change_46 (by decide) ?_
          exact ih40 (l2_40 + 1) x81 (by omega) (by omega) (by omega) (fun i a c => if q9 : i = l2_40 then (by rw [q9, fm_rd_s m82, q78]; exact g40_4 _ (by omega)) else (fm_rd_i m82 (by omega)).trans (g40_3 i a (by omega))) (fun i a => (fm_rd_i m82 (by omega)).trans (g40_4 i (by omega))) (fun a k0 => ((fm_up_row m82 (by omega)).trans (g40_5 a (by omega)))) (by omega)
    exact HL40 ((954 - 0) + 1 : Int).toNat 0 x9 (by omega) (by omega) (by omega) (fun i a c => by exfalso; omega) (fun i a => congrFun (fm_up_row m10 (by omega)) i) (fun a _ => rfl) (by omega)
set_option maxHeartbeats 200000 in
theorem c_X12_goPut (x : Mm) (b : Int) (hb : isSA b) (p : Int) (v : Int) (h_p : fm_r p) (h_v : fm_r v) (e0 : 0 ≤ p) (e1 : p ≤ 3) (e2 : 0 ≤ v) (e3 : v ≤ 99) (e4 : x b (24 + p) ≤ 5) : CnI YM yX12_goPut cX12_goPut 4 .int 0 0 (fun G => [vr G b, vi p, vi v]) x (fun z y' => (0 ≤ z) ∧ (y' b (24 + p) = x b (24 + p) + 1) ∧ (∀ i : Int, 24 ≤ i → i ≠ 24 + p → y' b i = x b i) ∧ (∀ a : Int, (a < b ∨ b < a) → y' a = x a)) := by
  refine cn_I (by decide) (fun _ => Nat.le_of_ble_eq_true rfl) (fun G C h hq => ?_)
  have h : OK YM G C cX12_goPut RX12 4 (some .int) 0 0 := h
  show FW YM G C 4 x 0 [(0, vr G b), (1, vi p), (2, vi v)] []
  have h_b := SA_b hb
  refine fr_aload_n h rfl 0 rfl dX12_goPut_0 ?_
  refine fr_bipush h rfl dX12_goPut_1 ?_
  refine fr_iload_n h rfl 1 rfl dX12_goPut_3 ?_
  refine fr_iadd h dX12_goPut_4 ?_
  refine fr_iald h (SA_a hb) (by omega) (by omega) ((SA_r hb (24 + p)).trans (sg_len (by omega) (by omega))) dX12_goPut_5 (fun z1 w2 w3 q4 => ?_)
  refine fr_istore_n (L' := [(0, vr G b), (1, vi p), (2, vi v), (3, vi z1)]) h rfl dX12_goPut_6 (by decide) [1, 2, 3, 0] rfl ?_
  have HL5 : ∀ (n5 : Nat) (l3_5 : Int) (x_5 : Mm), fm_r l3_5 → 0 ≤ l3_5 → l3_5 ≤ 5 → l3_5 ≤ 5 → (∀ i : Int, 24 ≤ i → x_5 b i = x b i) → (∀ a : Int, (a < b ∨ b < a) → x_5 a = x a) → l3_5 < n5 → FW YM G C 4 x_5 7 [(0, vr G b), (1, vi p), (2, vi v), (3, vi l3_5)] [] := by
    intro n5
    induction n5 with
    | zero =>
      intro l3_5 x_5 g5_0 g5_1 g5_2 g5_3 g5_4 g5_5 g5_6
      exfalso; omega
    | succ n5 ih5 =>
      intro l3_5 x_5 g5_0 g5_1 g5_2 g5_3 g5_4 g5_5 g5_6
      refine fr_iload_n h rfl 3 rfl dX12_goPut_7 ?_
      refine fr_if_le (tgt := 49) h dX12_goPut_8 (by decide) (by omega) (fun c6 => ?_) (fun c6 => ?_)
      ·
        refine fr_aload_n h rfl 0 rfl dX12_goPut_49 ?_
        refine fr_bipush h rfl dX12_goPut_50 ?_
        refine fr_iload_n h rfl 1 rfl dX12_goPut_52 ?_
        refine fr_imul h dX12_goPut_53 ?_
        refine fr_iload_n h rfl 3 rfl dX12_goPut_54 ?_
        refine fr_iadd h dX12_goPut_55 ?_
        refine fr_iload_n h rfl 2 rfl dX12_goPut_56 ?_
        have k24 := g5_4 (24 + p) (by omega)
        refine fr_iast h (SA_a hb) (by omega) (by omega) ((SA_r hb ((6 * p) + l3_5)).trans (sg_num (by omega) (by omega))) (by omega) (by omega) dX12_goPut_57 ?_
        refine fr_mem (fun x7 m8 => ?_)
        refine fr_aload_n h rfl 0 rfl dX12_goPut_58 ?_
        refine fr_bipush h rfl dX12_goPut_59 ?_
        refine fr_iload_n h rfl 1 rfl dX12_goPut_61 ?_
        refine fr_iadd h dX12_goPut_62 ?_
        refine fr_dup2_11 h rfl rfl dX12_goPut_63 ?_
        refine fr_iald h (SA_a hb) (by omega) (by omega) ((SA_r hb (24 + p)).trans (sg_len (by omega) (by omega))) dX12_goPut_64 (fun z9 w10 w11 q12 => ?_)
        have r13 := fm_rd_b (b := (24 + p)) m8
        refine fr_iconst h dX12_goPut_65 ?_
        refine fr_iadd h dX12_goPut_66 ?_
        refine fr_iast h (SA_a hb) (by omega) (by omega) ((SA_r hb (24 + p)).trans (sg_len (by omega) (by omega))) (by omega) (by omega) dX12_goPut_67 ?_
        refine fr_mem (fun x14 m15 => ?_)
        refine fr_iload_n h rfl 3 rfl dX12_goPut_68 ?_
        have r16 := (fm_rd_s m15)
        exact fr_iret h hq (by omega) ⟨(by omega), (by omega), (fun i a c => ((fm_rd_i m15 (by omega)).trans ((fm_rd_i m8 (by omega)).trans ((g5_4 i a))))), (fun a k0 => ((fm_up_row m15 (by omega)).trans ((fm_up_row m8 (by omega)).trans (g5_5 a (by omega)))))⟩ dX12_goPut_69
      ·
        refine fr_aload_n h rfl 0 rfl dX12_goPut_11 ?_
        refine fr_bipush h rfl dX12_goPut_12 ?_
        refine fr_iload_n h rfl 1 rfl dX12_goPut_14 ?_
        refine fr_imul h dX12_goPut_15 ?_
        refine fr_iload_n h rfl 3 rfl dX12_goPut_16 ?_
        refine fr_iadd h dX12_goPut_17 ?_
        refine fr_iconst h dX12_goPut_18 ?_
        refine fr_isub h dX12_goPut_19 ?_
        refine fr_iald h (SA_a hb) (by omega) (by omega) ((SA_r hb (((6 * p) + l3_5) - 1)).trans (sg_num (by omega) (by omega))) dX12_goPut_20 (fun z17 w18 w19 q20 => ?_)
        refine fr_iload_n h rfl 2 rfl dX12_goPut_21 ?_
        refine fr_icmp_le (tgt := 49) h dX12_goPut_22 (by decide) (by omega) (by omega) (fun c21 => ?_) (fun c21 => ?_)
        ·
          refine fr_aload_n h rfl 0 rfl dX12_goPut_49 ?_
          refine fr_bipush h rfl dX12_goPut_50 ?_
          refine fr_iload_n h rfl 1 rfl dX12_goPut_52 ?_
          refine fr_imul h dX12_goPut_53 ?_
          refine fr_iload_n h rfl 3 rfl dX12_goPut_54 ?_
          refine fr_iadd h dX12_goPut_55 ?_
          refine fr_iload_n h rfl 2 rfl dX12_goPut_56 ?_
          have k24 := g5_4 (24 + p) (by omega)
          refine fr_iast h (SA_a hb) (by omega) (by omega) ((SA_r hb ((6 * p) + l3_5)).trans (sg_num (by omega) (by omega))) (by omega) (by omega) dX12_goPut_57 ?_
          refine fr_mem (fun x22 m23 => ?_)
          refine fr_aload_n h rfl 0 rfl dX12_goPut_58 ?_
          refine fr_bipush h rfl dX12_goPut_59 ?_
          refine fr_iload_n h rfl 1 rfl dX12_goPut_61 ?_
          refine fr_iadd h dX12_goPut_62 ?_
          refine fr_dup2_11 h rfl rfl dX12_goPut_63 ?_
          refine fr_iald h (SA_a hb) (by omega) (by omega) ((SA_r hb (24 + p)).trans (sg_len (by omega) (by omega))) dX12_goPut_64 (fun z24 w25 w26 q27 => ?_)
          have r28 := fm_rd_b (b := (24 + p)) m23
          refine fr_iconst h dX12_goPut_65 ?_
          refine fr_iadd h dX12_goPut_66 ?_
          refine fr_iast h (SA_a hb) (by omega) (by omega) ((SA_r hb (24 + p)).trans (sg_len (by omega) (by omega))) (by omega) (by omega) dX12_goPut_67 ?_
          refine fr_mem (fun x29 m30 => ?_)
          refine fr_iload_n h rfl 3 rfl dX12_goPut_68 ?_
          have r31 := (fm_rd_s m30)
          exact fr_iret h hq (by omega) ⟨(by omega), (by omega), (fun i a c => ((fm_rd_i m30 (by omega)).trans ((fm_rd_i m23 (by omega)).trans ((g5_4 i a))))), (fun a k0 => ((fm_up_row m30 (by omega)).trans ((fm_up_row m23 (by omega)).trans (g5_5 a (by omega)))))⟩ dX12_goPut_69
        ·
          refine fr_aload_n h rfl 0 rfl dX12_goPut_25 ?_
          refine fr_bipush h rfl dX12_goPut_26 ?_
          refine fr_iload_n h rfl 1 rfl dX12_goPut_28 ?_
          refine fr_imul h dX12_goPut_29 ?_
          refine fr_iload_n h rfl 3 rfl dX12_goPut_30 ?_
          refine fr_iadd h dX12_goPut_31 ?_
          refine fr_aload_n h rfl 0 rfl dX12_goPut_32 ?_
          refine fr_bipush h rfl dX12_goPut_33 ?_
          refine fr_iload_n h rfl 1 rfl dX12_goPut_35 ?_
          refine fr_imul h dX12_goPut_36 ?_
          refine fr_iload_n h rfl 3 rfl dX12_goPut_37 ?_
          refine fr_iadd h dX12_goPut_38 ?_
          refine fr_iconst h dX12_goPut_39 ?_
          refine fr_isub h dX12_goPut_40 ?_
          refine fr_iald h (SA_a hb) (by omega) (by omega) ((SA_r hb (((6 * p) + l3_5) - 1)).trans (sg_num (by omega) (by omega))) dX12_goPut_41 (fun z32 w33 w34 q35 => ?_)
          refine fr_iast h (SA_a hb) (by omega) (by omega) ((SA_r hb ((6 * p) + l3_5)).trans (sg_num (by omega) (by omega))) (by omega) (by omega) dX12_goPut_42 ?_
          refine fr_mem (fun x36 m37 => ?_)
          refine fr_iinc (j := 3) (L' := [(0, vr G b), (1, vi p), (2, vi v), (3, vi (l3_5 + (-1)))]) h dX12_goPut_43 rfl (by decide) [1, 2, 3, 0] rfl ?_
          refine fr_goto (tgt := 7) h dX12_goPut_46 (by decide) ?_
          exact ih5 (l3_5 + (-1)) x36 (by omega) (by omega) (by omega) (by omega) (fun i a => (fm_rd_i m37 (by omega)).trans (g5_4 i a)) (fun a k0 => ((fm_up_row m37 (by omega)).trans (g5_5 a (by omega)))) (by omega)
  exact HL5 (z1 + 1 : Int).toNat z1 x (by omega) (by omega) (by omega) (by omega) (fun i a => rfl) (fun a _ => rfl) (by omega)
set_option maxHeartbeats 200000 in
theorem c_X12_goTake (x : Mm) (b : Int) (hb : isSA b) (p : Int) (w : Int) (h_p : fm_r p) (h_w : fm_r w) (e0 : 0 ≤ p) (e1 : p ≤ 3) (e2 : 0 ≤ w) (e3 : w < x b (24 + p)) : CnI YM yX12_goTake cX12_goTake 5 .int 0 0 (fun G => [vr G b, vi p, vi w]) x (fun z y' => (0 ≤ z) ∧ (z ≤ 99) ∧ (∀ i : Int, 28 ≤ i → y' b i = x b i) ∧ (∀ a : Int, (a < b ∨ b < a) → y' a = x a)) := by
  refine cn_I (by decide) (fun _ => Nat.le_of_ble_eq_true rfl) (fun G C h hq => ?_)
  have h : OK YM G C cX12_goTake RX12 5 (some .int) 0 0 := h
  show FW YM G C 5 x 0 [(0, vr G b), (1, vi p), (2, vi w)] []
  have h_b := SA_b hb
  refine fr_rng (fun hR => ?_)
  have hw : 0 ≤ x b (24 + p) ∧ x b (24 + p) ≤ 6 := by have q := hR b (24 + p); rw [SA_r hb, sg_len (by omega) (by omega)] at q; exact q
  refine fr_aload_n h rfl 0 rfl dX12_goTake_0 ?_
  refine fr_bipush h rfl dX12_goTake_1 ?_
  refine fr_iload_n h rfl 1 rfl dX12_goTake_3 ?_
  refine fr_imul h dX12_goTake_4 ?_
  refine fr_iload_n h rfl 2 rfl dX12_goTake_5 ?_
  refine fr_iadd h dX12_goTake_6 ?_
  refine fr_iald h (SA_a hb) (by omega) (by omega) ((SA_r hb ((6 * p) + w)).trans (sg_num (by omega) (by omega))) dX12_goTake_7 (fun z1 w2 w3 q4 => ?_)
  refine fr_istore_n (L' := [(0, vr G b), (1, vi p), (2, vi w), (3, vi z1)]) h rfl dX12_goTake_8 (by decide) [1, 2, 3, 0] rfl ?_
  refine fr_aload_n h rfl 0 rfl dX12_goTake_9 ?_
  refine fr_bipush h rfl dX12_goTake_10 ?_
  refine fr_iload_n h rfl 1 rfl dX12_goTake_12 ?_
  refine fr_iadd h dX12_goTake_13 ?_
  refine fr_dup2_11 h rfl rfl dX12_goTake_14 ?_
  refine fr_iald h (SA_a hb) (by omega) (by omega) ((SA_r hb (24 + p)).trans (sg_len (by omega) (by omega))) dX12_goTake_15 (fun z5 w6 w7 q8 => ?_)
  refine fr_iconst h dX12_goTake_16 ?_
  refine fr_isub h dX12_goTake_17 ?_
  refine fr_iast h (SA_a hb) (by omega) (by omega) ((SA_r hb (24 + p)).trans (sg_len (by omega) (by omega))) (by omega) (by omega) dX12_goTake_18 ?_
  refine fr_mem (fun x9 m10 => ?_)
  refine fr_iload_n h rfl 2 rfl dX12_goTake_19 ?_
  refine fr_istore (L' := [(0, vr G b), (1, vi p), (2, vi w), (3, vi z1), (4, vi w)]) h dX12_goTake_20 (by decide) [1, 2, 3, 4, 0] rfl ?_
  have HL11 : ∀ (n11 : Nat) (l4_11 : Int) (x_11 : Mm), fm_r l4_11 → 0 ≤ l4_11 → l4_11 ≤ 6 → (∀ i : Int, 24 ≤ i → x_11 b i = x9 b i) → (∀ a : Int, (a < b ∨ b < a) → x_11 a = x9 a) → (6 - l4_11) < n11 → FW YM G C 5 x_11 22 [(0, vr G b), (1, vi p), (2, vi w), (3, vi z1), (4, vi l4_11)] [] := by
    intro n11
    induction n11 with
    | zero =>
      intro l4_11 x_11 g11_0 g11_1 g11_2 g11_3 g11_4 g11_5
      exfalso; omega
    | succ n11 ih11 =>
      intro l4_11 x_11 g11_0 g11_1 g11_2 g11_3 g11_4 g11_5
      refine fr_iload h 4 rfl dX12_goTake_22 ?_
      refine fr_aload_n h rfl 0 rfl dX12_goTake_24 ?_
      refine fr_bipush h rfl dX12_goTake_25 ?_
      refine fr_iload_n h rfl 1 rfl dX12_goTake_27 ?_
      refine fr_iadd h dX12_goTake_28 ?_
      refine fr_iald h (SA_a hb) (by omega) (by omega) ((SA_r hb (24 + p)).trans (sg_len (by omega) (by omega))) dX12_goTake_29 (fun z12 w13 w14 q15 => ?_)
      have r16 := (fm_rd_s m10)
      have k24 := g11_3 (24 + p) (by omega)
      refine fr_icmp_ge (tgt := 59) h dX12_goTake_30 (by decide) (by omega) (by omega) (fun c17 => ?_) (fun c17 => ?_)
      ·
        refine fr_iload_n h rfl 3 rfl dX12_goTake_59 ?_
        exact fr_iret h hq (by omega) ⟨(by omega), (by omega), (fun i a => (g11_3 i (by omega)).trans (fm_rd_i m10 (by omega))), (fun a k0 => ((g11_4 a (by omega)).trans (fm_up_row m10 (by omega))))⟩ dX12_goTake_60
      ·
        refine fr_aload_n h rfl 0 rfl dX12_goTake_33 ?_
        refine fr_bipush h rfl dX12_goTake_34 ?_
        refine fr_iload_n h rfl 1 rfl dX12_goTake_36 ?_
        refine fr_imul h dX12_goTake_37 ?_
        refine fr_iload h 4 rfl dX12_goTake_38 ?_
        refine fr_iadd h dX12_goTake_40 ?_
        refine fr_aload_n h rfl 0 rfl dX12_goTake_41 ?_
        refine fr_bipush h rfl dX12_goTake_42 ?_
        refine fr_iload_n h rfl 1 rfl dX12_goTake_44 ?_
        refine fr_imul h dX12_goTake_45 ?_
        refine fr_iload h 4 rfl dX12_goTake_46 ?_
        refine fr_iadd h dX12_goTake_48 ?_
        refine fr_iconst h dX12_goTake_49 ?_
        refine fr_iadd h dX12_goTake_50 ?_
        refine fr_iald h (SA_a hb) (by omega) (by omega) ((SA_r hb (((6 * p) + l4_11) + 1)).trans (sg_num (by omega) (by omega))) dX12_goTake_51 (fun z18 w19 w20 q21 => ?_)
        have r22 := fm_rd_b (b := (((6 * p) + l4_11) + 1)) m10
        refine fr_iast h (SA_a hb) (by omega) (by omega) ((SA_r hb ((6 * p) + l4_11)).trans (sg_num (by omega) (by omega))) (by omega) (by omega) dX12_goTake_52 ?_
        refine fr_mem (fun x23 m24 => ?_)
        refine fr_iinc (j := 4) (L' := [(0, vr G b), (1, vi p), (2, vi w), (3, vi z1), (4, vi (l4_11 + 1))]) h dX12_goTake_53 rfl (by decide) [1, 2, 3, 4, 0] rfl ?_
        refine fr_goto (tgt := 22) h dX12_goTake_56 (by decide) ?_
        exact ih11 (l4_11 + 1) x23 (by omega) (by omega) (by omega) (fun i a => (fm_rd_i m24 (by omega)).trans (g11_3 i a)) (fun a k0 => ((fm_up_row m24 (by omega)).trans (g11_4 a (by omega)))) (by omega)
  exact HL11 ((6 - w) + 1 : Int).toNat w x9 (by omega) (by omega) (by omega) (fun i a => rfl) (fun a _ => rfl) (by omega)
set_option maxHeartbeats 200000 in
theorem c_X12_refusesPut (x : Mm) (b : Int) (hb : isSA b) (p : Int) (v : Int) (h_p : fm_r p) (h_v : fm_r v) : CnI YM yX12_refusesPut cX12_refusesPut 3 .int 2 42 (fun G => [vr G b, vi p, vi v]) x (fun z y' => ((-2) ≤ z) ∧ (z ≤ 0) ∧ (z = 0 → 0 ≤ p ∧ p ≤ 3 ∧ 0 ≤ v ∧ v ≤ 99 ∧ x b (24 + p) ≤ 5) ∧ (y' = x)) := by
  refine cn_I (by decide) (fun _ => Nat.le_of_ble_eq_true rfl) (fun G C h hq => ?_)
  have h : OK YM G C cX12_refusesPut RX12 3 (some .int) 2 42 := h
  show FW YM G C 3 x 0 [(0, vr G b), (1, vi p), (2, vi v)] []
  have h_b := SA_b hb
  refine fr_iload_n h rfl 1 rfl dX12_refusesPut_0 ?_
  refine fr_csI h wX12_isList lX12_161 (c_X12_isList x p (by omega)) rfl (by decide) (by decide) rfl (Nat.le_of_ble_eq_true rfl) dX12_refusesPut_1 (fun z2 x1 w3 p4 => ?_)
  obtain ⟨p5, p6, y7⟩ := p4
  rw [y7]
  clear y7
  refine fr_if_eq (tgt := 17) h dX12_refusesPut_4 (by decide) (by omega) (fun c8 => ?_) (fun c8 => ?_)
  ·
    refine fr_iconst h dX12_refusesPut_17 ?_
    exact fr_iret h hq (by omega) ⟨(by omega), (by omega), (by omega), rfl⟩ dX12_refusesPut_18
  ·
    refine fr_iload_n h rfl 2 rfl dX12_refusesPut_7 ?_
    refine fr_iconst h dX12_refusesPut_8 ?_
    refine fr_bipush h rfl dX12_refusesPut_9 ?_
    refine fr_csI h wX12_in lX12_101 (c_X12_in x v 0 99 (by omega) (by omega) (by omega)) rfl (by decide) (by decide) rfl (Nat.le_of_ble_eq_true rfl) dX12_refusesPut_11 (fun z10 x9 w11 p12 => ?_)
    obtain ⟨p13, p14, y15⟩ := p12
    rw [y15]
    clear y15
    refine fr_if_ne (tgt := 19) h dX12_refusesPut_14 (by decide) (by omega) (fun c16 => ?_) (fun c16 => ?_)
    ·
      refine fr_aload_n h rfl 0 rfl dX12_refusesPut_19 ?_
      refine fr_bipush h rfl dX12_refusesPut_20 ?_
      refine fr_iload_n h rfl 1 rfl dX12_refusesPut_22 ?_
      refine fr_iadd h dX12_refusesPut_23 ?_
      refine fr_iald h (SA_a hb) (by omega) (by omega) ((SA_r hb (24 + p)).trans (sg_len (by omega) (by omega))) dX12_refusesPut_24 (fun z17 w18 w19 q20 => ?_)
      refine fr_bipush h rfl dX12_refusesPut_25 ?_
      refine fr_icmp_ne (tgt := 35) h dX12_refusesPut_27 (by decide) (by omega) (by omega) (fun c21 => ?_) (fun c21 => ?_)
      ·
        refine fr_iconst h dX12_refusesPut_35 ?_
        exact fr_iret h hq (by omega) ⟨(by omega), (by omega), (by omega), rfl⟩ dX12_refusesPut_36
      ·
        refine fr_bipush h rfl dX12_refusesPut_30 ?_
        refine fr_goto (tgt := 36) h dX12_refusesPut_32 (by decide) ?_
        exact fr_iret h hq (by omega) ⟨(by omega), (by omega), (by omega), rfl⟩ dX12_refusesPut_36
    ·
      refine fr_iconst h dX12_refusesPut_17 ?_
      exact fr_iret h hq (by omega) ⟨(by omega), (by omega), (by omega), rfl⟩ dX12_refusesPut_18
set_option maxHeartbeats 200000 in
theorem c_X12_canTake (x : Mm) (b : Int) (hb : isSA b) (p : Int) (w : Int) (h_p : fm_r p) (h_w : fm_r w) : CnI YM yX12_canTake cX12_canTake 3 .boolean 2 42 (fun G => [vr G b, vi p, vi w]) x (fun z y' => (z = 0 ∨ z = 1) ∧ (z = 1 → 0 ≤ p ∧ p ≤ 3 ∧ 0 ≤ w ∧ w < x b (24 + p)) ∧ (y' = x)) := by
  refine cn_I (by decide) (fun _ => Nat.le_of_ble_eq_true rfl) (fun G C h hq => ?_)
  have h : OK YM G C cX12_canTake RX12 3 (some .boolean) 2 42 := h
  show FW YM G C 3 x 0 [(0, vr G b), (1, vi p), (2, vi w)] []
  have h_b := SA_b hb
  refine fr_iload_n h rfl 1 rfl dX12_canTake_0 ?_
  refine fr_csI h wX12_isList lX12_161 (c_X12_isList x p (by omega)) rfl (by decide) (by decide) rfl (Nat.le_of_ble_eq_true rfl) dX12_canTake_1 (fun z2 x1 w3 p4 => ?_)
  obtain ⟨p5, p6, y7⟩ := p4
  rw [y7]
  clear y7
  refine fr_if_eq (tgt := 27) h dX12_canTake_4 (by decide) (by omega) (fun c8 => ?_) (fun c8 => ?_)
  ·
    refine fr_iconst h dX12_canTake_27 ?_
    exact fr_zret h rfl hq (by omega) ⟨(by omega), (by omega), rfl⟩ dX12_canTake_28
  ·
    refine fr_iload_n h rfl 2 rfl dX12_canTake_7 ?_
    refine fr_iconst h dX12_canTake_8 ?_
    refine fr_aload_n h rfl 0 rfl dX12_canTake_9 ?_
    refine fr_bipush h rfl dX12_canTake_10 ?_
    refine fr_iload_n h rfl 1 rfl dX12_canTake_12 ?_
    refine fr_iadd h dX12_canTake_13 ?_
    refine fr_iald h (SA_a hb) (by omega) (by omega) ((SA_r hb (24 + p)).trans (sg_len (by omega) (by omega))) dX12_canTake_14 (fun z9 w10 w11 q12 => ?_)
    refine fr_iconst h dX12_canTake_15 ?_
    refine fr_isub h dX12_canTake_16 ?_
    refine fr_csI h wX12_in lX12_101 (c_X12_in x w 0 (z9 - 1) (by omega) (by omega) (by omega)) rfl (by decide) (by decide) rfl (Nat.le_of_ble_eq_true rfl) dX12_canTake_17 (fun z14 x13 w15 p16 => ?_)
    obtain ⟨p17, p18, y19⟩ := p16
    rw [y19]
    clear y19
    refine fr_if_eq (tgt := 27) h dX12_canTake_20 (by decide) (by omega) (fun c20 => ?_) (fun c20 => ?_)
    ·
      refine fr_iconst h dX12_canTake_27 ?_
      exact fr_zret h rfl hq (by omega) ⟨(by omega), (by omega), rfl⟩ dX12_canTake_28
    ·
      refine fr_iconst h dX12_canTake_23 ?_
      refine fr_goto (tgt := 28) h dX12_canTake_24 (by decide) ?_
      exact fr_zret h rfl hq (by omega) ⟨(by omega), (by omega), rfl⟩ dX12_canTake_28
set_option maxHeartbeats 200000 in
theorem c_X12_refusesJoin (x : Mm) (b : Int) (hb : isSA b) (p : Int) (w : Int) (v : Int) (h_p : fm_r p) (h_w : fm_r w) (h_v : fm_r v) : CnI YM yX12_refusesJoin cX12_refusesJoin 4 .int 2 45 (fun G => [vr G b, vi p, vi w, vi v]) x (fun z y' => ((-3) ≤ z) ∧ (z ≤ 0) ∧ (z = 0 → 0 ≤ p ∧ p < 7 ∧ 0 ≤ w ∧ w < 7 ∧ p ≠ w ∧ 0 ≤ v ∧ v ≤ 99 ∧ (0 < x b (28 + 7 * p + w) ∨ ec (x b) 49 ≠ 12)) ∧ (y' = x)) := by
  refine cn_I (by decide) (fun _ => Nat.le_of_ble_eq_true rfl) (fun G C h hq => ?_)
  have h : OK YM G C cX12_refusesJoin RX12 4 (some .int) 2 45 := h
  show FW YM G C 4 x 0 [(0, vr G b), (1, vi p), (2, vi w), (3, vi v)] []
  have h_b := SA_b hb
  refine fr_iload_n h rfl 1 rfl dX12_refusesJoin_0 ?_
  refine fr_iconst h dX12_refusesJoin_1 ?_
  refine fr_bipush h rfl dX12_refusesJoin_2 ?_
  refine fr_csI h wX12_in lX12_101 (c_X12_in x p 0 6 (by omega) (by omega) (by omega)) rfl (by decide) (by decide) rfl (Nat.le_of_ble_eq_true rfl) dX12_refusesJoin_4 (fun z2 x1 w3 p4 => ?_)
  obtain ⟨p5, p6, y7⟩ := p4
  rw [y7]
  clear y7
  refine fr_if_eq (tgt := 35) h dX12_refusesJoin_7 (by decide) (by omega) (fun c8 => ?_) (fun c8 => ?_)
  ·
    refine fr_iconst h dX12_refusesJoin_35 ?_
    exact fr_iret h hq (by omega) ⟨(by omega), (by omega), (by omega), rfl⟩ dX12_refusesJoin_36
  ·
    refine fr_iload_n h rfl 2 rfl dX12_refusesJoin_10 ?_
    refine fr_iconst h dX12_refusesJoin_11 ?_
    refine fr_bipush h rfl dX12_refusesJoin_12 ?_
    refine fr_csI h wX12_in lX12_101 (c_X12_in x w 0 6 (by omega) (by omega) (by omega)) rfl (by decide) (by decide) rfl (Nat.le_of_ble_eq_true rfl) dX12_refusesJoin_14 (fun z10 x9 w11 p12 => ?_)
    obtain ⟨p13, p14, y15⟩ := p12
    rw [y15]
    clear y15
    refine fr_if_eq (tgt := 35) h dX12_refusesJoin_17 (by decide) (by omega) (fun c16 => ?_) (fun c16 => ?_)
    ·
      refine fr_iconst h dX12_refusesJoin_35 ?_
      exact fr_iret h hq (by omega) ⟨(by omega), (by omega), (by omega), rfl⟩ dX12_refusesJoin_36
    ·
      refine fr_iload_n h rfl 1 rfl dX12_refusesJoin_20 ?_
      refine fr_iload_n h rfl 2 rfl dX12_refusesJoin_21 ?_
      refine fr_icmp_eq (tgt := 35) h dX12_refusesJoin_22 (by decide) (by omega) (by omega) (fun c17 => ?_) (fun c17 => ?_)
      ·
        refine fr_iconst h dX12_refusesJoin_35 ?_
        exact fr_iret h hq (by omega) ⟨(by omega), (by omega), (by omega), rfl⟩ dX12_refusesJoin_36
      ·
        refine fr_iload_n h rfl 3 rfl dX12_refusesJoin_25 ?_
        refine fr_iconst h dX12_refusesJoin_26 ?_
        refine fr_bipush h rfl dX12_refusesJoin_27 ?_
        refine fr_csI h wX12_in lX12_101 (c_X12_in x v 0 99 (by omega) (by omega) (by omega)) rfl (by decide) (by decide) rfl (Nat.le_of_ble_eq_true rfl) dX12_refusesJoin_29 (fun z19 x18 w20 p21 => ?_)
        obtain ⟨p22, p23, y24⟩ := p21
        rw [y24]
        clear y24
        refine fr_if_ne (tgt := 37) h dX12_refusesJoin_32 (by decide) (by omega) (fun c25 => ?_) (fun c25 => ?_)
        ·
          refine fr_aload_n h rfl 0 rfl dX12_refusesJoin_37 ?_
          refine fr_iload_n h rfl 1 rfl dX12_refusesJoin_38 ?_
          refine fr_iload_n h rfl 2 rfl dX12_refusesJoin_39 ?_
          refine fr_csI h wX12_weightOf lX12_105 (c_X12_weightOf x b hb p w (by omega) (by omega) (by omega) (by omega) (by omega) (by omega)) rfl (by decide) (by decide) rfl (Nat.le_of_ble_eq_true rfl) dX12_refusesJoin_40 (fun z27 x26 w28 p29 => ?_)
          obtain ⟨p30, p31, p32, y33⟩ := p29
          rw [y33]
          clear y33
          refine fr_if_le (tgt := 48) h dX12_refusesJoin_43 (by decide) (by omega) (fun c34 => ?_) (fun c34 => ?_)
          ·
            refine fr_iload_n h rfl 3 rfl dX12_refusesJoin_48 ?_
            refine fr_if_ne (tgt := 57) h dX12_refusesJoin_49 (by decide) (by omega) (fun c35 => ?_) (fun c35 => ?_)
            ·
              refine fr_aload_n h rfl 0 rfl dX12_refusesJoin_57 ?_
              refine fr_csI h wX12_edgesOf lX12_216 (c_X12_edgesOf x b hb) rfl (by decide) (by decide) rfl (Nat.le_of_ble_eq_true rfl) dX12_refusesJoin_58 (fun z37 x36 w38 p39 => ?_)
              obtain ⟨p40, p41, p42, y43⟩ := p39
              rw [y43]
              clear y43
              refine fr_bipush h rfl dX12_refusesJoin_61 ?_
              refine fr_icmp_ne (tgt := 71) h dX12_refusesJoin_63 (by decide) (by omega) (by omega) (fun c44 => ?_) (fun c44 => ?_)
              ·
                refine fr_iconst h dX12_refusesJoin_71 ?_
                exact fr_iret h hq (by omega) ⟨(by omega), (by omega), (by omega), rfl⟩ dX12_refusesJoin_72
              ·
                refine fr_bipush h rfl dX12_refusesJoin_66 ?_
                refine fr_goto (tgt := 72) h dX12_refusesJoin_68 (by decide) ?_
                exact fr_iret h hq (by omega) ⟨(by omega), (by omega), (by omega), rfl⟩ dX12_refusesJoin_72
            ·
              refine fr_bipush h rfl dX12_refusesJoin_52 ?_
              refine fr_goto (tgt := 72) h dX12_refusesJoin_54 (by decide) ?_
              exact fr_iret h hq (by omega) ⟨(by omega), (by omega), (by omega), rfl⟩ dX12_refusesJoin_72
          ·
            refine fr_iconst h dX12_refusesJoin_46 ?_
            exact fr_iret h hq (by omega) ⟨(by omega), (by omega), (by omega), rfl⟩ dX12_refusesJoin_47
        ·
          refine fr_iconst h dX12_refusesJoin_35 ?_
          exact fr_iret h hq (by omega) ⟨(by omega), (by omega), (by omega), rfl⟩ dX12_refusesJoin_36
set_option maxHeartbeats 200000 in
theorem c_X12_canCost (x : Mm) (p : Int) (w : Int) (v : Int) (h_p : fm_r p) (h_w : fm_r w) (h_v : fm_r v) : CnI YM yX12_canCost cX12_canCost 3 .boolean 1 22 (fun G => [vi p, vi w, vi v]) x (fun z y' => (z = 0 ∨ z = 1) ∧ ((z = 1 ↔ 0 ≤ p ∧ p ≤ 4 ∧ 0 ≤ w ∧ w ≤ 4 ∧ 0 ≤ v ∧ v ≤ 99)) ∧ (y' = x)) := by
  refine cn_I (by decide) (fun _ => Nat.le_of_ble_eq_true rfl) (fun G C h hq => ?_)
  have h : OK YM G C cX12_canCost RX12 3 (some .boolean) 1 22 := h
  show FW YM G C 3 x 0 [(0, vi p), (1, vi w), (2, vi v)] []
  refine fr_iload_n h rfl 0 rfl dX12_canCost_0 ?_
  refine fr_iconst h dX12_canCost_1 ?_
  refine fr_iconst h dX12_canCost_2 ?_
  refine fr_csI h wX12_in lX12_101 (c_X12_in x p 0 4 (by omega) (by omega) (by omega)) rfl (by decide) (by decide) rfl (Nat.le_of_ble_eq_true rfl) dX12_canCost_3 (fun z2 x1 w3 p4 => ?_)
  obtain ⟨p5, p6, y7⟩ := p4
  rw [y7]
  clear y7
  refine fr_if_eq (tgt := 32) h dX12_canCost_6 (by decide) (by omega) (fun c8 => ?_) (fun c8 => ?_)
  ·
    refine fr_iconst h dX12_canCost_32 ?_
    exact fr_zret h rfl hq (by omega) ⟨(by omega), (by omega), rfl⟩ dX12_canCost_33
  ·
    refine fr_iload_n h rfl 1 rfl dX12_canCost_9 ?_
    refine fr_iconst h dX12_canCost_10 ?_
    refine fr_iconst h dX12_canCost_11 ?_
    refine fr_csI h wX12_in lX12_101 (c_X12_in x w 0 4 (by omega) (by omega) (by omega)) rfl (by decide) (by decide) rfl (Nat.le_of_ble_eq_true rfl) dX12_canCost_12 (fun z10 x9 w11 p12 => ?_)
    obtain ⟨p13, p14, y15⟩ := p12
    rw [y15]
    clear y15
    refine fr_if_eq (tgt := 32) h dX12_canCost_15 (by decide) (by omega) (fun c16 => ?_) (fun c16 => ?_)
    ·
      refine fr_iconst h dX12_canCost_32 ?_
      exact fr_zret h rfl hq (by omega) ⟨(by omega), (by omega), rfl⟩ dX12_canCost_33
    ·
      refine fr_iload_n h rfl 2 rfl dX12_canCost_18 ?_
      refine fr_iconst h dX12_canCost_19 ?_
      refine fr_bipush h rfl dX12_canCost_20 ?_
      refine fr_csI h wX12_in lX12_101 (c_X12_in x v 0 99 (by omega) (by omega) (by omega)) rfl (by decide) (by decide) rfl (Nat.le_of_ble_eq_true rfl) dX12_canCost_22 (fun z18 x17 w19 p20 => ?_)
      obtain ⟨p21, p22, y23⟩ := p20
      rw [y23]
      clear y23
      refine fr_if_eq (tgt := 32) h dX12_canCost_25 (by decide) (by omega) (fun c24 => ?_) (fun c24 => ?_)
      ·
        refine fr_iconst h dX12_canCost_32 ?_
        exact fr_zret h rfl hq (by omega) ⟨(by omega), (by omega), rfl⟩ dX12_canCost_33
      ·
        refine fr_iconst h dX12_canCost_28 ?_
        refine fr_goto (tgt := 33) h dX12_canCost_29 (by decide) ?_
        exact fr_zret h rfl hq (by omega) ⟨(by omega), (by omega), rfl⟩ dX12_canCost_33
set_option maxHeartbeats 200000 in
theorem c_X12_refusesSet (x : Mm) (b : Int) (hb : isSA b) (p : Int) (v : Int) (h_p : fm_r p) (h_v : fm_r v) : CnI YM yX12_refusesSet cX12_refusesSet 3 .int 1 22 (fun G => [vr G b, vi p, vi v]) x (fun z y' => ((-2) ≤ z) ∧ (z ≤ 0) ∧ (z = 0 → (p = 0 ∧ 0 ≤ v ∧ v ≤ 5) ∨ (p = 1 ∧ 0 ≤ v ∧ v ≤ 3)) ∧ (y' = x)) := by
  refine cn_I (by decide) (fun _ => Nat.le_of_ble_eq_true rfl) (fun G C h hq => ?_)
  have h : OK YM G C cX12_refusesSet RX12 3 (some .int) 1 22 := h
  show FW YM G C 3 x 0 [(0, vr G b), (1, vi p), (2, vi v)] []
  have h_b := SA_b hb
  refine fr_iload_n h rfl 1 rfl dX12_refusesSet_0 ?_
  refine fr_iconst h dX12_refusesSet_1 ?_
  refine fr_iconst h dX12_refusesSet_2 ?_
  refine fr_csI h wX12_in lX12_101 (c_X12_in x p 0 1 (by omega) (by omega) (by omega)) rfl (by decide) (by decide) rfl (Nat.le_of_ble_eq_true rfl) dX12_refusesSet_3 (fun z2 x1 w3 p4 => ?_)
  obtain ⟨p5, p6, y7⟩ := p4
  rw [y7]
  clear y7
  refine fr_if_eq (tgt := 26) h dX12_refusesSet_6 (by decide) (by omega) (fun c8 => ?_) (fun c8 => ?_)
  ·
    refine fr_iconst h dX12_refusesSet_26 ?_
    exact fr_iret h hq (by omega) ⟨(by omega), (by omega), (by omega), rfl⟩ dX12_refusesSet_27
  ·
    refine fr_iload_n h rfl 2 rfl dX12_refusesSet_9 ?_
    refine fr_iconst h dX12_refusesSet_10 ?_
    refine fr_iload_n h rfl 1 rfl dX12_refusesSet_11 ?_
    refine fr_if_ne (tgt := 19) h dX12_refusesSet_12 (by decide) (by omega) (fun c9 => ?_) (fun c9 => ?_)
    ·
      refine fr_iconst h dX12_refusesSet_19 ?_
      refine fr_csI h wX12_in lX12_101 (c_X12_in x v 0 3 (by omega) (by omega) (by omega)) rfl (by decide) (by decide) rfl (Nat.le_of_ble_eq_true rfl) dX12_refusesSet_20 (fun z11 x10 w12 p13 => ?_)
      obtain ⟨p14, p15, y16⟩ := p13
      rw [y16]
      clear y16
      refine fr_if_ne (tgt := 28) h dX12_refusesSet_23 (by decide) (by omega) (fun c17 => ?_) (fun c17 => ?_)
      ·
        refine fr_aload_n h rfl 0 rfl dX12_refusesSet_28 ?_
        refine fr_iload_n h rfl 1 rfl dX12_refusesSet_29 ?_
        refine fr_if_ne (tgt := 38) h dX12_refusesSet_30 (by decide) (by omega) (fun c18 => ?_) (fun c18 => ?_)
        ·
          refine fr_bipush h rfl dX12_refusesSet_38 ?_
          refine fr_iald h (SA_a hb) (by omega) (by omega) ((SA_r hb 105).trans sg_pick) dX12_refusesSet_40 (fun z19 w20 w21 q22 => ?_)
          refine fr_iload_n h rfl 2 rfl dX12_refusesSet_41 ?_
          refine fr_icmp_ne (tgt := 50) h dX12_refusesSet_42 (by decide) (by omega) (by omega) (fun c23 => ?_) (fun c23 => ?_)
          ·
            refine fr_iconst h dX12_refusesSet_50 ?_
            exact fr_iret h hq (by omega) ⟨(by omega), (by omega), (by omega), rfl⟩ dX12_refusesSet_51
          ·
            refine fr_bipush h rfl dX12_refusesSet_45 ?_
            refine fr_goto (tgt := 51) h dX12_refusesSet_47 (by decide) ?_
            exact fr_iret h hq (by omega) ⟨(by omega), (by omega), (by omega), rfl⟩ dX12_refusesSet_51
        ·
          refine fr_bipush h rfl dX12_refusesSet_33 ?_
          refine fr_goto (tgt := 40) h dX12_refusesSet_35 (by decide) ?_
          refine fr_iald h (SA_a hb) (by omega) (by omega) ((SA_r hb 102).trans sg_size) dX12_refusesSet_40 (fun z24 w25 w26 q27 => ?_)
          refine fr_iload_n h rfl 2 rfl dX12_refusesSet_41 ?_
          refine fr_icmp_ne (tgt := 50) h dX12_refusesSet_42 (by decide) (by omega) (by omega) (fun c28 => ?_) (fun c28 => ?_)
          ·
            refine fr_iconst h dX12_refusesSet_50 ?_
            exact fr_iret h hq (by omega) ⟨(by omega), (by omega), (by omega), rfl⟩ dX12_refusesSet_51
          ·
            refine fr_bipush h rfl dX12_refusesSet_45 ?_
            refine fr_goto (tgt := 51) h dX12_refusesSet_47 (by decide) ?_
            exact fr_iret h hq (by omega) ⟨(by omega), (by omega), (by omega), rfl⟩ dX12_refusesSet_51
      ·
        refine fr_iconst h dX12_refusesSet_26 ?_
        exact fr_iret h hq (by omega) ⟨(by omega), (by omega), (by omega), rfl⟩ dX12_refusesSet_27
    ·
      refine fr_iconst h dX12_refusesSet_15 ?_
      refine fr_goto (tgt := 20) h dX12_refusesSet_16 (by decide) ?_
      refine fr_csI h wX12_in lX12_101 (c_X12_in x v 0 5 (by omega) (by omega) (by omega)) rfl (by decide) (by decide) rfl (Nat.le_of_ble_eq_true rfl) dX12_refusesSet_20 (fun z30 x29 w31 p32 => ?_)
      obtain ⟨p33, p34, y35⟩ := p32
      rw [y35]
      clear y35
      refine fr_if_ne (tgt := 28) h dX12_refusesSet_23 (by decide) (by omega) (fun c36 => ?_) (fun c36 => ?_)
      ·
        refine fr_aload_n h rfl 0 rfl dX12_refusesSet_28 ?_
        refine fr_iload_n h rfl 1 rfl dX12_refusesSet_29 ?_
        refine fr_if_ne (tgt := 38) h dX12_refusesSet_30 (by decide) (by omega) (fun c37 => by exfalso; omega) (fun c37 => ?_)
        refine fr_bipush h rfl dX12_refusesSet_33 ?_
        refine fr_goto (tgt := 40) h dX12_refusesSet_35 (by decide) ?_
        refine fr_iald h (SA_a hb) (by omega) (by omega) ((SA_r hb 102).trans sg_size) dX12_refusesSet_40 (fun z38 w39 w40 q41 => ?_)
        refine fr_iload_n h rfl 2 rfl dX12_refusesSet_41 ?_
        refine fr_icmp_ne (tgt := 50) h dX12_refusesSet_42 (by decide) (by omega) (by omega) (fun c42 => ?_) (fun c42 => ?_)
        ·
          refine fr_iconst h dX12_refusesSet_50 ?_
          exact fr_iret h hq (by omega) ⟨(by omega), (by omega), (by omega), rfl⟩ dX12_refusesSet_51
        ·
          refine fr_bipush h rfl dX12_refusesSet_45 ?_
          refine fr_goto (tgt := 51) h dX12_refusesSet_47 (by decide) ?_
          exact fr_iret h hq (by omega) ⟨(by omega), (by omega), (by omega), rfl⟩ dX12_refusesSet_51
      ·
        refine fr_iconst h dX12_refusesSet_26 ?_
        exact fr_iret h hq (by omega) ⟨(by omega), (by omega), (by omega), rfl⟩ dX12_refusesSet_27
set_option maxHeartbeats 200000 in
theorem c_X12_canEnd (x : Mm) (p : Int) (w : Int) (h_p : fm_r p) (h_w : fm_r w) : CnI YM yX12_canEnd cX12_canEnd 2 .boolean 1 22 (fun G => [vi p, vi w]) x (fun z y' => (z = 0 ∨ z = 1) ∧ ((z = 1 ↔ 0 ≤ p ∧ p ≤ 6 ∧ 0 ≤ w ∧ w ≤ 6 ∧ p ≠ w)) ∧ (y' = x)) := by
  refine cn_I (by decide) (fun _ => Nat.le_of_ble_eq_true rfl) (fun G C h hq => ?_)
  have h : OK YM G C cX12_canEnd RX12 2 (some .boolean) 1 22 := h
  show FW YM G C 2 x 0 [(0, vi p), (1, vi w)] []
  refine fr_iload_n h rfl 0 rfl dX12_canEnd_0 ?_
  refine fr_iconst h dX12_canEnd_1 ?_
  refine fr_bipush h rfl dX12_canEnd_2 ?_
  refine fr_csI h wX12_in lX12_101 (c_X12_in x p 0 6 (by omega) (by omega) (by omega)) rfl (by decide) (by decide) rfl (Nat.le_of_ble_eq_true rfl) dX12_canEnd_4 (fun z2 x1 w3 p4 => ?_)
  obtain ⟨p5, p6, y7⟩ := p4
  rw [y7]
  clear y7
  refine fr_if_eq (tgt := 29) h dX12_canEnd_7 (by decide) (by omega) (fun c8 => ?_) (fun c8 => ?_)
  ·
    refine fr_iconst h dX12_canEnd_29 ?_
    exact fr_zret h rfl hq (by omega) ⟨(by omega), (by omega), rfl⟩ dX12_canEnd_30
  ·
    refine fr_iload_n h rfl 1 rfl dX12_canEnd_10 ?_
    refine fr_iconst h dX12_canEnd_11 ?_
    refine fr_bipush h rfl dX12_canEnd_12 ?_
    refine fr_csI h wX12_in lX12_101 (c_X12_in x w 0 6 (by omega) (by omega) (by omega)) rfl (by decide) (by decide) rfl (Nat.le_of_ble_eq_true rfl) dX12_canEnd_14 (fun z10 x9 w11 p12 => ?_)
    obtain ⟨p13, p14, y15⟩ := p12
    rw [y15]
    clear y15
    refine fr_if_eq (tgt := 29) h dX12_canEnd_17 (by decide) (by omega) (fun c16 => ?_) (fun c16 => ?_)
    ·
      refine fr_iconst h dX12_canEnd_29 ?_
      exact fr_zret h rfl hq (by omega) ⟨(by omega), (by omega), rfl⟩ dX12_canEnd_30
    ·
      refine fr_iload_n h rfl 0 rfl dX12_canEnd_20 ?_
      refine fr_iload_n h rfl 1 rfl dX12_canEnd_21 ?_
      refine fr_icmp_eq (tgt := 29) h dX12_canEnd_22 (by decide) (by omega) (by omega) (fun c17 => ?_) (fun c17 => ?_)
      ·
        refine fr_iconst h dX12_canEnd_29 ?_
        exact fr_zret h rfl hq (by omega) ⟨(by omega), (by omega), rfl⟩ dX12_canEnd_30
      ·
        refine fr_iconst h dX12_canEnd_25 ?_
        refine fr_goto (tgt := 30) h dX12_canEnd_26 (by decide) ?_
        exact fr_zret h rfl hq (by omega) ⟨(by omega), (by omega), rfl⟩ dX12_canEnd_30
set_option maxHeartbeats 200000 in
theorem c_X12_endsOf (x : Mm) (b : Int) (hb : isSA b) : CnI YM yX12_endsOf cX12_endsOf 1 .int 0 0 (fun G => [vr G b]) x (fun z y' => (0 ≤ z) ∧ (z ≤ 66) ∧ (y' = x)) := by
  refine cn_I (by decide) (fun _ => Nat.le_of_ble_eq_true rfl) (fun G C h hq => ?_)
  have h : OK YM G C cX12_endsOf RX12 1 (some .int) 0 0 := h
  show FW YM G C 1 x 0 [(0, vr G b)] []
  have h_b := SA_b hb
  refine fr_bipush h rfl dX12_endsOf_0 ?_
  refine fr_aload_n h rfl 0 rfl dX12_endsOf_2 ?_
  refine fr_bipush h rfl dX12_endsOf_3 ?_
  refine fr_iald h (SA_a hb) (by omega) (by omega) ((SA_r hb 103).trans sg_e1) dX12_endsOf_5 (fun z1 w2 w3 q4 => ?_)
  refine fr_imul h dX12_endsOf_6 ?_
  refine fr_aload_n h rfl 0 rfl dX12_endsOf_7 ?_
  refine fr_bipush h rfl dX12_endsOf_8 ?_
  refine fr_iald h (SA_a hb) (by omega) (by omega) ((SA_r hb 104).trans sg_e2) dX12_endsOf_10 (fun z5 w6 w7 q8 => ?_)
  refine fr_iadd h dX12_endsOf_11 ?_
  exact fr_iret h hq (by omega) ⟨(by omega), (by omega), rfl⟩ dX12_endsOf_12
set_option maxHeartbeats 200000 in
theorem c_X12_weigh (x : Mm) (b : Int) (hb : isSA b) (p : Int) (w : Int) (v : Int) (h_p : fm_r p) (h_w : fm_r w) (h_v : fm_r v) (e0 : 0 ≤ p) (e1 : p < 7) (e2 : 0 ≤ w) (e3 : w < 7) (e4 : 0 ≤ v) (e5 : v ≤ 99) : CnV YM yX12_weigh cX12_weigh 4 0 0 (fun G => [vr G b, vi p, vi w, vi v]) x (fun y' => (y' b (28 + 7 * p + w) = v) ∧ (y' b (28 + 7 * w + p) = v) ∧ (∀ i : Int, i ≠ 28 + 7 * p + w → i ≠ 28 + 7 * w + p → y' b i = x b i) ∧ (∀ a : Int, (a < b ∨ b < a) → y' a = x a)) := by
  refine cn_V (by decide) (fun _ => Nat.le_of_ble_eq_true rfl) (fun G C h hq => ?_)
  have h : OK YM G C cX12_weigh RX12 4 none 0 0 := h
  show FW YM G C 4 x 0 [(0, vr G b), (1, vi p), (2, vi w), (3, vi v)] []
  have h_b := SA_b hb
  refine fr_aload_n h rfl 0 rfl dX12_weigh_0 ?_
  refine fr_bipush h rfl dX12_weigh_1 ?_
  refine fr_bipush h rfl dX12_weigh_3 ?_
  refine fr_iload_n h rfl 1 rfl dX12_weigh_5 ?_
  refine fr_imul h dX12_weigh_6 ?_
  refine fr_iadd h dX12_weigh_7 ?_
  refine fr_iload_n h rfl 2 rfl dX12_weigh_8 ?_
  refine fr_iadd h dX12_weigh_9 ?_
  refine fr_iload_n h rfl 3 rfl dX12_weigh_10 ?_
  refine fr_iast h (SA_a hb) (by omega) (by omega) ((SA_r hb ((28 + (7 * p)) + w)).trans (sg_wt (by omega) (by omega))) (by omega) (by omega) dX12_weigh_11 ?_
  refine fr_mem (fun x1 m2 => ?_)
  refine fr_aload_n h rfl 0 rfl dX12_weigh_12 ?_
  refine fr_bipush h rfl dX12_weigh_13 ?_
  refine fr_bipush h rfl dX12_weigh_15 ?_
  refine fr_iload_n h rfl 2 rfl dX12_weigh_17 ?_
  refine fr_imul h dX12_weigh_18 ?_
  refine fr_iadd h dX12_weigh_19 ?_
  refine fr_iload_n h rfl 1 rfl dX12_weigh_20 ?_
  refine fr_iadd h dX12_weigh_21 ?_
  refine fr_iload_n h rfl 3 rfl dX12_weigh_22 ?_
  refine fr_iast h (SA_a hb) (by omega) (by omega) ((SA_r hb ((28 + (7 * w)) + p)).trans (sg_wt (by omega) (by omega))) (by omega) (by omega) dX12_weigh_23 ?_
  refine fr_mem (fun x3 m4 => ?_)
  have r5 := fm_rd_b (b := (28 + 7 * p + w)) m4
  have r6 := fm_rd_b (b := (28 + 7 * w + p)) m4
  exact fr_vret h hq ⟨(by have k := fm_rd_b (b := 28 + 7 * p + w) m4; have k2 := fm_rd_s m2; omega), (fm_rd_s m4), (fun i a c => (fm_rd_i m4 (by omega)).trans (fm_rd_i m2 (by omega))), (fun a k0 => ((fm_up_row m4 (by omega)).trans (fm_up_row m2 (by omega))))⟩ dX12_weigh_24
