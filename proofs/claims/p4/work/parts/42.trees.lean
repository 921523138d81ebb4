set_option maxHeartbeats 200000 in
theorem c_X12_hangOf (x : Mm) (p : Int) (h_p : fm_r p) (e0 : HG (x 18) 8) (e1 : 0 ≤ p) (e2 : p ≤ 6) : CnI YM yX12_hangOf cX12_hangOf 3 .int 0 0 (fun G => [vr G 0, vi p]) x (fun z y' => (0 ≤ z) ∧ (z ≤ 6) ∧ (x 18 z = z) ∧ (z = rt (x 18) p) ∧ (y' = x)) := by
  refine cn_I (by decide) (fun _ => Nat.le_of_ble_eq_true rfl) (fun G C h hq => ?_)
  have h : OK YM G C cX12_hangOf RX12 3 (some .int) 0 0 := h
  show FW YM G C 3 x 0 [(0, vr G 0), (1, vi p)] []
  have hc := e0.1
  obtain ⟨T, hT⟩ := e0.2
  refine fr_iload_n h rfl 1 rfl dX12_hangOf_0 ?_
  refine fr_istore_n (L' := [(0, vr G 0), (1, vi p), (2, vi p)]) h rfl dX12_hangOf_1 (by decide) [1, 2, 0] rfl ?_
  have HL1 : ∀ (n1 : Nat) (l2_1 : Int), fm_r l2_1 → 0 ≤ l2_1 → l2_1 ≤ 6 → RS (x 18) p l2_1 (8 - T l2_1) → (8 - T l2_1) < n1 → FW YM G C 3 x 2 [(0, vr G 0), (1, vi p), (2, vi l2_1)] [] := by
    intro n1
    induction n1 with
    | zero =>
      intro l2_1 g1_0 g1_1 g1_2 g1_3 g1_4
      have hv := hT l2_1 (by omega) (by omega)
      exfalso; omega
    | succ n1 ih1 =>
      intro l2_1 g1_0 g1_1 g1_2 g1_3 g1_4
      have hrs : RS (x 18) p l2_1 (8 - T l2_1) := by assumption
      refine fr_aload_n h rfl 0 rfl dX12_hangOf_2 ?_
      refine fr_getc (z := 18) (iz := 30) h kX12 fX12_63 at_0M rfl rfl rfM_30 (by omega) dX12_hangOf_3 ?_
      refine fr_iload_n h rfl 2 rfl dX12_hangOf_6 ?_
      refine fr_iald h arM_18 (by omega) (by omega) (rrM_18 l2_1) dX12_hangOf_7 (fun z2 w3 w4 q5 => ?_)
      refine fr_iload_n h rfl 2 rfl dX12_hangOf_8 ?_
      refine fr_icmp_eq (tgt := 22) h dX12_hangOf_9 (by decide) (by omega) (by omega) (fun c6 => ?_) (fun c6 => ?_)
      ·
        refine fr_iload_n h rfl 2 rfl dX12_hangOf_22 ?_
        exact fr_iret h hq (by omega) ⟨(by omega), (by omega), (by omega), (RS_e hrs (by omega)), rfl⟩ dX12_hangOf_23
      ·
        have hv := hT l2_1 (by omega) (by omega)
        refine fr_aload_n h rfl 0 rfl dX12_hangOf_12 ?_
        refine fr_getc (z := 18) (iz := 30) h kX12 fX12_63 at_0M rfl rfl rfM_30 (by omega) dX12_hangOf_13 ?_
        refine fr_iload_n h rfl 2 rfl dX12_hangOf_16 ?_
        refine fr_iald h arM_18 (by omega) (by omega) (rrM_18 l2_1) dX12_hangOf_17 (fun z7 w8 w9 q10 => ?_)
        have hz : T z7 = T (x 18 l2_1) := congrArg T q10
        refine fr_istore_n (L' := [(0, vr G 0), (1, vi p), (2, vi z7)]) h rfl dX12_hangOf_18 (by decide) [1, 2, 0] rfl ?_
        refine fr_goto (tgt := 2) h dX12_hangOf_19 (by decide) ?_
        exact ih1 z7 (by omega) (by omega) (by omega) (by rw [q10]; exact RS_s hrs (by omega) (by omega)) (by omega)
  exact HL1 ((8 - T p) + 1 : Int).toNat p (by omega) (by omega) (by omega) (RS_0 (by have := hT p (by omega) (by omega); omega)) (by omega)
set_option maxHeartbeats 1000000 in
theorem c_X12_treeOf (x : Mm) (b : Int) (hb : isSA b) (n : Int) (h_n : fm_r n) (e0 : 0 ≤ n) (e1 : n ≤ 8) (e2 : ∀ i : Int, 0 ≤ i → i < n → x 17 i < ec (x b) 49) : CnI YM yX12_treeOf cX12_treeOf 8 .int 2 46 (fun G => [vr G 0, vr G b, vi n]) x (fun z y' => ((z = (-1) ∧ ¬ okT (x b) (x 17) n) ∨ (0 ≤ z ∧ okT (x b) (x 17) n)) ∧ (∀ a : Int, (a < 18 ∨ 18 < a) → y' a = x a)) := by
  refine cn_I (by decide) (fun _ => Nat.le_of_ble_eq_true rfl) (fun G C h hq => ?_)
  have h : OK YM G C cX12_treeOf RX12 8 (some .int) 2 46 := h
  show FW YM G C 8 x 0 [(0, vr G 0), (1, vr G b), (2, vi n)] []
  have h_b := SA_b hb
  have hs_b : b = 1 ∨ b = 9 ∨ b = 10 := hb
  refine fr_iconst h dX12_treeOf_0 ?_
  refine fr_istore_n (L' := [(0, vr G 0), (1, vr G b), (2, vi n), (3, vi 0)]) h rfl dX12_treeOf_1 (by decide) [1, 2, 3, 0] rfl ?_
  have HL1 : ∀ (n1 : Nat) (l3_1 : Int) (x_1 : Mm), fm_r l3_1 → 0 ≤ l3_1 → l3_1 ≤ 7 → (∀ i : Int, 0 ≤ i → i < l3_1 → x_1 18 i = i) → (∀ a : Int, (a < 18 ∨ 18 < a) → x_1 a = x a) → (7 - l3_1) < n1 → FW YM G C 8 x_1 2 [(0, vr G 0), (1, vr G b), (2, vi n), (3, vi l3_1)] [] := by
    intro n1
    induction n1 with
    | zero =>
      intro l3_1 x_1 g1_0 g1_1 g1_2 g1_3 g1_4 g1_5
      exfalso; omega
    | succ n1 ih1 =>
      intro l3_1 x_1 g1_0 g1_1 g1_2 g1_3 g1_4 g1_5
      refine fr_iload_n h rfl 3 rfl dX12_treeOf_2 ?_
      refine fr_bipush h rfl dX12_treeOf_3 ?_
      refine fr_icmp_ge (tgt := 21) h dX12_treeOf_5 (by decide) (by omega) (by omega) (fun c2 => ?_) (fun c2 => ?_)
      ·
        refine fr_iconst h dX12_treeOf_21 ?_
        refine fr_istore_n (L' := [(0, vr G 0), (1, vr G b), (2, vi n), (3, vi 0)]) h rfl dX12_treeOf_22 (by decide) [1, 2, 3, 0] rfl ?_
        refine fr_iconst h dX12_treeOf_23 ?_
        refine fr_istore (L' := [(0, vr G 0), (1, vr G b), (2, vi n), (3, vi 0), (4, vi 0)]) h dX12_treeOf_24 (by decide) [1, 2, 3, 4, 0] rfl ?_
        have HL3 : ∀ (n3 : Nat) (l3_3 l4_3 : Int) (x_3 : Mm), fm_r l3_3 → 0 ≤ l3_3 → l3_3 ≤ 800 → fm_r l4_3 → 0 ≤ l4_3 → l4_3 ≤ 8 → l4_3 ≤ n → 0 ≤ l3_3 → l3_3 ≤ 99 * l4_3 → HG (x_3 18) l4_3 → EQ7 (x_3 18) (hgs (x b) (x 17) ((l4_3 : Int)).toNat) → okT (x b) (x 17) l4_3 → (∀ a : Int, (a < 18 ∨ 18 < a) → x_3 a = x_1 a) → (8 - l4_3) < n3 → FW YM G C 8 x_3 26 [(0, vr G 0), (1, vr G b), (2, vi n), (3, vi l3_3), (4, vi l4_3)] [] := by
          intro n3
          induction n3 with
          | zero =>
            intro l3_3 l4_3 x_3 g3_0 g3_1 g3_2 g3_3 g3_4 g3_5 g3_6 g3_7 g3_8 g3_9 g3_10 g3_11 g3_12 g3_13
            exfalso; omega
          | succ n3 ih3 =>
            intro l3_3 l4_3 x_3 g3_0 g3_1 g3_2 g3_3 g3_4 g3_5 g3_6 g3_7 g3_8 g3_9 g3_10 g3_11 g3_12 g3_13
            refine fr_iload h 4 rfl dX12_treeOf_26 ?_
            refine fr_iload_n h rfl 2 rfl dX12_treeOf_28 ?_
            refine fr_icmp_ge (tgt := 101) h dX12_treeOf_29 (by decide) (by omega) (by omega) (fun c4 => ?_) (fun c4 => ?_)
            ·
              refine fr_iload_n h rfl 3 rfl dX12_treeOf_101 ?_
              exact fr_iret h hq (by omega) ⟨(Or.inr ⟨(by omega), (by rw [show n = l4_3 by omega]; exact g3_11)⟩), (fun a k0 => ((g3_12 a (by omega)).trans (g1_4 a (by omega))))⟩ dX12_treeOf_102
            ·
              refine fr_aload_n h rfl 1 rfl dX12_treeOf_32 ?_
              refine fr_aload_n h rfl 0 rfl dX12_treeOf_33 ?_
              refine fr_getc (z := 17) (iz := 29) h kX12 fX12_60 at_0M rfl rfl rfM_29 (by omega) dX12_treeOf_34 ?_
              refine fr_iload h 4 rfl dX12_treeOf_37 ?_
              refine fr_iald h arM_17 (by omega) (by omega) (rrM_17 l4_3) dX12_treeOf_39 (fun z5 w6 w7 q8 => ?_)
              have r9 := q8.trans (congrFun (g3_12 17 (by omega)) l4_3)
              have r10 := r9.trans (congrFun (g1_4 17 (by omega)) l4_3)
              have hec : ec (x_3 b) 49 = ec (x b) 49 := by rw [show x_3 b = x b from ((g3_12 b (by omega)).trans (g1_4 b (by omega)))]
              have hl := e2 l4_3 (by omega) (by omega)
              refine fr_csI h wX12_edgeAt lX12_220 (c_X12_edgeAt2 x_3 b hb z5 (by omega) (by omega)) rfl (by decide) (by decide) rfl (Nat.le_of_ble_eq_true rfl) dX12_treeOf_40 (fun z12 x11 w13 p14 => ?_)
              obtain ⟨p15, p16, p17, p18, p19, y20⟩ := p14
              rw [y20]
              clear y20
              have heaf : z12 = eaf (x b) (x 17 l4_3) := (show z12 = eaf (x_3 b) z5 by omega).trans (by rw [show x_3 b = x b from ((g3_12 b (by omega)).trans (g1_4 b (by omega))), show z5 = x 17 l4_3 by omega])
              refine fr_istore (L' := [(0, vr G 0), (1, vr G b), (2, vi n), (3, vi l3_3), (4, vi l4_3), (5, vi z12)]) h dX12_treeOf_43 (by decide) [1, 2, 3, 4, 5, 0] rfl ?_
              refine fr_aload_n h rfl 0 rfl dX12_treeOf_45 ?_
              refine fr_iload h 5 rfl dX12_treeOf_46 ?_
              refine fr_bipush h rfl dX12_treeOf_48 ?_
              refine fr_idiv h (by omega) (by omega) (by omega) dX12_treeOf_50 (fun z21 w22 q23 w24 => ?_)
              have w25 := w24
              skip
              refine fr_cvI h kX12 at_0M wX12_hangOf lX12_290 (c_X12_hangOf x_3 z21 (by omega) (HG_le g3_9 (by omega)) (by omega) (by omega)) rfl (by decide) (by decide) rfl (Nat.le_of_ble_eq_true rfl) dX12_treeOf_51 (fun z27 x26 w28 p29 => ?_)
              obtain ⟨p30, p31, p32, p33, y34⟩ := p29
              rw [y34]
              clear y34
              have hr1 : z27 = rt (x_3 18) (z12 / 7) := (show z27 = rt (x_3 18) z21 by omega).trans (by rw [show z21 = z12 / 7 by omega])
              refine fr_istore (L' := [(0, vr G 0), (1, vr G b), (2, vi n), (3, vi l3_3), (4, vi l4_3), (5, vi z12), (6, vi z27)]) h dX12_treeOf_54 (by decide) [1, 2, 3, 4, 5, 6, 0] rfl ?_
              refine fr_aload_n h rfl 0 rfl dX12_treeOf_56 ?_
              refine fr_iload h 5 rfl dX12_treeOf_57 ?_
              refine fr_bipush h rfl dX12_treeOf_59 ?_
              refine fr_irem h (by omega) (by omega) (by omega) dX12_treeOf_61 (fun z35 w36 q37 w38 => ?_)
              have w39 := w38
              skip
              refine fr_cvI h kX12 at_0M wX12_hangOf lX12_290 (c_X12_hangOf x_3 z35 (by omega) (HG_le g3_9 (by omega)) (by omega) (by omega)) rfl (by decide) (by decide) rfl (Nat.le_of_ble_eq_true rfl) dX12_treeOf_62 (fun z41 x40 w42 p43 => ?_)
              obtain ⟨p44, p45, p46, p47, y48⟩ := p43
              rw [y48]
              clear y48
              have hr2 : z41 = rt (x_3 18) (z12 % 7) := (show z41 = rt (x_3 18) z35 by omega).trans (by rw [show z35 = z12 % 7 by omega])
              refine fr_istore (L' := [(0, vr G 0), (1, vr G b), (2, vi n), (3, vi l3_3), (4, vi l4_3), (5, vi z12), (6, vi z27), (7, vi z41)]) h dX12_treeOf_65 (by decide) [1, 2, 3, 4, 5, 6, 7, 0] rfl ?_
              refine fr_iload h 6 rfl dX12_treeOf_67 ?_
              refine fr_iload h 7 rfl dX12_treeOf_69 ?_
              refine fr_icmp_ne (tgt := 76) h dX12_treeOf_71 (by decide) (by omega) (by omega) (fun c49 => ?_) (fun c49 => ?_)
              ·
                refine fr_aload_n h rfl 0 rfl dX12_treeOf_76 ?_
                refine fr_getc (z := 18) (iz := 30) h kX12 fX12_63 at_0M rfl rfl rfM_30 (by omega) dX12_treeOf_77 ?_
                refine fr_iload h 6 rfl dX12_treeOf_80 ?_
                refine fr_iload h 7 rfl dX12_treeOf_82 ?_
                refine fr_iast h arM_18 (by omega) (by omega) (rrM_18 z27) (by omega) (by omega) dX12_treeOf_84 ?_
                refine fr_mem (fun x50 m51 => ?_)
                refine fr_iload_n h rfl 3 rfl dX12_treeOf_85 ?_
                refine fr_aload_n h rfl 1 rfl dX12_treeOf_86 ?_
                refine fr_bipush h rfl dX12_treeOf_87 ?_
                refine fr_iload h 5 rfl dX12_treeOf_89 ?_
                refine fr_iadd h dX12_treeOf_91 ?_
                refine fr_iald h (SA_a hb) (by omega) (by omega) ((SA_r hb (28 + z12)).trans (sg_wt (by omega) (by omega))) dX12_treeOf_92 (fun z52 w53 w54 q55 => ?_)
                have r56 := q55.trans (fm_rd_k (a := b) (b := (28 + z12)) m51 (by omega))
                have r57 := r56.trans (congrFun (g3_12 b (by omega)) (28 + z12))
                have r58 := r57.trans (congrFun (g1_4 b (by omega)) (28 + z12))
                refine fr_iadd h dX12_treeOf_93 ?_
                refine fr_istore_n (L' := [(0, vr G 0), (1, vr G b), (2, vi n), (3, vi (l3_3 + z52)), (4, vi l4_3), (5, vi z12), (6, vi z27), (7, vi z41)]) h rfl dX12_treeOf_94 (by decide) [1, 2, 3, 0, 4, 5, 6, 7] rfl ?_
                refine fr_iinc (j := 4) (L' := [(0, vr G 0), (1, vr G b), (2, vi n), (3, vi (l3_3 + z52)), (4, vi (l4_3 + 1)), (5, vi z12), (6, vi z27), (7, vi z41)]) h dX12_treeOf_95 rfl (by decide) [1, 2, 3, 4, 0, 5, 6, 7] rfl ?_
                refine fr_goto (tgt := 26) h dX12_treeOf_98 (by decide) ?_
                refine fr_sub (L' := [(0, vr G 0), (1, vr G b), (2, vi n), (3, vi (l3_3 + z52)), (4, vi (l4_3 + 1))]) [0, 1, 2, 3, 4] rfl ?_
                exact ih3 (l3_3 + z52) (l4_3 + 1) x50 (by omega) (by omega) (by omega) (by omega) (by omega) (by omega) (by omega) (by omega) (by omega) (HG_upd (one := z27) (other := z41) g3_9 rfl (by omega) (by omega) (by omega) (by omega) (by omega) (by omega) (by omega) (fm_rd_s m51) (fun i a => fm_rd_i m51 (by omega))) (hgs_s (e := z12) (one := z27) (other := z41) g3_10 g3_9 (by omega) heaf (by omega) (by omega) hr1 hr2 (fm_rd_s m51) (fun i a => fm_rd_i m51 (by omega))) (okT_s (e := z12) (one := z27) (other := z41) g3_11 g3_10 g3_9 (by omega) heaf (by omega) (by omega) hr1 hr2 (by omega)) (fun a k0 => ((fm_up_row m51 (by omega)).trans (g3_12 a (by omega)))) (by omega)
              ·
                refine fr_iconst h dX12_treeOf_74 ?_
                exact fr_iret h hq (by omega) ⟨(Or.inl ⟨rfl, okT_no (e := z12) (one := z27) (other := z41) g3_10 g3_9 (by omega) (by omega) heaf (by omega) (by omega) hr1 hr2 (by omega)⟩), (fun a k0 => ((g3_12 a (by omega)).trans (g1_4 a (by omega))))⟩ dX12_treeOf_75
        exact HL3 ((8 - 0) + 1 : Int).toNat 0 0 x_1 (by omega) (by omega) (by omega) (by omega) (by omega) (by omega) (by omega) (by omega) (by omega) (HG_id (fun i a b => g1_3 i a (by omega))) (fun i a b => g1_3 i a (by omega)) (okT_0 _ _ (by omega)) (fun a _ => rfl) (by omega)
      ·
        refine fr_aload_n h rfl 0 rfl dX12_treeOf_8 ?_
        refine fr_getc (z := 18) (iz := 30) h kX12 fX12_63 at_0M rfl rfl rfM_30 (by omega) dX12_treeOf_9 ?_
        refine fr_iload_n h rfl 3 rfl dX12_treeOf_12 ?_
        refine fr_iload_n h rfl 3 rfl dX12_treeOf_13 ?_
        refine fr_iast h arM_18 (by omega) (by omega) (rrM_18 l3_1) (by omega) (by omega) dX12_treeOf_14 ?_
        refine fr_mem (fun x59 m60 => ?_)
        refine fr_iinc (j := 3) (L' := [(0, vr G 0), (1, vr G b), (2, vi n), (3, vi (l3_1 + 1))]) h dX12_treeOf_15 rfl (by decide) [1, 2, 3, 0] rfl ?_
        refine fr_goto (tgt := 2) h dX12_treeOf_18 (by decide) ?_
        exact ih1 (l3_1 + 1) x59 (by omega) (by omega) (by omega) (fun i a c => if q9 : i = l3_1 then (by rw [q9, fm_rd_s m60]) else (fm_rd_i m60 (by omega)).trans (g1_3 i a (by omega))) (fun a k0 => ((fm_up_row m60 (by omega)).trans (g1_4 a (by omega)))) (by omega)
  exact HL1 ((7 - 0) + 1 : Int).toNat 0 x (by omega) (by omega) (by omega) (fun i a c => by exfalso; omega) (fun a _ => rfl) (by omega)
set_option maxHeartbeats 1000000 in
theorem c_X12_layTrees : ∀ (d : Nat) (x : Mm) (b : Int) (hb : isSA b) (p : Int) (n : Int) (w : Int) (v : Int) (h_p : fm_r p) (h_n : fm_r n) (h_w : fm_r w) (h_v : fm_r v) (e0 : 0 ≤ p) (e1 : p ≤ v) (e2 : 0 ≤ n) (e3 : n ≤ w) (e4 : w ≤ 6) (e5 : v = ec (x b) 49) (e6 : v ≤ 12) (e7 : ∀ i : Int, 0 ≤ i → i < n → x 17 i < v) (e8 : x 0 26 + ch (v - p) (w - n) ≤ 1300), (w - n) < d → CnV YM yX12_layTrees cX12_layTrees 8 (d + 10) (d * 40 + 300) (fun G => [vr G 0, vr G b, vi p, vi n, vi w, vi v]) x (fun y' => (y' 0 26 ≤ x 0 26 + ch (v - p) (w - n)) ∧ (x 0 26 ≤ y' 0 26) ∧ (∀ i : Int, 0 ≤ i → i < n → y' 17 i = x 17 i) ∧ (y' 0 26 = x 0 26 + TC (x b) v w (x 17) p n) ∧ (∀ a : Int, (a < 0 ∨ 0 < a) → (a < 12 ∨ 14 < a) → (a < 17 ∨ 18 < a) → y' a = x a) ∧ (∀ i : Int, i ≠ 26 → y' 0 i = x 0 i)) := by
  intro d
  induction d with
  | zero => intro x b hb p n w v h_p h_n h_w h_v e0 e1 e2 e3 e4 e5 e6 e7 e8 hmu; exfalso; omega
  | succ d ih =>
    intro x b hb p n w v h_p h_n h_w h_v e0 e1 e2 e3 e4 e5 e6 e7 e8 hmu
    refine cn_V (by decide) (fun _ => Nat.le_of_ble_eq_true rfl) (fun G C h hq => ?_)
    have h : OK YM G C cX12_layTrees RX12 8 none (d + 1 + 10) ((d + 1) * 40 + 300) := h
    show FW YM G C 8 x 0 [(0, vr G 0), (1, vr G b), (2, vi p), (3, vi n), (4, vi w), (5, vi v)] []
    have h_b := SA_b hb
    have hs_b : b = 1 ∨ b = 9 ∨ b = 10 := hb
    have hc0 := ch_nn (v - p) (w - n)
    refine fr_aload_n h rfl 0 rfl dX12_layTrees_0 ?_
    refine fr_aload_n h rfl 1 rfl dX12_layTrees_1 ?_
    refine fr_iload_n h rfl 3 rfl dX12_layTrees_2 ?_
    refine fr_cvI h kX12 at_0M wX12_treeOf lX12_293 (c_X12_treeOf x b hb n (by omega) (by omega) (by omega) (fun i a c => by have := e7 i a c; omega)) rfl (by omega) (by omega) rfl (Nat.le_of_ble_eq_true rfl) dX12_layTrees_3 (fun z2 x1 w3 p4 => ?_)
    obtain ⟨p5, f6⟩ := p4
    have hto : (z2 = (-1) ∧ ¬ okT (x b) (x 17) n) ∨ (0 ≤ z2 ∧ okT (x b) (x 17) n) := by assumption
    refine fr_istore (L' := [(0, vr G 0), (1, vr G b), (2, vi p), (3, vi n), (4, vi w), (5, vi v), (6, vi z2)]) h dX12_layTrees_6 (by decide) [1, 2, 3, 4, 5, 6, 0] rfl ?_
    refine fr_iload h 6 rfl dX12_layTrees_8 ?_
    refine fr_iconst h dX12_layTrees_10 ?_
    refine fr_icmp_ne (tgt := 15) h dX12_layTrees_11 (by decide) (by omega) (by omega) (fun c7 => ?_) (fun c7 => ?_)
    ·
      have hok : okT (x b) (x 17) n := by rcases hto with q8 | q8; exfalso; omega; exact q8.2
      refine fr_iload_n h rfl 3 rfl dX12_layTrees_15 ?_
      refine fr_iload h 4 rfl dX12_layTrees_16 ?_
      refine fr_icmp_ne (tgt := 29) h dX12_layTrees_18 (by decide) (by omega) (by omega) (fun c8 => ?_) (fun c8 => ?_)
      ·
        have hts := TC_s (f := x b) (l := x 17) (v := v) (w := w) (p := p) (n := n) (by omega) hok
        refine fr_iload_n h rfl 2 rfl dX12_layTrees_29 ?_
        refine fr_istore (L' := [(0, vr G 0), (1, vr G b), (2, vi p), (3, vi n), (4, vi w), (5, vi v), (6, vi z2), (7, vi p)]) h dX12_layTrees_30 (by decide) [1, 2, 3, 4, 5, 6, 7, 0] rfl ?_
        have HL9 : ∀ (n9 : Nat) (l7_9 : Int) (x_9 : Mm), fm_r l7_9 → 0 ≤ l7_9 → l7_9 ≤ 12 → p ≤ l7_9 → l7_9 ≤ v → x_9 0 26 + ch (v - l7_9) (w - n) ≤ x 0 26 + ch (v - p) (w - n) → x 0 26 ≤ x_9 0 26 → (∀ i : Int, 0 ≤ i → i < n → x_9 17 i = x 17 i) → x_9 0 26 + smT (x b) v w (x 17) n l7_9 = x 0 26 + smT (x b) v w (x 17) n p → (∀ a : Int, (a < 0 ∨ 0 < a) → (a < 12 ∨ 14 < a) → (a < 17 ∨ 18 < a) → x_9 a = x1 a) → (∀ i : Int, i ≠ 26 → x_9 0 i = x1 0 i) → (v - l7_9) < n9 → FW YM G C 8 x_9 32 [(0, vr G 0), (1, vr G b), (2, vi p), (3, vi n), (4, vi w), (5, vi v), (6, vi z2), (7, vi l7_9)] [] := by
          intro n9
          induction n9 with
          | zero =>
            intro l7_9 x_9 g9_0 g9_1 g9_2 g9_3 g9_4 g9_5 g9_6 g9_7 g9_8 g9_9 g9_10 g9_11
            exfalso; omega
          | succ n9 ih9 =>
            intro l7_9 x_9 g9_0 g9_1 g9_2 g9_3 g9_4 g9_5 g9_6 g9_7 g9_8 g9_9 g9_10 g9_11
            refine fr_iload h 7 rfl dX12_layTrees_32 ?_
            refine fr_iload h 5 rfl dX12_layTrees_34 ?_
            refine fr_icmp_ge (tgt := 69) h dX12_layTrees_36 (by decide) (by omega) (by omega) (fun c10 => ?_) (fun c10 => ?_)
            ·
              have hs2 := ch_nn (v - l7_9) (w - n)
              have hse := smT_e (f := x b) (l := x 17) (v := v) (w := w) (n := n) (i := l7_9) (by omega)
              have r11 := (congrFun (f6 0 (by omega)) 26)
              have r12 := (congrFun (f6 0 (by omega)) 26)
              have r13 := (congrFun (f6 0 (by omega)) 26)
              exact fr_vret h hq ⟨(by omega), (by omega), g9_7, (by omega), (fun a k0 k1 k2 => ((g9_9 a (by omega) (by omega) (by omega)).trans (f6 a (by omega)))), (fun i k0 => ((g9_10 i (by omega)).trans (congrFun (f6 0 (by omega)) i)))⟩ dX12_layTrees_69
            ·
              have hs := ch_t (v := v) (i := l7_9) (w := w) (n := n) (by omega) (by omega)
              have hss := smT_s (f := x b) (l := x 17) (v := v) (w := w) (n := n) (i := l7_9) (by omega)
              refine fr_aload_n h rfl 0 rfl dX12_layTrees_39 ?_
              refine fr_getc (z := 17) (iz := 29) h kX12 fX12_60 at_0M rfl rfl rfM_29 (by omega) dX12_layTrees_40 ?_
              refine fr_iload_n h rfl 3 rfl dX12_layTrees_43 ?_
              refine fr_iload h 7 rfl dX12_layTrees_44 ?_
              refine fr_iast h arM_17 (by omega) (by omega) (rrM_17 n) (by omega) (by omega) dX12_layTrees_46 ?_
              refine fr_mem (fun x14 m15 => ?_)
              refine fr_aload_n h rfl 0 rfl dX12_layTrees_47 ?_
              refine fr_aload_n h rfl 1 rfl dX12_layTrees_48 ?_
              refine fr_iload h 7 rfl dX12_layTrees_49 ?_
              refine fr_iconst h dX12_layTrees_51 ?_
              refine fr_iadd h dX12_layTrees_52 ?_
              refine fr_iload_n h rfl 3 rfl dX12_layTrees_53 ?_
              refine fr_iconst h dX12_layTrees_54 ?_
              refine fr_iadd h dX12_layTrees_55 ?_
              refine fr_iload h 4 rfl dX12_layTrees_56 ?_
              refine fr_iload h 5 rfl dX12_layTrees_58 ?_
              have r16 := (fm_rd_k (a := 0) (b := 26) m15 (by omega))
              have r17 := (congrFun (f6 0 (by omega)) 26)
              refine fr_cvV h kX12 at_0M wX12_layTrees lX12_296 (ih x14 b hb (l7_9 + 1) (n + 1) w v (by omega) (by omega) (by omega) (by omega) (by omega) (by omega) (by omega) (by omega) (by omega) (by rw [show x14 b = x b from ((fm_up_row m15 (by omega)).trans ((g9_9 b (by omega) (by omega) (by omega)).trans (f6 b (by omega))))]; omega) (by omega) (fun i a c => if q9 : i = n then (by rw [q9, fm_rd_s m15]; omega) else (by rw [fm_rd_i (a := 17) (b := i) m15 (by omega), g9_7 i a (by omega)]; exact e7 i a (by omega))) (by omega) (by omega)) rfl (by omega) (by omega) rfl (Nat.le_of_ble_eq_true rfl) dX12_layTrees_60 (fun x18 p21 => ?_)
              obtain ⟨p22, p23, p24, p25, f26, f27⟩ := p21
              have hcc : TC (x14 b) v w (x14 17) (l7_9 + 1) (n + 1) = TC (x b) v w (upd1 (x 17) n l7_9) (l7_9 + 1) (n + 1) := by rw [show x14 b = x b from ((fm_up_row m15 (by omega)).trans ((g9_9 b (by omega) (by omega) (by omega)).trans (f6 b (by omega))))]; exact TC_cong (upd1_of (fm_rd_s m15) (fun k a c => (fm_rd_i m15 (by omega)).trans (g9_7 k a c)))
              refine fr_iinc (j := 7) (L' := [(0, vr G 0), (1, vr G b), (2, vi p), (3, vi n), (4, vi w), (5, vi v), (6, vi z2), (7, vi (l7_9 + 1))]) h dX12_layTrees_63 rfl (by decide) [1, 2, 3, 4, 5, 6, 7, 0] rfl ?_
              refine fr_goto (tgt := 32) h dX12_layTrees_66 (by decide) ?_
              have r28 := (fm_rd_k (a := 0) (b := 26) m15 (by omega))
              have r29 := (congrFun (f6 0 (by omega)) 26)
              have r30 := (fm_rd_k (a := 0) (b := 26) m15 (by omega))
              have r31 := (congrFun (f6 0 (by omega)) 26)
              have r32 := (fm_rd_k (a := 0) (b := 26) m15 (by omega))
              have r33 := (congrFun (f6 0 (by omega)) 26)
              exact ih9 (l7_9 + 1) x18 (by omega) (by omega) (by omega) (by omega) (by omega) (by omega) (by omega) (fun i a c => (p24 i a (by omega)).trans ((fm_rd_i m15 (by omega)).trans (g9_7 i a c))) (by omega) (fun a k0 k1 k2 => ((f26 a (by omega) (by omega) (by omega)).trans ((fm_up_row m15 (by omega)).trans (g9_9 a (by omega) (by omega) (by omega))))) (fun i k0 => ((f27 i (by omega)).trans ((fm_rd_k (a := 0) (b := i) m15 (by omega)).trans (g9_10 i (by omega))))) (by omega)
        have r34 := (congrFun (f6 0 (by omega)) 26)
        have r35 := (congrFun (f6 0 (by omega)) 26)
        have r36 := (congrFun (f6 0 (by omega)) 26)
        exact HL9 ((v - p) + 1 : Int).toNat p x1 (by omega) (by omega) (by omega) (by omega) (by omega) (by omega) (by omega) (fun i a c => congrFun (f6 17 (by omega)) i) (by omega) (fun a _ _ _ => rfl) (fun i _ => rfl) (by omega)
      ·
        have hc := ch_z (m := v - p) (k := w - n) (by omega)
        have htw := TC_w (f := x b) (l := x 17) (v := v) (w := w) (p := p) (n := n) (by omega) hok
        refine fr_aload_n h rfl 0 rfl dX12_layTrees_21 ?_
        refine fr_iload_n h rfl 3 rfl dX12_layTrees_22 ?_
        refine fr_iload h 6 rfl dX12_layTrees_23 ?_
        have r37 := (congrFun (f6 0 (by omega)) 26)
        refine fr_cvV h kX12 at_0M wX12_emit lX12_279 (c_X12_emit x1 n z2 (by omega) (by omega) (by omega) (by omega) (by omega)) rfl (by omega) (by omega) rfl (Nat.le_of_ble_eq_true rfl) dX12_layTrees_25 (fun x38 p41 => ?_)
        obtain ⟨p42, f43, f44⟩ := p41
        have r45 := (congrFun (f6 0 (by omega)) 26)
        have r46 := (congrFun (f6 0 (by omega)) 26)
        have r47 := (congrFun (f6 0 (by omega)) 26)
        exact fr_vret h hq ⟨(by omega), (by omega), (fun i a c => congrFun ((f43 17 (by omega) (by omega)).trans (f6 17 (by omega))) i), (by omega), (fun a k0 k1 k2 => ((f43 a (by omega) (by omega)).trans (f6 a (by omega)))), (fun i k0 => ((f44 i (by omega)).trans (congrFun (f6 0 (by omega)) i)))⟩ dX12_layTrees_28
    ·
      have htc : TC (x b) v w (x 17) p n = 0 := TC_no (fun q9 => by rcases hto with q8 | q8; exact q8.2 q9; omega)
      have r48 := (congrFun (f6 0 (by omega)) 26)
      have r49 := (congrFun (f6 0 (by omega)) 26)
      have r50 := (congrFun (f6 0 (by omega)) 26)
      exact fr_vret h hq ⟨(by omega), (by omega), (fun i a c => congrFun (f6 17 (by omega)) i), (by omega), (fun a k0 k1 k2 => (f6 a (by omega))), (fun i k0 => (congrFun (f6 0 (by omega)) i))⟩ dX12_layTrees_14
