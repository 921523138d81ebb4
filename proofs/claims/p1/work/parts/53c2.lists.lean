set_option maxHeartbeats 4000000 in
theorem d_X12_lists (x : Mm) (p : Int) (f : Int → Int) (h_p : fm_r p) (e0 : GI x) (e1 : ∀ j : Int, uch (x 2 j) = f j) (e2 : x 0 21 ≤ 2000) : CnI YM yX12_lists cX12_lists 5 .int 4 86 (fun G => [vr G 0, vi p]) x (fun z y' => (y' 0 5 = 0) ∧ (y' 0 2 = 0) ∧ (x 0 2 = 0 → (0 ≤ p ∧ p < 4 → z = 0) ∧ (¬ (0 ≤ p ∧ p < 4) → z = (-1))) ∧ (0 < x 0 2 → (LSi f (x 0 2) 0 0 < 0 → z = LSi f (x 0 2) 0 0) ∧ (0 ≤ LSi f (x 0 2) 0 0 → (0 ≤ p ∧ p < 4 → z = LSi f (x 0 2) 0 0) ∧ (¬ (0 ≤ p ∧ p < 4) → z = (-1)))) ∧ (CHG x y') ∧ (GI y') ∧ (∀ a : Int, (a < 0 ∨ 0 < a) → (a < 1 ∨ 1 < a) → (a < 4 ∨ 4 < a) → (a < 8 ∨ 8 < a) → y' a = x a) ∧ (∀ i : Int, i ≠ 2 → i ≠ 6 → i ≠ 7 → i ≠ 8 → i ≠ 9 → i ≠ 10 → i ≠ 5 → i ≠ 18 → i ≠ 21 → y' 0 i = x 0 i)) := by
  refine cn_I (by decide) (fun _ => Nat.le_of_ble_eq_true rfl) (fun G C h hq => ?_)
  have h : OK YM G C cX12_lists RX12 5 (some .int) 4 86 := h
  show FW YM G C 5 x 0 [(0, vr G 0), (1, vi p)] []
  have e12 := e0.2.2.2
  refine fr_rng (fun hR9 => ?_)
  have h2 : 0 ≤ x 0 2 ∧ x 0 2 ≤ 80 := by have q := hR9 0 2; rw [rfM_2] at q; exact q
  refine fr_aload_n h rfl 0 rfl dX12_lists_0 ?_
  refine fr_iconst h dX12_lists_1 ?_
  refine fr_puti (iz := 5) h kX12 fX12_94 at_0M rfl rfl (by decide) (by decide) rfl (by decide +kernel) rfM_5 (by omega) (by omega) dX12_lists_2 ?_
  refine fr_mem (fun x1 m2 => ?_)
  refine fr_aload_n h rfl 0 rfl dX12_lists_5 ?_
  refine fr_bipush h rfl dX12_lists_6 ?_
  refine fr_cvV h kX12 at_0M wX12_beginText lX12_151 (c_X12_beginText x1 80 (by omega) (by omega) (by omega)) rfl (by decide) (by decide) rfl (Nat.le_of_ble_eq_true rfl) dX12_lists_8 (fun x3 p6 => ?_)
  obtain ⟨p7, p8, p9, p10, p11, p12, f13, f14⟩ := p6
  refine fr_iconst h dX12_lists_11 ?_
  refine fr_istore_n (L' := [(0, vr G 0), (1, vi p), (2, vi 0)]) h rfl dX12_lists_12 (by decide) [1, 2, 0] rfl ?_
  have r15 := (fm_rd_i (a := 0) (b := 2) m2 (by decide))
  skip
  have r16 := (fm_rd_i (a := 0) (b := 6) m2 (by decide))
  have r17 := (fm_rd_i (a := 0) (b := 7) m2 (by decide))
  have r18 := (fm_rd_i (a := 0) (b := 8) m2 (by decide))
  have r19 := (fm_rd_i (a := 0) (b := 9) m2 (by decide))
  have r20 := (fm_rd_i (a := 0) (b := 10) m2 (by decide))
  skip
  refine fr_aload_n h rfl 0 rfl dX12_lists_13 ?_
  refine fr_geti (iz := 7) h kX12 fX12_115 at_0M rfl rfl (by decide) (by decide) rfM_7 dX12_lists_14 (fun z21 w22 w23 q24 => ?_)
  have r25 := (fm_rd_i (a := 0) (b := 7) m2 (by decide))
  refine fr_if_le (tgt := 24) h dX12_lists_17 (by decide) (by omega) (fun c26 => ?_) (fun c26 => ?_)
  ·
    refine fr_iconst h dX12_lists_24 ?_
    refine fr_istore_n (L' := [(0, vr G 0), (1, vi p), (2, vi 0), (3, vi 0)]) h rfl dX12_lists_25 (by decide) [1, 2, 3, 0] rfl ?_
    have HL27 : ∀ (n27 : Nat) (l2_27 l3_27 : Int) (x_27 : Mm), fm_r l2_27 → 0 ≤ l2_27 → l2_27 ≤ 7 → fm_r l3_27 → 0 ≤ l3_27 → l3_27 ≤ 1 → LV f (x 0 2) l2_27 l3_27 (x_27 0 9) (x_27 0 10) → (∀ a : Int, (a < 0 ∨ 0 < a) → (a < 4 ∨ 4 < a) → x_27 a = x3 a) → (∀ i : Int, i ≠ 9 → i ≠ 10 → x_27 0 i = x3 0 i) → (7 - l2_27) < n27 → FW YM G C 5 x_27 26 [(0, vr G 0), (1, vi p), (2, vi l2_27), (3, vi l3_27)] [] := by
      intro n27
      induction n27 with
      | zero =>
        intro l2_27 l3_27 x_27 g27_0 g27_1 g27_2 g27_3 g27_4 g27_5 g27_6 g27_7 g27_8 g27_9
        exfalso; omega
      | succ n27 ih27 =>
        intro l2_27 l3_27 x_27 g27_0 g27_1 g27_2 g27_3 g27_4 g27_5 g27_6 g27_7 g27_8 g27_9
        refine fr_iload_n h rfl 3 rfl dX12_lists_26 ?_
        have r28 := (g27_8 6 (by decide) (by decide))
        have r29 := (fm_rd_i (a := 0) (b := 6) m2 (by decide))
        have r30 := (g27_8 7 (by decide) (by decide))
        have r31 := (fm_rd_i (a := 0) (b := 7) m2 (by decide))
        have r32 := (g27_8 8 (by decide) (by decide))
        have r33 := (fm_rd_i (a := 0) (b := 8) m2 (by decide))
        skip
        have k9 := LV_9 g27_6
        refine fr_if_eq (tgt := 78) h dX12_lists_27 (by decide) (by omega) (fun c34 => ?_) (fun c34 => ?_)
        ·
          refine fr_aload_n h rfl 0 rfl dX12_lists_78 ?_
          have r35 := (fm_rd_i (a := 0) (b := 9) m2 (by decide))
          refine fr_cvI h kX12 at_0M wX12_wasRight lX12_158 (d_X12_wasRight x_27 (by omega)) rfl (by decide) (by decide) rfl (Nat.le_of_ble_eq_true rfl) dX12_lists_79 (fun z37 x36 w38 p39 => ?_)
          obtain ⟨p40, p41, p42, p43, p44, f45, f46⟩ := p39
          have r47 := (f46 7 (by decide))
          have r48 := r47.trans (g27_8 7 (by decide) (by decide))
          have r49 := (fm_rd_i (a := 0) (b := 7) m2 (by decide))
          have r50 := (f46 9 (by decide))
          have r51 := (fm_rd_i (a := 0) (b := 9) m2 (by decide))
          skip
          refine fr_if_ne (tgt := 92) h dX12_lists_82 (by decide) (by omega) (fun c52 => ?_) (fun c52 => ?_)
          ·
            have d53 : z37 = 1 := by omega
            clear p40 c52
            have d54 := p41.1 (by omega)
            clear p41
            have kw := (LV_w (v10 := x36 0 10) g27_6 (by omega) p42 (fun q => p43 (by omega)) (fun q => p44 (by omega))).2 d54
            clear p42 p43 p44
            refine fr_iload_n h rfl 1 rfl dX12_lists_92 ?_
            refine fr_csI h wX12_isList lX12_161 (c_X12_isList x36 p (by omega)) rfl (by decide) (by decide) rfl (Nat.le_of_ble_eq_true rfl) dX12_lists_93 (fun z56 x55 w57 p58 => ?_)
            obtain ⟨p59, p60, y61⟩ := p58
            rw [y61]
            clear y61
            refine fr_if_ne (tgt := 101) h dX12_lists_96 (by decide) (by omega) (fun c62 => ?_) (fun c62 => ?_)
            ·
              have d63 : z56 = 1 := by omega
              clear p59 c62
              have d64 := p60.1 (by omega)
              clear p60
              refine fr_aload_n h rfl 0 rfl dX12_lists_101 ?_
              refine fr_aload_n h rfl 0 rfl dX12_lists_102 ?_
              refine fr_getc (z := 1) (iz := 0) h kX12 fX12_9 at_0M rfl rfl rfM_0 (by omega) dX12_lists_103 ?_
              refine fr_cvV h kX12 at_0M wX12_change lX12_165 (c_X12_change x36 1 SA_1 (by rw [show x36 8 = x 8 from ((f45 8 (by omega)).trans ((g27_7 8 (by omega) (by omega)).trans ((f13 8 (by omega)).trans (fm_up_row m2 (by omega)))))]; exact e0.2.1) (by rw [show x36 1 = x_27 1 from (f45 1 (by omega))]; exact (by rw [show x_27 1 = x3 1 from (g27_7 1 (by omega) (by omega))]; exact (by rw [show x3 1 = x1 1 from (f13 1 (by omega))]; exact (by rw [show x1 1 = x 1 from (fm_up_row m2 (by omega))]; exact e0.1))))) rfl (by decide) (by decide) rfl (Nat.le_of_ble_eq_true rfl) dX12_lists_106 (fun x65 p68 => ?_)
              obtain ⟨p69, p70, f71, f72⟩ := p68
              refine fr_aload_n h rfl 0 rfl dX12_lists_109 ?_
              refine fr_getc (z := 1) (iz := 0) h kX12 fX12_9 at_0M rfl rfl rfM_0 (by omega) dX12_lists_110 ?_
              refine fr_bipush h rfl dX12_lists_113 ?_
              refine fr_iload_n h rfl 1 rfl dX12_lists_115 ?_
              refine fr_iadd h dX12_lists_116 ?_
              refine fr_iconst h dX12_lists_117 ?_
              refine fr_iast h (SA_a SA_1) (by omega) (by omega) ((SA_r SA_1 (24 + p)).trans (sg_len (by omega) (by omega))) (by omega) (by omega) dX12_lists_118 ?_
              refine fr_mem (fun x73 m74 => ?_)
              refine fr_iconst h dX12_lists_119 ?_
              refine fr_istore (L' := [(0, vr G 0), (1, vi p), (2, vi l2_27), (3, vi l3_27), (4, vi 0)]) h dX12_lists_120 (by decide) [1, 2, 3, 4, 0] rfl ?_
              have HL75 : ∀ (n75 : Nat) (l4_75 : Int) (x_75 : Mm), fm_r l4_75 → 0 ≤ l4_75 → l4_75 ≤ 6 → MI (x_75 1) → x_75 1 (24 + p) = l4_75 → (∀ a : Int, (a < 1 ∨ 1 < a) → x_75 a = x73 a) → (6 - l4_75) < n75 → FW YM G C 5 x_75 122 [(0, vr G 0), (1, vi p), (2, vi l2_27), (3, vi l3_27), (4, vi l4_75)] [] := by
                intro n75
                induction n75 with
                | zero =>
                  intro l4_75 x_75 g75_0 g75_1 g75_2 g75_3 g75_4 g75_5 g75_6
                  exfalso; omega
                | succ n75 ih75 =>
                  intro l4_75 x_75 g75_0 g75_1 g75_2 g75_3 g75_4 g75_5 g75_6
                  refine fr_iload h 4 rfl dX12_lists_122 ?_
                  refine fr_iload_n h rfl 2 rfl dX12_lists_124 ?_
                  refine fr_icmp_ge (tgt := 150) h dX12_lists_125 (by decide) (by omega) (by omega) (fun c76 => ?_) (fun c76 => ?_)
                  ·
                    refine fr_iload_n h rfl 2 rfl dX12_lists_150 ?_
                    have r77 := (congrFun (g75_5 0 (by omega)) 5)
                    have r78 := r77.trans (fm_rd_k (a := 0) (b := 5) m74 (by omega))
                    have r79 := r78.trans (f72 5 (by decide) (by decide))
                    have r80 := r79.trans (f46 5 (by decide))
                    have r81 := r80.trans (g27_8 5 (by decide) (by decide))
                    have r82 := r81.trans (f14 5 (by decide) (by decide) (by decide) (by decide) (by decide) (by decide))
                    have r83 := r82.trans (fm_rd_s m2)
                    have r84 := (congrFun (g75_5 0 (by omega)) 2)
                    have r85 := r84.trans (fm_rd_k (a := 0) (b := 2) m74 (by omega))
                    have r86 := r85.trans (f72 2 (by decide) (by decide))
                    have r87 := r86.trans (f46 2 (by decide))
                    have r88 := r87.trans (g27_8 2 (by decide) (by decide))
                    have r89 := (fm_rd_i (a := 0) (b := 2) m2 (by decide))
                    have r90 := (congrFun (g75_5 0 (by omega)) 21)
                    have r91 := r90.trans (fm_rd_k (a := 0) (b := 21) m74 (by omega))
                    have r92 := (f46 21 (by decide))
                    have r93 := r92.trans (g27_8 21 (by decide) (by decide))
                    have r94 := r93.trans (f14 21 (by decide) (by decide) (by decide) (by decide) (by decide) (by decide))
                    have r95 := r94.trans (fm_rd_i (a := 0) (b := 21) m2 (by decide))
                    have r96 := (congrFun (g75_5 0 (by omega)) 12)
                    have r97 := r96.trans (fm_rd_k (a := 0) (b := 12) m74 (by omega))
                    have r98 := r97.trans (f72 12 (by decide) (by decide))
                    have r99 := r98.trans (f46 12 (by decide))
                    have r100 := r99.trans (g27_8 12 (by decide) (by decide))
                    have r101 := r100.trans (f14 12 (by decide) (by decide) (by decide) (by decide) (by decide) (by decide))
                    have r102 := r101.trans (fm_rd_i (a := 0) (b := 12) m2 (by decide))
                    exact fr_iret h hq (by omega) ⟨(by omega), (by omega), (by omega), (by omega), (Or.inr (by omega)), ⟨g75_3, (by rw [show x_75 8 = x65 8 from ((g75_5 8 (by omega)).trans (fm_up_row m74 (by omega)))]; exact p69), (by rw [show x_75 26 = x 26 from ((g75_5 26 (by omega)).trans ((fm_up_row m74 (by omega)).trans ((f71 26 (by omega) (by omega)).trans ((f45 26 (by omega)).trans ((g27_7 26 (by omega) (by omega)).trans ((f13 26 (by omega)).trans (fm_up_row m2 (by omega))))))))]; exact e0.2.2.1), (by have := e0.2.2.2; omega)⟩, (fun a k0 k1 k2 k3 => ((g75_5 a (by omega)).trans ((fm_up_row m74 (by omega)).trans ((f71 a (by omega) (by omega)).trans ((f45 a (by omega)).trans ((g27_7 a (by omega) (by omega)).trans ((f13 a (by omega)).trans (fm_up_row m2 (by omega))))))))), (fun i k0 k1 k2 k3 k4 k5 k6 k7 k8 => ((congrFun (g75_5 0 (by omega)) i).trans ((fm_rd_k (a := 0) (b := i) m74 (by omega)).trans ((f72 i (by omega) (by omega)).trans ((f46 i (by omega)).trans ((g27_8 i (by omega) (by omega)).trans ((f14 i (by omega) (by omega) (by omega) (by omega) (by omega) (by omega)).trans (fm_rd_i (a := 0) (b := i) m2 (by omega)))))))))⟩ dX12_lists_151
                  ·
                    refine fr_aload_n h rfl 0 rfl dX12_lists_128 ?_
                    refine fr_getc (z := 1) (iz := 0) h kX12 fX12_9 at_0M rfl rfl rfM_0 (by omega) dX12_lists_129 ?_
                    refine fr_iload_n h rfl 1 rfl dX12_lists_132 ?_
                    refine fr_aload_n h rfl 0 rfl dX12_lists_133 ?_
                    refine fr_getc (z := 4) (iz := 11) h kX12 fX12_21 at_0M rfl rfl rfM_11 (by omega) dX12_lists_134 ?_
                    refine fr_iload h 4 rfl dX12_lists_137 ?_
                    refine fr_iald h arM_4 (by omega) (by omega) (rrM_4 l4_75) dX12_lists_139 (fun z103 w104 w105 q106 => ?_)
                    have r107 := q106.trans (congrFun (g75_5 4 (by omega)) l4_75)
                    have r108 := r107.trans (fm_rd_k (a := 4) (b := l4_75) m74 (by omega))
                    have r109 := r108.trans (congrFun (f71 4 (by omega) (by omega)) l4_75)
                    have r110 := r109.trans (congrFun (f45 4 (by omega)) l4_75)
                    have r111 := (congrFun (f13 4 (by omega)) l4_75)
                    have r112 := r111.trans (fm_rd_k (a := 4) (b := l4_75) m2 (by omega))
                    have r113 := (fm_rd_s m74)
                    refine fr_csI h wX12_goPut lX12_169 (c_X12_goPut x_75 1 SA_1 p z103 (by omega) (by omega) (by omega) (by omega) (by omega) (by omega) (by omega)) rfl (by decide) (by decide) rfl (Nat.le_of_ble_eq_true rfl) dX12_lists_140 (fun z115 x114 w116 p117 => ?_)
                    obtain ⟨p118, p119, p120, f121⟩ := p117
                    refine fr_pop h rfl dX12_lists_143 ?_
                    refine fr_iinc (j := 4) (L' := [(0, vr G 0), (1, vi p), (2, vi l2_27), (3, vi l3_27), (4, vi (l4_75 + 1))]) h dX12_lists_144 rfl (by decide) [1, 2, 3, 4, 0] rfl ?_
                    refine fr_goto (tgt := 122) h dX12_lists_147 (by decide) ?_
                    have r122 := (fm_rd_s m74)
                    exact ih75 (l4_75 + 1) x114 (by omega) (by omega) (by omega) (MI_cong g75_3 (fun i a b => p120 i (by omega) (by omega))) (by omega) (fun a k0 => ((f121 a (by omega)).trans (g75_5 a (by omega)))) (by omega)
              have r123 := (fm_rd_s m74)
              exact HL75 ((6 - 0) + 1 : Int).toNat 0 x73 (by omega) (by omega) (by omega) (MI_cong (by rw [show x65 1 = x36 1 from (f71 1 (by omega) (by omega))]; exact (by rw [show x36 1 = x_27 1 from (f45 1 (by omega))]; exact (by rw [show x_27 1 = x3 1 from (g27_7 1 (by omega) (by omega))]; exact (by rw [show x3 1 = x1 1 from (f13 1 (by omega))]; exact (by rw [show x1 1 = x 1 from (fm_up_row m2 (by omega))]; exact e0.1))))) (fun i a b => fm_rd_i m74 (by omega))) (by omega) (fun a _ => rfl) (by omega)
            ·
              have d124 : z56 = 0 := by omega
              clear p59 c62
              have d125 := mt p60.2 (by omega)
              clear p60
              refine fr_iconst h dX12_lists_99 ?_
              have r126 := (f46 5 (by decide))
              have r127 := r126.trans (g27_8 5 (by decide) (by decide))
              have r128 := r127.trans (f14 5 (by decide) (by decide) (by decide) (by decide) (by decide) (by decide))
              have r129 := r128.trans (fm_rd_s m2)
              have r130 := (f46 2 (by decide))
              have r131 := r130.trans (g27_8 2 (by decide) (by decide))
              have r132 := (fm_rd_i (a := 0) (b := 2) m2 (by decide))
              have r133 := (f46 21 (by decide))
              have r134 := r133.trans (g27_8 21 (by decide) (by decide))
              have r135 := r134.trans (f14 21 (by decide) (by decide) (by decide) (by decide) (by decide) (by decide))
              have r136 := r135.trans (fm_rd_i (a := 0) (b := 21) m2 (by decide))
              have r137 := (f46 12 (by decide))
              have r138 := r137.trans (g27_8 12 (by decide) (by decide))
              have r139 := r138.trans (f14 12 (by decide) (by decide) (by decide) (by decide) (by decide) (by decide))
              have r140 := r139.trans (fm_rd_i (a := 0) (b := 12) m2 (by decide))
              exact fr_iret h hq (by omega) ⟨(by omega), (by omega), (by omega), (by omega), (Or.inl ⟨(by omega), ((f45 1 (by omega)).trans ((g27_7 1 (by omega) (by omega)).trans ((f13 1 (by omega)).trans (fm_up_row m2 (by omega)))))⟩), ⟨(by rw [show x36 1 = x_27 1 from (f45 1 (by omega))]; exact (by rw [show x_27 1 = x3 1 from (g27_7 1 (by omega) (by omega))]; exact (by rw [show x3 1 = x1 1 from (f13 1 (by omega))]; exact (by rw [show x1 1 = x 1 from (fm_up_row m2 (by omega))]; exact e0.1)))), (by rw [show x36 8 = x 8 from ((f45 8 (by omega)).trans ((g27_7 8 (by omega) (by omega)).trans ((f13 8 (by omega)).trans (fm_up_row m2 (by omega)))))]; exact e0.2.1), (by rw [show x36 26 = x 26 from ((f45 26 (by omega)).trans ((g27_7 26 (by omega) (by omega)).trans ((f13 26 (by omega)).trans (fm_up_row m2 (by omega)))))]; exact e0.2.2.1), (by have := e0.2.2.2; omega)⟩, (fun a k0 k1 k2 k3 => ((f45 a (by omega)).trans ((g27_7 a (by omega) (by omega)).trans ((f13 a (by omega)).trans (fm_up_row m2 (by omega)))))), (fun i k0 k1 k2 k3 k4 k5 k6 k7 k8 => ((f46 i (by omega)).trans ((g27_8 i (by omega) (by omega)).trans ((f14 i (by omega) (by omega) (by omega) (by omega) (by omega) (by omega)).trans (fm_rd_i (a := 0) (b := i) m2 (by omega))))))⟩ dX12_lists_100
          ·
            have d141 : z37 = 0 := by omega
            clear p40 c52
            have d142 := mt p41.2 (by omega)
            clear p41
            have kw := (LV_w (v10 := x36 0 10) g27_6 (by omega) p42 (fun q => p43 (by omega)) (fun q => p44 (by omega))).1 d142
            clear p42 p43 p44
            refine fr_iconst h dX12_lists_85 ?_
            refine fr_aload_n h rfl 0 rfl dX12_lists_86 ?_
            refine fr_geti (iz := 10) h kX12 fX12_124 at_0M rfl rfl (by decide) (by decide) rfM_10 dX12_lists_87 (fun z143 w144 w145 q146 => ?_)
            have r147 := (fm_rd_i (a := 0) (b := 10) m2 (by decide))
            refine fr_isub h dX12_lists_90 ?_
            have r148 := (f46 5 (by decide))
            have r149 := r148.trans (g27_8 5 (by decide) (by decide))
            have r150 := r149.trans (f14 5 (by decide) (by decide) (by decide) (by decide) (by decide) (by decide))
            have r151 := r150.trans (fm_rd_s m2)
            have r152 := (f46 2 (by decide))
            have r153 := r152.trans (g27_8 2 (by decide) (by decide))
            have r154 := (fm_rd_i (a := 0) (b := 2) m2 (by decide))
            have r155 := (f46 21 (by decide))
            have r156 := r155.trans (g27_8 21 (by decide) (by decide))
            have r157 := r156.trans (f14 21 (by decide) (by decide) (by decide) (by decide) (by decide) (by decide))
            have r158 := r157.trans (fm_rd_i (a := 0) (b := 21) m2 (by decide))
            have r159 := (f46 12 (by decide))
            have r160 := r159.trans (g27_8 12 (by decide) (by decide))
            have r161 := r160.trans (f14 12 (by decide) (by decide) (by decide) (by decide) (by decide) (by decide))
            have r162 := r161.trans (fm_rd_i (a := 0) (b := 12) m2 (by decide))
            exact fr_iret h hq (by omega) ⟨(by omega), (by omega), (by omega), (by omega), (Or.inl ⟨(by omega), ((f45 1 (by omega)).trans ((g27_7 1 (by omega) (by omega)).trans ((f13 1 (by omega)).trans (fm_up_row m2 (by omega)))))⟩), ⟨(by rw [show x36 1 = x_27 1 from (f45 1 (by omega))]; exact (by rw [show x_27 1 = x3 1 from (g27_7 1 (by omega) (by omega))]; exact (by rw [show x3 1 = x1 1 from (f13 1 (by omega))]; exact (by rw [show x1 1 = x 1 from (fm_up_row m2 (by omega))]; exact e0.1)))), (by rw [show x36 8 = x 8 from ((f45 8 (by omega)).trans ((g27_7 8 (by omega) (by omega)).trans ((f13 8 (by omega)).trans (fm_up_row m2 (by omega)))))]; exact e0.2.1), (by rw [show x36 26 = x 26 from ((f45 26 (by omega)).trans ((g27_7 26 (by omega) (by omega)).trans ((f13 26 (by omega)).trans (fm_up_row m2 (by omega)))))]; exact e0.2.2.1), (by have := e0.2.2.2; omega)⟩, (fun a k0 k1 k2 k3 => ((f45 a (by omega)).trans ((g27_7 a (by omega) (by omega)).trans ((f13 a (by omega)).trans (fm_up_row m2 (by omega)))))), (fun i k0 k1 k2 k3 k4 k5 k6 k7 k8 => ((f46 i (by omega)).trans ((g27_8 i (by omega) (by omega)).trans ((f14 i (by omega) (by omega) (by omega) (by omega) (by omega) (by omega)).trans (fm_rd_i (a := 0) (b := i) m2 (by omega))))))⟩ dX12_lists_91
        ·
          refine fr_aload_n h rfl 0 rfl dX12_lists_30 ?_
          refine fr_cvI h kX12 at_0M wX12_fine lX12_131 (c_X12_fine x_27) rfl (by decide) (by decide) rfl (Nat.le_of_ble_eq_true rfl) dX12_lists_31 (fun z164 x163 w165 p166 => ?_)
          obtain ⟨p167, p168, y169⟩ := p166
          rw [y169]
          clear y169
          refine fr_if_eq (tgt := 78) h dX12_lists_34 (by decide) (by omega) (fun c170 => ?_) (fun c170 => ?_)
          ·
            have d171 : z164 = 0 := by omega
            clear p167 c170
            have d172 := mt p168.2 (by omega)
            clear p168
            refine fr_aload_n h rfl 0 rfl dX12_lists_78 ?_
            have r173 := (fm_rd_i (a := 0) (b := 9) m2 (by decide))
            refine fr_cvI h kX12 at_0M wX12_wasRight lX12_158 (d_X12_wasRight x_27 (by omega)) rfl (by decide) (by decide) rfl (Nat.le_of_ble_eq_true rfl) dX12_lists_79 (fun z175 x174 w176 p177 => ?_)
            obtain ⟨p178, p179, p180, p181, p182, f183, f184⟩ := p177
            have r185 := (f184 7 (by decide))
            have r186 := r185.trans (g27_8 7 (by decide) (by decide))
            have r187 := (fm_rd_i (a := 0) (b := 7) m2 (by decide))
            have r188 := (f184 9 (by decide))
            have r189 := (fm_rd_i (a := 0) (b := 9) m2 (by decide))
            skip
            refine fr_if_ne (tgt := 92) h dX12_lists_82 (by decide) (by omega) (fun c190 => ?_) (fun c190 => ?_)
            ·
              have d191 : z175 = 1 := by omega
              clear p178 c190
              have d192 := p179.1 (by omega)
              clear p179
              have kw := (LV_w (v10 := x174 0 10) g27_6 (by omega) p180 (fun q => p181 (by omega)) (fun q => p182 (by omega))).2 d192
              clear p180 p181 p182
              refine fr_iload_n h rfl 1 rfl dX12_lists_92 ?_
              refine fr_csI h wX12_isList lX12_161 (c_X12_isList x174 p (by omega)) rfl (by decide) (by decide) rfl (Nat.le_of_ble_eq_true rfl) dX12_lists_93 (fun z194 x193 w195 p196 => ?_)
              obtain ⟨p197, p198, y199⟩ := p196
              rw [y199]
              clear y199
              refine fr_if_ne (tgt := 101) h dX12_lists_96 (by decide) (by omega) (fun c200 => ?_) (fun c200 => ?_)
              ·
                have d201 : z194 = 1 := by omega
                clear p197 c200
                have d202 := p198.1 (by omega)
                clear p198
                refine fr_aload_n h rfl 0 rfl dX12_lists_101 ?_
                refine fr_aload_n h rfl 0 rfl dX12_lists_102 ?_
                refine fr_getc (z := 1) (iz := 0) h kX12 fX12_9 at_0M rfl rfl rfM_0 (by omega) dX12_lists_103 ?_
                refine fr_cvV h kX12 at_0M wX12_change lX12_165 (c_X12_change x174 1 SA_1 (by rw [show x174 8 = x 8 from ((f183 8 (by omega)).trans ((g27_7 8 (by omega) (by omega)).trans ((f13 8 (by omega)).trans (fm_up_row m2 (by omega)))))]; exact e0.2.1) (by rw [show x174 1 = x_27 1 from (f183 1 (by omega))]; exact (by rw [show x_27 1 = x3 1 from (g27_7 1 (by omega) (by omega))]; exact (by rw [show x3 1 = x1 1 from (f13 1 (by omega))]; exact (by rw [show x1 1 = x 1 from (fm_up_row m2 (by omega))]; exact e0.1))))) rfl (by decide) (by decide) rfl (Nat.le_of_ble_eq_true rfl) dX12_lists_106 (fun x203 p206 => ?_)
                obtain ⟨p207, p208, f209, f210⟩ := p206
                refine fr_aload_n h rfl 0 rfl dX12_lists_109 ?_
                refine fr_getc (z := 1) (iz := 0) h kX12 fX12_9 at_0M rfl rfl rfM_0 (by omega) dX12_lists_110 ?_
                refine fr_bipush h rfl dX12_lists_113 ?_
                refine fr_iload_n h rfl 1 rfl dX12_lists_115 ?_
                refine fr_iadd h dX12_lists_116 ?_
                refine fr_iconst h dX12_lists_117 ?_
                refine fr_iast h (SA_a SA_1) (by omega) (by omega) ((SA_r SA_1 (24 + p)).trans (sg_len (by omega) (by omega))) (by omega) (by omega) dX12_lists_118 ?_
                refine fr_mem (fun x211 m212 => ?_)
                refine fr_iconst h dX12_lists_119 ?_
                refine fr_istore (L' := [(0, vr G 0), (1, vi p), (2, vi l2_27), (3, vi l3_27), (4, vi 0)]) h dX12_lists_120 (by decide) [1, 2, 3, 4, 0] rfl ?_
                have HL213 : ∀ (n213 : Nat) (l4_213 : Int) (x_213 : Mm), fm_r l4_213 → 0 ≤ l4_213 → l4_213 ≤ 6 → MI (x_213 1) → x_213 1 (24 + p) = l4_213 → (∀ a : Int, (a < 1 ∨ 1 < a) → x_213 a = x211 a) → (6 - l4_213) < n213 → FW YM G C 5 x_213 122 [(0, vr G 0), (1, vi p), (2, vi l2_27), (3, vi l3_27), (4, vi l4_213)] [] := by
                  intro n213
                  induction n213 with
                  | zero =>
                    intro l4_213 x_213 g213_0 g213_1 g213_2 g213_3 g213_4 g213_5 g213_6
                    exfalso; omega
                  | succ n213 ih213 =>
                    intro l4_213 x_213 g213_0 g213_1 g213_2 g213_3 g213_4 g213_5 g213_6
                    refine fr_iload h 4 rfl dX12_lists_122 ?_
                    refine fr_iload_n h rfl 2 rfl dX12_lists_124 ?_
                    refine fr_icmp_ge (tgt := 150) h dX12_lists_125 (by decide) (by omega) (by omega) (fun c214 => ?_) (fun c214 => ?_)
                    ·
                      refine fr_iload_n h rfl 2 rfl dX12_lists_150 ?_
                      have r215 := (congrFun (g213_5 0 (by omega)) 5)
                      have r216 := r215.trans (fm_rd_k (a := 0) (b := 5) m212 (by omega))
                      have r217 := r216.trans (f210 5 (by decide) (by decide))
                      have r218 := r217.trans (f184 5 (by decide))
                      have r219 := r218.trans (g27_8 5 (by decide) (by decide))
                      have r220 := r219.trans (f14 5 (by decide) (by decide) (by decide) (by decide) (by decide) (by decide))
                      have r221 := r220.trans (fm_rd_s m2)
                      have r222 := (congrFun (g213_5 0 (by omega)) 2)
                      have r223 := r222.trans (fm_rd_k (a := 0) (b := 2) m212 (by omega))
                      have r224 := r223.trans (f210 2 (by decide) (by decide))
                      have r225 := r224.trans (f184 2 (by decide))
                      have r226 := r225.trans (g27_8 2 (by decide) (by decide))
                      have r227 := (fm_rd_i (a := 0) (b := 2) m2 (by decide))
                      have r228 := (congrFun (g213_5 0 (by omega)) 21)
                      have r229 := r228.trans (fm_rd_k (a := 0) (b := 21) m212 (by omega))
                      have r230 := (f184 21 (by decide))
                      have r231 := r230.trans (g27_8 21 (by decide) (by decide))
                      have r232 := r231.trans (f14 21 (by decide) (by decide) (by decide) (by decide) (by decide) (by decide))
                      have r233 := r232.trans (fm_rd_i (a := 0) (b := 21) m2 (by decide))
                      have r234 := (congrFun (g213_5 0 (by omega)) 12)
                      have r235 := r234.trans (fm_rd_k (a := 0) (b := 12) m212 (by omega))
                      have r236 := r235.trans (f210 12 (by decide) (by decide))
                      have r237 := r236.trans (f184 12 (by decide))
                      have r238 := r237.trans (g27_8 12 (by decide) (by decide))
                      have r239 := r238.trans (f14 12 (by decide) (by decide) (by decide) (by decide) (by decide) (by decide))
                      have r240 := r239.trans (fm_rd_i (a := 0) (b := 12) m2 (by decide))
                      exact fr_iret h hq (by omega) ⟨(by omega), (by omega), (by omega), (by omega), (Or.inr (by omega)), ⟨g213_3, (by rw [show x_213 8 = x203 8 from ((g213_5 8 (by omega)).trans (fm_up_row m212 (by omega)))]; exact p207), (by rw [show x_213 26 = x 26 from ((g213_5 26 (by omega)).trans ((fm_up_row m212 (by omega)).trans ((f209 26 (by omega) (by omega)).trans ((f183 26 (by omega)).trans ((g27_7 26 (by omega) (by omega)).trans ((f13 26 (by omega)).trans (fm_up_row m2 (by omega))))))))]; exact e0.2.2.1), (by have := e0.2.2.2; omega)⟩, (fun a k0 k1 k2 k3 => ((g213_5 a (by omega)).trans ((fm_up_row m212 (by omega)).trans ((f209 a (by omega) (by omega)).trans ((f183 a (by omega)).trans ((g27_7 a (by omega) (by omega)).trans ((f13 a (by omega)).trans (fm_up_row m2 (by omega))))))))), (fun i k0 k1 k2 k3 k4 k5 k6 k7 k8 => ((congrFun (g213_5 0 (by omega)) i).trans ((fm_rd_k (a := 0) (b := i) m212 (by omega)).trans ((f210 i (by omega) (by omega)).trans ((f184 i (by omega)).trans ((g27_8 i (by omega) (by omega)).trans ((f14 i (by omega) (by omega) (by omega) (by omega) (by omega) (by omega)).trans (fm_rd_i (a := 0) (b := i) m2 (by omega)))))))))⟩ dX12_lists_151
                    ·
                      refine fr_aload_n h rfl 0 rfl dX12_lists_128 ?_
                      refine fr_getc (z := 1) (iz := 0) h kX12 fX12_9 at_0M rfl rfl rfM_0 (by omega) dX12_lists_129 ?_
                      refine fr_iload_n h rfl 1 rfl dX12_lists_132 ?_
                      refine fr_aload_n h rfl 0 rfl dX12_lists_133 ?_
                      refine fr_getc (z := 4) (iz := 11) h kX12 fX12_21 at_0M rfl rfl rfM_11 (by omega) dX12_lists_134 ?_
                      refine fr_iload h 4 rfl dX12_lists_137 ?_
                      refine fr_iald h arM_4 (by omega) (by omega) (rrM_4 l4_213) dX12_lists_139 (fun z241 w242 w243 q244 => ?_)
                      have r245 := q244.trans (congrFun (g213_5 4 (by omega)) l4_213)
                      have r246 := r245.trans (fm_rd_k (a := 4) (b := l4_213) m212 (by omega))
                      have r247 := r246.trans (congrFun (f209 4 (by omega) (by omega)) l4_213)
                      have r248 := r247.trans (congrFun (f183 4 (by omega)) l4_213)
                      have r249 := (congrFun (f13 4 (by omega)) l4_213)
                      have r250 := r249.trans (fm_rd_k (a := 4) (b := l4_213) m2 (by omega))
                      have r251 := (fm_rd_s m212)
                      refine fr_csI h wX12_goPut lX12_169 (c_X12_goPut x_213 1 SA_1 p z241 (by omega) (by omega) (by omega) (by omega) (by omega) (by omega) (by omega)) rfl (by decide) (by decide) rfl (Nat.le_of_ble_eq_true rfl) dX12_lists_140 (fun z253 x252 w254 p255 => ?_)
                      obtain ⟨p256, p257, p258, f259⟩ := p255
                      refine fr_pop h rfl dX12_lists_143 ?_
                      refine fr_iinc (j := 4) (L' := [(0, vr G 0), (1, vi p), (2, vi l2_27), (3, vi l3_27), (4, vi (l4_213 + 1))]) h dX12_lists_144 rfl (by decide) [1, 2, 3, 4, 0] rfl ?_
                      refine fr_goto (tgt := 122) h dX12_lists_147 (by decide) ?_
                      have r260 := (fm_rd_s m212)
                      exact ih213 (l4_213 + 1) x252 (by omega) (by omega) (by omega) (MI_cong g213_3 (fun i a b => p258 i (by omega) (by omega))) (by omega) (fun a k0 => ((f259 a (by omega)).trans (g213_5 a (by omega)))) (by omega)
                have r261 := (fm_rd_s m212)
                exact HL213 ((6 - 0) + 1 : Int).toNat 0 x211 (by omega) (by omega) (by omega) (MI_cong (by rw [show x203 1 = x174 1 from (f209 1 (by omega) (by omega))]; exact (by rw [show x174 1 = x_27 1 from (f183 1 (by omega))]; exact (by rw [show x_27 1 = x3 1 from (g27_7 1 (by omega) (by omega))]; exact (by rw [show x3 1 = x1 1 from (f13 1 (by omega))]; exact (by rw [show x1 1 = x 1 from (fm_up_row m2 (by omega))]; exact e0.1))))) (fun i a b => fm_rd_i m212 (by omega))) (by omega) (fun a _ => rfl) (by omega)
              ·
                have d262 : z194 = 0 := by omega
                clear p197 c200
                have d263 := mt p198.2 (by omega)
                clear p198
                refine fr_iconst h dX12_lists_99 ?_
                have r264 := (f184 5 (by decide))
                have r265 := r264.trans (g27_8 5 (by decide) (by decide))
                have r266 := r265.trans (f14 5 (by decide) (by decide) (by decide) (by decide) (by decide) (by decide))
                have r267 := r266.trans (fm_rd_s m2)
                have r268 := (f184 2 (by decide))
                have r269 := r268.trans (g27_8 2 (by decide) (by decide))
                have r270 := (fm_rd_i (a := 0) (b := 2) m2 (by decide))
                have r271 := (f184 21 (by decide))
                have r272 := r271.trans (g27_8 21 (by decide) (by decide))
                have r273 := r272.trans (f14 21 (by decide) (by decide) (by decide) (by decide) (by decide) (by decide))
                have r274 := r273.trans (fm_rd_i (a := 0) (b := 21) m2 (by decide))
                have r275 := (f184 12 (by decide))
                have r276 := r275.trans (g27_8 12 (by decide) (by decide))
                have r277 := r276.trans (f14 12 (by decide) (by decide) (by decide) (by decide) (by decide) (by decide))
                have r278 := r277.trans (fm_rd_i (a := 0) (b := 12) m2 (by decide))
                exact fr_iret h hq (by omega) ⟨(by omega), (by omega), (by omega), (by omega), (Or.inl ⟨(by omega), ((f183 1 (by omega)).trans ((g27_7 1 (by omega) (by omega)).trans ((f13 1 (by omega)).trans (fm_up_row m2 (by omega)))))⟩), ⟨(by rw [show x174 1 = x_27 1 from (f183 1 (by omega))]; exact (by rw [show x_27 1 = x3 1 from (g27_7 1 (by omega) (by omega))]; exact (by rw [show x3 1 = x1 1 from (f13 1 (by omega))]; exact (by rw [show x1 1 = x 1 from (fm_up_row m2 (by omega))]; exact e0.1)))), (by rw [show x174 8 = x 8 from ((f183 8 (by omega)).trans ((g27_7 8 (by omega) (by omega)).trans ((f13 8 (by omega)).trans (fm_up_row m2 (by omega)))))]; exact e0.2.1), (by rw [show x174 26 = x 26 from ((f183 26 (by omega)).trans ((g27_7 26 (by omega) (by omega)).trans ((f13 26 (by omega)).trans (fm_up_row m2 (by omega)))))]; exact e0.2.2.1), (by have := e0.2.2.2; omega)⟩, (fun a k0 k1 k2 k3 => ((f183 a (by omega)).trans ((g27_7 a (by omega) (by omega)).trans ((f13 a (by omega)).trans (fm_up_row m2 (by omega)))))), (fun i k0 k1 k2 k3 k4 k5 k6 k7 k8 => ((f184 i (by omega)).trans ((g27_8 i (by omega) (by omega)).trans ((f14 i (by omega) (by omega) (by omega) (by omega) (by omega) (by omega)).trans (fm_rd_i (a := 0) (b := i) m2 (by omega))))))⟩ dX12_lists_100
            ·
              have d279 : z175 = 0 := by omega
              clear p178 c190
              have d280 := mt p179.2 (by omega)
              clear p179
              have kw := (LV_w (v10 := x174 0 10) g27_6 (by omega) p180 (fun q => p181 (by omega)) (fun q => p182 (by omega))).1 d280
              clear p180 p181 p182
              refine fr_iconst h dX12_lists_85 ?_
              refine fr_aload_n h rfl 0 rfl dX12_lists_86 ?_
              refine fr_geti (iz := 10) h kX12 fX12_124 at_0M rfl rfl (by decide) (by decide) rfM_10 dX12_lists_87 (fun z281 w282 w283 q284 => ?_)
              have r285 := (fm_rd_i (a := 0) (b := 10) m2 (by decide))
              refine fr_isub h dX12_lists_90 ?_
              have r286 := (f184 5 (by decide))
              have r287 := r286.trans (g27_8 5 (by decide) (by decide))
              have r288 := r287.trans (f14 5 (by decide) (by decide) (by decide) (by decide) (by decide) (by decide))
              have r289 := r288.trans (fm_rd_s m2)
              have r290 := (f184 2 (by decide))
              have r291 := r290.trans (g27_8 2 (by decide) (by decide))
              have r292 := (fm_rd_i (a := 0) (b := 2) m2 (by decide))
              have r293 := (f184 21 (by decide))
              have r294 := r293.trans (g27_8 21 (by decide) (by decide))
              have r295 := r294.trans (f14 21 (by decide) (by decide) (by decide) (by decide) (by decide) (by decide))
              have r296 := r295.trans (fm_rd_i (a := 0) (b := 21) m2 (by decide))
              have r297 := (f184 12 (by decide))
              have r298 := r297.trans (g27_8 12 (by decide) (by decide))
              have r299 := r298.trans (f14 12 (by decide) (by decide) (by decide) (by decide) (by decide) (by decide))
              have r300 := r299.trans (fm_rd_i (a := 0) (b := 12) m2 (by decide))
              exact fr_iret h hq (by omega) ⟨(by omega), (by omega), (by omega), (by omega), (Or.inl ⟨(by omega), ((f183 1 (by omega)).trans ((g27_7 1 (by omega) (by omega)).trans ((f13 1 (by omega)).trans (fm_up_row m2 (by omega)))))⟩), ⟨(by rw [show x174 1 = x_27 1 from (f183 1 (by omega))]; exact (by rw [show x_27 1 = x3 1 from (g27_7 1 (by omega) (by omega))]; exact (by rw [show x3 1 = x1 1 from (f13 1 (by omega))]; exact (by rw [show x1 1 = x 1 from (fm_up_row m2 (by omega))]; exact e0.1)))), (by rw [show x174 8 = x 8 from ((f183 8 (by omega)).trans ((g27_7 8 (by omega) (by omega)).trans ((f13 8 (by omega)).trans (fm_up_row m2 (by omega)))))]; exact e0.2.1), (by rw [show x174 26 = x 26 from ((f183 26 (by omega)).trans ((g27_7 26 (by omega) (by omega)).trans ((f13 26 (by omega)).trans (fm_up_row m2 (by omega)))))]; exact e0.2.2.1), (by have := e0.2.2.2; omega)⟩, (fun a k0 k1 k2 k3 => ((f183 a (by omega)).trans ((g27_7 a (by omega) (by omega)).trans ((f13 a (by omega)).trans (fm_up_row m2 (by omega)))))), (fun i k0 k1 k2 k3 k4 k5 k6 k7 k8 => ((f184 i (by omega)).trans ((g27_8 i (by omega) (by omega)).trans ((f14 i (by omega) (by omega) (by omega) (by omega) (by omega) (by omega)).trans (fm_rd_i (a := 0) (b := i) m2 (by omega))))))⟩ dX12_lists_91
          ·
            have d301 : z164 = 1 := by omega
            clear p167 c170
            have d302 := p168.1 (by omega)
            clear p168
            have kn := LV_n g27_6 d302
            have kr : l3_27 = 1 := by omega
            refine fr_iload_n h rfl 2 rfl dX12_lists_37 ?_
            refine fr_bipush h rfl dX12_lists_38 ?_
            refine fr_icmp_ne (tgt := 54) h dX12_lists_40 (by decide) (by omega) (by omega) (fun c303 => ?_) (fun c303 => ?_)
            ·
              have k5 : l2_27 ≤ 5 := by omega
              refine fr_aload_n h rfl 0 rfl dX12_lists_54 ?_
              refine fr_getc (z := 4) (iz := 11) h kX12 fX12_21 at_0M rfl rfl rfM_11 (by omega) dX12_lists_55 ?_
              refine fr_iload_n h rfl 2 rfl dX12_lists_58 ?_
              refine fr_aload_n h rfl 0 rfl dX12_lists_59 ?_
              refine fr_iconst h dX12_lists_60 ?_
              have r304 := (fm_rd_i (a := 0) (b := 9) m2 (by decide))
              have r305 := (fm_rd_i (a := 0) (b := 10) m2 (by decide))
              refine fr_cvI h kX12 at_0M wX12_number lX12_154 (d_X12_number x_27 2 f (x 0 2) (x_27 0 9) (by omega) (by omega) (by omega) (by omega) (by omega) (fun j => (congrArg uch (congrFun ((g27_7 2 (by omega) (by omega)).trans ((f13 2 (by omega)).trans (fm_up_row m2 (by omega)))) j)).trans (e1 j)) (by omega) (by omega) (by omega) (by omega)) rfl (by decide) (by decide) rfl (Nat.le_of_ble_eq_true rfl) dX12_lists_61 (fun z307 x306 w308 p309 => ?_)
              obtain ⟨p310, p311, p312, p313, p314, p315, p316, p317, p318, f319, f320⟩ := p309
              have kN : NMq f (x 0 2) (x_27 0 9) (x306 0 9) (x306 0 10) := ⟨p313, p314, p315, p316⟩
              clear p313 p314 p315 p316 p317 p318
              have kw9 := NMq_9 kN k9
              have kz := p312 rfl
              clear p312
              refine fr_iast h arM_4 (by omega) (by omega) (rrM_4 l2_27) (by omega) (by omega) dX12_lists_64 ?_
              refine fr_mem (fun x321 m322 => ?_)
              refine fr_iinc (j := 2) (L' := [(0, vr G 0), (1, vi p), (2, vi (l2_27 + 1)), (3, vi l3_27)]) h dX12_lists_65 rfl (by decide) [1, 2, 0, 3] rfl ?_
              refine fr_aload_n h rfl 0 rfl dX12_lists_68 ?_
              refine fr_bipush h rfl dX12_lists_69 ?_
              have r323 := (fm_rd_k (a := 0) (b := 6) m322 (by omega))
              have r324 := r323.trans (f320 6 (by decide) (by decide))
              have r325 := r324.trans (g27_8 6 (by decide) (by decide))
              have r326 := (fm_rd_i (a := 0) (b := 6) m2 (by decide))
              have r327 := (fm_rd_k (a := 0) (b := 7) m322 (by omega))
              have r328 := r327.trans (f320 7 (by decide) (by decide))
              have r329 := r328.trans (g27_8 7 (by decide) (by decide))
              have r330 := (fm_rd_i (a := 0) (b := 7) m2 (by decide))
              have r331 := (fm_rd_k (a := 0) (b := 8) m322 (by omega))
              have r332 := r331.trans (f320 8 (by decide) (by decide))
              have r333 := r332.trans (g27_8 8 (by decide) (by decide))
              have r334 := (fm_rd_i (a := 0) (b := 8) m2 (by decide))
              have r335 := (fm_rd_k (a := 0) (b := 9) m322 (by omega))
              have r336 := (fm_rd_i (a := 0) (b := 9) m2 (by decide))
              refine fr_cvI h kX12 at_0M wX12_passes lX12_139 (d_X12_passes x321 44 f (x 0 2) (x321 0 9) (by omega) (by omega) (by omega) (by omega) (by omega) (fun j => (congrArg uch (congrFun ((fm_up_row m322 (by omega)).trans ((f319 2 (by omega)).trans ((g27_7 2 (by omega) (by omega)).trans ((f13 2 (by omega)).trans (fm_up_row m2 (by omega)))))) j)).trans (e1 j)) (by omega) (by omega) (by omega)) rfl (by decide) (by decide) rfl (Nat.le_of_ble_eq_true rfl) dX12_lists_71 (fun z338 x337 w339 p340 => ?_)
              obtain ⟨p341, p342, p343, p344, f345, f346⟩ := p340
              have r347 := (fm_rd_k (a := 0) (b := 9) m322 (by omega))
              have r348 := (fm_rd_i (a := 0) (b := 9) m2 (by decide))
              have r349 := (f346 10 (by decide))
              have r350 := r349.trans (fm_rd_k (a := 0) (b := 10) m322 (by omega))
              have r351 := (fm_rd_i (a := 0) (b := 10) m2 (by decide))
              have kv : LV f (x 0 2) (l2_27 + 1) z338 (x337 0 9) (x337 0 10) := LV_s (w9 := x306 0 9) (w10 := x306 0 10) (s9 := x321 0 9) (s10 := x321 0 10) g27_6 d302 kr (by omega) (by omega) kN (by omega) (by omega) (by omega) p341 p342 p343 p344
              clear p342 p343 p344
              refine fr_istore_n (L' := [(0, vr G 0), (1, vi p), (2, vi (l2_27 + 1)), (3, vi z338)]) h rfl dX12_lists_74 (by decide) [1, 2, 3, 0] rfl ?_
              refine fr_goto (tgt := 26) h dX12_lists_75 (by decide) ?_
              exact ih27 (l2_27 + 1) z338 x337 (by omega) (by omega) (by omega) (by omega) (by omega) (by omega) kv (fun a k0 k1 => ((f345 a (by omega)).trans ((fm_up_row m322 (by omega)).trans ((f319 a (by omega)).trans (g27_7 a (by omega) (by omega)))))) (fun i k0 k1 => ((f346 i (by omega)).trans ((fm_rd_k (a := 0) (b := i) m322 (by omega)).trans ((f320 i (by omega) (by omega)).trans (g27_8 i (by omega) (by omega)))))) (by omega)
            ·
              refine fr_aload_n h rfl 0 rfl dX12_lists_43 ?_
              refine fr_aload_n h rfl 0 rfl dX12_lists_44 ?_
              refine fr_geti (iz := 9) h kX12 fX12_121 at_0M rfl rfl (by decide) (by decide) rfM_9 dX12_lists_45 (fun z352 w353 w354 q355 => ?_)
              have r356 := (fm_rd_i (a := 0) (b := 9) m2 (by decide))
              refine fr_cvV h kX12 at_0M wX12_fault lX12_143 (d_X12_fault x_27 z352 (by omega) (by omega) (by omega)) rfl (by decide) (by decide) rfl (Nat.le_of_ble_eq_true rfl) dX12_lists_48 (fun x357 p360 => ?_)
              obtain ⟨p361, p362, f363, f364⟩ := p360
              refine fr_goto (tgt := 65) h dX12_lists_51 (by decide) ?_
              refine fr_iinc (j := 2) (L' := [(0, vr G 0), (1, vi p), (2, vi (l2_27 + 1)), (3, vi l3_27)]) h dX12_lists_65 rfl (by decide) [1, 2, 0, 3] rfl ?_
              refine fr_aload_n h rfl 0 rfl dX12_lists_68 ?_
              refine fr_bipush h rfl dX12_lists_69 ?_
              have r365 := (f364 6 (by decide))
              have r366 := r365.trans (g27_8 6 (by decide) (by decide))
              have r367 := (fm_rd_i (a := 0) (b := 6) m2 (by decide))
              have r368 := (f364 7 (by decide))
              have r369 := r368.trans (g27_8 7 (by decide) (by decide))
              have r370 := (fm_rd_i (a := 0) (b := 7) m2 (by decide))
              have r371 := (f364 8 (by decide))
              have r372 := r371.trans (g27_8 8 (by decide) (by decide))
              have r373 := (fm_rd_i (a := 0) (b := 8) m2 (by decide))
              have r374 := (f364 9 (by decide))
              have r375 := (fm_rd_i (a := 0) (b := 9) m2 (by decide))
              refine fr_cvI h kX12 at_0M wX12_passes lX12_139 (d_X12_passes x357 44 f (x 0 2) (x357 0 9) (by omega) (by omega) (by omega) (by omega) (by omega) (fun j => (congrArg uch (congrFun ((f363 2 (by omega)).trans ((g27_7 2 (by omega) (by omega)).trans ((f13 2 (by omega)).trans (fm_up_row m2 (by omega))))) j)).trans (e1 j)) (by omega) (by omega) (by omega)) rfl (by decide) (by decide) rfl (Nat.le_of_ble_eq_true rfl) dX12_lists_71 (fun z377 x376 w378 p379 => ?_)
              obtain ⟨p380, p381, p382, p383, f384, f385⟩ := p379
              have r386 := (f364 9 (by decide))
              have r387 := (fm_rd_i (a := 0) (b := 9) m2 (by decide))
              have r388 := (f385 10 (by decide))
              have r389 := (fm_rd_i (a := 0) (b := 10) m2 (by decide))
              have ka := p361 d302
              clear p361 p362
              have kv : LV f (x 0 2) (l2_27 + 1) z377 (x376 0 9) (x376 0 10) := LV_f (s9 := x357 0 9) (s10 := x357 0 10) g27_6 d302 kr (by omega) (by omega) (by omega) (by omega) p380 p381 p383
              clear p381 p382 p383
              refine fr_istore_n (L' := [(0, vr G 0), (1, vi p), (2, vi (l2_27 + 1)), (3, vi z377)]) h rfl dX12_lists_74 (by decide) [1, 2, 3, 0] rfl ?_
              refine fr_goto (tgt := 26) h dX12_lists_75 (by decide) ?_
              exact ih27 (l2_27 + 1) z377 x376 (by omega) (by omega) (by omega) (by omega) (by omega) (by omega) kv (fun a k0 k1 => ((f384 a (by omega)).trans ((f363 a (by omega)).trans (g27_7 a (by omega) (by omega))))) (fun i k0 k1 => ((f385 i (by omega)).trans ((f364 i (by omega)).trans (g27_8 i (by omega) (by omega))))) (by omega)
    exact HL27 ((7 - 0) + 1 : Int).toNat 0 0 x3 (by omega) (by omega) (by omega) (by omega) (by omega) (by omega) (LV_0 (by omega) (by omega) rfl (by omega)) (fun a _ _ => rfl) (fun i _ _ => rfl) (by omega)
  ·
    refine fr_iconst h dX12_lists_20 ?_
    refine fr_goto (tgt := 25) h dX12_lists_21 (by decide) ?_
    refine fr_istore_n (L' := [(0, vr G 0), (1, vi p), (2, vi 0), (3, vi 1)]) h rfl dX12_lists_25 (by decide) [1, 2, 3, 0] rfl ?_
    have HL390 : ∀ (n390 : Nat) (l2_390 l3_390 : Int) (x_390 : Mm), fm_r l2_390 → 0 ≤ l2_390 → l2_390 ≤ 7 → fm_r l3_390 → 0 ≤ l3_390 → l3_390 ≤ 1 → LV f (x 0 2) l2_390 l3_390 (x_390 0 9) (x_390 0 10) → (∀ a : Int, (a < 0 ∨ 0 < a) → (a < 4 ∨ 4 < a) → x_390 a = x3 a) → (∀ i : Int, i ≠ 9 → i ≠ 10 → x_390 0 i = x3 0 i) → (7 - l2_390) < n390 → FW YM G C 5 x_390 26 [(0, vr G 0), (1, vi p), (2, vi l2_390), (3, vi l3_390)] [] := by
      intro n390
      induction n390 with
      | zero =>
        intro l2_390 l3_390 x_390 g390_0 g390_1 g390_2 g390_3 g390_4 g390_5 g390_6 g390_7 g390_8 g390_9
        exfalso; omega
      | succ n390 ih390 =>
        intro l2_390 l3_390 x_390 g390_0 g390_1 g390_2 g390_3 g390_4 g390_5 g390_6 g390_7 g390_8 g390_9
        refine fr_iload_n h rfl 3 rfl dX12_lists_26 ?_
        have r391 := (g390_8 6 (by decide) (by decide))
        have r392 := (fm_rd_i (a := 0) (b := 6) m2 (by decide))
        have r393 := (g390_8 7 (by decide) (by decide))
        have r394 := (fm_rd_i (a := 0) (b := 7) m2 (by decide))
        have r395 := (g390_8 8 (by decide) (by decide))
        have r396 := (fm_rd_i (a := 0) (b := 8) m2 (by decide))
        skip
        have k9 := LV_9 g390_6
        refine fr_if_eq (tgt := 78) h dX12_lists_27 (by decide) (by omega) (fun c397 => ?_) (fun c397 => ?_)
        ·
          refine fr_aload_n h rfl 0 rfl dX12_lists_78 ?_
          have r398 := (fm_rd_i (a := 0) (b := 9) m2 (by decide))
          refine fr_cvI h kX12 at_0M wX12_wasRight lX12_158 (d_X12_wasRight x_390 (by omega)) rfl (by decide) (by decide) rfl (Nat.le_of_ble_eq_true rfl) dX12_lists_79 (fun z400 x399 w401 p402 => ?_)
          obtain ⟨p403, p404, p405, p406, p407, f408, f409⟩ := p402
          have r410 := (f409 7 (by decide))
          have r411 := r410.trans (g390_8 7 (by decide) (by decide))
          have r412 := (fm_rd_i (a := 0) (b := 7) m2 (by decide))
          have r413 := (f409 9 (by decide))
          have r414 := (fm_rd_i (a := 0) (b := 9) m2 (by decide))
          skip
          refine fr_if_ne (tgt := 92) h dX12_lists_82 (by decide) (by omega) (fun c415 => ?_) (fun c415 => ?_)
          ·
            have d416 : z400 = 1 := by omega
            clear p403 c415
            have d417 := p404.1 (by omega)
            clear p404
            have kw := (LV_w (v10 := x399 0 10) g390_6 (by omega) p405 (fun q => p406 (by omega)) (fun q => p407 (by omega))).2 d417
            clear p405 p406 p407
            refine fr_iload_n h rfl 1 rfl dX12_lists_92 ?_
            refine fr_csI h wX12_isList lX12_161 (c_X12_isList x399 p (by omega)) rfl (by decide) (by decide) rfl (Nat.le_of_ble_eq_true rfl) dX12_lists_93 (fun z419 x418 w420 p421 => ?_)
            obtain ⟨p422, p423, y424⟩ := p421
            rw [y424]
            clear y424
            refine fr_if_ne (tgt := 101) h dX12_lists_96 (by decide) (by omega) (fun c425 => ?_) (fun c425 => ?_)
            ·
              have d426 : z419 = 1 := by omega
              clear p422 c425
              have d427 := p423.1 (by omega)
              clear p423
              refine fr_aload_n h rfl 0 rfl dX12_lists_101 ?_
              refine fr_aload_n h rfl 0 rfl dX12_lists_102 ?_
              refine fr_getc (z := 1) (iz := 0) h kX12 fX12_9 at_0M rfl rfl rfM_0 (by omega) dX12_lists_103 ?_
              refine fr_cvV h kX12 at_0M wX12_change lX12_165 (c_X12_change x399 1 SA_1 (by rw [show x399 8 = x 8 from ((f408 8 (by omega)).trans ((g390_7 8 (by omega) (by omega)).trans ((f13 8 (by omega)).trans (fm_up_row m2 (by omega)))))]; exact e0.2.1) (by rw [show x399 1 = x_390 1 from (f408 1 (by omega))]; exact (by rw [show x_390 1 = x3 1 from (g390_7 1 (by omega) (by omega))]; exact (by rw [show x3 1 = x1 1 from (f13 1 (by omega))]; exact (by rw [show x1 1 = x 1 from (fm_up_row m2 (by omega))]; exact e0.1))))) rfl (by decide) (by decide) rfl (Nat.le_of_ble_eq_true rfl) dX12_lists_106 (fun x428 p431 => ?_)
              obtain ⟨p432, p433, f434, f435⟩ := p431
              refine fr_aload_n h rfl 0 rfl dX12_lists_109 ?_
              refine fr_getc (z := 1) (iz := 0) h kX12 fX12_9 at_0M rfl rfl rfM_0 (by omega) dX12_lists_110 ?_
              refine fr_bipush h rfl dX12_lists_113 ?_
              refine fr_iload_n h rfl 1 rfl dX12_lists_115 ?_
              refine fr_iadd h dX12_lists_116 ?_
              refine fr_iconst h dX12_lists_117 ?_
              refine fr_iast h (SA_a SA_1) (by omega) (by omega) ((SA_r SA_1 (24 + p)).trans (sg_len (by omega) (by omega))) (by omega) (by omega) dX12_lists_118 ?_
              refine fr_mem (fun x436 m437 => ?_)
              refine fr_iconst h dX12_lists_119 ?_
              refine fr_istore (L' := [(0, vr G 0), (1, vi p), (2, vi l2_390), (3, vi l3_390), (4, vi 0)]) h dX12_lists_120 (by decide) [1, 2, 3, 4, 0] rfl ?_
              have HL438 : ∀ (n438 : Nat) (l4_438 : Int) (x_438 : Mm), fm_r l4_438 → 0 ≤ l4_438 → l4_438 ≤ 6 → MI (x_438 1) → x_438 1 (24 + p) = l4_438 → (∀ a : Int, (a < 1 ∨ 1 < a) → x_438 a = x436 a) → (6 - l4_438) < n438 → FW YM G C 5 x_438 122 [(0, vr G 0), (1, vi p), (2, vi l2_390), (3, vi l3_390), (4, vi l4_438)] [] := by
                intro n438
                induction n438 with
                | zero =>
                  intro l4_438 x_438 g438_0 g438_1 g438_2 g438_3 g438_4 g438_5 g438_6
                  exfalso; omega
                | succ n438 ih438 =>
                  intro l4_438 x_438 g438_0 g438_1 g438_2 g438_3 g438_4 g438_5 g438_6
                  refine fr_iload h 4 rfl dX12_lists_122 ?_
                  refine fr_iload_n h rfl 2 rfl dX12_lists_124 ?_
                  refine fr_icmp_ge (tgt := 150) h dX12_lists_125 (by decide) (by omega) (by omega) (fun c439 => ?_) (fun c439 => ?_)
                  ·
                    refine fr_iload_n h rfl 2 rfl dX12_lists_150 ?_
                    have r440 := (congrFun (g438_5 0 (by omega)) 5)
                    have r441 := r440.trans (fm_rd_k (a := 0) (b := 5) m437 (by omega))
                    have r442 := r441.trans (f435 5 (by decide) (by decide))
                    have r443 := r442.trans (f409 5 (by decide))
                    have r444 := r443.trans (g390_8 5 (by decide) (by decide))
                    have r445 := r444.trans (f14 5 (by decide) (by decide) (by decide) (by decide) (by decide) (by decide))
                    have r446 := r445.trans (fm_rd_s m2)
                    have r447 := (congrFun (g438_5 0 (by omega)) 2)
                    have r448 := r447.trans (fm_rd_k (a := 0) (b := 2) m437 (by omega))
                    have r449 := r448.trans (f435 2 (by decide) (by decide))
                    have r450 := r449.trans (f409 2 (by decide))
                    have r451 := r450.trans (g390_8 2 (by decide) (by decide))
                    have r452 := (fm_rd_i (a := 0) (b := 2) m2 (by decide))
                    have r453 := (congrFun (g438_5 0 (by omega)) 21)
                    have r454 := r453.trans (fm_rd_k (a := 0) (b := 21) m437 (by omega))
                    have r455 := (f409 21 (by decide))
                    have r456 := r455.trans (g390_8 21 (by decide) (by decide))
                    have r457 := r456.trans (f14 21 (by decide) (by decide) (by decide) (by decide) (by decide) (by decide))
                    have r458 := r457.trans (fm_rd_i (a := 0) (b := 21) m2 (by decide))
                    have r459 := (congrFun (g438_5 0 (by omega)) 12)
                    have r460 := r459.trans (fm_rd_k (a := 0) (b := 12) m437 (by omega))
                    have r461 := r460.trans (f435 12 (by decide) (by decide))
                    have r462 := r461.trans (f409 12 (by decide))
                    have r463 := r462.trans (g390_8 12 (by decide) (by decide))
                    have r464 := r463.trans (f14 12 (by decide) (by decide) (by decide) (by decide) (by decide) (by decide))
                    have r465 := r464.trans (fm_rd_i (a := 0) (b := 12) m2 (by decide))
                    exact fr_iret h hq (by omega) ⟨(by omega), (by omega), (by omega), (by omega), (Or.inr (by omega)), ⟨g438_3, (by rw [show x_438 8 = x428 8 from ((g438_5 8 (by omega)).trans (fm_up_row m437 (by omega)))]; exact p432), (by rw [show x_438 26 = x 26 from ((g438_5 26 (by omega)).trans ((fm_up_row m437 (by omega)).trans ((f434 26 (by omega) (by omega)).trans ((f408 26 (by omega)).trans ((g390_7 26 (by omega) (by omega)).trans ((f13 26 (by omega)).trans (fm_up_row m2 (by omega))))))))]; exact e0.2.2.1), (by have := e0.2.2.2; omega)⟩, (fun a k0 k1 k2 k3 => ((g438_5 a (by omega)).trans ((fm_up_row m437 (by omega)).trans ((f434 a (by omega) (by omega)).trans ((f408 a (by omega)).trans ((g390_7 a (by omega) (by omega)).trans ((f13 a (by omega)).trans (fm_up_row m2 (by omega))))))))), (fun i k0 k1 k2 k3 k4 k5 k6 k7 k8 => ((congrFun (g438_5 0 (by omega)) i).trans ((fm_rd_k (a := 0) (b := i) m437 (by omega)).trans ((f435 i (by omega) (by omega)).trans ((f409 i (by omega)).trans ((g390_8 i (by omega) (by omega)).trans ((f14 i (by omega) (by omega) (by omega) (by omega) (by omega) (by omega)).trans (fm_rd_i (a := 0) (b := i) m2 (by omega)))))))))⟩ dX12_lists_151
                  ·
                    refine fr_aload_n h rfl 0 rfl dX12_lists_128 ?_
                    refine fr_getc (z := 1) (iz := 0) h kX12 fX12_9 at_0M rfl rfl rfM_0 (by omega) dX12_lists_129 ?_
                    refine fr_iload_n h rfl 1 rfl dX12_lists_132 ?_
                    refine fr_aload_n h rfl 0 rfl dX12_lists_133 ?_
                    refine fr_getc (z := 4) (iz := 11) h kX12 fX12_21 at_0M rfl rfl rfM_11 (by omega) dX12_lists_134 ?_
                    refine fr_iload h 4 rfl dX12_lists_137 ?_
                    refine fr_iald h arM_4 (by omega) (by omega) (rrM_4 l4_438) dX12_lists_139 (fun z466 w467 w468 q469 => ?_)
                    have r470 := q469.trans (congrFun (g438_5 4 (by omega)) l4_438)
                    have r471 := r470.trans (fm_rd_k (a := 4) (b := l4_438) m437 (by omega))
                    have r472 := r471.trans (congrFun (f434 4 (by omega) (by omega)) l4_438)
                    have r473 := r472.trans (congrFun (f408 4 (by omega)) l4_438)
                    have r474 := (congrFun (f13 4 (by omega)) l4_438)
                    have r475 := r474.trans (fm_rd_k (a := 4) (b := l4_438) m2 (by omega))
                    have r476 := (fm_rd_s m437)
                    refine fr_csI h wX12_goPut lX12_169 (c_X12_goPut x_438 1 SA_1 p z466 (by omega) (by omega) (by omega) (by omega) (by omega) (by omega) (by omega)) rfl (by decide) (by decide) rfl (Nat.le_of_ble_eq_true rfl) dX12_lists_140 (fun z478 x477 w479 p480 => ?_)
                    obtain ⟨p481, p482, p483, f484⟩ := p480
                    refine fr_pop h rfl dX12_lists_143 ?_
                    refine fr_iinc (j := 4) (L' := [(0, vr G 0), (1, vi p), (2, vi l2_390), (3, vi l3_390), (4, vi (l4_438 + 1))]) h dX12_lists_144 rfl (by decide) [1, 2, 3, 4, 0] rfl ?_
                    refine fr_goto (tgt := 122) h dX12_lists_147 (by decide) ?_
                    have r485 := (fm_rd_s m437)
                    exact ih438 (l4_438 + 1) x477 (by omega) (by omega) (by omega) (MI_cong g438_3 (fun i a b => p483 i (by omega) (by omega))) (by omega) (fun a k0 => ((f484 a (by omega)).trans (g438_5 a (by omega)))) (by omega)
              have r486 := (fm_rd_s m437)
              exact HL438 ((6 - 0) + 1 : Int).toNat 0 x436 (by omega) (by omega) (by omega) (MI_cong (by rw [show x428 1 = x399 1 from (f434 1 (by omega) (by omega))]; exact (by rw [show x399 1 = x_390 1 from (f408 1 (by omega))]; exact (by rw [show x_390 1 = x3 1 from (g390_7 1 (by omega) (by omega))]; exact (by rw [show x3 1 = x1 1 from (f13 1 (by omega))]; exact (by rw [show x1 1 = x 1 from (fm_up_row m2 (by omega))]; exact e0.1))))) (fun i a b => fm_rd_i m437 (by omega))) (by omega) (fun a _ => rfl) (by omega)
            ·
              have d487 : z419 = 0 := by omega
              clear p422 c425
              have d488 := mt p423.2 (by omega)
              clear p423
              refine fr_iconst h dX12_lists_99 ?_
              have r489 := (f409 5 (by decide))
              have r490 := r489.trans (g390_8 5 (by decide) (by decide))
              have r491 := r490.trans (f14 5 (by decide) (by decide) (by decide) (by decide) (by decide) (by decide))
              have r492 := r491.trans (fm_rd_s m2)
              have r493 := (f409 2 (by decide))
              have r494 := r493.trans (g390_8 2 (by decide) (by decide))
              have r495 := (fm_rd_i (a := 0) (b := 2) m2 (by decide))
              have r496 := (f409 21 (by decide))
              have r497 := r496.trans (g390_8 21 (by decide) (by decide))
              have r498 := r497.trans (f14 21 (by decide) (by decide) (by decide) (by decide) (by decide) (by decide))
              have r499 := r498.trans (fm_rd_i (a := 0) (b := 21) m2 (by decide))
              have r500 := (f409 12 (by decide))
              have r501 := r500.trans (g390_8 12 (by decide) (by decide))
              have r502 := r501.trans (f14 12 (by decide) (by decide) (by decide) (by decide) (by decide) (by decide))
              have r503 := r502.trans (fm_rd_i (a := 0) (b := 12) m2 (by decide))
              exact fr_iret h hq (by omega) ⟨(by omega), (by omega), (by omega), (by omega), (Or.inl ⟨(by omega), ((f408 1 (by omega)).trans ((g390_7 1 (by omega) (by omega)).trans ((f13 1 (by omega)).trans (fm_up_row m2 (by omega)))))⟩), ⟨(by rw [show x399 1 = x_390 1 from (f408 1 (by omega))]; exact (by rw [show x_390 1 = x3 1 from (g390_7 1 (by omega) (by omega))]; exact (by rw [show x3 1 = x1 1 from (f13 1 (by omega))]; exact (by rw [show x1 1 = x 1 from (fm_up_row m2 (by omega))]; exact e0.1)))), (by rw [show x399 8 = x 8 from ((f408 8 (by omega)).trans ((g390_7 8 (by omega) (by omega)).trans ((f13 8 (by omega)).trans (fm_up_row m2 (by omega)))))]; exact e0.2.1), (by rw [show x399 26 = x 26 from ((f408 26 (by omega)).trans ((g390_7 26 (by omega) (by omega)).trans ((f13 26 (by omega)).trans (fm_up_row m2 (by omega)))))]; exact e0.2.2.1), (by have := e0.2.2.2; omega)⟩, (fun a k0 k1 k2 k3 => ((f408 a (by omega)).trans ((g390_7 a (by omega) (by omega)).trans ((f13 a (by omega)).trans (fm_up_row m2 (by omega)))))), (fun i k0 k1 k2 k3 k4 k5 k6 k7 k8 => ((f409 i (by omega)).trans ((g390_8 i (by omega) (by omega)).trans ((f14 i (by omega) (by omega) (by omega) (by omega) (by omega) (by omega)).trans (fm_rd_i (a := 0) (b := i) m2 (by omega))))))⟩ dX12_lists_100
          ·
            have d504 : z400 = 0 := by omega
            clear p403 c415
            have d505 := mt p404.2 (by omega)
            clear p404
            have kw := (LV_w (v10 := x399 0 10) g390_6 (by omega) p405 (fun q => p406 (by omega)) (fun q => p407 (by omega))).1 d505
            clear p405 p406 p407
            refine fr_iconst h dX12_lists_85 ?_
            refine fr_aload_n h rfl 0 rfl dX12_lists_86 ?_
            refine fr_geti (iz := 10) h kX12 fX12_124 at_0M rfl rfl (by decide) (by decide) rfM_10 dX12_lists_87 (fun z506 w507 w508 q509 => ?_)
            have r510 := (fm_rd_i (a := 0) (b := 10) m2 (by decide))
            refine fr_isub h dX12_lists_90 ?_
            have r511 := (f409 5 (by decide))
            have r512 := r511.trans (g390_8 5 (by decide) (by decide))
            have r513 := r512.trans (f14 5 (by decide) (by decide) (by decide) (by decide) (by decide) (by decide))
            have r514 := r513.trans (fm_rd_s m2)
            have r515 := (f409 2 (by decide))
            have r516 := r515.trans (g390_8 2 (by decide) (by decide))
            have r517 := (fm_rd_i (a := 0) (b := 2) m2 (by decide))
            have r518 := (f409 21 (by decide))
            have r519 := r518.trans (g390_8 21 (by decide) (by decide))
            have r520 := r519.trans (f14 21 (by decide) (by decide) (by decide) (by decide) (by decide) (by decide))
            have r521 := r520.trans (fm_rd_i (a := 0) (b := 21) m2 (by decide))
            have r522 := (f409 12 (by decide))
            have r523 := r522.trans (g390_8 12 (by decide) (by decide))
            have r524 := r523.trans (f14 12 (by decide) (by decide) (by decide) (by decide) (by decide) (by decide))
            have r525 := r524.trans (fm_rd_i (a := 0) (b := 12) m2 (by decide))
            exact fr_iret h hq (by omega) ⟨(by omega), (by omega), (by omega), (by omega), (Or.inl ⟨(by omega), ((f408 1 (by omega)).trans ((g390_7 1 (by omega) (by omega)).trans ((f13 1 (by omega)).trans (fm_up_row m2 (by omega)))))⟩), ⟨(by rw [show x399 1 = x_390 1 from (f408 1 (by omega))]; exact (by rw [show x_390 1 = x3 1 from (g390_7 1 (by omega) (by omega))]; exact (by rw [show x3 1 = x1 1 from (f13 1 (by omega))]; exact (by rw [show x1 1 = x 1 from (fm_up_row m2 (by omega))]; exact e0.1)))), (by rw [show x399 8 = x 8 from ((f408 8 (by omega)).trans ((g390_7 8 (by omega) (by omega)).trans ((f13 8 (by omega)).trans (fm_up_row m2 (by omega)))))]; exact e0.2.1), (by rw [show x399 26 = x 26 from ((f408 26 (by omega)).trans ((g390_7 26 (by omega) (by omega)).trans ((f13 26 (by omega)).trans (fm_up_row m2 (by omega)))))]; exact e0.2.2.1), (by have := e0.2.2.2; omega)⟩, (fun a k0 k1 k2 k3 => ((f408 a (by omega)).trans ((g390_7 a (by omega) (by omega)).trans ((f13 a (by omega)).trans (fm_up_row m2 (by omega)))))), (fun i k0 k1 k2 k3 k4 k5 k6 k7 k8 => ((f409 i (by omega)).trans ((g390_8 i (by omega) (by omega)).trans ((f14 i (by omega) (by omega) (by omega) (by omega) (by omega) (by omega)).trans (fm_rd_i (a := 0) (b := i) m2 (by omega))))))⟩ dX12_lists_91
        ·
          refine fr_aload_n h rfl 0 rfl dX12_lists_30 ?_
          refine fr_cvI h kX12 at_0M wX12_fine lX12_131 (c_X12_fine x_390) rfl (by decide) (by decide) rfl (Nat.le_of_ble_eq_true rfl) dX12_lists_31 (fun z527 x526 w528 p529 => ?_)
          obtain ⟨p530, p531, y532⟩ := p529
          rw [y532]
          clear y532
          refine fr_if_eq (tgt := 78) h dX12_lists_34 (by decide) (by omega) (fun c533 => ?_) (fun c533 => ?_)
          ·
            have d534 : z527 = 0 := by omega
            clear p530 c533
            have d535 := mt p531.2 (by omega)
            clear p531
            refine fr_aload_n h rfl 0 rfl dX12_lists_78 ?_
            have r536 := (fm_rd_i (a := 0) (b := 9) m2 (by decide))
            refine fr_cvI h kX12 at_0M wX12_wasRight lX12_158 (d_X12_wasRight x_390 (by omega)) rfl (by decide) (by decide) rfl (Nat.le_of_ble_eq_true rfl) dX12_lists_79 (fun z538 x537 w539 p540 => ?_)
            obtain ⟨p541, p542, p543, p544, p545, f546, f547⟩ := p540
            have r548 := (f547 7 (by decide))
            have r549 := r548.trans (g390_8 7 (by decide) (by decide))
            have r550 := (fm_rd_i (a := 0) (b := 7) m2 (by decide))
            have r551 := (f547 9 (by decide))
            have r552 := (fm_rd_i (a := 0) (b := 9) m2 (by decide))
            skip
            refine fr_if_ne (tgt := 92) h dX12_lists_82 (by decide) (by omega) (fun c553 => ?_) (fun c553 => ?_)
            ·
              have d554 : z538 = 1 := by omega
              clear p541 c553
              have d555 := p542.1 (by omega)
              clear p542
              have kw := (LV_w (v10 := x537 0 10) g390_6 (by omega) p543 (fun q => p544 (by omega)) (fun q => p545 (by omega))).2 d555
              clear p543 p544 p545
              refine fr_iload_n h rfl 1 rfl dX12_lists_92 ?_
              refine fr_csI h wX12_isList lX12_161 (c_X12_isList x537 p (by omega)) rfl (by decide) (by decide) rfl (Nat.le_of_ble_eq_true rfl) dX12_lists_93 (fun z557 x556 w558 p559 => ?_)
              obtain ⟨p560, p561, y562⟩ := p559
              rw [y562]
              clear y562
              refine fr_if_ne (tgt := 101) h dX12_lists_96 (by decide) (by omega) (fun c563 => ?_) (fun c563 => ?_)
              ·
                have d564 : z557 = 1 := by omega
                clear p560 c563
                have d565 := p561.1 (by omega)
                clear p561
                refine fr_aload_n h rfl 0 rfl dX12_lists_101 ?_
                refine fr_aload_n h rfl 0 rfl dX12_lists_102 ?_
                refine fr_getc (z := 1) (iz := 0) h kX12 fX12_9 at_0M rfl rfl rfM_0 (by omega) dX12_lists_103 ?_
                refine fr_cvV h kX12 at_0M wX12_change lX12_165 (c_X12_change x537 1 SA_1 (by rw [show x537 8 = x 8 from ((f546 8 (by omega)).trans ((g390_7 8 (by omega) (by omega)).trans ((f13 8 (by omega)).trans (fm_up_row m2 (by omega)))))]; exact e0.2.1) (by rw [show x537 1 = x_390 1 from (f546 1 (by omega))]; exact (by rw [show x_390 1 = x3 1 from (g390_7 1 (by omega) (by omega))]; exact (by rw [show x3 1 = x1 1 from (f13 1 (by omega))]; exact (by rw [show x1 1 = x 1 from (fm_up_row m2 (by omega))]; exact e0.1))))) rfl (by decide) (by decide) rfl (Nat.le_of_ble_eq_true rfl) dX12_lists_106 (fun x566 p569 => ?_)
                obtain ⟨p570, p571, f572, f573⟩ := p569
                refine fr_aload_n h rfl 0 rfl dX12_lists_109 ?_
                refine fr_getc (z := 1) (iz := 0) h kX12 fX12_9 at_0M rfl rfl rfM_0 (by omega) dX12_lists_110 ?_
                refine fr_bipush h rfl dX12_lists_113 ?_
                refine fr_iload_n h rfl 1 rfl dX12_lists_115 ?_
                refine fr_iadd h dX12_lists_116 ?_
                refine fr_iconst h dX12_lists_117 ?_
                refine fr_iast h (SA_a SA_1) (by omega) (by omega) ((SA_r SA_1 (24 + p)).trans (sg_len (by omega) (by omega))) (by omega) (by omega) dX12_lists_118 ?_
                refine fr_mem (fun x574 m575 => ?_)
                refine fr_iconst h dX12_lists_119 ?_
                refine fr_istore (L' := [(0, vr G 0), (1, vi p), (2, vi l2_390), (3, vi l3_390), (4, vi 0)]) h dX12_lists_120 (by decide) [1, 2, 3, 4, 0] rfl ?_
                have HL576 : ∀ (n576 : Nat) (l4_576 : Int) (x_576 : Mm), fm_r l4_576 → 0 ≤ l4_576 → l4_576 ≤ 6 → MI (x_576 1) → x_576 1 (24 + p) = l4_576 → (∀ a : Int, (a < 1 ∨ 1 < a) → x_576 a = x574 a) → (6 - l4_576) < n576 → FW YM G C 5 x_576 122 [(0, vr G 0), (1, vi p), (2, vi l2_390), (3, vi l3_390), (4, vi l4_576)] [] := by
                  intro n576
                  induction n576 with
                  | zero =>
                    intro l4_576 x_576 g576_0 g576_1 g576_2 g576_3 g576_4 g576_5 g576_6
                    exfalso; omega
                  | succ n576 ih576 =>
                    intro l4_576 x_576 g576_0 g576_1 g576_2 g576_3 g576_4 g576_5 g576_6
                    refine fr_iload h 4 rfl dX12_lists_122 ?_
                    refine fr_iload_n h rfl 2 rfl dX12_lists_124 ?_
                    refine fr_icmp_ge (tgt := 150) h dX12_lists_125 (by decide) (by omega) (by omega) (fun c577 => ?_) (fun c577 => ?_)
                    ·
                      refine fr_iload_n h rfl 2 rfl dX12_lists_150 ?_
                      have r578 := (congrFun (g576_5 0 (by omega)) 5)
                      have r579 := r578.trans (fm_rd_k (a := 0) (b := 5) m575 (by omega))
                      have r580 := r579.trans (f573 5 (by decide) (by decide))
                      have r581 := r580.trans (f547 5 (by decide))
                      have r582 := r581.trans (g390_8 5 (by decide) (by decide))
                      have r583 := r582.trans (f14 5 (by decide) (by decide) (by decide) (by decide) (by decide) (by decide))
                      have r584 := r583.trans (fm_rd_s m2)
                      have r585 := (congrFun (g576_5 0 (by omega)) 2)
                      have r586 := r585.trans (fm_rd_k (a := 0) (b := 2) m575 (by omega))
                      have r587 := r586.trans (f573 2 (by decide) (by decide))
                      have r588 := r587.trans (f547 2 (by decide))
                      have r589 := r588.trans (g390_8 2 (by decide) (by decide))
                      have r590 := (fm_rd_i (a := 0) (b := 2) m2 (by decide))
                      have r591 := (congrFun (g576_5 0 (by omega)) 21)
                      have r592 := r591.trans (fm_rd_k (a := 0) (b := 21) m575 (by omega))
                      have r593 := (f547 21 (by decide))
                      have r594 := r593.trans (g390_8 21 (by decide) (by decide))
                      have r595 := r594.trans (f14 21 (by decide) (by decide) (by decide) (by decide) (by decide) (by decide))
                      have r596 := r595.trans (fm_rd_i (a := 0) (b := 21) m2 (by decide))
                      have r597 := (congrFun (g576_5 0 (by omega)) 12)
                      have r598 := r597.trans (fm_rd_k (a := 0) (b := 12) m575 (by omega))
                      have r599 := r598.trans (f573 12 (by decide) (by decide))
                      have r600 := r599.trans (f547 12 (by decide))
                      have r601 := r600.trans (g390_8 12 (by decide) (by decide))
                      have r602 := r601.trans (f14 12 (by decide) (by decide) (by decide) (by decide) (by decide) (by decide))
                      have r603 := r602.trans (fm_rd_i (a := 0) (b := 12) m2 (by decide))
                      exact fr_iret h hq (by omega) ⟨(by omega), (by omega), (by omega), (by omega), (Or.inr (by omega)), ⟨g576_3, (by rw [show x_576 8 = x566 8 from ((g576_5 8 (by omega)).trans (fm_up_row m575 (by omega)))]; exact p570), (by rw [show x_576 26 = x 26 from ((g576_5 26 (by omega)).trans ((fm_up_row m575 (by omega)).trans ((f572 26 (by omega) (by omega)).trans ((f546 26 (by omega)).trans ((g390_7 26 (by omega) (by omega)).trans ((f13 26 (by omega)).trans (fm_up_row m2 (by omega))))))))]; exact e0.2.2.1), (by have := e0.2.2.2; omega)⟩, (fun a k0 k1 k2 k3 => ((g576_5 a (by omega)).trans ((fm_up_row m575 (by omega)).trans ((f572 a (by omega) (by omega)).trans ((f546 a (by omega)).trans ((g390_7 a (by omega) (by omega)).trans ((f13 a (by omega)).trans (fm_up_row m2 (by omega))))))))), (fun i k0 k1 k2 k3 k4 k5 k6 k7 k8 => ((congrFun (g576_5 0 (by omega)) i).trans ((fm_rd_k (a := 0) (b := i) m575 (by omega)).trans ((f573 i (by omega) (by omega)).trans ((f547 i (by omega)).trans ((g390_8 i (by omega) (by omega)).trans ((f14 i (by omega) (by omega) (by omega) (by omega) (by omega) (by omega)).trans (fm_rd_i (a := 0) (b := i) m2 (by omega)))))))))⟩ dX12_lists_151
                    ·
                      refine fr_aload_n h rfl 0 rfl dX12_lists_128 ?_
                      refine fr_getc (z := 1) (iz := 0) h kX12 fX12_9 at_0M rfl rfl rfM_0 (by omega) dX12_lists_129 ?_
                      refine fr_iload_n h rfl 1 rfl dX12_lists_132 ?_
                      refine fr_aload_n h rfl 0 rfl dX12_lists_133 ?_
                      refine fr_getc (z := 4) (iz := 11) h kX12 fX12_21 at_0M rfl rfl rfM_11 (by omega) dX12_lists_134 ?_
                      refine fr_iload h 4 rfl dX12_lists_137 ?_
                      refine fr_iald h arM_4 (by omega) (by omega) (rrM_4 l4_576) dX12_lists_139 (fun z604 w605 w606 q607 => ?_)
                      have r608 := q607.trans (congrFun (g576_5 4 (by omega)) l4_576)
                      have r609 := r608.trans (fm_rd_k (a := 4) (b := l4_576) m575 (by omega))
                      have r610 := r609.trans (congrFun (f572 4 (by omega) (by omega)) l4_576)
                      have r611 := r610.trans (congrFun (f546 4 (by omega)) l4_576)
                      have r612 := (congrFun (f13 4 (by omega)) l4_576)
                      have r613 := r612.trans (fm_rd_k (a := 4) (b := l4_576) m2 (by omega))
                      have r614 := (fm_rd_s m575)
                      refine fr_csI h wX12_goPut lX12_169 (c_X12_goPut x_576 1 SA_1 p z604 (by omega) (by omega) (by omega) (by omega) (by omega) (by omega) (by omega)) rfl (by decide) (by decide) rfl (Nat.le_of_ble_eq_true rfl) dX12_lists_140 (fun z616 x615 w617 p618 => ?_)
                      obtain ⟨p619, p620, p621, f622⟩ := p618
                      refine fr_pop h rfl dX12_lists_143 ?_
                      refine fr_iinc (j := 4) (L' := [(0, vr G 0), (1, vi p), (2, vi l2_390), (3, vi l3_390), (4, vi (l4_576 + 1))]) h dX12_lists_144 rfl (by decide) [1, 2, 3, 4, 0] rfl ?_
                      refine fr_goto (tgt := 122) h dX12_lists_147 (by decide) ?_
                      have r623 := (fm_rd_s m575)
                      exact ih576 (l4_576 + 1) x615 (by omega) (by omega) (by omega) (MI_cong g576_3 (fun i a b => p621 i (by omega) (by omega))) (by omega) (fun a k0 => ((f622 a (by omega)).trans (g576_5 a (by omega)))) (by omega)
                have r624 := (fm_rd_s m575)
                exact HL576 ((6 - 0) + 1 : Int).toNat 0 x574 (by omega) (by omega) (by omega) (MI_cong (by rw [show x566 1 = x537 1 from (f572 1 (by omega) (by omega))]; exact (by rw [show x537 1 = x_390 1 from (f546 1 (by omega))]; exact (by rw [show x_390 1 = x3 1 from (g390_7 1 (by omega) (by omega))]; exact (by rw [show x3 1 = x1 1 from (f13 1 (by omega))]; exact (by rw [show x1 1 = x 1 from (fm_up_row m2 (by omega))]; exact e0.1))))) (fun i a b => fm_rd_i m575 (by omega))) (by omega) (fun a _ => rfl) (by omega)
              ·
                have d625 : z557 = 0 := by omega
                clear p560 c563
                have d626 := mt p561.2 (by omega)
                clear p561
                refine fr_iconst h dX12_lists_99 ?_
                have r627 := (f547 5 (by decide))
                have r628 := r627.trans (g390_8 5 (by decide) (by decide))
                have r629 := r628.trans (f14 5 (by decide) (by decide) (by decide) (by decide) (by decide) (by decide))
                have r630 := r629.trans (fm_rd_s m2)
                have r631 := (f547 2 (by decide))
                have r632 := r631.trans (g390_8 2 (by decide) (by decide))
                have r633 := (fm_rd_i (a := 0) (b := 2) m2 (by decide))
                have r634 := (f547 21 (by decide))
                have r635 := r634.trans (g390_8 21 (by decide) (by decide))
                have r636 := r635.trans (f14 21 (by decide) (by decide) (by decide) (by decide) (by decide) (by decide))
                have r637 := r636.trans (fm_rd_i (a := 0) (b := 21) m2 (by decide))
                have r638 := (f547 12 (by decide))
                have r639 := r638.trans (g390_8 12 (by decide) (by decide))
                have r640 := r639.trans (f14 12 (by decide) (by decide) (by decide) (by decide) (by decide) (by decide))
                have r641 := r640.trans (fm_rd_i (a := 0) (b := 12) m2 (by decide))
                exact fr_iret h hq (by omega) ⟨(by omega), (by omega), (by omega), (by omega), (Or.inl ⟨(by omega), ((f546 1 (by omega)).trans ((g390_7 1 (by omega) (by omega)).trans ((f13 1 (by omega)).trans (fm_up_row m2 (by omega)))))⟩), ⟨(by rw [show x537 1 = x_390 1 from (f546 1 (by omega))]; exact (by rw [show x_390 1 = x3 1 from (g390_7 1 (by omega) (by omega))]; exact (by rw [show x3 1 = x1 1 from (f13 1 (by omega))]; exact (by rw [show x1 1 = x 1 from (fm_up_row m2 (by omega))]; exact e0.1)))), (by rw [show x537 8 = x 8 from ((f546 8 (by omega)).trans ((g390_7 8 (by omega) (by omega)).trans ((f13 8 (by omega)).trans (fm_up_row m2 (by omega)))))]; exact e0.2.1), (by rw [show x537 26 = x 26 from ((f546 26 (by omega)).trans ((g390_7 26 (by omega) (by omega)).trans ((f13 26 (by omega)).trans (fm_up_row m2 (by omega)))))]; exact e0.2.2.1), (by have := e0.2.2.2; omega)⟩, (fun a k0 k1 k2 k3 => ((f546 a (by omega)).trans ((g390_7 a (by omega) (by omega)).trans ((f13 a (by omega)).trans (fm_up_row m2 (by omega)))))), (fun i k0 k1 k2 k3 k4 k5 k6 k7 k8 => ((f547 i (by omega)).trans ((g390_8 i (by omega) (by omega)).trans ((f14 i (by omega) (by omega) (by omega) (by omega) (by omega) (by omega)).trans (fm_rd_i (a := 0) (b := i) m2 (by omega))))))⟩ dX12_lists_100
            ·
              have d642 : z538 = 0 := by omega
              clear p541 c553
              have d643 := mt p542.2 (by omega)
              clear p542
              have kw := (LV_w (v10 := x537 0 10) g390_6 (by omega) p543 (fun q => p544 (by omega)) (fun q => p545 (by omega))).1 d643
              clear p543 p544 p545
              refine fr_iconst h dX12_lists_85 ?_
              refine fr_aload_n h rfl 0 rfl dX12_lists_86 ?_
              refine fr_geti (iz := 10) h kX12 fX12_124 at_0M rfl rfl (by decide) (by decide) rfM_10 dX12_lists_87 (fun z644 w645 w646 q647 => ?_)
              have r648 := (fm_rd_i (a := 0) (b := 10) m2 (by decide))
              refine fr_isub h dX12_lists_90 ?_
              have r649 := (f547 5 (by decide))
              have r650 := r649.trans (g390_8 5 (by decide) (by decide))
              have r651 := r650.trans (f14 5 (by decide) (by decide) (by decide) (by decide) (by decide) (by decide))
              have r652 := r651.trans (fm_rd_s m2)
              have r653 := (f547 2 (by decide))
              have r654 := r653.trans (g390_8 2 (by decide) (by decide))
              have r655 := (fm_rd_i (a := 0) (b := 2) m2 (by decide))
              have r656 := (f547 21 (by decide))
              have r657 := r656.trans (g390_8 21 (by decide) (by decide))
              have r658 := r657.trans (f14 21 (by decide) (by decide) (by decide) (by decide) (by decide) (by decide))
              have r659 := r658.trans (fm_rd_i (a := 0) (b := 21) m2 (by decide))
              have r660 := (f547 12 (by decide))
              have r661 := r660.trans (g390_8 12 (by decide) (by decide))
              have r662 := r661.trans (f14 12 (by decide) (by decide) (by decide) (by decide) (by decide) (by decide))
              have r663 := r662.trans (fm_rd_i (a := 0) (b := 12) m2 (by decide))
              exact fr_iret h hq (by omega) ⟨(by omega), (by omega), (by omega), (by omega), (Or.inl ⟨(by omega), ((f546 1 (by omega)).trans ((g390_7 1 (by omega) (by omega)).trans ((f13 1 (by omega)).trans (fm_up_row m2 (by omega)))))⟩), ⟨(by rw [show x537 1 = x_390 1 from (f546 1 (by omega))]; exact (by rw [show x_390 1 = x3 1 from (g390_7 1 (by omega) (by omega))]; exact (by rw [show x3 1 = x1 1 from (f13 1 (by omega))]; exact (by rw [show x1 1 = x 1 from (fm_up_row m2 (by omega))]; exact e0.1)))), (by rw [show x537 8 = x 8 from ((f546 8 (by omega)).trans ((g390_7 8 (by omega) (by omega)).trans ((f13 8 (by omega)).trans (fm_up_row m2 (by omega)))))]; exact e0.2.1), (by rw [show x537 26 = x 26 from ((f546 26 (by omega)).trans ((g390_7 26 (by omega) (by omega)).trans ((f13 26 (by omega)).trans (fm_up_row m2 (by omega)))))]; exact e0.2.2.1), (by have := e0.2.2.2; omega)⟩, (fun a k0 k1 k2 k3 => ((f546 a (by omega)).trans ((g390_7 a (by omega) (by omega)).trans ((f13 a (by omega)).trans (fm_up_row m2 (by omega)))))), (fun i k0 k1 k2 k3 k4 k5 k6 k7 k8 => ((f547 i (by omega)).trans ((g390_8 i (by omega) (by omega)).trans ((f14 i (by omega) (by omega) (by omega) (by omega) (by omega) (by omega)).trans (fm_rd_i (a := 0) (b := i) m2 (by omega))))))⟩ dX12_lists_91
          ·
            have d664 : z527 = 1 := by omega
            clear p530 c533
            have d665 := p531.1 (by omega)
            clear p531
            have kn := LV_n g390_6 d665
            have kr : l3_390 = 1 := by omega
            refine fr_iload_n h rfl 2 rfl dX12_lists_37 ?_
            refine fr_bipush h rfl dX12_lists_38 ?_
            refine fr_icmp_ne (tgt := 54) h dX12_lists_40 (by decide) (by omega) (by omega) (fun c666 => ?_) (fun c666 => ?_)
            ·
              have k5 : l2_390 ≤ 5 := by omega
              refine fr_aload_n h rfl 0 rfl dX12_lists_54 ?_
              refine fr_getc (z := 4) (iz := 11) h kX12 fX12_21 at_0M rfl rfl rfM_11 (by omega) dX12_lists_55 ?_
              refine fr_iload_n h rfl 2 rfl dX12_lists_58 ?_
              refine fr_aload_n h rfl 0 rfl dX12_lists_59 ?_
              refine fr_iconst h dX12_lists_60 ?_
              have r667 := (fm_rd_i (a := 0) (b := 9) m2 (by decide))
              have r668 := (fm_rd_i (a := 0) (b := 10) m2 (by decide))
              refine fr_cvI h kX12 at_0M wX12_number lX12_154 (d_X12_number x_390 2 f (x 0 2) (x_390 0 9) (by omega) (by omega) (by omega) (by omega) (by omega) (fun j => (congrArg uch (congrFun ((g390_7 2 (by omega) (by omega)).trans ((f13 2 (by omega)).trans (fm_up_row m2 (by omega)))) j)).trans (e1 j)) (by omega) (by omega) (by omega) (by omega)) rfl (by decide) (by decide) rfl (Nat.le_of_ble_eq_true rfl) dX12_lists_61 (fun z670 x669 w671 p672 => ?_)
              obtain ⟨p673, p674, p675, p676, p677, p678, p679, p680, p681, f682, f683⟩ := p672
              have kN : NMq f (x 0 2) (x_390 0 9) (x669 0 9) (x669 0 10) := ⟨p676, p677, p678, p679⟩
              clear p676 p677 p678 p679 p680 p681
              have kw9 := NMq_9 kN k9
              have kz := p675 rfl
              clear p675
              refine fr_iast h arM_4 (by omega) (by omega) (rrM_4 l2_390) (by omega) (by omega) dX12_lists_64 ?_
              refine fr_mem (fun x684 m685 => ?_)
              refine fr_iinc (j := 2) (L' := [(0, vr G 0), (1, vi p), (2, vi (l2_390 + 1)), (3, vi l3_390)]) h dX12_lists_65 rfl (by decide) [1, 2, 0, 3] rfl ?_
              refine fr_aload_n h rfl 0 rfl dX12_lists_68 ?_
              refine fr_bipush h rfl dX12_lists_69 ?_
              have r686 := (fm_rd_k (a := 0) (b := 6) m685 (by omega))
              have r687 := r686.trans (f683 6 (by decide) (by decide))
              have r688 := r687.trans (g390_8 6 (by decide) (by decide))
              have r689 := (fm_rd_i (a := 0) (b := 6) m2 (by decide))
              have r690 := (fm_rd_k (a := 0) (b := 7) m685 (by omega))
              have r691 := r690.trans (f683 7 (by decide) (by decide))
              have r692 := r691.trans (g390_8 7 (by decide) (by decide))
              have r693 := (fm_rd_i (a := 0) (b := 7) m2 (by decide))
              have r694 := (fm_rd_k (a := 0) (b := 8) m685 (by omega))
              have r695 := r694.trans (f683 8 (by decide) (by decide))
              have r696 := r695.trans (g390_8 8 (by decide) (by decide))
              have r697 := (fm_rd_i (a := 0) (b := 8) m2 (by decide))
              have r698 := (fm_rd_k (a := 0) (b := 9) m685 (by omega))
              have r699 := (fm_rd_i (a := 0) (b := 9) m2 (by decide))
              refine fr_cvI h kX12 at_0M wX12_passes lX12_139 (d_X12_passes x684 44 f (x 0 2) (x684 0 9) (by omega) (by omega) (by omega) (by omega) (by omega) (fun j => (congrArg uch (congrFun ((fm_up_row m685 (by omega)).trans ((f682 2 (by omega)).trans ((g390_7 2 (by omega) (by omega)).trans ((f13 2 (by omega)).trans (fm_up_row m2 (by omega)))))) j)).trans (e1 j)) (by omega) (by omega) (by omega)) rfl (by decide) (by decide) rfl (Nat.le_of_ble_eq_true rfl) dX12_lists_71 (fun z701 x700 w702 p703 => ?_)
              obtain ⟨p704, p705, p706, p707, f708, f709⟩ := p703
              have r710 := (fm_rd_k (a := 0) (b := 9) m685 (by omega))
              have r711 := (fm_rd_i (a := 0) (b := 9) m2 (by decide))
              have r712 := (f709 10 (by decide))
              have r713 := r712.trans (fm_rd_k (a := 0) (b := 10) m685 (by omega))
              have r714 := (fm_rd_i (a := 0) (b := 10) m2 (by decide))
              have kv : LV f (x 0 2) (l2_390 + 1) z701 (x700 0 9) (x700 0 10) := LV_s (w9 := x669 0 9) (w10 := x669 0 10) (s9 := x684 0 9) (s10 := x684 0 10) g390_6 d665 kr (by omega) (by omega) kN (by omega) (by omega) (by omega) p704 p705 p706 p707
              clear p705 p706 p707
              refine fr_istore_n (L' := [(0, vr G 0), (1, vi p), (2, vi (l2_390 + 1)), (3, vi z701)]) h rfl dX12_lists_74 (by decide) [1, 2, 3, 0] rfl ?_
              refine fr_goto (tgt := 26) h dX12_lists_75 (by decide) ?_
              exact ih390 (l2_390 + 1) z701 x700 (by omega) (by omega) (by omega) (by omega) (by omega) (by omega) kv (fun a k0 k1 => ((f708 a (by omega)).trans ((fm_up_row m685 (by omega)).trans ((f682 a (by omega)).trans (g390_7 a (by omega) (by omega)))))) (fun i k0 k1 => ((f709 i (by omega)).trans ((fm_rd_k (a := 0) (b := i) m685 (by omega)).trans ((f683 i (by omega) (by omega)).trans (g390_8 i (by omega) (by omega)))))) (by omega)
            ·
              refine fr_aload_n h rfl 0 rfl dX12_lists_43 ?_
              refine fr_aload_n h rfl 0 rfl dX12_lists_44 ?_
              refine fr_geti (iz := 9) h kX12 fX12_121 at_0M rfl rfl (by decide) (by decide) rfM_9 dX12_lists_45 (fun z715 w716 w717 q718 => ?_)
              have r719 := (fm_rd_i (a := 0) (b := 9) m2 (by decide))
              refine fr_cvV h kX12 at_0M wX12_fault lX12_143 (d_X12_fault x_390 z715 (by omega) (by omega) (by omega)) rfl (by decide) (by decide) rfl (Nat.le_of_ble_eq_true rfl) dX12_lists_48 (fun x720 p723 => ?_)
              obtain ⟨p724, p725, f726, f727⟩ := p723
              refine fr_goto (tgt := 65) h dX12_lists_51 (by decide) ?_
              refine fr_iinc (j := 2) (L' := [(0, vr G 0), (1, vi p), (2, vi (l2_390 + 1)), (3, vi l3_390)]) h dX12_lists_65 rfl (by decide) [1, 2, 0, 3] rfl ?_
              refine fr_aload_n h rfl 0 rfl dX12_lists_68 ?_
              refine fr_bipush h rfl dX12_lists_69 ?_
              have r728 := (f727 6 (by decide))
              have r729 := r728.trans (g390_8 6 (by decide) (by decide))
              have r730 := (fm_rd_i (a := 0) (b := 6) m2 (by decide))
              have r731 := (f727 7 (by decide))
              have r732 := r731.trans (g390_8 7 (by decide) (by decide))
              have r733 := (fm_rd_i (a := 0) (b := 7) m2 (by decide))
              have r734 := (f727 8 (by decide))
              have r735 := r734.trans (g390_8 8 (by decide) (by decide))
              have r736 := (fm_rd_i (a := 0) (b := 8) m2 (by decide))
              have r737 := (f727 9 (by decide))
              have r738 := (fm_rd_i (a := 0) (b := 9) m2 (by decide))
              refine fr_cvI h kX12 at_0M wX12_passes lX12_139 (d_X12_passes x720 44 f (x 0 2) (x720 0 9) (by omega) (by omega) (by omega) (by omega) (by omega) (fun j => (congrArg uch (congrFun ((f726 2 (by omega)).trans ((g390_7 2 (by omega) (by omega)).trans ((f13 2 (by omega)).trans (fm_up_row m2 (by omega))))) j)).trans (e1 j)) (by omega) (by omega) (by omega)) rfl (by decide) (by decide) rfl (Nat.le_of_ble_eq_true rfl) dX12_lists_71 (fun z740 x739 w741 p742 => ?_)
              obtain ⟨p743, p744, p745, p746, f747, f748⟩ := p742
              have r749 := (f727 9 (by decide))
              have r750 := (fm_rd_i (a := 0) (b := 9) m2 (by decide))
              have r751 := (f748 10 (by decide))
              have r752 := (fm_rd_i (a := 0) (b := 10) m2 (by decide))
              have ka := p724 d665
              clear p724 p725
              have kv : LV f (x 0 2) (l2_390 + 1) z740 (x739 0 9) (x739 0 10) := LV_f (s9 := x720 0 9) (s10 := x720 0 10) g390_6 d665 kr (by omega) (by omega) (by omega) (by omega) p743 p744 p746
              clear p744 p745 p746
              refine fr_istore_n (L' := [(0, vr G 0), (1, vi p), (2, vi (l2_390 + 1)), (3, vi z740)]) h rfl dX12_lists_74 (by decide) [1, 2, 3, 0] rfl ?_
              refine fr_goto (tgt := 26) h dX12_lists_75 (by decide) ?_
              exact ih390 (l2_390 + 1) z740 x739 (by omega) (by omega) (by omega) (by omega) (by omega) (by omega) kv (fun a k0 k1 => ((f747 a (by omega)).trans ((f726 a (by omega)).trans (g390_7 a (by omega) (by omega))))) (fun i k0 k1 => ((f748 i (by omega)).trans ((f727 i (by omega)).trans (g390_8 i (by omega) (by omega))))) (by omega)
    exact HL390 ((7 - 0) + 1 : Int).toNat 0 1 x3 (by omega) (by omega) (by omega) (by omega) (by omega) (by omega) (LV_0 (by omega) (by omega) rfl (by omega)) (fun a _ _ => rfl) (fun i _ _ => rfl) (by omega)
