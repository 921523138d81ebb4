set_option maxHeartbeats 4000000 in
theorem d_X12_product_st (d : Nat) (ih : GRQ_S d) : ∀ (x : Mm) (p : Int) (f : Int → Int) (n : Int) (a : Int) (k : Int) (E : Int → Int) (R : Int) (h_p : fm_r p) (e0 : x 0 6 = 2) (e1 : BN (x 0 7) (x 0 8) n) (e2 : x 0 9 = a) (e3 : a ≤ n) (e4 : ∀ j : Int, uch (x 2 j) = f j) (e5 : x 0 8 ≤ 80) (e6 : x 0 10 = (-1)) (e7 : 0 ≤ p) (e8 : p ≤ 4) (e9 : AQ f k n a 1 p E = R), (4 * (x 0 8 - x 0 9) + 1) < ((d + 1 : Nat) : Int) → CnI YM yX12_product cX12_product 5 .int (d + 1 + 10) ((d + 1) * 30 + 200) (fun G => [vr G 0, vi p]) x (fun z y' => (AQT f k n p E R (y' 0 9) (y' 0 10)) ∧ (AQF R (y' 0 10)) ∧ (a ≤ y' 0 9) ∧ (y' 0 9 ≤ n) ∧ (PMq f n (y' 0 9) (y' 0 10)) ∧ (∀ a : Int, (a < 0 ∨ 0 < a) → y' a = x a) ∧ (∀ i : Int, i ≠ 9 → i ≠ 10 → y' 0 i = x 0 i)) := by
  intro x p f n a k E R h_p e0 e1 e2 e3 e4 e5 e6 e7 e8 e9 hmu
  refine cn_I (by decide) (fun _ => Nat.le_of_ble_eq_true rfl) (fun G C h hq => ?_)
  have h : OK YM G C cX12_product RX12 5 (some .int) (d + 1 + 10) ((d + 1) * 30 + 200) := h
  show FW YM G C 5 x 0 [(0, vr G 0), (1, vi p)] []
  refine fr_rng (fun hR9 => ?_)
  have h9 : 0 ≤ x 0 9 := by have q := hR9 0 9; rw [rfM_9] at q; exact q.1
  have hb := bn_8 e1
  refine fr_aload_n h rfl 0 rfl dX12_product_0 ?_
  refine fr_iload_n h rfl 1 rfl dX12_product_1 ?_
  refine fr_cvI h kX12 at_0M wX12_thing lX12_178 (ih.1 x p f n a k E R (by omega) (by omega) e1 (by omega) (by omega) e4 (by omega) (by omega) (by omega) (by omega) e9 (by omega)) rfl (by omega) (by omega) rfl (Nat.le_of_ble_eq_true rfl) dX12_product_2 (fun z2 x1 w3 p4 => ?_)
  obtain ⟨p5, p6, p7, p8, f9, f10⟩ := p4
  refine fr_istore_n (L' := [(0, vr G 0), (1, vi p), (2, vi z2)]) h rfl dX12_product_5 (by decide) [1, 2, 0] rfl ?_
  have HL11 : ∀ (n11 : Nat) (l2_11 : Int) (x_11 : Mm), fm_r l2_11 → AQT f k n p E R (x_11 0 9) (x_11 0 10) → AQF R (x_11 0 10) → a ≤ x_11 0 9 → x_11 0 9 ≤ n → (∀ a : Int, (a < 0 ∨ 0 < a) → x_11 a = x1 a) → (∀ i : Int, i ≠ 9 → i ≠ 10 → x_11 0 i = x1 0 i) → (x 0 8 - x_11 0 9) < n11 → FW YM G C 5 x_11 6 [(0, vr G 0), (1, vi p), (2, vi l2_11)] [] := by
    intro n11
    induction n11 with
    | zero =>
      intro l2_11 x_11 g11_0 g11_1 g11_2 g11_3 g11_4 g11_5 g11_6 g11_7
      exfalso; omega
    | succ n11 ih11 =>
      intro l2_11 x_11 g11_0 g11_1 g11_2 g11_3 g11_4 g11_5 g11_6 g11_7
      refine fr_aload_n h rfl 0 rfl dX12_product_6 ?_
      refine fr_cvI h kX12 at_0M wX12_fine lX12_131 (c_X12_fine x_11) rfl (by omega) (by omega) rfl (Nat.le_of_ble_eq_true rfl) dX12_product_7 (fun z13 x12 w14 p15 => ?_)
      obtain ⟨p16, p17, y18⟩ := p15
      rw [y18]
      clear y18
      refine fr_if_eq (tgt := 91) h dX12_product_10 (by decide) (by omega) (fun c19 => ?_) (fun c19 => ?_)
      ·
        have d20 : z13 = 0 := by omega
        clear p16 c19
        have d21 := mt p17.2 (by omega)
        clear p17
        refine fr_iload_n h rfl 2 rfl dX12_product_91 ?_
        exact fr_iret h hq (by omega) ⟨g11_1, g11_2, (by omega), (by omega), (fun q => absurd q d21), (fun a k0 => ((g11_5 a (by omega)).trans (f9 a (by omega)))), (fun i k0 k1 => ((g11_6 i (by omega) (by omega)).trans (f10 i (by omega) (by omega))))⟩ dX12_product_92
      ·
        have d22 : z13 = 1 := by omega
        clear p16 c19
        have d23 := p17.1 (by omega)
        clear p17
        refine fr_aload_n h rfl 0 rfl dX12_product_13 ?_
        have r24 := (g11_6 6 (by decide) (by decide))
        have r25 := r24.trans (f10 6 (by decide) (by decide))
        have r26 := (g11_6 7 (by decide) (by decide))
        have r27 := r26.trans (f10 7 (by decide) (by decide))
        have r28 := (g11_6 8 (by decide) (by decide))
        have r29 := r28.trans (f10 8 (by decide) (by decide))
        refine fr_cvI h kX12 at_0M wX12_here lX12_135 (d_X12_here x_11 f n (x_11 0 9) (by omega) (bn_t ((g11_6 7 (by decide) (by decide)).trans (f10 7 (by decide) (by decide))) ((g11_6 8 (by decide) (by decide)).trans (f10 8 (by decide) (by decide))) e1) (by omega) (by omega) (fun j => (congrArg uch (congrFun ((g11_5 2 (by omega)).trans (f9 2 (by omega))) j)).trans (e4 j)) (by omega)) rfl (by omega) (by omega) rfl (Nat.le_of_ble_eq_true rfl) dX12_product_14 (fun z31 x30 w32 p33 => ?_)
        obtain ⟨p34, p35, p36, p37, y38⟩ := p33
        rw [y38]
        clear y38
        refine fr_bipush h rfl dX12_product_17 ?_
        refine fr_icmp_eq (tgt := 31) h dX12_product_19 (by decide) (by omega) (by omega) (fun c39 => ?_) (fun c39 => ?_)
        ·
          have ua : x_11 0 9 < n := by omega
          have uz := p36 ua
          clear p36 p37
          refine fr_aload_n h rfl 0 rfl dX12_product_31 ?_
          refine fr_cvI h kX12 at_0M wX12_here lX12_135 (d_X12_here x_11 f n (x_11 0 9) (by omega) (bn_t ((g11_6 7 (by decide) (by decide)).trans (f10 7 (by decide) (by decide))) ((g11_6 8 (by decide) (by decide)).trans (f10 8 (by decide) (by decide))) e1) (by omega) (by omega) (fun j => (congrArg uch (congrFun ((g11_5 2 (by omega)).trans (f9 2 (by omega))) j)).trans (e4 j)) (by omega)) rfl (by omega) (by omega) rfl (Nat.le_of_ble_eq_true rfl) dX12_product_32 (fun z41 x40 w42 p43 => ?_)
          obtain ⟨p44, p45, p46, p47, y48⟩ := p43
          rw [y48]
          clear y48
          have uv := p46 ua
          clear p46 p47
          refine fr_bipush h rfl dX12_product_35 ?_
          refine fr_icmp_ne (tgt := 44) h dX12_product_37 (by decide) (by omega) (by omega) (fun c49 => ?_) (fun c49 => ?_)
          ·
            exfalso; omega
          ·
            refine fr_iconst h dX12_product_40 ?_
            refine fr_goto (tgt := 45) h dX12_product_41 (by decide) ?_
            refine fr_istore_n (L' := [(0, vr G 0), (1, vi p), (2, vi l2_11), (3, vi 1)]) h rfl dX12_product_45 (by decide) [1, 2, 3, 0] rfl ?_
            refine fr_aload_n h rfl 0 rfl dX12_product_46 ?_
            refine fr_dup h rfl dX12_product_47 ?_
            refine fr_geti (iz := 9) h kX12 fX12_121 at_0M rfl rfl (by decide) (by decide) rfM_9 dX12_product_48 (fun z50 w51 w52 q53 => ?_)
            refine fr_iconst h dX12_product_51 ?_
            refine fr_iadd h dX12_product_52 ?_
            refine fr_puti (iz := 9) h kX12 fX12_121 at_0M rfl rfl (by decide) (by decide) rfl (by decide +kernel) rfM_9 (by omega) (by omega) dX12_product_53 ?_
            refine fr_mem (fun x54 m55 => ?_)
            refine fr_aload_n h rfl 0 rfl dX12_product_56 ?_
            refine fr_iload_n h rfl 1 rfl dX12_product_57 ?_
            have r56 := (fm_rd_i (a := 0) (b := 6) m55 (by decide))
            have r57 := r56.trans (g11_6 6 (by decide) (by decide))
            have r58 := r57.trans (f10 6 (by decide) (by decide))
            have r59 := (fm_rd_i (a := 0) (b := 7) m55 (by decide))
            have r60 := r59.trans (g11_6 7 (by decide) (by decide))
            have r61 := r60.trans (f10 7 (by decide) (by decide))
            have r62 := (fm_rd_i (a := 0) (b := 8) m55 (by decide))
            have r63 := r62.trans (g11_6 8 (by decide) (by decide))
            have r64 := r63.trans (f10 8 (by decide) (by decide))
            have r65 := (fm_rd_s m55)
            have r66 := (fm_rd_i (a := 0) (b := 10) m55 (by decide))
            refine fr_cvI h kX12 at_0M wX12_thing lX12_178 (ih.1 x54 p f n (x54 0 9) k E R (by omega) (by omega) (bn_t ((fm_rd_i (a := 0) (b := 7) m55 (by decide)).trans ((g11_6 7 (by decide) (by decide)).trans (f10 7 (by decide) (by decide)))) ((fm_rd_i (a := 0) (b := 8) m55 (by decide)).trans ((g11_6 8 (by decide) (by decide)).trans (f10 8 (by decide) (by decide)))) e1) (by omega) (by omega) (fun j => (congrArg uch (congrFun ((fm_up_row m55 (by omega)).trans ((g11_5 2 (by omega)).trans (f9 2 (by omega)))) j)).trans (e4 j)) (by omega) (by omega) (by omega) (by omega) (Eq.trans (AQ_eq (show x54 0 9 = x_11 0 9 + 1 by omega) rfl rfl rfl) (Eq.trans (AQ_bin ua (by omega)).symm (g11_1 d23))) (by omega)) rfl (by omega) (by omega) rfl (Nat.le_of_ble_eq_true rfl) dX12_product_58 (fun z68 x67 w69 p70 => ?_)
            obtain ⟨p71, p72, p73, p74, f75, f76⟩ := p70
            refine fr_istore (L' := [(0, vr G 0), (1, vi p), (2, vi l2_11), (3, vi 1), (4, vi z68)]) h dX12_product_61 (by decide) [1, 2, 3, 4, 0] rfl ?_
            refine fr_iload_n h rfl 3 rfl dX12_product_63 ?_
            refine fr_if_eq (tgt := 74) h dX12_product_64 (by decide) (by omega) (fun c77 => by exfalso; omega) (fun c77 => ?_)
            refine fr_iload_n h rfl 2 rfl dX12_product_67 ?_
            refine fr_iload h 4 rfl dX12_product_68 ?_
            refine fr_imul h dX12_product_70 ?_
            refine fr_normi (fun z78 w79 q80 => ?_)
            have w81 : fm_r ((l2_11 * z68)) → z78 = (l2_11 * z68) := fun q => (iI_inj q w79 q80).symm
            refine fr_goto (tgt := 87) h dX12_product_71 (by decide) ?_
            refine fr_istore_n (L' := [(0, vr G 0), (1, vi p), (2, vi z78), (3, vi 1), (4, vi z68)]) h rfl dX12_product_87 (by decide) [1, 2, 0, 3, 4] rfl ?_
            refine fr_goto (tgt := 6) h dX12_product_88 (by decide) ?_
            refine fr_sub (L' := [(0, vr G 0), (1, vi p), (2, vi z78)]) [0, 1, 2] rfl ?_
            have r82 := (fm_rd_s m55)
            have r83 := (fm_rd_i (a := 0) (b := 10) m55 (by decide))
            exact ih11 z78 x67 (by omega) p71 p72 (by omega) (by omega) (fun a k0 => ((f75 a (by omega)).trans ((fm_up_row m55 (by omega)).trans (g11_5 a (by omega))))) (fun i k0 k1 => ((f76 i (by omega) (by omega)).trans ((fm_rd_i (a := 0) (b := i) m55 (by omega)).trans (g11_6 i (by omega) (by omega))))) (by omega)
        ·
          refine fr_aload_n h rfl 0 rfl dX12_product_22 ?_
          refine fr_cvI h kX12 at_0M wX12_here lX12_135 (d_X12_here x_11 f n (x_11 0 9) (by omega) (bn_t ((g11_6 7 (by decide) (by decide)).trans (f10 7 (by decide) (by decide))) ((g11_6 8 (by decide) (by decide)).trans (f10 8 (by decide) (by decide))) e1) (by omega) (by omega) (fun j => (congrArg uch (congrFun ((g11_5 2 (by omega)).trans (f9 2 (by omega))) j)).trans (e4 j)) (by omega)) rfl (by omega) (by omega) rfl (Nat.le_of_ble_eq_true rfl) dX12_product_23 (fun z85 x84 w86 p87 => ?_)
          obtain ⟨p88, p89, p90, p91, y92⟩ := p87
          rw [y92]
          clear y92
          refine fr_bipush h rfl dX12_product_26 ?_
          refine fr_icmp_ne (tgt := 91) h dX12_product_28 (by decide) (by omega) (by omega) (fun c93 => ?_) (fun c93 => ?_)
          ·
            refine fr_iload_n h rfl 2 rfl dX12_product_91 ?_
            exact fr_iret h hq (by omega) ⟨g11_1, g11_2, (by omega), (by omega), (fun _ u => ⟨fun v => by have h1 := p36 u; omega, fun v => by have h1 := p90 u; omega⟩), (fun a k0 => ((g11_5 a (by omega)).trans (f9 a (by omega)))), (fun i k0 k1 => ((g11_6 i (by omega) (by omega)).trans (f10 i (by omega) (by omega))))⟩ dX12_product_92
          ·
            have ua : x_11 0 9 < n := by omega
            have uz := p90 ua
            clear p90 p91 p36 p37
            refine fr_aload_n h rfl 0 rfl dX12_product_31 ?_
            refine fr_cvI h kX12 at_0M wX12_here lX12_135 (d_X12_here x_11 f n (x_11 0 9) (by omega) (bn_t ((g11_6 7 (by decide) (by decide)).trans (f10 7 (by decide) (by decide))) ((g11_6 8 (by decide) (by decide)).trans (f10 8 (by decide) (by decide))) e1) (by omega) (by omega) (fun j => (congrArg uch (congrFun ((g11_5 2 (by omega)).trans (f9 2 (by omega))) j)).trans (e4 j)) (by omega)) rfl (by omega) (by omega) rfl (Nat.le_of_ble_eq_true rfl) dX12_product_32 (fun z95 x94 w96 p97 => ?_)
            obtain ⟨p98, p99, p100, p101, y102⟩ := p97
            rw [y102]
            clear y102
            have uv := p100 ua
            clear p100 p101
            refine fr_bipush h rfl dX12_product_35 ?_
            refine fr_icmp_ne (tgt := 44) h dX12_product_37 (by decide) (by omega) (by omega) (fun c103 => ?_) (fun c103 => ?_)
            ·
              refine fr_iconst h dX12_product_44 ?_
              refine fr_istore_n (L' := [(0, vr G 0), (1, vi p), (2, vi l2_11), (3, vi 0)]) h rfl dX12_product_45 (by decide) [1, 2, 3, 0] rfl ?_
              refine fr_aload_n h rfl 0 rfl dX12_product_46 ?_
              refine fr_dup h rfl dX12_product_47 ?_
              refine fr_geti (iz := 9) h kX12 fX12_121 at_0M rfl rfl (by decide) (by decide) rfM_9 dX12_product_48 (fun z104 w105 w106 q107 => ?_)
              refine fr_iconst h dX12_product_51 ?_
              refine fr_iadd h dX12_product_52 ?_
              refine fr_puti (iz := 9) h kX12 fX12_121 at_0M rfl rfl (by decide) (by decide) rfl (by decide +kernel) rfM_9 (by omega) (by omega) dX12_product_53 ?_
              refine fr_mem (fun x108 m109 => ?_)
              refine fr_aload_n h rfl 0 rfl dX12_product_56 ?_
              refine fr_iload_n h rfl 1 rfl dX12_product_57 ?_
              have r110 := (fm_rd_i (a := 0) (b := 6) m109 (by decide))
              have r111 := r110.trans (g11_6 6 (by decide) (by decide))
              have r112 := r111.trans (f10 6 (by decide) (by decide))
              have r113 := (fm_rd_i (a := 0) (b := 7) m109 (by decide))
              have r114 := r113.trans (g11_6 7 (by decide) (by decide))
              have r115 := r114.trans (f10 7 (by decide) (by decide))
              have r116 := (fm_rd_i (a := 0) (b := 8) m109 (by decide))
              have r117 := r116.trans (g11_6 8 (by decide) (by decide))
              have r118 := r117.trans (f10 8 (by decide) (by decide))
              have r119 := (fm_rd_s m109)
              have r120 := (fm_rd_i (a := 0) (b := 10) m109 (by decide))
              refine fr_cvI h kX12 at_0M wX12_thing lX12_178 (ih.1 x108 p f n (x108 0 9) k E R (by omega) (by omega) (bn_t ((fm_rd_i (a := 0) (b := 7) m109 (by decide)).trans ((g11_6 7 (by decide) (by decide)).trans (f10 7 (by decide) (by decide)))) ((fm_rd_i (a := 0) (b := 8) m109 (by decide)).trans ((g11_6 8 (by decide) (by decide)).trans (f10 8 (by decide) (by decide)))) e1) (by omega) (by omega) (fun j => (congrArg uch (congrFun ((fm_up_row m109 (by omega)).trans ((g11_5 2 (by omega)).trans (f9 2 (by omega)))) j)).trans (e4 j)) (by omega) (by omega) (by omega) (by omega) (Eq.trans (AQ_eq (show x108 0 9 = x_11 0 9 + 1 by omega) rfl rfl rfl) (Eq.trans (AQ_bin ua (by omega)).symm (g11_1 d23))) (by omega)) rfl (by omega) (by omega) rfl (Nat.le_of_ble_eq_true rfl) dX12_product_58 (fun z122 x121 w123 p124 => ?_)
              obtain ⟨p125, p126, p127, p128, f129, f130⟩ := p124
              refine fr_istore (L' := [(0, vr G 0), (1, vi p), (2, vi l2_11), (3, vi 0), (4, vi z122)]) h dX12_product_61 (by decide) [1, 2, 3, 4, 0] rfl ?_
              refine fr_iload_n h rfl 3 rfl dX12_product_63 ?_
              refine fr_if_eq (tgt := 74) h dX12_product_64 (by decide) (by omega) (fun c131 => ?_) (fun c131 => by exfalso; omega)
              refine fr_iload h 4 rfl dX12_product_74 ?_
              refine fr_if_ne (tgt := 83) h dX12_product_76 (by decide) (by omega) (fun c132 => ?_) (fun c132 => ?_)
              ·
                refine fr_iload_n h rfl 2 rfl dX12_product_83 ?_
                refine fr_iload h 4 rfl dX12_product_84 ?_
                refine fr_idiv h (by omega) (by omega) (by omega) dX12_product_86 (fun z133 w134 q135 w136 => ?_)
                refine fr_istore_n (L' := [(0, vr G 0), (1, vi p), (2, vi z133), (3, vi 0), (4, vi z122)]) h rfl dX12_product_87 (by decide) [1, 2, 0, 3, 4] rfl ?_
                refine fr_goto (tgt := 6) h dX12_product_88 (by decide) ?_
                refine fr_sub (L' := [(0, vr G 0), (1, vi p), (2, vi z133)]) [0, 1, 2] rfl ?_
                have r137 := (fm_rd_s m109)
                have r138 := (fm_rd_i (a := 0) (b := 10) m109 (by decide))
                exact ih11 z133 x121 (by omega) p125 p126 (by omega) (by omega) (fun a k0 => ((f129 a (by omega)).trans ((fm_up_row m109 (by omega)).trans (g11_5 a (by omega))))) (fun i k0 k1 => ((f130 i (by omega) (by omega)).trans ((fm_rd_i (a := 0) (b := i) m109 (by omega)).trans (g11_6 i (by omega) (by omega))))) (by omega)
              ·
                refine fr_iconst h dX12_product_79 ?_
                refine fr_goto (tgt := 87) h dX12_product_80 (by decide) ?_
                refine fr_istore_n (L' := [(0, vr G 0), (1, vi p), (2, vi 0), (3, vi 0), (4, vi z122)]) h rfl dX12_product_87 (by decide) [1, 2, 0, 3, 4] rfl ?_
                refine fr_goto (tgt := 6) h dX12_product_88 (by decide) ?_
                refine fr_sub (L' := [(0, vr G 0), (1, vi p), (2, vi 0)]) [0, 1, 2] rfl ?_
                have r139 := (fm_rd_s m109)
                have r140 := (fm_rd_i (a := 0) (b := 10) m109 (by decide))
                exact ih11 0 x121 (by omega) p125 p126 (by omega) (by omega) (fun a k0 => ((f129 a (by omega)).trans ((fm_up_row m109 (by omega)).trans (g11_5 a (by omega))))) (fun i k0 k1 => ((f130 i (by omega) (by omega)).trans ((fm_rd_i (a := 0) (b := i) m109 (by omega)).trans (g11_6 i (by omega) (by omega))))) (by omega)
            ·
              exfalso; omega
  exact HL11 ((x 0 8 - x1 0 9) + 1 : Int).toNat z2 x1 (by omega) p5 p6 (by omega) (by omega) (fun a _ => rfl) (fun i _ _ => rfl) (by omega)
