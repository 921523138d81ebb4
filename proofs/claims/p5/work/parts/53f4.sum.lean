set_option maxHeartbeats 4000000 in
theorem d_X12_sum_st (d : Nat) (ih : GRQ_S d) : ∀ (x : Mm) (p : Int) (f : Int → Int) (n : Int) (a : Int) (k : Int) (E : Int → Int) (R : Int) (h_p : fm_r p) (e0 : x 0 6 = 2) (e1 : BN (x 0 7) (x 0 8) n) (e2 : x 0 9 = a) (e3 : a ≤ n) (e4 : ∀ j : Int, uch (x 2 j) = f j) (e5 : x 0 8 ≤ 80) (e6 : x 0 10 = (-1)) (e7 : 0 ≤ p) (e8 : p ≤ 4) (e9 : AQ f k n a 1 p E = R), (4 * (x 0 8 - x 0 9) + 2) < ((d + 1 : Nat) : Int) → CnI YM yX12_sum cX12_sum 5 .int (d + 1 + 10) ((d + 1) * 30 + 200) (fun G => [vr G 0, vi p]) x (fun z y' => (AQT f k n p E R (y' 0 9) (y' 0 10)) ∧ (AQF R (y' 0 10)) ∧ (a ≤ y' 0 9) ∧ (y' 0 9 ≤ n) ∧ (SMq f n (y' 0 9) (y' 0 10)) ∧ (∀ a : Int, (a < 0 ∨ 0 < a) → y' a = x a) ∧ (∀ i : Int, i ≠ 9 → i ≠ 10 → y' 0 i = x 0 i)) := by
  intro x p f n a k E R h_p e0 e1 e2 e3 e4 e5 e6 e7 e8 e9 hmu
  refine cn_I (by decide) (fun _ => Nat.le_of_ble_eq_true rfl) (fun G C h hq => ?_)
  have h : OK YM G C cX12_sum RX12 5 (some .int) (d + 1 + 10) ((d + 1) * 30 + 200) := h
  show FW YM G C 5 x 0 [(0, vr G 0), (1, vi p)] []
  refine fr_rng (fun hR9 => ?_)
  have h9 : 0 ≤ x 0 9 := by have q := hR9 0 9; rw [rfM_9] at q; exact q.1
  have hb := bn_8 e1
  refine fr_aload_n h rfl 0 rfl dX12_sum_0 ?_
  refine fr_iload_n h rfl 1 rfl dX12_sum_1 ?_
  refine fr_cvI h kX12 at_0M wX12_product lX12_175 (ih.2.1 x p f n a k E R (by omega) (by omega) e1 (by omega) (by omega) e4 (by omega) (by omega) (by omega) (by omega) e9 (by omega)) rfl (by omega) (by omega) rfl (Nat.le_of_ble_eq_true rfl) dX12_sum_2 (fun z2 x1 w3 p4 => ?_)
  obtain ⟨p5, p6, p7, p8, p9, f10, f11⟩ := p4
  refine fr_istore_n (L' := [(0, vr G 0), (1, vi p), (2, vi z2)]) h rfl dX12_sum_5 (by decide) [1, 2, 0] rfl ?_
  have HL12 : ∀ (n12 : Nat) (l2_12 : Int) (x_12 : Mm), fm_r l2_12 → AQT f k n p E R (x_12 0 9) (x_12 0 10) → AQF R (x_12 0 10) → a ≤ x_12 0 9 → x_12 0 9 ≤ n → PMq f n (x_12 0 9) (x_12 0 10) → (∀ a : Int, (a < 0 ∨ 0 < a) → x_12 a = x1 a) → (∀ i : Int, i ≠ 9 → i ≠ 10 → x_12 0 i = x1 0 i) → (x 0 8 - x_12 0 9) < n12 → FW YM G C 5 x_12 6 [(0, vr G 0), (1, vi p), (2, vi l2_12)] [] := by
    intro n12
    induction n12 with
    | zero =>
      intro l2_12 x_12 g12_0 g12_1 g12_2 g12_3 g12_4 g12_5 g12_6 g12_7 g12_8
      exfalso; omega
    | succ n12 ih12 =>
      intro l2_12 x_12 g12_0 g12_1 g12_2 g12_3 g12_4 g12_5 g12_6 g12_7 g12_8
      refine fr_aload_n h rfl 0 rfl dX12_sum_6 ?_
      refine fr_cvI h kX12 at_0M wX12_fine lX12_131 (c_X12_fine x_12) rfl (by omega) (by omega) rfl (Nat.le_of_ble_eq_true rfl) dX12_sum_7 (fun z14 x13 w15 p16 => ?_)
      obtain ⟨p17, p18, y19⟩ := p16
      rw [y19]
      clear y19
      refine fr_if_eq (tgt := 82) h dX12_sum_10 (by decide) (by omega) (fun c20 => ?_) (fun c20 => ?_)
      ·
        have d21 : z14 = 0 := by omega
        clear p17 c20
        have d22 := mt p18.2 (by omega)
        clear p18
        refine fr_iload_n h rfl 2 rfl dX12_sum_82 ?_
        exact fr_iret h hq (by omega) ⟨g12_1, g12_2, (by omega), (by omega), (fun q => absurd q d22), (fun a k0 => ((g12_6 a (by omega)).trans (f10 a (by omega)))), (fun i k0 k1 => ((g12_7 i (by omega) (by omega)).trans (f11 i (by omega) (by omega))))⟩ dX12_sum_83
      ·
        have d23 : z14 = 1 := by omega
        clear p17 c20
        have d24 := p18.1 (by omega)
        clear p18
        refine fr_aload_n h rfl 0 rfl dX12_sum_13 ?_
        have r25 := (g12_7 6 (by decide) (by decide))
        have r26 := r25.trans (f11 6 (by decide) (by decide))
        have r27 := (g12_7 7 (by decide) (by decide))
        have r28 := r27.trans (f11 7 (by decide) (by decide))
        have r29 := (g12_7 8 (by decide) (by decide))
        have r30 := r29.trans (f11 8 (by decide) (by decide))
        refine fr_cvI h kX12 at_0M wX12_here lX12_135 (d_X12_here x_12 f n (x_12 0 9) (by omega) (bn_t ((g12_7 7 (by decide) (by decide)).trans (f11 7 (by decide) (by decide))) ((g12_7 8 (by decide) (by decide)).trans (f11 8 (by decide) (by decide))) e1) (by omega) (by omega) (fun j => (congrArg uch (congrFun ((g12_6 2 (by omega)).trans (f10 2 (by omega))) j)).trans (e4 j)) (by omega)) rfl (by omega) (by omega) rfl (Nat.le_of_ble_eq_true rfl) dX12_sum_14 (fun z32 x31 w33 p34 => ?_)
        obtain ⟨p35, p36, p37, p38, y39⟩ := p34
        rw [y39]
        clear y39
        refine fr_bipush h rfl dX12_sum_17 ?_
        refine fr_icmp_eq (tgt := 31) h dX12_sum_19 (by decide) (by omega) (by omega) (fun c40 => ?_) (fun c40 => ?_)
        ·
          have ua : x_12 0 9 < n := by omega
          have uz := p37 ua
          clear p37 p38
          refine fr_aload_n h rfl 0 rfl dX12_sum_31 ?_
          refine fr_cvI h kX12 at_0M wX12_here lX12_135 (d_X12_here x_12 f n (x_12 0 9) (by omega) (bn_t ((g12_7 7 (by decide) (by decide)).trans (f11 7 (by decide) (by decide))) ((g12_7 8 (by decide) (by decide)).trans (f11 8 (by decide) (by decide))) e1) (by omega) (by omega) (fun j => (congrArg uch (congrFun ((g12_6 2 (by omega)).trans (f10 2 (by omega))) j)).trans (e4 j)) (by omega)) rfl (by omega) (by omega) rfl (Nat.le_of_ble_eq_true rfl) dX12_sum_32 (fun z42 x41 w43 p44 => ?_)
          obtain ⟨p45, p46, p47, p48, y49⟩ := p44
          rw [y49]
          clear y49
          have uv := p47 ua
          clear p47 p48
          refine fr_bipush h rfl dX12_sum_35 ?_
          refine fr_icmp_ne (tgt := 44) h dX12_sum_37 (by decide) (by omega) (by omega) (fun c50 => ?_) (fun c50 => ?_)
          ·
            exfalso; omega
          ·
            refine fr_iconst h dX12_sum_40 ?_
            refine fr_goto (tgt := 45) h dX12_sum_41 (by decide) ?_
            refine fr_istore_n (L' := [(0, vr G 0), (1, vi p), (2, vi l2_12), (3, vi 1)]) h rfl dX12_sum_45 (by decide) [1, 2, 3, 0] rfl ?_
            refine fr_aload_n h rfl 0 rfl dX12_sum_46 ?_
            refine fr_dup h rfl dX12_sum_47 ?_
            refine fr_geti (iz := 9) h kX12 fX12_121 at_0M rfl rfl (by decide) (by decide) rfM_9 dX12_sum_48 (fun z51 w52 w53 q54 => ?_)
            refine fr_iconst h dX12_sum_51 ?_
            refine fr_iadd h dX12_sum_52 ?_
            refine fr_puti (iz := 9) h kX12 fX12_121 at_0M rfl rfl (by decide) (by decide) rfl (by decide +kernel) rfM_9 (by omega) (by omega) dX12_sum_53 ?_
            refine fr_mem (fun x55 m56 => ?_)
            refine fr_aload_n h rfl 0 rfl dX12_sum_56 ?_
            refine fr_iload_n h rfl 1 rfl dX12_sum_57 ?_
            have r57 := (fm_rd_i (a := 0) (b := 6) m56 (by decide))
            have r58 := r57.trans (g12_7 6 (by decide) (by decide))
            have r59 := r58.trans (f11 6 (by decide) (by decide))
            have r60 := (fm_rd_i (a := 0) (b := 7) m56 (by decide))
            have r61 := r60.trans (g12_7 7 (by decide) (by decide))
            have r62 := r61.trans (f11 7 (by decide) (by decide))
            have r63 := (fm_rd_i (a := 0) (b := 8) m56 (by decide))
            have r64 := r63.trans (g12_7 8 (by decide) (by decide))
            have r65 := r64.trans (f11 8 (by decide) (by decide))
            have r66 := (fm_rd_s m56)
            have r67 := (fm_rd_i (a := 0) (b := 10) m56 (by decide))
            refine fr_cvI h kX12 at_0M wX12_product lX12_175 (ih.2.1 x55 p f n (x55 0 9) k E R (by omega) (by omega) (bn_t ((fm_rd_i (a := 0) (b := 7) m56 (by decide)).trans ((g12_7 7 (by decide) (by decide)).trans (f11 7 (by decide) (by decide)))) ((fm_rd_i (a := 0) (b := 8) m56 (by decide)).trans ((g12_7 8 (by decide) (by decide)).trans (f11 8 (by decide) (by decide)))) e1) (by omega) (by omega) (fun j => (congrArg uch (congrFun ((fm_up_row m56 (by omega)).trans ((g12_6 2 (by omega)).trans (f10 2 (by omega)))) j)).trans (e4 j)) (by omega) (by omega) (by omega) (by omega) (Eq.trans (AQ_eq (show x55 0 9 = x_12 0 9 + 1 by omega) rfl rfl rfl) (Eq.trans (AQ_bin ua (by omega)).symm (g12_1 d24))) (by omega)) rfl (by omega) (by omega) rfl (Nat.le_of_ble_eq_true rfl) dX12_sum_58 (fun z69 x68 w70 p71 => ?_)
            obtain ⟨p72, p73, p74, p75, p76, f77, f78⟩ := p71
            refine fr_istore (L' := [(0, vr G 0), (1, vi p), (2, vi l2_12), (3, vi 1), (4, vi z69)]) h dX12_sum_61 (by decide) [1, 2, 3, 4, 0] rfl ?_
            refine fr_iload_n h rfl 3 rfl dX12_sum_63 ?_
            refine fr_if_eq (tgt := 74) h dX12_sum_64 (by decide) (by omega) (fun c79 => by exfalso; omega) (fun c79 => ?_)
            refine fr_iload_n h rfl 2 rfl dX12_sum_67 ?_
            refine fr_iload h 4 rfl dX12_sum_68 ?_
            refine fr_iadd h dX12_sum_70 ?_
            refine fr_normi (fun z80 w81 q82 => ?_)
            have w83 : fm_r ((l2_12 + z69)) → z80 = (l2_12 + z69) := fun q => (iI_inj q w81 q82).symm
            refine fr_goto (tgt := 78) h dX12_sum_71 (by decide) ?_
            refine fr_istore_n (L' := [(0, vr G 0), (1, vi p), (2, vi z80), (3, vi 1), (4, vi z69)]) h rfl dX12_sum_78 (by decide) [1, 2, 0, 3, 4] rfl ?_
            refine fr_goto (tgt := 6) h dX12_sum_79 (by decide) ?_
            refine fr_sub (L' := [(0, vr G 0), (1, vi p), (2, vi z80)]) [0, 1, 2] rfl ?_
            have r84 := (fm_rd_s m56)
            have r85 := (fm_rd_i (a := 0) (b := 10) m56 (by decide))
            exact ih12 z80 x68 (by omega) p72 p73 (by omega) (by omega) p76 (fun a k0 => ((f77 a (by omega)).trans ((fm_up_row m56 (by omega)).trans (g12_6 a (by omega))))) (fun i k0 k1 => ((f78 i (by omega) (by omega)).trans ((fm_rd_i (a := 0) (b := i) m56 (by omega)).trans (g12_7 i (by omega) (by omega))))) (by omega)
        ·
          refine fr_aload_n h rfl 0 rfl dX12_sum_22 ?_
          refine fr_cvI h kX12 at_0M wX12_here lX12_135 (d_X12_here x_12 f n (x_12 0 9) (by omega) (bn_t ((g12_7 7 (by decide) (by decide)).trans (f11 7 (by decide) (by decide))) ((g12_7 8 (by decide) (by decide)).trans (f11 8 (by decide) (by decide))) e1) (by omega) (by omega) (fun j => (congrArg uch (congrFun ((g12_6 2 (by omega)).trans (f10 2 (by omega))) j)).trans (e4 j)) (by omega)) rfl (by omega) (by omega) rfl (Nat.le_of_ble_eq_true rfl) dX12_sum_23 (fun z87 x86 w88 p89 => ?_)
          obtain ⟨p90, p91, p92, p93, y94⟩ := p89
          rw [y94]
          clear y94
          refine fr_bipush h rfl dX12_sum_26 ?_
          refine fr_icmp_ne (tgt := 82) h dX12_sum_28 (by decide) (by omega) (by omega) (fun c95 => ?_) (fun c95 => ?_)
          ·
            refine fr_iload_n h rfl 2 rfl dX12_sum_82 ?_
            exact fr_iret h hq (by omega) ⟨g12_1, g12_2, (by omega), (by omega), (fun q u => ⟨(g12_5 q u).1, (g12_5 q u).2, fun v => by have h1 := p37 u; omega, fun v => by have h1 := p92 u; omega⟩), (fun a k0 => ((g12_6 a (by omega)).trans (f10 a (by omega)))), (fun i k0 k1 => ((g12_7 i (by omega) (by omega)).trans (f11 i (by omega) (by omega))))⟩ dX12_sum_83
          ·
            have ua : x_12 0 9 < n := by omega
            have uz := p92 ua
            clear p92 p93 p37 p38
            refine fr_aload_n h rfl 0 rfl dX12_sum_31 ?_
            refine fr_cvI h kX12 at_0M wX12_here lX12_135 (d_X12_here x_12 f n (x_12 0 9) (by omega) (bn_t ((g12_7 7 (by decide) (by decide)).trans (f11 7 (by decide) (by decide))) ((g12_7 8 (by decide) (by decide)).trans (f11 8 (by decide) (by decide))) e1) (by omega) (by omega) (fun j => (congrArg uch (congrFun ((g12_6 2 (by omega)).trans (f10 2 (by omega))) j)).trans (e4 j)) (by omega)) rfl (by omega) (by omega) rfl (Nat.le_of_ble_eq_true rfl) dX12_sum_32 (fun z97 x96 w98 p99 => ?_)
            obtain ⟨p100, p101, p102, p103, y104⟩ := p99
            rw [y104]
            clear y104
            have uv := p102 ua
            clear p102 p103
            refine fr_bipush h rfl dX12_sum_35 ?_
            refine fr_icmp_ne (tgt := 44) h dX12_sum_37 (by decide) (by omega) (by omega) (fun c105 => ?_) (fun c105 => ?_)
            ·
              refine fr_iconst h dX12_sum_44 ?_
              refine fr_istore_n (L' := [(0, vr G 0), (1, vi p), (2, vi l2_12), (3, vi 0)]) h rfl dX12_sum_45 (by decide) [1, 2, 3, 0] rfl ?_
              refine fr_aload_n h rfl 0 rfl dX12_sum_46 ?_
              refine fr_dup h rfl dX12_sum_47 ?_
              refine fr_geti (iz := 9) h kX12 fX12_121 at_0M rfl rfl (by decide) (by decide) rfM_9 dX12_sum_48 (fun z106 w107 w108 q109 => ?_)
              refine fr_iconst h dX12_sum_51 ?_
              refine fr_iadd h dX12_sum_52 ?_
              refine fr_puti (iz := 9) h kX12 fX12_121 at_0M rfl rfl (by decide) (by decide) rfl (by decide +kernel) rfM_9 (by omega) (by omega) dX12_sum_53 ?_
              refine fr_mem (fun x110 m111 => ?_)
              refine fr_aload_n h rfl 0 rfl dX12_sum_56 ?_
              refine fr_iload_n h rfl 1 rfl dX12_sum_57 ?_
              have r112 := (fm_rd_i (a := 0) (b := 6) m111 (by decide))
              have r113 := r112.trans (g12_7 6 (by decide) (by decide))
              have r114 := r113.trans (f11 6 (by decide) (by decide))
              have r115 := (fm_rd_i (a := 0) (b := 7) m111 (by decide))
              have r116 := r115.trans (g12_7 7 (by decide) (by decide))
              have r117 := r116.trans (f11 7 (by decide) (by decide))
              have r118 := (fm_rd_i (a := 0) (b := 8) m111 (by decide))
              have r119 := r118.trans (g12_7 8 (by decide) (by decide))
              have r120 := r119.trans (f11 8 (by decide) (by decide))
              have r121 := (fm_rd_s m111)
              have r122 := (fm_rd_i (a := 0) (b := 10) m111 (by decide))
              refine fr_cvI h kX12 at_0M wX12_product lX12_175 (ih.2.1 x110 p f n (x110 0 9) k E R (by omega) (by omega) (bn_t ((fm_rd_i (a := 0) (b := 7) m111 (by decide)).trans ((g12_7 7 (by decide) (by decide)).trans (f11 7 (by decide) (by decide)))) ((fm_rd_i (a := 0) (b := 8) m111 (by decide)).trans ((g12_7 8 (by decide) (by decide)).trans (f11 8 (by decide) (by decide)))) e1) (by omega) (by omega) (fun j => (congrArg uch (congrFun ((fm_up_row m111 (by omega)).trans ((g12_6 2 (by omega)).trans (f10 2 (by omega)))) j)).trans (e4 j)) (by omega) (by omega) (by omega) (by omega) (Eq.trans (AQ_eq (show x110 0 9 = x_12 0 9 + 1 by omega) rfl rfl rfl) (Eq.trans (AQ_bin ua (by omega)).symm (g12_1 d24))) (by omega)) rfl (by omega) (by omega) rfl (Nat.le_of_ble_eq_true rfl) dX12_sum_58 (fun z124 x123 w125 p126 => ?_)
              obtain ⟨p127, p128, p129, p130, p131, f132, f133⟩ := p126
              refine fr_istore (L' := [(0, vr G 0), (1, vi p), (2, vi l2_12), (3, vi 0), (4, vi z124)]) h dX12_sum_61 (by decide) [1, 2, 3, 4, 0] rfl ?_
              refine fr_iload_n h rfl 3 rfl dX12_sum_63 ?_
              refine fr_if_eq (tgt := 74) h dX12_sum_64 (by decide) (by omega) (fun c134 => ?_) (fun c134 => by exfalso; omega)
              refine fr_iload_n h rfl 2 rfl dX12_sum_74 ?_
              refine fr_iload h 4 rfl dX12_sum_75 ?_
              refine fr_isub h dX12_sum_77 ?_
              refine fr_normi (fun z135 w136 q137 => ?_)
              have w138 : fm_r ((l2_12 - z124)) → z135 = (l2_12 - z124) := fun q => (iI_inj q w136 q137).symm
              refine fr_istore_n (L' := [(0, vr G 0), (1, vi p), (2, vi z135), (3, vi 0), (4, vi z124)]) h rfl dX12_sum_78 (by decide) [1, 2, 0, 3, 4] rfl ?_
              refine fr_goto (tgt := 6) h dX12_sum_79 (by decide) ?_
              refine fr_sub (L' := [(0, vr G 0), (1, vi p), (2, vi z135)]) [0, 1, 2] rfl ?_
              have r139 := (fm_rd_s m111)
              have r140 := (fm_rd_i (a := 0) (b := 10) m111 (by decide))
              exact ih12 z135 x123 (by omega) p127 p128 (by omega) (by omega) p131 (fun a k0 => ((f132 a (by omega)).trans ((fm_up_row m111 (by omega)).trans (g12_6 a (by omega))))) (fun i k0 k1 => ((f133 i (by omega) (by omega)).trans ((fm_rd_i (a := 0) (b := i) m111 (by omega)).trans (g12_7 i (by omega) (by omega))))) (by omega)
            ·
              exfalso; omega
  exact HL12 ((x 0 8 - x1 0 9) + 1 : Int).toNat z2 x1 (by omega) p5 p6 (by omega) (by omega) p9 (fun a _ => rfl) (fun i _ _ => rfl) (by omega)
