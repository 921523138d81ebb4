set_option maxHeartbeats 200000 in
theorem c_X1_tallyOne (x : Mm) (p : Int) (v : Int) (h_p : fm_r p) (h_v : fm_l v) : CnV YC yX1_tallyOne cX1_tallyOne 6 3 68 (fun G => [vr G 98, vi p, vj v]) x (fun y' => (y' 98 3 = x 98 3) ∧ (∀ a : Int, (a < 98 ∨ 106 < a) → y' a = x a)) := by
  refine cn_V (by decide) (fun _ => Nat.le_of_ble_eq_true rfl) (fun G C h hq => ?_)
  have h : OK YC G C cX1_tallyOne RX1 6 none 3 68 := h
  show FW YC G C 6 x 0 [(0, vr G 98), (1, vi p), (2, vj v)] []
  refine fr_iload_n h rfl 1 rfl dX1_tallyOne_0 ?_
  refine fr_if_lt (tgt := 21) h dX1_tallyOne_1 (by decide) (by omega) (fun c1 => ?_) (fun c1 => ?_)
  ·
    refine fr_aload_n h rfl 0 rfl dX1_tallyOne_21 ?_
    refine fr_iconst h dX1_tallyOne_22 ?_
    refine fr_lload_n h rfl 2 rfl dX1_tallyOne_23 ?_
    refine fr_iconst h dX1_tallyOne_24 ?_
    refine fr_csI h wX2_numberAt lX1_34 (c_X2_numberAt x v 0 (by omega) (by omega)) rfl (by decide) (by decide) rfl (Nat.le_of_ble_eq_true rfl) dX1_tallyOne_25 (fun z3 x2 w4 p5 => ?_)
    obtain ⟨p6, p7, y8⟩ := p5
    rw [y8]
    clear y8
    refine fr_cvV h kX1 at_98 wX1_addTo lX1_77 (c_X1_addTo x 1 z3 (by omega) (by omega) (by omega) (by omega)) rfl (by decide) (by decide) rfl (Nat.le_of_ble_eq_true rfl) dX1_tallyOne_28 (fun x9 p12 => ?_)
    obtain ⟨p13, f14⟩ := p12
    refine fr_aload_n h rfl 0 rfl dX1_tallyOne_31 ?_
    refine fr_iconst h dX1_tallyOne_32 ?_
    refine fr_lload_n h rfl 2 rfl dX1_tallyOne_33 ?_
    refine fr_csI h wX1_lastOf lX1_40 (c_X1_lastOf x9 v (by omega)) rfl (by decide) (by decide) rfl (Nat.le_of_ble_eq_true rfl) dX1_tallyOne_34 (fun z16 x15 w17 p18 => ?_)
    obtain ⟨p19, p20, y21⟩ := p18
    rw [y21]
    clear y21
    refine fr_cvV h kX1 at_98 wX1_addTo lX1_77 (c_X1_addTo x9 2 z16 (by omega) (by omega) (by omega) (by omega)) rfl (by decide) (by decide) rfl (Nat.le_of_ble_eq_true rfl) dX1_tallyOne_37 (fun x22 p25 => ?_)
    obtain ⟨p26, f27⟩ := p25
    refine fr_aload_n h rfl 0 rfl dX1_tallyOne_40 ?_
    refine fr_iconst h dX1_tallyOne_41 ?_
    refine fr_lload_n h rfl 2 rfl dX1_tallyOne_42 ?_
    refine fr_csI h wX2_lengthOf lX1_44 (c_X2_lengthOf x22 v (by omega)) rfl (by decide) (by decide) rfl (Nat.le_of_ble_eq_true rfl) dX1_tallyOne_43 (fun z29 x28 w30 p31 => ?_)
    obtain ⟨p32, p33, y34⟩ := p31
    rw [y34]
    clear y34
    refine fr_cvV h kX1 at_98 wX1_addTo lX1_77 (c_X1_addTo x22 3 z29 (by omega) (by omega) (by omega) (by omega)) rfl (by decide) (by decide) rfl (Nat.le_of_ble_eq_true rfl) dX1_tallyOne_46 (fun x35 p38 => ?_)
    obtain ⟨p39, f40⟩ := p38
    refine fr_lload_n h rfl 2 rfl dX1_tallyOne_49 ?_
    refine fr_csI h wX2_numbersOf lX1_47 (c_X2_numbersOf x35 v (by omega)) rfl (by decide) (by decide) rfl (Nat.le_of_ble_eq_true rfl) dX1_tallyOne_50 (fun z42 x41 w43 p44 => ?_)
    have y45 := p44
    rw [y45]
    clear y45
    refine fr_istore (L' := [(0, vr G 98), (1, vi p), (2, vj v), (4, vi z42)]) h dX1_tallyOne_53 (by decide) [1, 2, 3, 0] rfl ?_
    refine fr_iconst h dX1_tallyOne_55 ?_
    refine fr_istore (L' := [(0, vr G 98), (1, vi p), (2, vj v), (4, vi z42), (5, vi 0)]) h dX1_tallyOne_56 (by decide) [1, 2, 3, 4, 0] rfl ?_
    have HL46 : ∀ (n46 : Nat) (l5_46 : Int) (x_46 : Mm), fm_r l5_46 → 0 ≤ l5_46 → l5_46 ≤ 12 → x_46 98 3 = x 98 3 → (∀ a : Int, (a < 98 ∨ 106 < a) → x_46 a = x35 a) → (12 - l5_46) < n46 → FW YC G C 6 x_46 58 [(0, vr G 98), (1, vi p), (2, vj v), (4, vi z42), (5, vi l5_46)] [] := by
      intro n46
      induction n46 with
      | zero =>
        intro l5_46 x_46 g46_0 g46_1 g46_2 g46_3 g46_4 g46_5
        exfalso; omega
      | succ n46 ih46 =>
        intro l5_46 x_46 g46_0 g46_1 g46_2 g46_3 g46_4 g46_5
        refine fr_iload h 4 rfl dX1_tallyOne_58 ?_
        refine fr_gst2 h dX1_tallyOne_60 (fun t47 s48 => ?_)
        refine fr_iconst h dX1_tallyOne_63 ?_
        refine fr_sld h s48 (by decide) (by omega) (by omega) dX1_tallyOne_64 (fun z49 q50 => ?_)
        have w51 := zt_2_v (by omega) (by omega) q50
        refine fr_icmp_gt (tgt := 91) h dX1_tallyOne_65 (by decide) (by omega) (by omega) (fun c52 => ?_) (fun c52 => ?_)
        ·
          exact fr_vret h hq ⟨(by omega), (fun a k0 => ((g46_4 a (by omega)).trans ((f40 a (by omega)).trans ((f27 a (by omega)).trans (f14 a (by omega))))))⟩ dX1_tallyOne_91
        ·
          refine fr_iload h 3 rfl dX1_tallyOne_68 ?_
          refine fr_iconst h dX1_tallyOne_70 ?_
          refine fr_iload h 4 rfl dX1_tallyOne_71 ?_
          refine fr_ishl h dX1_tallyOne_73 (fun z53 w54 q55 w56 => ?_)
          refine fr_iand h dX1_tallyOne_74 (fun z57 w58 q59 w60 => ?_)
          refine fr_if_eq (tgt := 85) h dX1_tallyOne_75 (by decide) (by omega) (fun c61 => ?_) (fun c61 => ?_)
          ·
            refine fr_iinc (j := 4) (L' := [(0, vr G 98), (1, vi p), (2, vj v), (4, vi z42), (5, vi (l5_46 + 1))]) h dX1_tallyOne_85 rfl (by decide) [1, 2, 3, 4, 0] rfl ?_
            refine fr_goto (tgt := 58) h dX1_tallyOne_88 (by decide) ?_
            exact ih46 (l5_46 + 1) x_46 (by omega) (by omega) (by omega) (by omega) (fun a k0 => (g46_4 a (by omega))) (by omega)
          ·
            refine fr_aload_n h rfl 0 rfl dX1_tallyOne_78 ?_
            refine fr_iconst h dX1_tallyOne_79 ?_
            refine fr_iload h 4 rfl dX1_tallyOne_80 ?_
            refine fr_cvV h kX1 at_98 wX1_addTo lX1_77 (c_X1_addTo x_46 4 l5_46 (by omega) (by omega) (by omega) (by omega)) rfl (by decide) (by decide) rfl (Nat.le_of_ble_eq_true rfl) dX1_tallyOne_82 (fun x62 p65 => ?_)
            obtain ⟨p66, f67⟩ := p65
            refine fr_iinc (j := 4) (L' := [(0, vr G 98), (1, vi p), (2, vj v), (4, vi z42), (5, vi (l5_46 + 1))]) h dX1_tallyOne_85 rfl (by decide) [1, 2, 3, 4, 0] rfl ?_
            refine fr_goto (tgt := 58) h dX1_tallyOne_88 (by decide) ?_
            exact ih46 (l5_46 + 1) x62 (by omega) (by omega) (by omega) (by omega) (fun a k0 => ((f67 a (by omega)).trans (g46_4 a (by omega)))) (by omega)
    exact HL46 ((12 - 0) + 1 : Int).toNat 0 x35 (by omega) (by omega) (by omega) (by omega) (fun a _ => rfl) (by omega)
  ·
    refine fr_aload_n h rfl 0 rfl dX1_tallyOne_4 ?_
    refine fr_iconst h dX1_tallyOne_5 ?_
    refine fr_iload_n h rfl 1 rfl dX1_tallyOne_6 ?_
    refine fr_bipush h rfl dX1_tallyOne_7 ?_
    refine fr_idiv h (by omega) (by omega) (by omega) dX1_tallyOne_9 (fun z68 w69 q70 w71 => ?_)
    have w72 := w71
    refine fr_gst2 h dX1_tallyOne_10 (fun t73 s74 => ?_)
    refine fr_iconst h dX1_tallyOne_13 ?_
    refine fr_sld h s74 (by decide) (by omega) (by omega) dX1_tallyOne_14 (fun z75 q76 => ?_)
    have w77 := zt_2_v (by omega) (by omega) q76
    refine fr_mmin h (by omega) (by omega) (tb_5 (i := 13) (by decide +kernel) (by decide +kernel)) w_mmin (by decide) (by decide) (Nat.le_of_ble_eq_true rfl) dX1_tallyOne_15 (fun z78 w79 w80 w81 => ?_)
    refine fr_cvV h kX1 at_98 wX1_addTo lX1_77 (c_X1_addTo x 0 z78 (by omega) (by omega) (by omega) (by omega)) rfl (by decide) (by decide) rfl (Nat.le_of_ble_eq_true rfl) dX1_tallyOne_18 (fun x82 p85 => ?_)
    obtain ⟨p86, f87⟩ := p85
    refine fr_aload_n h rfl 0 rfl dX1_tallyOne_21 ?_
    refine fr_iconst h dX1_tallyOne_22 ?_
    refine fr_lload_n h rfl 2 rfl dX1_tallyOne_23 ?_
    refine fr_iconst h dX1_tallyOne_24 ?_
    refine fr_csI h wX2_numberAt lX1_34 (c_X2_numberAt x82 v 0 (by omega) (by omega)) rfl (by decide) (by decide) rfl (Nat.le_of_ble_eq_true rfl) dX1_tallyOne_25 (fun z89 x88 w90 p91 => ?_)
    obtain ⟨p92, p93, y94⟩ := p91
    rw [y94]
    clear y94
    refine fr_cvV h kX1 at_98 wX1_addTo lX1_77 (c_X1_addTo x82 1 z89 (by omega) (by omega) (by omega) (by omega)) rfl (by decide) (by decide) rfl (Nat.le_of_ble_eq_true rfl) dX1_tallyOne_28 (fun x95 p98 => ?_)
    obtain ⟨p99, f100⟩ := p98
    refine fr_aload_n h rfl 0 rfl dX1_tallyOne_31 ?_
    refine fr_iconst h dX1_tallyOne_32 ?_
    refine fr_lload_n h rfl 2 rfl dX1_tallyOne_33 ?_
    refine fr_csI h wX1_lastOf lX1_40 (c_X1_lastOf x95 v (by omega)) rfl (by decide) (by decide) rfl (Nat.le_of_ble_eq_true rfl) dX1_tallyOne_34 (fun z102 x101 w103 p104 => ?_)
    obtain ⟨p105, p106, y107⟩ := p104
    rw [y107]
    clear y107
    refine fr_cvV h kX1 at_98 wX1_addTo lX1_77 (c_X1_addTo x95 2 z102 (by omega) (by omega) (by omega) (by omega)) rfl (by decide) (by decide) rfl (Nat.le_of_ble_eq_true rfl) dX1_tallyOne_37 (fun x108 p111 => ?_)
    obtain ⟨p112, f113⟩ := p111
    refine fr_aload_n h rfl 0 rfl dX1_tallyOne_40 ?_
    refine fr_iconst h dX1_tallyOne_41 ?_
    refine fr_lload_n h rfl 2 rfl dX1_tallyOne_42 ?_
    refine fr_csI h wX2_lengthOf lX1_44 (c_X2_lengthOf x108 v (by omega)) rfl (by decide) (by decide) rfl (Nat.le_of_ble_eq_true rfl) dX1_tallyOne_43 (fun z115 x114 w116 p117 => ?_)
    obtain ⟨p118, p119, y120⟩ := p117
    rw [y120]
    clear y120
    refine fr_cvV h kX1 at_98 wX1_addTo lX1_77 (c_X1_addTo x108 3 z115 (by omega) (by omega) (by omega) (by omega)) rfl (by decide) (by decide) rfl (Nat.le_of_ble_eq_true rfl) dX1_tallyOne_46 (fun x121 p124 => ?_)
    obtain ⟨p125, f126⟩ := p124
    refine fr_lload_n h rfl 2 rfl dX1_tallyOne_49 ?_
    refine fr_csI h wX2_numbersOf lX1_47 (c_X2_numbersOf x121 v (by omega)) rfl (by decide) (by decide) rfl (Nat.le_of_ble_eq_true rfl) dX1_tallyOne_50 (fun z128 x127 w129 p130 => ?_)
    have y131 := p130
    rw [y131]
    clear y131
    refine fr_istore (L' := [(0, vr G 98), (1, vi p), (2, vj v), (4, vi z128)]) h dX1_tallyOne_53 (by decide) [1, 2, 3, 0] rfl ?_
    refine fr_iconst h dX1_tallyOne_55 ?_
    refine fr_istore (L' := [(0, vr G 98), (1, vi p), (2, vj v), (4, vi z128), (5, vi 0)]) h dX1_tallyOne_56 (by decide) [1, 2, 3, 4, 0] rfl ?_
    have HL132 : ∀ (n132 : Nat) (l5_132 : Int) (x_132 : Mm), fm_r l5_132 → 0 ≤ l5_132 → l5_132 ≤ 12 → x_132 98 3 = x 98 3 → (∀ a : Int, (a < 98 ∨ 106 < a) → x_132 a = x121 a) → (12 - l5_132) < n132 → FW YC G C 6 x_132 58 [(0, vr G 98), (1, vi p), (2, vj v), (4, vi z128), (5, vi l5_132)] [] := by
      intro n132
      induction n132 with
      | zero =>
        intro l5_132 x_132 g132_0 g132_1 g132_2 g132_3 g132_4 g132_5
        exfalso; omega
      | succ n132 ih132 =>
        intro l5_132 x_132 g132_0 g132_1 g132_2 g132_3 g132_4 g132_5
        refine fr_iload h 4 rfl dX1_tallyOne_58 ?_
        refine fr_gst2 h dX1_tallyOne_60 (fun t133 s134 => ?_)
        refine fr_iconst h dX1_tallyOne_63 ?_
        refine fr_sld h s134 (by decide) (by omega) (by omega) dX1_tallyOne_64 (fun z135 q136 => ?_)
        have w137 := zt_2_v (by omega) (by omega) q136
        refine fr_icmp_gt (tgt := 91) h dX1_tallyOne_65 (by decide) (by omega) (by omega) (fun c138 => ?_) (fun c138 => ?_)
        ·
          exact fr_vret h hq ⟨(by omega), (fun a k0 => ((g132_4 a (by omega)).trans ((f126 a (by omega)).trans ((f113 a (by omega)).trans ((f100 a (by omega)).trans (f87 a (by omega)))))))⟩ dX1_tallyOne_91
        ·
          refine fr_iload h 3 rfl dX1_tallyOne_68 ?_
          refine fr_iconst h dX1_tallyOne_70 ?_
          refine fr_iload h 4 rfl dX1_tallyOne_71 ?_
          refine fr_ishl h dX1_tallyOne_73 (fun z139 w140 q141 w142 => ?_)
          refine fr_iand h dX1_tallyOne_74 (fun z143 w144 q145 w146 => ?_)
          refine fr_if_eq (tgt := 85) h dX1_tallyOne_75 (by decide) (by omega) (fun c147 => ?_) (fun c147 => ?_)
          ·
            refine fr_iinc (j := 4) (L' := [(0, vr G 98), (1, vi p), (2, vj v), (4, vi z128), (5, vi (l5_132 + 1))]) h dX1_tallyOne_85 rfl (by decide) [1, 2, 3, 4, 0] rfl ?_
            refine fr_goto (tgt := 58) h dX1_tallyOne_88 (by decide) ?_
            exact ih132 (l5_132 + 1) x_132 (by omega) (by omega) (by omega) (by omega) (fun a k0 => (g132_4 a (by omega))) (by omega)
          ·
            refine fr_aload_n h rfl 0 rfl dX1_tallyOne_78 ?_
            refine fr_iconst h dX1_tallyOne_79 ?_
            refine fr_iload h 4 rfl dX1_tallyOne_80 ?_
            refine fr_cvV h kX1 at_98 wX1_addTo lX1_77 (c_X1_addTo x_132 4 l5_132 (by omega) (by omega) (by omega) (by omega)) rfl (by decide) (by decide) rfl (Nat.le_of_ble_eq_true rfl) dX1_tallyOne_82 (fun x148 p151 => ?_)
            obtain ⟨p152, f153⟩ := p151
            refine fr_iinc (j := 4) (L' := [(0, vr G 98), (1, vi p), (2, vj v), (4, vi z128), (5, vi (l5_132 + 1))]) h dX1_tallyOne_85 rfl (by decide) [1, 2, 3, 4, 0] rfl ?_
            refine fr_goto (tgt := 58) h dX1_tallyOne_88 (by decide) ?_
            exact ih132 (l5_132 + 1) x148 (by omega) (by omega) (by omega) (by omega) (fun a k0 => ((f153 a (by omega)).trans (g132_4 a (by omega)))) (by omega)
    exact HL132 ((12 - 0) + 1 : Int).toNat 0 x121 (by omega) (by omega) (by omega) (by omega) (fun a _ => rfl) (by omega)
set_option maxHeartbeats 200000 in
theorem c_X1_mostLeft (x : Mm) (p : Int) (v : Int) (w : Int) (h_p : fm_r p) (h_v : fm_r v) (h_w : fm_r w) : CnI YC yX1_mostLeft cX1_mostLeft 4 .int 1 21 (fun G => [vr G 98, vi p, vi v, vi w]) x (fun z y' => (y' = x)) := by
  refine cn_I (by decide) (fun _ => Nat.le_of_ble_eq_true rfl) (fun G C h hq => ?_)
  have h : OK YC G C cX1_mostLeft RX1 4 (some .int) 1 21 := h
  show FW YC G C 4 x 0 [(0, vr G 98), (1, vi p), (2, vi v), (3, vi w)] []
  refine fr_iload_n h rfl 1 rfl dX1_mostLeft_0 ?_
  refine fr_if_lt (tgt := 24) h dX1_mostLeft_1 (by decide) (by omega) (fun c1 => ?_) (fun c1 => ?_)
  ·
    refine fr_iload_n h rfl 3 rfl dX1_mostLeft_24 ?_
    exact fr_iret h hq (by omega) rfl dX1_mostLeft_25
  ·
    refine fr_iload_n h rfl 1 rfl dX1_mostLeft_4 ?_
    refine fr_iconst h dX1_mostLeft_5 ?_
    refine fr_icmp_ge (tgt := 24) h dX1_mostLeft_6 (by decide) (by omega) (by omega) (fun c2 => ?_) (fun c2 => ?_)
    ·
      refine fr_iload_n h rfl 3 rfl dX1_mostLeft_24 ?_
      exact fr_iret h hq (by omega) rfl dX1_mostLeft_25
    ·
      refine fr_iload_n h rfl 2 rfl dX1_mostLeft_9 ?_
      refine fr_if_lt (tgt := 24) h dX1_mostLeft_10 (by decide) (by omega) (fun c3 => ?_) (fun c3 => ?_)
      ·
        refine fr_iload_n h rfl 3 rfl dX1_mostLeft_24 ?_
        exact fr_iret h hq (by omega) rfl dX1_mostLeft_25
      ·
        refine fr_iload_n h rfl 2 rfl dX1_mostLeft_13 ?_
        refine fr_aload_n h rfl 0 rfl dX1_mostLeft_14 ?_
        refine fr_getc (z := 101) (iz := 2) h kX1 fX1_20 at_98 rfl rfl rf_98_2 (by omega) dX1_mostLeft_15 ?_
        refine fr_iload_n h rfl 1 rfl dX1_mostLeft_18 ?_
        refine fr_aaldc8 h ar_101 (by omega) (by omega) (rx_101 (by omega) (by omega)) (by omega) dX1_mostLeft_19 (fun q4 w5 => ?_)
        have i6 : isTy q4 := by rw [w5]; exact Ty_ix101 (by omega) (by omega)
        have h_q4 := Ty_b i6
        refine fr_aleni h (Ty_a i6) (by decide) dX1_mostLeft_20 ?_
        show FW YC G C 4 x 21 [(0, vr G 98), (1, vi p), (2, vi v), (3, vi w)] [vi 31, vi v]
        refine fr_icmp_lt (tgt := 26) h dX1_mostLeft_21 (by decide) (by omega) (by omega) (fun c7 => ?_) (fun c7 => ?_)
        ·
          refine fr_aload_n h rfl 0 rfl dX1_mostLeft_26 ?_
          refine fr_getc (z := 101) (iz := 2) h kX1 fX1_20 at_98 rfl rfl rf_98_2 (by omega) dX1_mostLeft_27 ?_
          refine fr_iload_n h rfl 1 rfl dX1_mostLeft_30 ?_
          refine fr_aaldc8 h ar_101 (by omega) (by omega) (rx_101 (by omega) (by omega)) (by omega) dX1_mostLeft_31 (fun q8 w9 => ?_)
          have i10 : isTy q8 := by rw [w9]; exact Ty_ix101 (by omega) (by omega)
          have h_q8 := Ty_b i10
          refine fr_iload_n h rfl 2 rfl dX1_mostLeft_32 ?_
          refine fr_iald h (Ty_a i10) (by omega) (by omega) (Ty_r i10 v) dX1_mostLeft_33 (fun z11 w12 w13 q14 => ?_)
          refine fr_iload_n h rfl 3 rfl dX1_mostLeft_34 ?_
          refine fr_aload_n h rfl 0 rfl dX1_mostLeft_35 ?_
          refine fr_getc (z := 101) (iz := 2) h kX1 fX1_20 at_98 rfl rfl rf_98_2 (by omega) dX1_mostLeft_36 ?_
          refine fr_iload_n h rfl 1 rfl dX1_mostLeft_39 ?_
          refine fr_aaldc8 h ar_101 (by omega) (by omega) (rx_101 (by omega) (by omega)) (by omega) dX1_mostLeft_40 (fun q15 w16 => ?_)
          have i17 : isTy q15 := by rw [w16]; exact Ty_ix101 (by omega) (by omega)
          have h_q15 := Ty_b i17
          refine fr_iload_n h rfl 2 rfl dX1_mostLeft_41 ?_
          refine fr_iald h (Ty_a i17) (by omega) (by omega) (Ty_r i17 v) dX1_mostLeft_42 (fun z18 w19 w20 q21 => ?_)
          refine fr_isub h dX1_mostLeft_43 ?_
          refine fr_normi (fun z22 w23 q24 => ?_)
          have w25 : fm_r ((w - z18)) → z22 = (w - z18) := fun q => (iI_inj q w23 q24).symm
          refine fr_mmax h (by omega) (by omega) (tb_5 (i := 26) (by decide +kernel) (by decide +kernel)) w_mmax (by decide) (by decide) (Nat.le_of_ble_eq_true rfl) dX1_mostLeft_44 (fun z26 w27 w28 w29 => ?_)
          exact fr_iret h hq (by omega) rfl dX1_mostLeft_47
        ·
          refine fr_iload_n h rfl 3 rfl dX1_mostLeft_24 ?_
          exact fr_iret h hq (by omega) rfl dX1_mostLeft_25
set_option maxHeartbeats 200000 in
theorem c_X1_tally (x : Mm) (o : Int) (on : Nat) (ho : OrN o on) : CnI YC yX1_tally cX1_tally 4 .int 5 116 (fun G => [vr G 98, vr G o]) x (fun z y' => (0 ≤ z) ∧ (z ≤ 1296) ∧ (y' 98 3 = x 98 3) ∧ (∀ a : Int, (a < 98 ∨ 106 < a) → y' a = x a)) := by
  refine cn_I (by decide) (fun _ => Nat.le_of_ble_eq_true rfl) (fun G C h hq => ?_)
  have h : OK YC G C cX1_tally RX1 4 (some .int) 5 116 := h
  show FW YC G C 4 x 0 [(0, vr G 98), (1, vr G o)] []
  have h_o := OrN_b ho
  refine fr_iconst h dX1_tally_0 ?_
  refine fr_istore_n (L' := [(0, vr G 98), (1, vr G o), (2, vi 0)]) h rfl dX1_tally_1 (by decide) [1, 2, 0] rfl ?_
  have HL1 : ∀ (n1 : Nat) (l2_1 : Int) (x_1 : Mm), fm_r l2_1 → 0 ≤ l2_1 → l2_1 ≤ 5 → x_1 98 3 = x 98 3 → (∀ a : Int, (a < 98 ∨ 106 < a) → x_1 a = x a) → (5 - l2_1) < n1 → FW YC G C 4 x_1 2 [(0, vr G 98), (1, vr G o), (2, vi l2_1)] [] := by
    intro n1
    induction n1 with
    | zero =>
      intro l2_1 x_1 g1_0 g1_1 g1_2 g1_3 g1_4 g1_5
      exfalso; omega
    | succ n1 ih1 =>
      intro l2_1 x_1 g1_0 g1_1 g1_2 g1_3 g1_4 g1_5
      refine fr_iload_n h rfl 2 rfl dX1_tally_2 ?_
      refine fr_iconst h dX1_tally_3 ?_
      refine fr_icmp_ge (tgt := 41) h dX1_tally_4 (by decide) (by omega) (by omega) (fun c2 => ?_) (fun c2 => ?_)
      ·
        refine fr_iconst h dX1_tally_41 ?_
        refine fr_istore_n (L' := [(0, vr G 98), (1, vr G o), (2, vi 0)]) h rfl dX1_tally_42 (by decide) [1, 2, 0] rfl ?_
        refine fr_iconst h dX1_tally_43 ?_
        refine fr_istore_n (L' := [(0, vr G 98), (1, vr G o), (2, vi 0), (3, vi 1)]) h rfl dX1_tally_44 (by decide) [1, 2, 3, 0] rfl ?_
        have HL3 : ∀ (n3 : Nat) (l2_3 l3_3 : Int) (x_3 : Mm), fm_r l2_3 → 0 ≤ l2_3 → l2_3 ≤ 1296 → fm_r l3_3 → 1 ≤ l3_3 → l3_3 ≤ 1297 → x_3 98 3 = x 98 3 → 1 ≤ l3_3 → l2_3 < l3_3 → (∀ a : Int, (a < 98 ∨ 106 < a) → x_3 a = x_1 a) → (1297 - l3_3) < n3 → FW YC G C 4 x_3 45 [(0, vr G 98), (1, vr G o), (2, vi l2_3), (3, vi l3_3)] [] := by
          intro n3
          induction n3 with
          | zero =>
            intro l2_3 l3_3 x_3 g3_0 g3_1 g3_2 g3_3 g3_4 g3_5 g3_6 g3_7 g3_8 g3_9 g3_10
            exfalso; omega
          | succ n3 ih3 =>
            intro l2_3 l3_3 x_3 g3_0 g3_1 g3_2 g3_3 g3_4 g3_5 g3_6 g3_7 g3_8 g3_9 g3_10
            refine fr_iload_n h rfl 3 rfl dX1_tally_45 ?_
            refine fr_aload_n h rfl 1 rfl dX1_tally_46 ?_
            refine fr_cvI h kX6 (Or_at (OrN_is ho)) wX6_size lX1_50 (c_X6_size x_3 o on ho) rfl (by decide) (by decide) rfl (Nat.le_of_ble_eq_true rfl) dX1_tally_47 (fun z5 x4 w6 p7 => ?_)
            obtain ⟨p8, p9, p10, p11, y12⟩ := p7
            rw [y12]
            clear y12
            refine fr_icmp_gt (tgt := 93) h dX1_tally_50 (by decide) (by omega) (by omega) (fun c13 => ?_) (fun c13 => ?_)
            ·
              refine fr_gst2 h dX1_tally_93 (fun t14 s15 => ?_)
              refine fr_iconst h dX1_tally_96 ?_
              refine fr_sld h s15 (by decide) (by omega) (by omega) dX1_tally_97 (fun z16 q17 => ?_)
              have w18 := zt_2_v (by omega) (by omega) q17
              refine fr_iconst h dX1_tally_98 ?_
              refine fr_isub h dX1_tally_99 ?_
              refine fr_istore_n (L' := [(0, vr G 98), (1, vr G o), (2, vi l2_3), (3, vi (z16 - 1))]) h rfl dX1_tally_100 (by decide) [1, 2, 3, 0] rfl ?_
              have HL19 : ∀ (n19 : Nat) (l3_19 : Int) (x_19 : Mm), fm_r l3_19 → (-1) ≤ l3_19 → l3_19 ≤ 29 → x_19 98 3 = x 98 3 → (∀ a : Int, (a < 98 ∨ 106 < a) → x_19 a = x_3 a) → (l3_19 + 1) < n19 → FW YC G C 4 x_19 101 [(0, vr G 98), (1, vr G o), (2, vi l2_3), (3, vi l3_19)] [] := by
                intro n19
                induction n19 with
                | zero =>
                  intro l3_19 x_19 g19_0 g19_1 g19_2 g19_3 g19_4 g19_5
                  exfalso; omega
                | succ n19 ih19 =>
                  intro l3_19 x_19 g19_0 g19_1 g19_2 g19_3 g19_4 g19_5
                  refine fr_iload_n h rfl 3 rfl dX1_tally_101 ?_
                  refine fr_if_lt (tgt := 132) h dX1_tally_102 (by decide) (by omega) (fun c20 => ?_) (fun c20 => ?_)
                  ·
                    refine fr_iload_n h rfl 2 rfl dX1_tally_132 ?_
                    exact fr_iret h hq (by omega) ⟨(by omega), (by omega), (by omega), (fun a k0 => ((g19_4 a (by omega)).trans ((g3_9 a (by omega)).trans (g1_4 a (by omega)))))⟩ dX1_tally_133
                  ·
                    refine fr_aload_n h rfl 0 rfl dX1_tally_105 ?_
                    refine fr_getc (z := 101) (iz := 2) h kX1 fX1_20 at_98 rfl rfl rf_98_2 (by omega) dX1_tally_106 ?_
                    refine fr_iconst h dX1_tally_109 ?_
                    refine fr_aaldc8 h ar_101 (by omega) (by omega) (rx_101 (by omega) (by omega)) (by omega) dX1_tally_110 (fun q21 w22 => ?_)
                    have i23 : isTy q21 := by rw [w22]; exact Ty_ix101 (by omega) (by omega)
                    have h_q21 := Ty_b i23
                    refine fr_iload_n h rfl 3 rfl dX1_tally_111 ?_
                    refine fr_dup2_11 h rfl rfl dX1_tally_112 ?_
                    refine fr_iald h (Ty_a i23) (by omega) (by omega) (Ty_r i23 l3_19) dX1_tally_113 (fun z24 w25 w26 q27 => ?_)
                    refine fr_aload_n h rfl 0 rfl dX1_tally_114 ?_
                    refine fr_getc (z := 101) (iz := 2) h kX1 fX1_20 at_98 rfl rfl rf_98_2 (by omega) dX1_tally_115 ?_
                    refine fr_iconst h dX1_tally_118 ?_
                    refine fr_aaldc8 h ar_101 (by omega) (by omega) (rx_101 (by omega) (by omega)) (by omega) dX1_tally_119 (fun q28 w29 => ?_)
                    have i30 : isTy q28 := by rw [w29]; exact Ty_ix101 (by omega) (by omega)
                    have h_q28 := Ty_b i30
                    refine fr_iload_n h rfl 3 rfl dX1_tally_120 ?_
                    refine fr_iconst h dX1_tally_121 ?_
                    refine fr_iadd h dX1_tally_122 ?_
                    refine fr_iald h (Ty_a i30) (by omega) (by omega) (Ty_r i30 (l3_19 + 1)) dX1_tally_123 (fun z31 w32 w33 q34 => ?_)
                    refine fr_iadd h dX1_tally_124 ?_
                    refine fr_normi (fun z35 w36 q37 => ?_)
                    have w38 : fm_r ((z24 + z31)) → z35 = (z24 + z31) := fun q => (iI_inj q w36 q37).symm
                    refine fr_iast h (Ty_a i23) (by omega) (by omega) (Ty_r i23 l3_19) (by omega) (by omega) dX1_tally_125 ?_
                    refine fr_mem (fun x39 m40 => ?_)
                    refine fr_iinc (j := 3) (L' := [(0, vr G 98), (1, vr G o), (2, vi l2_3), (3, vi (l3_19 + (-1)))]) h dX1_tally_126 rfl (by decide) [1, 2, 3, 0] rfl ?_
                    refine fr_goto (tgt := 101) h dX1_tally_129 (by decide) ?_
                    have r41 := (fm_rd_k (a := 98) (b := 3) m40 (by omega))
                    exact ih19 (l3_19 + (-1)) x39 (by omega) (by omega) (by omega) (by omega) (fun a k0 => ((fm_up_row m40 (by omega)).trans (g19_4 a (by omega)))) (by omega)
              exact HL19 (((z16 - 1) + 1) + 1 : Int).toNat (z16 - 1) x_3 (by omega) (by omega) (by omega) (by omega) (fun a _ => rfl) (by omega)
            ·
              refine fr_aload_n h rfl 0 rfl dX1_tally_53 ?_
              refine fr_aload_n h rfl 1 rfl dX1_tally_54 ?_
              refine fr_iload_n h rfl 3 rfl dX1_tally_55 ?_
              refine fr_cvI h kX6 (Or_at (OrN_is ho)) wX6_costAt lX1_55 (c_X6_costAt x_3 o on ho l3_3 (by omega)) rfl (by decide) (by decide) rfl (Nat.le_of_ble_eq_true rfl) dX1_tally_56 (fun z43 x42 w44 p45 => ?_)
              have y46 := p45
              rw [y46]
              clear y46
              refine fr_aload_n h rfl 1 rfl dX1_tally_59 ?_
              refine fr_iload_n h rfl 3 rfl dX1_tally_60 ?_
              refine fr_cvL h kX6 (Or_at (OrN_is ho)) wX6_codeAt lX1_59 (c_X6_codeAt x_3 o on ho l3_3 (by omega)) rfl (by decide) (by decide) rfl (Nat.le_of_ble_eq_true rfl) dX1_tally_61 (fun z48 x47 w49 p50 => ?_)
              have y51 := p50
              rw [y51]
              clear y51
              refine fr_cvI h kX1 at_98 wX1_allow lX1_63 (c_X1_allow x_3 z43 z48 (by omega) (by omega)) rfl (by decide) (by decide) rfl (Nat.le_of_ble_eq_true rfl) dX1_tally_64 (fun z53 x52 w54 p55 => ?_)
              obtain ⟨p56, y57⟩ := p55
              rw [y57]
              clear y57
              refine fr_if_eq (tgt := 87) h dX1_tally_67 (by decide) (by omega) (fun c58 => ?_) (fun c58 => ?_)
              ·
                refine fr_iinc (j := 3) (L' := [(0, vr G 98), (1, vr G o), (2, vi l2_3), (3, vi (l3_3 + 1))]) h dX1_tally_87 rfl (by decide) [1, 2, 3, 0] rfl ?_
                refine fr_goto (tgt := 45) h dX1_tally_90 (by decide) ?_
                exact ih3 l2_3 (l3_3 + 1) x_3 (by omega) (by omega) (by omega) (by omega) (by omega) (by omega) (by omega) (by omega) (by omega) (fun a k0 => (g3_9 a (by omega))) (by omega)
              ·
                refine fr_aload_n h rfl 0 rfl dX1_tally_70 ?_
                refine fr_aload_n h rfl 1 rfl dX1_tally_71 ?_
                refine fr_iload_n h rfl 3 rfl dX1_tally_72 ?_
                refine fr_cvI h kX6 (Or_at (OrN_is ho)) wX6_costAt lX1_55 (c_X6_costAt x_3 o on ho l3_3 (by omega)) rfl (by decide) (by decide) rfl (Nat.le_of_ble_eq_true rfl) dX1_tally_73 (fun z60 x59 w61 p62 => ?_)
                have y63 := p62
                rw [y63]
                clear y63
                refine fr_aload_n h rfl 1 rfl dX1_tally_76 ?_
                refine fr_iload_n h rfl 3 rfl dX1_tally_77 ?_
                refine fr_cvL h kX6 (Or_at (OrN_is ho)) wX6_codeAt lX1_59 (c_X6_codeAt x_3 o on ho l3_3 (by omega)) rfl (by decide) (by decide) rfl (Nat.le_of_ble_eq_true rfl) dX1_tally_78 (fun z65 x64 w66 p67 => ?_)
                have y68 := p67
                rw [y68]
                clear y68
                refine fr_cvV h kX1 at_98 wX1_tallyOne lX1_67 (c_X1_tallyOne x_3 z60 z65 (by omega) (by omega)) rfl (by decide) (by decide) rfl (Nat.le_of_ble_eq_true rfl) dX1_tally_81 (fun x69 p72 => ?_)
                obtain ⟨p73, f74⟩ := p72
                refine fr_iinc (j := 2) (L' := [(0, vr G 98), (1, vr G o), (2, vi (l2_3 + 1)), (3, vi l3_3)]) h dX1_tally_84 rfl (by decide) [1, 2, 0, 3] rfl ?_
                refine fr_iinc (j := 3) (L' := [(0, vr G 98), (1, vr G o), (2, vi (l2_3 + 1)), (3, vi (l3_3 + 1))]) h dX1_tally_87 rfl (by decide) [1, 2, 3, 0] rfl ?_
                refine fr_goto (tgt := 45) h dX1_tally_90 (by decide) ?_
                exact ih3 (l2_3 + 1) (l3_3 + 1) x69 (by omega) (by omega) (by omega) (by omega) (by omega) (by omega) (by omega) (by omega) (by omega) (fun a k0 => ((f74 a (by omega)).trans (g3_9 a (by omega)))) (by omega)
        exact HL3 ((1297 - 1) + 1 : Int).toNat 0 1 x_1 (by omega) (by omega) (by omega) (by omega) (by omega) (by omega) (by omega) (by omega) (by omega) (fun a _ => rfl) (by omega)
      ·
        refine fr_iconst h dX1_tally_7 ?_
        refine fr_istore_n (L' := [(0, vr G 98), (1, vr G o), (2, vi l2_1), (3, vi 0)]) h rfl dX1_tally_8 (by decide) [1, 2, 3, 0] rfl ?_
        have HL75 : ∀ (n75 : Nat) (l3_75 : Int) (x_75 : Mm), fm_r l3_75 → 0 ≤ l3_75 → l3_75 ≤ 31 → x_75 98 3 = x 98 3 → (∀ a : Int, (a < 98 ∨ 106 < a) → x_75 a = x_1 a) → (31 - l3_75) < n75 → FW YC G C 4 x_75 9 [(0, vr G 98), (1, vr G o), (2, vi l2_1), (3, vi l3_75)] [] := by
          intro n75
          induction n75 with
          | zero =>
            intro l3_75 x_75 g75_0 g75_1 g75_2 g75_3 g75_4 g75_5
            exfalso; omega
          | succ n75 ih75 =>
            intro l3_75 x_75 g75_0 g75_1 g75_2 g75_3 g75_4 g75_5
            refine fr_iload_n h rfl 3 rfl dX1_tally_9 ?_
            refine fr_aload_n h rfl 0 rfl dX1_tally_10 ?_
            refine fr_getc (z := 101) (iz := 2) h kX1 fX1_20 at_98 rfl rfl rf_98_2 (by omega) dX1_tally_11 ?_
            refine fr_iload_n h rfl 2 rfl dX1_tally_14 ?_
            refine fr_aaldc8 h ar_101 (by omega) (by omega) (rx_101 (by omega) (by omega)) (by omega) dX1_tally_15 (fun q76 w77 => ?_)
            have i78 : isTy q76 := by rw [w77]; exact Ty_ix101 (by omega) (by omega)
            have h_q76 := Ty_b i78
            refine fr_aleni h (Ty_a i78) (by decide) dX1_tally_16 ?_
            show FW YC G C 4 x_75 17 [(0, vr G 98), (1, vr G o), (2, vi l2_1), (3, vi l3_75)] [vi 31, vi l3_75]
            refine fr_icmp_ge (tgt := 35) h dX1_tally_17 (by decide) (by omega) (by omega) (fun c79 => ?_) (fun c79 => ?_)
            ·
              refine fr_iinc (j := 2) (L' := [(0, vr G 98), (1, vr G o), (2, vi (l2_1 + 1)), (3, vi l3_75)]) h dX1_tally_35 rfl (by decide) [1, 2, 0, 3] rfl ?_
              refine fr_goto (tgt := 2) h dX1_tally_38 (by decide) ?_
              refine fr_sub (L' := [(0, vr G 98), (1, vr G o), (2, vi (l2_1 + 1))]) [0, 1, 2] rfl ?_
              exact ih1 (l2_1 + 1) x_75 (by omega) (by omega) (by omega) (by omega) (fun a k0 => ((g75_4 a (by omega)).trans (g1_4 a (by omega)))) (by omega)
            ·
              refine fr_aload_n h rfl 0 rfl dX1_tally_20 ?_
              refine fr_getc (z := 101) (iz := 2) h kX1 fX1_20 at_98 rfl rfl rf_98_2 (by omega) dX1_tally_21 ?_
              refine fr_iload_n h rfl 2 rfl dX1_tally_24 ?_
              refine fr_aaldc8 h ar_101 (by omega) (by omega) (rx_101 (by omega) (by omega)) (by omega) dX1_tally_25 (fun q80 w81 => ?_)
              have i82 : isTy q80 := by rw [w81]; exact Ty_ix101 (by omega) (by omega)
              have h_q80 := Ty_b i82
              refine fr_iload_n h rfl 3 rfl dX1_tally_26 ?_
              refine fr_iconst h dX1_tally_27 ?_
              refine fr_iast h (Ty_a i82) (by omega) (by omega) (Ty_r i82 l3_75) (by omega) (by omega) dX1_tally_28 ?_
              refine fr_mem (fun x83 m84 => ?_)
              refine fr_iinc (j := 3) (L' := [(0, vr G 98), (1, vr G o), (2, vi l2_1), (3, vi (l3_75 + 1))]) h dX1_tally_29 rfl (by decide) [1, 2, 3, 0] rfl ?_
              refine fr_goto (tgt := 9) h dX1_tally_32 (by decide) ?_
              have r85 := (fm_rd_k (a := 98) (b := 3) m84 (by omega))
              exact ih75 (l3_75 + 1) x83 (by omega) (by omega) (by omega) (by omega) (fun a k0 => ((fm_up_row m84 (by omega)).trans (g75_4 a (by omega)))) (by omega)
        exact HL75 ((31 - 0) + 1 : Int).toNat 0 x_1 (by omega) (by omega) (by omega) (by omega) (fun a _ => rfl) (by omega)
  exact HL1 ((5 - 0) + 1 : Int).toNat 0 x (by omega) (by omega) (by omega) (by omega) (fun a _ => rfl) (by omega)
set_option maxHeartbeats 200000 in
theorem c_X1_bestQuestion (x : Mm) (p : Int) (h_p : fm_r p) (e0 : 0 ≤ p) (e1 : p ≤ 1296) : CnI YC yX1_bestQuestion cX1_bestQuestion 7 .int 2 44 (fun G => [vr G 98, vi p]) x (fun z y' => (0 ≤ z) ∧ (z ≤ 430) ∧ (y' = x)) := by
  refine cn_I (by decide) (fun _ => Nat.le_of_ble_eq_true rfl) (fun G C h hq => ?_)
  have h : OK YC G C cX1_bestQuestion RX1 7 (some .int) 2 44 := h
  show FW YC G C 7 x 0 [(0, vr G 98), (1, vi p)] []
  refine fr_iconst h dX1_bestQuestion_0 ?_
  refine fr_istore_n (L' := [(0, vr G 98), (1, vi p), (2, vi 0)]) h rfl dX1_bestQuestion_1 (by decide) [1, 2, 0] rfl ?_
  refine fr_iload_n h rfl 1 rfl dX1_bestQuestion_2 ?_
  refine fr_iconst h dX1_bestQuestion_3 ?_
  refine fr_iadd h dX1_bestQuestion_4 ?_
  refine fr_normi (fun z1 w2 q3 => ?_)
  have w4 : fm_r ((p + 1)) → z1 = (p + 1) := fun q => (iI_inj q w2 q3).symm
  refine fr_istore_n (L' := [(0, vr G 98), (1, vi p), (2, vi 0), (3, vi z1)]) h rfl dX1_bestQuestion_5 (by decide) [1, 2, 3, 0] rfl ?_
  refine fr_iconst h dX1_bestQuestion_6 ?_
  refine fr_istore (L' := [(0, vr G 98), (1, vi p), (2, vi 0), (3, vi z1), (4, vi 0)]) h dX1_bestQuestion_7 (by decide) [1, 2, 3, 4, 0] rfl ?_
  have HL5 : ∀ (n5 : Nat) (l2_5 l3_5 l4_5 : Int), fm_r l2_5 → 0 ≤ l2_5 → l2_5 ≤ 430 → fm_r l3_5 → fm_r l4_5 → 0 ≤ l4_5 → l4_5 ≤ 5 → (5 - l4_5) < n5 → FW YC G C 7 x 9 [(0, vr G 98), (1, vi p), (2, vi l2_5), (3, vi l3_5), (4, vi l4_5)] [] := by
    intro n5
    induction n5 with
    | zero =>
      intro l2_5 l3_5 l4_5 g5_0 g5_1 g5_2 g5_3 g5_4 g5_5 g5_6 g5_7
      exfalso; omega
    | succ n5 ih5 =>
      intro l2_5 l3_5 l4_5 g5_0 g5_1 g5_2 g5_3 g5_4 g5_5 g5_6 g5_7
      refine fr_iload h 4 rfl dX1_bestQuestion_9 ?_
      refine fr_iconst h dX1_bestQuestion_11 ?_
      refine fr_icmp_ge (tgt := 70) h dX1_bestQuestion_12 (by decide) (by omega) (by omega) (fun c6 => ?_) (fun c6 => ?_)
      ·
        refine fr_iload_n h rfl 2 rfl dX1_bestQuestion_70 ?_
        exact fr_iret h hq (by omega) ⟨(by omega), (by omega), rfl⟩ dX1_bestQuestion_71
      ·
        refine fr_iconst h dX1_bestQuestion_15 ?_
        refine fr_istore (L' := [(0, vr G 98), (1, vi p), (2, vi l2_5), (3, vi l3_5), (4, vi l4_5), (5, vi 0)]) h dX1_bestQuestion_16 (by decide) [1, 2, 3, 4, 5, 0] rfl ?_
        have HL7 : ∀ (n7 : Nat) (l2_7 l3_7 l5_7 : Int), fm_r l2_7 → 0 ≤ l2_7 → l2_7 ≤ 430 → fm_r l3_7 → fm_r l5_7 → 0 ≤ l5_7 → l5_7 ≤ 31 → (31 - l5_7) < n7 → FW YC G C 7 x 18 [(0, vr G 98), (1, vi p), (2, vi l2_7), (3, vi l3_7), (4, vi l4_5), (5, vi l5_7)] [] := by
          intro n7
          induction n7 with
          | zero =>
            intro l2_7 l3_7 l5_7 g7_0 g7_1 g7_2 g7_3 g7_4 g7_5 g7_6 g7_7
            exfalso; omega
          | succ n7 ih7 =>
            intro l2_7 l3_7 l5_7 g7_0 g7_1 g7_2 g7_3 g7_4 g7_5 g7_6 g7_7
            refine fr_iload h 5 rfl dX1_bestQuestion_18 ?_
            refine fr_gst2 h dX1_bestQuestion_20 (fun t8 s9 => ?_)
            refine fr_iload h 4 rfl dX1_bestQuestion_23 ?_
            refine fr_sld h s9 (by decide) (by omega) (by omega) dX1_bestQuestion_25 (fun z10 q11 => ?_)
            have w12 := zt_2_v (by omega) (by omega) q11
            refine fr_icmp_gt (tgt := 64) h dX1_bestQuestion_26 (by decide) (by omega) (by omega) (fun c13 => ?_) (fun c13 => ?_)
            ·
              refine fr_iinc (j := 4) (L' := [(0, vr G 98), (1, vi p), (2, vi l2_7), (3, vi l3_7), (4, vi (l4_5 + 1)), (5, vi l5_7)]) h dX1_bestQuestion_64 rfl (by decide) [1, 2, 3, 4, 0, 5] rfl ?_
              refine fr_goto (tgt := 9) h dX1_bestQuestion_67 (by decide) ?_
              refine fr_sub (L' := [(0, vr G 98), (1, vi p), (2, vi l2_7), (3, vi l3_7), (4, vi (l4_5 + 1))]) [0, 1, 2, 3, 4] rfl ?_
              exact ih5 l2_7 l3_7 (l4_5 + 1) (by omega) (by omega) (by omega) (by omega) (by omega) (by omega) (by omega) (by omega)
            ·
              refine fr_aload_n h rfl 0 rfl dX1_bestQuestion_29 ?_
              refine fr_iload h 4 rfl dX1_bestQuestion_30 ?_
              refine fr_iload h 5 rfl dX1_bestQuestion_32 ?_
              refine fr_iload_n h rfl 1 rfl dX1_bestQuestion_34 ?_
              refine fr_cvI h kX1 at_98 wX1_mostLeft lX1_81 (c_X1_mostLeft x l4_5 l5_7 p (by omega) (by omega) (by omega)) rfl (by decide) (by decide) rfl (Nat.le_of_ble_eq_true rfl) dX1_bestQuestion_35 (fun z15 x14 w16 p17 => ?_)
              have y18 := p17
              rw [y18]
              clear y18
              refine fr_istore (L' := [(0, vr G 98), (1, vi p), (2, vi l2_7), (3, vi l3_7), (4, vi l4_5), (5, vi l5_7), (6, vi z15)]) h dX1_bestQuestion_38 (by decide) [1, 2, 3, 4, 5, 6, 0] rfl ?_
              refine fr_iload h 6 rfl dX1_bestQuestion_40 ?_
              refine fr_iload_n h rfl 3 rfl dX1_bestQuestion_42 ?_
              refine fr_icmp_ge (tgt := 58) h dX1_bestQuestion_43 (by decide) (by omega) (by omega) (fun c19 => ?_) (fun c19 => ?_)
              ·
                refine fr_iinc (j := 5) (L' := [(0, vr G 98), (1, vi p), (2, vi l2_7), (3, vi l3_7), (4, vi l4_5), (5, vi (l5_7 + 1)), (6, vi z15)]) h dX1_bestQuestion_58 rfl (by decide) [1, 2, 3, 4, 5, 0, 6] rfl ?_
                refine fr_goto (tgt := 18) h dX1_bestQuestion_61 (by decide) ?_
                refine fr_sub (L' := [(0, vr G 98), (1, vi p), (2, vi l2_7), (3, vi l3_7), (4, vi l4_5), (5, vi (l5_7 + 1))]) [0, 1, 2, 3, 4, 5] rfl ?_
                exact ih7 l2_7 l3_7 (l5_7 + 1) (by omega) (by omega) (by omega) (by omega) (by omega) (by omega) (by omega) (by omega)
              ·
                refine fr_iload h 6 rfl dX1_bestQuestion_46 ?_
                refine fr_istore_n (L' := [(0, vr G 98), (1, vi p), (2, vi l2_7), (3, vi z15), (4, vi l4_5), (5, vi l5_7), (6, vi z15)]) h rfl dX1_bestQuestion_48 (by decide) [1, 2, 3, 0, 4, 5, 6] rfl ?_
                refine fr_bipush h rfl dX1_bestQuestion_49 ?_
                refine fr_iload h 4 rfl dX1_bestQuestion_51 ?_
                refine fr_imul h dX1_bestQuestion_53 ?_
                refine fr_iload h 5 rfl dX1_bestQuestion_54 ?_
                refine fr_iadd h dX1_bestQuestion_56 ?_
                refine fr_istore_n (L' := [(0, vr G 98), (1, vi p), (2, vi ((100 * l4_5) + l5_7)), (3, vi z15), (4, vi l4_5), (5, vi l5_7), (6, vi z15)]) h rfl dX1_bestQuestion_57 (by decide) [1, 2, 0, 3, 4, 5, 6] rfl ?_
                refine fr_iinc (j := 5) (L' := [(0, vr G 98), (1, vi p), (2, vi ((100 * l4_5) + l5_7)), (3, vi z15), (4, vi l4_5), (5, vi (l5_7 + 1)), (6, vi z15)]) h dX1_bestQuestion_58 rfl (by decide) [1, 2, 3, 4, 5, 0, 6] rfl ?_
                refine fr_goto (tgt := 18) h dX1_bestQuestion_61 (by decide) ?_
                refine fr_sub (L' := [(0, vr G 98), (1, vi p), (2, vi ((100 * l4_5) + l5_7)), (3, vi z15), (4, vi l4_5), (5, vi (l5_7 + 1))]) [0, 1, 2, 3, 4, 5] rfl ?_
                exact ih7 ((100 * l4_5) + l5_7) z15 (l5_7 + 1) (by omega) (by omega) (by omega) (by omega) (by omega) (by omega) (by omega) (by omega)
        exact HL7 ((31 - 0) + 1 : Int).toNat l2_5 l3_5 0 (by omega) (by omega) (by omega) (by omega) (by omega) (by omega) (by omega) (by omega)
  exact HL5 ((5 - 0) + 1 : Int).toNat 0 z1 0 (by omega) (by omega) (by omega) (by omega) (by omega) (by omega) (by omega) (by omega)
