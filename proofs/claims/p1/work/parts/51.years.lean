set_option maxHeartbeats 200000 in
theorem c_X12_draw (x : Mm) (n : Int) (h_n : fm_r n) (e0 : 1 ≤ n) (e1 : n ≤ 100) : CnI YM yX12_draw cX12_draw 2 .int 0 0 (fun G => [vr G 0, vi n]) x (fun z y' => (0 ≤ z) ∧ (z < n) ∧ (∀ a : Int, (a < 0 ∨ 0 < a) → y' a = x a) ∧ (∀ i : Int, i ≠ 39 → y' 0 i = x 0 i)) := by
  refine cn_I (by decide) (fun _ => Nat.le_of_ble_eq_true rfl) (fun G C h hq => ?_)
  have h : OK YM G C cX12_draw RX12 2 (some .int) 0 0 := h
  show FW YM G C 2 x 0 [(0, vr G 0), (1, vi n)] []
  refine fr_aload_n h rfl 0 rfl dX12_draw_0 ?_
  refine fr_aload_n h rfl 0 rfl dX12_draw_1 ?_
  refine fr_geti (iz := 39) h kX12 fX12_366 at_0M rfl rfl (by decide) (by decide) rfM_39 dX12_draw_2 (fun z1 w2 w3 q4 => ?_)
  refine fr_ldcw (z := 1103515245) h (by exact tb_7 (i := 237) (by decide +kernel) (by decide +kernel)) rfl dX12_draw_5 ?_
  refine fr_imul h dX12_draw_8 ?_
  refine fr_normi (fun z5 w6 q7 => ?_)
  have w8 : fm_r ((z1 * 1103515245)) → z5 = (z1 * 1103515245) := fun q => (iI_inj q w6 q7).symm
  refine fr_sipush h rfl dX12_draw_9 ?_
  refine fr_iadd h dX12_draw_12 ?_
  refine fr_normi (fun z9 w10 q11 => ?_)
  have w12 : fm_r ((z5 + 12345)) → z9 = (z5 + 12345) := fun q => (iI_inj q w10 q11).symm
  refine fr_puti (iz := 39) h kX12 fX12_366 at_0M rfl rfl (by decide) (by decide) rfl (by decide +kernel) rfM_39 (by omega) (by omega) dX12_draw_13 ?_
  refine fr_mem (fun x13 m14 => ?_)
  refine fr_aload_n h rfl 0 rfl dX12_draw_16 ?_
  refine fr_geti (iz := 39) h kX12 fX12_366 at_0M rfl rfl (by decide) (by decide) rfM_39 dX12_draw_17 (fun z15 w16 w17 q18 => ?_)
  have r19 := q18.trans (fm_rd_s m14)
  refine fr_bipush h rfl dX12_draw_20 ?_
  refine fr_iushr h dX12_draw_22 (fun z20 w21 q22 w23 => ?_)
  have w24 := w23 rfl
  refine fr_iload_n h rfl 1 rfl dX12_draw_23 ?_
  refine fr_irem h (by omega) (by omega) (by omega) dX12_draw_24 (fun z25 w26 q27 w28 => ?_)
  have w29 : 0 < n → 0 ≤ z20 % n ∧ z20 % n < n := fun q => ⟨Int.emod_nonneg _ (by omega), Int.emod_lt_of_pos _ q⟩
  have w30 := w28
  exact fr_iret h hq (by omega) ⟨(by omega), (by omega), (fun a k0 => (fm_up_row m14 (by omega))), (fun i k0 => (fm_rd_i (a := 0) (b := i) m14 (by omega)))⟩ dX12_draw_25
set_option maxHeartbeats 1000000 in
theorem c_X12_goDrawn (x : Mm) (b : Int) (hb : isSA b) (e0 : MI (x b)) : CnV YM yX12_goDrawn cX12_goDrawn 5 3 68 (fun G => [vr G 0, vr G b]) x (fun y' => (MI (y' b)) ∧ (∀ a : Int, (a < 0 ∨ 0 < a) → (a < b ∨ b < a) → y' a = x a) ∧ (∀ i : Int, i ≠ 39 → y' 0 i = x 0 i)) := by
  refine cn_V (by decide) (fun _ => Nat.le_of_ble_eq_true rfl) (fun G C h hq => ?_)
  have h : OK YM G C cX12_goDrawn RX12 5 none 3 68 := h
  show FW YM G C 5 x 0 [(0, vr G 0), (1, vr G b)] []
  have h_b := SA_b hb
  have hs_b : b = 1 ∨ b = 9 ∨ b = 10 := hb
  refine fr_aload_n h rfl 0 rfl dX12_goDrawn_0 ?_
  refine fr_iconst h dX12_goDrawn_1 ?_
  refine fr_cvI h kX12 at_0M wX12_draw lX12_370 (c_X12_draw x 4 (by omega) (by omega) (by omega)) rfl (by decide) (by decide) rfl (Nat.le_of_ble_eq_true rfl) dX12_goDrawn_2 (fun z2 x1 w3 p4 => ?_)
  obtain ⟨p5, p6, f7, f8⟩ := p4
  by_cases c10 : z2 = 0
  ·
    refine fr_tab_in (off := 27) (tgt := 32) h dX12_goDrawn_5 (by omega) (by omega) (by omega) (by rw [c10]; rfl) (by decide) ?_
    refine fr_aload_n h rfl 0 rfl dX12_goDrawn_32 ?_
    refine fr_iconst h dX12_goDrawn_33 ?_
    refine fr_cvI h kX12 at_0M wX12_draw lX12_370 (c_X12_draw x1 4 (by omega) (by omega) (by omega)) rfl (by decide) (by decide) rfl (Nat.le_of_ble_eq_true rfl) dX12_goDrawn_34 (fun z12 x11 w13 p14 => ?_)
    obtain ⟨p15, p16, f17, f18⟩ := p14
    refine fr_istore_n (L' := [(0, vr G 0), (1, vr G b), (2, vi z12)]) h rfl dX12_goDrawn_37 (by decide) [1, 2, 0] rfl ?_
    refine fr_aload_n h rfl 0 rfl dX12_goDrawn_38 ?_
    refine fr_bipush h rfl dX12_goDrawn_39 ?_
    refine fr_cvI h kX12 at_0M wX12_draw lX12_370 (c_X12_draw x11 100 (by omega) (by omega) (by omega)) rfl (by decide) (by decide) rfl (Nat.le_of_ble_eq_true rfl) dX12_goDrawn_41 (fun z20 x19 w21 p22 => ?_)
    obtain ⟨p23, p24, f25, f26⟩ := p22
    refine fr_istore_n (L' := [(0, vr G 0), (1, vr G b), (2, vi z12), (3, vi z20)]) h rfl dX12_goDrawn_44 (by decide) [1, 2, 3, 0] rfl ?_
    refine fr_aload_n h rfl 1 rfl dX12_goDrawn_45 ?_
    refine fr_iload_n h rfl 2 rfl dX12_goDrawn_46 ?_
    refine fr_iload_n h rfl 3 rfl dX12_goDrawn_47 ?_
    refine fr_csI h wX12_refusesPut lX12_235 (c_X12_refusesPut x19 b hb z12 z20 (by omega) (by omega)) rfl (by decide) (by decide) rfl (Nat.le_of_ble_eq_true rfl) dX12_goDrawn_48 (fun z28 x27 w29 p30 => ?_)
    obtain ⟨p31, p32, p33, y34⟩ := p30
    rw [y34]
    clear y34
    refine fr_if_ne (tgt := 61) h dX12_goDrawn_51 (by decide) (by omega) (fun c35 => ?_) (fun c35 => ?_)
    ·
      exact fr_vret h hq ⟨(by rw [show x19 b = x11 b from (f25 b (by omega))]; exact (by rw [show x11 b = x1 b from (f17 b (by omega))]; exact (by rw [show x1 b = x b from (f7 b (by omega))]; exact e0))), (fun a k0 k1 => ((f25 a (by omega)).trans ((f17 a (by omega)).trans (f7 a (by omega))))), (fun i k0 => ((f26 i (by omega)).trans ((f18 i (by omega)).trans (f8 i (by omega)))))⟩ dX12_goDrawn_61
    ·
      refine fr_aload_n h rfl 1 rfl dX12_goDrawn_54 ?_
      refine fr_iload_n h rfl 2 rfl dX12_goDrawn_55 ?_
      refine fr_iload_n h rfl 3 rfl dX12_goDrawn_56 ?_
      have r36 := (congrFun (f25 b (by omega)) (24 + z12))
      have r37 := r36.trans (congrFun (f17 b (by omega)) (24 + z12))
      have r38 := r37.trans (congrFun (f7 b (by omega)) (24 + z12))
      refine fr_csI h wX12_goPut lX12_169 (c_X12_goPut x19 b hb z12 z20 (by omega) (by omega) (by omega) (by omega) (by omega) (by omega) (by omega)) rfl (by decide) (by decide) rfl (Nat.le_of_ble_eq_true rfl) dX12_goDrawn_57 (fun z40 x39 w41 p42 => ?_)
      obtain ⟨p43, p44, p45, f46⟩ := p42
      refine fr_pop h rfl dX12_goDrawn_60 ?_
      exact fr_vret h hq ⟨(MI_cong (by rw [show x19 b = x11 b from (f25 b (by omega))]; exact (by rw [show x11 b = x1 b from (f17 b (by omega))]; exact (by rw [show x1 b = x b from (f7 b (by omega))]; exact e0))) (fun i a b => p45 i (by omega) (by omega))), (fun a k0 k1 => ((f46 a (by omega)).trans ((f25 a (by omega)).trans ((f17 a (by omega)).trans (f7 a (by omega)))))), (fun i k0 => ((congrFun (f46 0 (by omega)) i).trans ((f26 i (by omega)).trans ((f18 i (by omega)).trans (f8 i (by omega))))))⟩ dX12_goDrawn_61
  ·
    by_cases c47 : z2 = 1
    ·
      refine fr_tab_in (off := 57) (tgt := 62) h dX12_goDrawn_5 (by omega) (by omega) (by omega) (by rw [c47]; rfl) (by decide) ?_
      refine fr_aload_n h rfl 0 rfl dX12_goDrawn_62 ?_
      refine fr_iconst h dX12_goDrawn_63 ?_
      refine fr_cvI h kX12 at_0M wX12_draw lX12_370 (c_X12_draw x1 4 (by omega) (by omega) (by omega)) rfl (by decide) (by decide) rfl (Nat.le_of_ble_eq_true rfl) dX12_goDrawn_64 (fun z49 x48 w50 p51 => ?_)
      obtain ⟨p52, p53, f54, f55⟩ := p51
      refine fr_istore_n (L' := [(0, vr G 0), (1, vr G b), (2, vi z49)]) h rfl dX12_goDrawn_67 (by decide) [1, 2, 0] rfl ?_
      refine fr_aload_n h rfl 0 rfl dX12_goDrawn_68 ?_
      refine fr_bipush h rfl dX12_goDrawn_69 ?_
      refine fr_cvI h kX12 at_0M wX12_draw lX12_370 (c_X12_draw x48 6 (by omega) (by omega) (by omega)) rfl (by decide) (by decide) rfl (Nat.le_of_ble_eq_true rfl) dX12_goDrawn_71 (fun z57 x56 w58 p59 => ?_)
      obtain ⟨p60, p61, f62, f63⟩ := p59
      refine fr_istore_n (L' := [(0, vr G 0), (1, vr G b), (2, vi z49), (3, vi z57)]) h rfl dX12_goDrawn_74 (by decide) [1, 2, 3, 0] rfl ?_
      refine fr_aload_n h rfl 1 rfl dX12_goDrawn_75 ?_
      refine fr_iload_n h rfl 2 rfl dX12_goDrawn_76 ?_
      refine fr_iload_n h rfl 3 rfl dX12_goDrawn_77 ?_
      refine fr_csI h wX12_canTake lX12_238 (c_X12_canTake x56 b hb z49 z57 (by omega) (by omega)) rfl (by decide) (by decide) rfl (Nat.le_of_ble_eq_true rfl) dX12_goDrawn_78 (fun z65 x64 w66 p67 => ?_)
      obtain ⟨p68, p69, y70⟩ := p67
      rw [y70]
      clear y70
      refine fr_if_eq (tgt := 91) h dX12_goDrawn_81 (by decide) (by omega) (fun c71 => ?_) (fun c71 => ?_)
      ·
        exact fr_vret h hq ⟨(by rw [show x56 b = x48 b from (f62 b (by omega))]; exact (by rw [show x48 b = x1 b from (f54 b (by omega))]; exact (by rw [show x1 b = x b from (f7 b (by omega))]; exact e0))), (fun a k0 k1 => ((f62 a (by omega)).trans ((f54 a (by omega)).trans (f7 a (by omega))))), (fun i k0 => ((f63 i (by omega)).trans ((f55 i (by omega)).trans (f8 i (by omega)))))⟩ dX12_goDrawn_91
      ·
        refine fr_aload_n h rfl 1 rfl dX12_goDrawn_84 ?_
        refine fr_iload_n h rfl 2 rfl dX12_goDrawn_85 ?_
        refine fr_iload_n h rfl 3 rfl dX12_goDrawn_86 ?_
        have r72 := (congrFun (f62 b (by omega)) (24 + z49))
        have r73 := r72.trans (congrFun (f54 b (by omega)) (24 + z49))
        have r74 := r73.trans (congrFun (f7 b (by omega)) (24 + z49))
        refine fr_csI h wX12_goTake lX12_242 (c_X12_goTake x56 b hb z49 z57 (by omega) (by omega) (by omega) (by omega) (by omega) (by omega)) rfl (by decide) (by decide) rfl (Nat.le_of_ble_eq_true rfl) dX12_goDrawn_87 (fun z76 x75 w77 p78 => ?_)
        obtain ⟨p79, p80, p81, f82⟩ := p78
        refine fr_pop h rfl dX12_goDrawn_90 ?_
        exact fr_vret h hq ⟨(MI_cong (by rw [show x56 b = x48 b from (f62 b (by omega))]; exact (by rw [show x48 b = x1 b from (f54 b (by omega))]; exact (by rw [show x1 b = x b from (f7 b (by omega))]; exact e0))) (fun i a b => p81 i (by omega))), (fun a k0 k1 => ((f82 a (by omega)).trans ((f62 a (by omega)).trans ((f54 a (by omega)).trans (f7 a (by omega)))))), (fun i k0 => ((congrFun (f82 0 (by omega)) i).trans ((f63 i (by omega)).trans ((f55 i (by omega)).trans (f8 i (by omega))))))⟩ dX12_goDrawn_91
    ·
      by_cases c83 : z2 = 2
      ·
        refine fr_tab_in (off := 87) (tgt := 92) h dX12_goDrawn_5 (by omega) (by omega) (by omega) (by rw [c83]; rfl) (by decide) ?_
        refine fr_aload_n h rfl 0 rfl dX12_goDrawn_92 ?_
        refine fr_bipush h rfl dX12_goDrawn_93 ?_
        refine fr_cvI h kX12 at_0M wX12_draw lX12_370 (c_X12_draw x1 7 (by omega) (by omega) (by omega)) rfl (by decide) (by decide) rfl (Nat.le_of_ble_eq_true rfl) dX12_goDrawn_95 (fun z85 x84 w86 p87 => ?_)
        obtain ⟨p88, p89, f90, f91⟩ := p87
        refine fr_istore_n (L' := [(0, vr G 0), (1, vr G b), (2, vi z85)]) h rfl dX12_goDrawn_98 (by decide) [1, 2, 0] rfl ?_
        refine fr_aload_n h rfl 0 rfl dX12_goDrawn_99 ?_
        refine fr_bipush h rfl dX12_goDrawn_100 ?_
        refine fr_cvI h kX12 at_0M wX12_draw lX12_370 (c_X12_draw x84 7 (by omega) (by omega) (by omega)) rfl (by decide) (by decide) rfl (Nat.le_of_ble_eq_true rfl) dX12_goDrawn_102 (fun z93 x92 w94 p95 => ?_)
        obtain ⟨p96, p97, f98, f99⟩ := p95
        refine fr_istore_n (L' := [(0, vr G 0), (1, vr G b), (2, vi z85), (3, vi z93)]) h rfl dX12_goDrawn_105 (by decide) [1, 2, 3, 0] rfl ?_
        refine fr_aload_n h rfl 0 rfl dX12_goDrawn_106 ?_
        refine fr_bipush h rfl dX12_goDrawn_107 ?_
        refine fr_cvI h kX12 at_0M wX12_draw lX12_370 (c_X12_draw x92 99 (by omega) (by omega) (by omega)) rfl (by decide) (by decide) rfl (Nat.le_of_ble_eq_true rfl) dX12_goDrawn_109 (fun z101 x100 w102 p103 => ?_)
        obtain ⟨p104, p105, f106, f107⟩ := p103
        refine fr_iconst h dX12_goDrawn_112 ?_
        refine fr_iadd h dX12_goDrawn_113 ?_
        refine fr_istore (L' := [(0, vr G 0), (1, vr G b), (2, vi z85), (3, vi z93), (4, vi (z101 + 1))]) h dX12_goDrawn_114 (by decide) [1, 2, 3, 4, 0] rfl ?_
        refine fr_aload_n h rfl 1 rfl dX12_goDrawn_116 ?_
        refine fr_iload_n h rfl 2 rfl dX12_goDrawn_117 ?_
        refine fr_iload_n h rfl 3 rfl dX12_goDrawn_118 ?_
        refine fr_iload h 4 rfl dX12_goDrawn_119 ?_
        refine fr_csI h wX12_refusesJoin lX12_245 (c_X12_refusesJoin x100 b hb z85 z93 (z101 + 1) (by omega) (by omega) (by omega)) rfl (by decide) (by decide) rfl (Nat.le_of_ble_eq_true rfl) dX12_goDrawn_121 (fun z109 x108 w110 p111 => ?_)
        obtain ⟨p112, p113, p114, y115⟩ := p111
        rw [y115]
        clear y115
        refine fr_if_ne (tgt := 135) h dX12_goDrawn_124 (by decide) (by omega) (fun c116 => ?_) (fun c116 => ?_)
        ·
          exact fr_vret h hq ⟨(by rw [show x100 b = x92 b from (f106 b (by omega))]; exact (by rw [show x92 b = x84 b from (f98 b (by omega))]; exact (by rw [show x84 b = x1 b from (f90 b (by omega))]; exact (by rw [show x1 b = x b from (f7 b (by omega))]; exact e0)))), (fun a k0 k1 => ((f106 a (by omega)).trans ((f98 a (by omega)).trans ((f90 a (by omega)).trans (f7 a (by omega)))))), (fun i k0 => ((f107 i (by omega)).trans ((f99 i (by omega)).trans ((f91 i (by omega)).trans (f8 i (by omega))))))⟩ dX12_goDrawn_135
        ·
          refine fr_aload_n h rfl 1 rfl dX12_goDrawn_127 ?_
          refine fr_iload_n h rfl 2 rfl dX12_goDrawn_128 ?_
          refine fr_iload_n h rfl 3 rfl dX12_goDrawn_129 ?_
          refine fr_iload h 4 rfl dX12_goDrawn_130 ?_
          refine fr_csV h wX12_weigh lX12_224 (c_X12_weigh x100 b hb z85 z93 (z101 + 1) (by omega) (by omega) (by omega) (by omega) (by omega) (by omega) (by omega) (by omega) (by omega)) rfl (by decide) (by decide) rfl (Nat.le_of_ble_eq_true rfl) dX12_goDrawn_132 (fun x117 p120 => ?_)
          obtain ⟨p121, p122, p123, f124⟩ := p120
          exact fr_vret h hq ⟨(MI_weigh (a := z85) (b := z93) (w := (z101 + 1)) (by rw [show x100 b = x92 b from (f106 b (by omega))]; exact (by rw [show x92 b = x84 b from (f98 b (by omega))]; exact (by rw [show x84 b = x1 b from (f90 b (by omega))]; exact (by rw [show x1 b = x b from (f7 b (by omega))]; exact e0)))) (by omega) (by omega) (by omega) (by omega) (by omega) (by first | omega | (rw [show x100 b = x b from ((f106 b (by omega)).trans ((f98 b (by omega)).trans ((f90 b (by omega)).trans (f7 b (by omega)))))]; omega)) p121 p122 p123), (fun a k0 k1 => ((f124 a (by omega)).trans ((f106 a (by omega)).trans ((f98 a (by omega)).trans ((f90 a (by omega)).trans (f7 a (by omega))))))), (fun i k0 => ((congrFun (f124 0 (by omega)) i).trans ((f107 i (by omega)).trans ((f99 i (by omega)).trans ((f91 i (by omega)).trans (f8 i (by omega)))))))⟩ dX12_goDrawn_135
      ·
        refine fr_tab_out (tgt := 136) h dX12_goDrawn_5 (by omega) (by omega) (by decide) ?_
        refine fr_aload_n h rfl 0 rfl dX12_goDrawn_136 ?_
        refine fr_iconst h dX12_goDrawn_137 ?_
        refine fr_cvI h kX12 at_0M wX12_draw lX12_370 (c_X12_draw x1 5 (by omega) (by omega) (by omega)) rfl (by decide) (by decide) rfl (Nat.le_of_ble_eq_true rfl) dX12_goDrawn_138 (fun z126 x125 w127 p128 => ?_)
        obtain ⟨p129, p130, f131, f132⟩ := p128
        refine fr_istore_n (L' := [(0, vr G 0), (1, vr G b), (2, vi z126)]) h rfl dX12_goDrawn_141 (by decide) [1, 2, 0] rfl ?_
        refine fr_aload_n h rfl 0 rfl dX12_goDrawn_142 ?_
        refine fr_iconst h dX12_goDrawn_143 ?_
        refine fr_cvI h kX12 at_0M wX12_draw lX12_370 (c_X12_draw x125 5 (by omega) (by omega) (by omega)) rfl (by decide) (by decide) rfl (Nat.le_of_ble_eq_true rfl) dX12_goDrawn_144 (fun z134 x133 w135 p136 => ?_)
        obtain ⟨p137, p138, f139, f140⟩ := p136
        refine fr_istore_n (L' := [(0, vr G 0), (1, vr G b), (2, vi z126), (3, vi z134)]) h rfl dX12_goDrawn_147 (by decide) [1, 2, 3, 0] rfl ?_
        refine fr_aload_n h rfl 1 rfl dX12_goDrawn_148 ?_
        refine fr_bipush h rfl dX12_goDrawn_149 ?_
        refine fr_iconst h dX12_goDrawn_151 ?_
        refine fr_iload_n h rfl 2 rfl dX12_goDrawn_152 ?_
        refine fr_imul h dX12_goDrawn_153 ?_
        refine fr_iadd h dX12_goDrawn_154 ?_
        refine fr_iload_n h rfl 3 rfl dX12_goDrawn_155 ?_
        refine fr_iadd h dX12_goDrawn_156 ?_
        refine fr_aload_n h rfl 0 rfl dX12_goDrawn_157 ?_
        refine fr_bipush h rfl dX12_goDrawn_158 ?_
        refine fr_cvI h kX12 at_0M wX12_draw lX12_370 (c_X12_draw x133 100 (by omega) (by omega) (by omega)) rfl (by decide) (by decide) rfl (Nat.le_of_ble_eq_true rfl) dX12_goDrawn_160 (fun z142 x141 w143 p144 => ?_)
        obtain ⟨p145, p146, f147, f148⟩ := p144
        refine fr_iast h (SA_a hb) (by omega) (by omega) ((SA_r hb ((77 + (5 * z126)) + z134)).trans (sg_wt (by omega) (by omega))) (by omega) (by omega) dX12_goDrawn_163 ?_
        refine fr_mem (fun x149 m150 => ?_)
        exact fr_vret h hq ⟨(MI_cong (by rw [show x141 b = x133 b from (f147 b (by omega))]; exact (by rw [show x133 b = x125 b from (f139 b (by omega))]; exact (by rw [show x125 b = x1 b from (f131 b (by omega))]; exact (by rw [show x1 b = x b from (f7 b (by omega))]; exact e0)))) (fun i a b => fm_rd_i m150 (by omega))), (fun a k0 k1 => ((fm_up_row m150 (by omega)).trans ((f147 a (by omega)).trans ((f139 a (by omega)).trans ((f131 a (by omega)).trans (f7 a (by omega))))))), (fun i k0 => ((fm_rd_k (a := 0) (b := i) m150 (by omega)).trans ((f148 i (by omega)).trans ((f140 i (by omega)).trans ((f132 i (by omega)).trans (f8 i (by omega)))))))⟩ dX12_goDrawn_164
set_option maxHeartbeats 4000000 in
theorem c_X12_years (x : Mm) (u : Int) (n : Int) (h_u : fm_r u) (h_n : fm_r n) (e0 : GI x) : CnI YM yX12_years cX12_years 4 .int 207 6248 (fun G => [vr G 0, vi u, vi n]) x (fun z y' => (y' 0 5 = 0) ∧ (GI y') ∧ (∀ a : Int, (a < 0 ∨ 0 < a) → (a < 3 ∨ 3 < a) → (a < 10 ∨ 10 < a) → (a < 7 ∨ 7 < a) → (a < 12 ∨ 18 < a) → y' a = x a) ∧ (∀ i : Int, i ≠ 4 → i ≠ 5 → i ≠ 6 → i ≠ 7 → i ≠ 8 → i ≠ 9 → i ≠ 10 → i ≠ 15 → i ≠ 26 → i ≠ 39 → y' 0 i = x 0 i)) := by
  refine cn_I (by decide) (fun _ => Nat.le_of_ble_eq_true rfl) (fun G C h hq => ?_)
  have h : OK YM G C cX12_years RX12 4 (some .int) 207 6248 := h
  show FW YM G C 4 x 0 [(0, vr G 0), (1, vi u), (2, vi n)] []
  have e12 := e0.2.2.2
  refine fr_aload_n h rfl 0 rfl dX12_years_0 ?_
  refine fr_iconst h dX12_years_1 ?_
  refine fr_puti (iz := 5) h kX12 fX12_94 at_0M rfl rfl (by decide) (by decide) rfl (by decide +kernel) rfM_5 (by omega) (by omega) dX12_years_2 ?_
  refine fr_mem (fun x1 m2 => ?_)
  refine fr_iload_n h rfl 2 rfl dX12_years_5 ?_
  refine fr_iconst h dX12_years_6 ?_
  refine fr_bipush h rfl dX12_years_7 ?_
  refine fr_csI h wX12_in lX12_101 (c_X12_in x1 n 1 40 (by omega) (by omega) (by omega)) rfl (by decide) (by decide) rfl (Nat.le_of_ble_eq_true rfl) dX12_years_9 (fun z4 x3 w5 p6 => ?_)
  obtain ⟨p7, p8, y9⟩ := p6
  rw [y9]
  clear y9
  refine fr_if_ne (tgt := 17) h dX12_years_12 (by decide) (by omega) (fun c10 => ?_) (fun c10 => ?_)
  ·
    refine fr_aload_n h rfl 0 rfl dX12_years_17 ?_
    refine fr_iload_n h rfl 1 rfl dX12_years_18 ?_
    refine fr_puti (iz := 39) h kX12 fX12_366 at_0M rfl rfl (by decide) (by decide) rfl (by decide +kernel) rfM_39 (by omega) (by omega) dX12_years_19 ?_
    refine fr_mem (fun x11 m12 => ?_)
    refine fr_aload_n h rfl 0 rfl dX12_years_22 ?_
    refine fr_getc (z := 1) (iz := 0) h kX12 fX12_9 at_0M rfl rfl rfM_0 (by omega) dX12_years_23 ?_
    refine fr_aload_n h rfl 0 rfl dX12_years_26 ?_
    refine fr_getc (z := 10) (iz := 20) h kX12 fX12_39 at_0M rfl rfl rfM_20 (by omega) dX12_years_27 ?_
    refine fr_iconst h dX12_years_30 ?_
    refine fr_csV h wX12_lay lX12_231 (c_X12_lay x11 1 SA_1 10 106 (by unfold LTN; omega) 0 (by omega) (by omega) (by omega) (by omega) (by omega)) rfl (by decide) (by decide) rfl (Nat.le_of_ble_eq_true rfl) dX12_years_31 (fun x13 p16 => ?_)
    obtain ⟨p17, p18, f19⟩ := p16
    have hMA : MI (x13 10) := MI_cong (by rw [show x11 1 = x1 1 from (fm_up_row m12 (by omega))]; exact (by rw [show x1 1 = x 1 from (fm_up_row m2 (by omega))]; exact e0.1)) (fun i a b => (congrArg (x13 10) (Int.zero_add i).symm).trans (p17 i (by omega) (by omega)))
    refine fr_iconst h dX12_years_34 ?_
    refine fr_istore_n (L' := [(0, vr G 0), (1, vi u), (2, vi n), (3, vi 0)]) h rfl dX12_years_35 (by decide) [1, 2, 3, 0] rfl ?_
    have HL20 : ∀ (n20 : Nat) (l3_20 : Int) (x_20 : Mm), fm_r l3_20 → 0 ≤ l3_20 → l3_20 ≤ 40 → MI (x_20 10) → (∀ a : Int, (a < 0 ∨ 0 < a) → (a < 10 ∨ 10 < a) → x_20 a = x13 a) → (∀ i : Int, i ≠ 39 → x_20 0 i = x13 0 i) → (40 - l3_20) < n20 → FW YM G C 4 x_20 36 [(0, vr G 0), (1, vi u), (2, vi n), (3, vi l3_20)] [] := by
      intro n20
      induction n20 with
      | zero =>
        intro l3_20 x_20 g20_0 g20_1 g20_2 g20_3 g20_4 g20_5 g20_6
        exfalso; omega
      | succ n20 ih20 =>
        intro l3_20 x_20 g20_0 g20_1 g20_2 g20_3 g20_4 g20_5 g20_6
        refine fr_iload_n h rfl 3 rfl dX12_years_36 ?_
        refine fr_iload_n h rfl 2 rfl dX12_years_37 ?_
        refine fr_icmp_ge (tgt := 55) h dX12_years_38 (by decide) (by omega) (by omega) (fun c21 => ?_) (fun c21 => ?_)
        ·
          refine fr_aload_n h rfl 0 rfl dX12_years_55 ?_
          refine fr_iconst h dX12_years_56 ?_
          refine fr_puti (iz := 4) h kX12 fX12_98 at_0M rfl rfl (by decide) (by decide) rfl (by decide +kernel) rfM_4 (by omega) (by omega) dX12_years_57 ?_
          refine fr_mem (fun x22 m23 => ?_)
          refine fr_aload_n h rfl 0 rfl dX12_years_60 ?_
          refine fr_aload_n h rfl 0 rfl dX12_years_61 ?_
          refine fr_aload_n h rfl 0 rfl dX12_years_62 ?_
          refine fr_getc (z := 10) (iz := 20) h kX12 fX12_39 at_0M rfl rfl rfM_20 (by omega) dX12_years_63 ?_
          refine fr_iconst h dX12_years_66 ?_
          refine fr_cvI h kX12 at_0M wX12_layAll lX12_327 (c_X12_layAll x22 10 SA_10 1 (by omega) (by rw [show x22 10 = x_20 10 from (fm_up_row m23 (by omega))]; exact g20_3)) rfl (by decide) (by decide) rfl (Nat.le_of_ble_eq_true rfl) dX12_years_67 (fun z25 x24 w26 p27 => ?_)
          obtain ⟨p28, p29, p30, p31, p32, p33, f34, f35⟩ := p27
          refine fr_i2l h (by omega) dX12_years_70 ?_
          have r36 := (f35 4 (by decide) (by decide) (by decide) (by decide) (by decide) (by decide) (by decide))
          have r37 := r36.trans (fm_rd_s m23)
          refine fr_cvV h kX12 at_0M wX12_tell lX12_269 (c_X12_tell x24 z25 (by omega) (by omega)) rfl (by decide) (by decide) rfl (Nat.le_of_ble_eq_true rfl) dX12_years_71 (fun x38 p41 => ?_)
          obtain ⟨p42, f43, f44⟩ := p41
          refine fr_aload_n h rfl 0 rfl dX12_years_74 ?_
          refine fr_aload_n h rfl 0 rfl dX12_years_75 ?_
          refine fr_aload_n h rfl 0 rfl dX12_years_76 ?_
          refine fr_getc (z := 10) (iz := 20) h kX12 fX12_39 at_0M rfl rfl rfM_20 (by omega) dX12_years_77 ?_
          refine fr_iconst h dX12_years_80 ?_
          refine fr_cvI h kX12 at_0M wX12_layAll lX12_327 (c_X12_layAll x38 10 SA_10 4 (by omega) (by rw [show x38 10 = x24 10 from (f43 10 (by omega) (by omega))]; exact (by rw [show x24 10 = x22 10 from (f34 10 (by omega) (by omega) (by omega))]; exact (by rw [show x22 10 = x_20 10 from (fm_up_row m23 (by omega))]; exact g20_3)))) rfl (by decide) (by decide) rfl (Nat.le_of_ble_eq_true rfl) dX12_years_81 (fun z46 x45 w47 p48 => ?_)
          obtain ⟨p49, p50, p51, p52, p53, p54, f55, f56⟩ := p48
          refine fr_i2l h (by omega) dX12_years_84 ?_
          have r57 := (f56 4 (by decide) (by decide) (by decide) (by decide) (by decide) (by decide) (by decide))
          have r58 := (f35 4 (by decide) (by decide) (by decide) (by decide) (by decide) (by decide) (by decide))
          have r59 := r58.trans (fm_rd_s m23)
          refine fr_cvV h kX12 at_0M wX12_tell lX12_269 (c_X12_tell x45 z46 (by omega) (by omega)) rfl (by decide) (by decide) rfl (Nat.le_of_ble_eq_true rfl) dX12_years_85 (fun x60 p63 => ?_)
          obtain ⟨p64, f65, f66⟩ := p63
          refine fr_aload_n h rfl 0 rfl dX12_years_88 ?_
          refine fr_aload_n h rfl 0 rfl dX12_years_89 ?_
          refine fr_getc (z := 10) (iz := 20) h kX12 fX12_39 at_0M rfl rfl rfM_20 (by omega) dX12_years_90 ?_
          refine fr_iconst h dX12_years_93 ?_
          refine fr_cvI h kX12 at_0M wX12_layAll lX12_327 (c_X12_layAll x60 10 SA_10 2 (by omega) (by rw [show x60 10 = x45 10 from (f65 10 (by omega) (by omega))]; exact (by rw [show x45 10 = x38 10 from (f55 10 (by omega) (by omega) (by omega))]; exact (by rw [show x38 10 = x24 10 from (f43 10 (by omega) (by omega))]; exact (by rw [show x24 10 = x22 10 from (f34 10 (by omega) (by omega) (by omega))]; exact (by rw [show x22 10 = x_20 10 from (fm_up_row m23 (by omega))]; exact g20_3)))))) rfl (by decide) (by decide) rfl (Nat.le_of_ble_eq_true rfl) dX12_years_94 (fun z68 x67 w69 p70 => ?_)
          obtain ⟨p71, p72, p73, p74, p75, p76, f77, f78⟩ := p70
          refine fr_pop h rfl dX12_years_97 ?_
          refine fr_aload_n h rfl 0 rfl dX12_years_98 ?_
          refine fr_aload_n h rfl 0 rfl dX12_years_99 ?_
          refine fr_iconst h dX12_years_100 ?_
          refine fr_cvI h kX12 at_0M wX12_costAt lX12_333 (c_X12_costAt x67 1 (by omega) (by omega) (by omega)) rfl (by decide) (by decide) rfl (Nat.le_of_ble_eq_true rfl) dX12_years_101 (fun z80 x79 w81 p82 => ?_)
          have y83 := p82
          rw [y83]
          clear y83
          refine fr_i2l h (by omega) dX12_years_104 ?_
          have r84 := (f78 4 (by decide) (by decide) (by decide) (by decide) (by decide) (by decide) (by decide))
          have r85 := (f56 4 (by decide) (by decide) (by decide) (by decide) (by decide) (by decide) (by decide))
          have r86 := (f35 4 (by decide) (by decide) (by decide) (by decide) (by decide) (by decide) (by decide))
          have r87 := r86.trans (fm_rd_s m23)
          refine fr_cvV h kX12 at_0M wX12_tell lX12_269 (c_X12_tell x67 z80 (by omega) (by omega)) rfl (by decide) (by decide) rfl (Nat.le_of_ble_eq_true rfl) dX12_years_105 (fun x88 p91 => ?_)
          obtain ⟨p92, f93, f94⟩ := p91
          refine fr_aload_n h rfl 0 rfl dX12_years_108 ?_
          refine fr_aload_n h rfl 0 rfl dX12_years_109 ?_
          refine fr_getc (z := 10) (iz := 20) h kX12 fX12_39 at_0M rfl rfl rfM_20 (by omega) dX12_years_110 ?_
          refine fr_iconst h dX12_years_113 ?_
          refine fr_cvI h kX12 at_0M wX12_layAll lX12_327 (c_X12_layAll x88 10 SA_10 0 (by omega) (by rw [show x88 10 = x67 10 from (f93 10 (by omega) (by omega))]; exact (by rw [show x67 10 = x60 10 from (f77 10 (by omega) (by omega) (by omega))]; exact (by rw [show x60 10 = x45 10 from (f65 10 (by omega) (by omega))]; exact (by rw [show x45 10 = x38 10 from (f55 10 (by omega) (by omega) (by omega))]; exact (by rw [show x38 10 = x24 10 from (f43 10 (by omega) (by omega))]; exact (by rw [show x24 10 = x22 10 from (f34 10 (by omega) (by omega) (by omega))]; exact (by rw [show x22 10 = x_20 10 from (fm_up_row m23 (by omega))]; exact g20_3)))))))) rfl (by decide) (by decide) rfl (Nat.le_of_ble_eq_true rfl) dX12_years_114 (fun z96 x95 w97 p98 => ?_)
          obtain ⟨p99, p100, p101, p102, p103, p104, f105, f106⟩ := p98
          have r107 := (f106 5 (by decide) (by decide) (by decide) (by decide) (by decide) (by decide) (by decide))
          have r108 := r107.trans (f94 5 (by decide))
          have r109 := r108.trans (f78 5 (by decide) (by decide) (by decide) (by decide) (by decide) (by decide) (by decide))
          have r110 := r109.trans (f66 5 (by decide))
          have r111 := r110.trans (f56 5 (by decide) (by decide) (by decide) (by decide) (by decide) (by decide) (by decide))
          have r112 := r111.trans (f44 5 (by decide))
          have r113 := r112.trans (f35 5 (by decide) (by decide) (by decide) (by decide) (by decide) (by decide) (by decide))
          have r114 := r113.trans (fm_rd_i (a := 0) (b := 5) m23 (by decide))
          have r115 := r114.trans (g20_5 5 (by decide))
          have r116 := r115.trans (congrFun (f19 0 (by omega)) 5)
          have r117 := r116.trans (fm_rd_i (a := 0) (b := 5) m12 (by decide))
          have r118 := r117.trans (fm_rd_s m2)
          have r119 := (f106 12 (by decide) (by decide) (by decide) (by decide) (by decide) (by decide) (by decide))
          have r120 := r119.trans (f94 12 (by decide))
          have r121 := r120.trans (f78 12 (by decide) (by decide) (by decide) (by decide) (by decide) (by decide) (by decide))
          have r122 := r121.trans (f66 12 (by decide))
          have r123 := r122.trans (f56 12 (by decide) (by decide) (by decide) (by decide) (by decide) (by decide) (by decide))
          have r124 := r123.trans (f44 12 (by decide))
          have r125 := r124.trans (f35 12 (by decide) (by decide) (by decide) (by decide) (by decide) (by decide) (by decide))
          have r126 := r125.trans (fm_rd_i (a := 0) (b := 12) m23 (by decide))
          have r127 := r126.trans (g20_5 12 (by decide))
          have r128 := r127.trans (congrFun (f19 0 (by omega)) 12)
          have r129 := r128.trans (fm_rd_i (a := 0) (b := 12) m12 (by decide))
          have r130 := r129.trans (fm_rd_i (a := 0) (b := 12) m2 (by decide))
          exact fr_iret h hq (by omega) ⟨(by omega), ⟨(by rw [show x95 1 = x88 1 from (f105 1 (by omega) (by omega) (by omega))]; exact (by rw [show x88 1 = x67 1 from (f93 1 (by omega) (by omega))]; exact (by rw [show x67 1 = x60 1 from (f77 1 (by omega) (by omega) (by omega))]; exact (by rw [show x60 1 = x45 1 from (f65 1 (by omega) (by omega))]; exact (by rw [show x45 1 = x38 1 from (f55 1 (by omega) (by omega) (by omega))]; exact (by rw [show x38 1 = x24 1 from (f43 1 (by omega) (by omega))]; exact (by rw [show x24 1 = x22 1 from (f34 1 (by omega) (by omega) (by omega))]; exact (by rw [show x22 1 = x_20 1 from (fm_up_row m23 (by omega))]; exact (by rw [show x_20 1 = x13 1 from (g20_4 1 (by omega) (by omega))]; exact (by rw [show x13 1 = x11 1 from (f19 1 (by omega))]; exact (by rw [show x11 1 = x1 1 from (fm_up_row m12 (by omega))]; exact (by rw [show x1 1 = x 1 from (fm_up_row m2 (by omega))]; exact e0.1)))))))))))), (by rw [show x95 8 = x 8 from ((f105 8 (by omega) (by omega) (by omega)).trans ((f93 8 (by omega) (by omega)).trans ((f77 8 (by omega) (by omega) (by omega)).trans ((f65 8 (by omega) (by omega)).trans ((f55 8 (by omega) (by omega) (by omega)).trans ((f43 8 (by omega) (by omega)).trans ((f34 8 (by omega) (by omega) (by omega)).trans ((fm_up_row m23 (by omega)).trans ((g20_4 8 (by omega) (by omega)).trans ((f19 8 (by omega)).trans ((fm_up_row m12 (by omega)).trans (fm_up_row m2 (by omega)))))))))))))]; exact e0.2.1), (by rw [show x95 26 = x 26 from ((f105 26 (by omega) (by omega) (by omega)).trans ((f93 26 (by omega) (by omega)).trans ((f77 26 (by omega) (by omega) (by omega)).trans ((f65 26 (by omega) (by omega)).trans ((f55 26 (by omega) (by omega) (by omega)).trans ((f43 26 (by omega) (by omega)).trans ((f34 26 (by omega) (by omega) (by omega)).trans ((fm_up_row m23 (by omega)).trans ((g20_4 26 (by omega) (by omega)).trans ((f19 26 (by omega)).trans ((fm_up_row m12 (by omega)).trans (fm_up_row m2 (by omega)))))))))))))]; exact e0.2.2.1), (by have := e0.2.2.2; omega)⟩, (fun a k0 k1 k2 k3 k4 => ((f105 a (by omega) (by omega) (by omega)).trans ((f93 a (by omega) (by omega)).trans ((f77 a (by omega) (by omega) (by omega)).trans ((f65 a (by omega) (by omega)).trans ((f55 a (by omega) (by omega) (by omega)).trans ((f43 a (by omega) (by omega)).trans ((f34 a (by omega) (by omega) (by omega)).trans ((fm_up_row m23 (by omega)).trans ((g20_4 a (by omega) (by omega)).trans ((f19 a (by omega)).trans ((fm_up_row m12 (by omega)).trans (fm_up_row m2 (by omega)))))))))))))), (fun i k0 k1 k2 k3 k4 k5 k6 k7 k8 k9 => ((f106 i (by omega) (by omega) (by omega) (by omega) (by omega) (by omega) (by omega)).trans ((f94 i (by omega)).trans ((f78 i (by omega) (by omega) (by omega) (by omega) (by omega) (by omega) (by omega)).trans ((f66 i (by omega)).trans ((f56 i (by omega) (by omega) (by omega) (by omega) (by omega) (by omega) (by omega)).trans ((f44 i (by omega)).trans ((f35 i (by omega) (by omega) (by omega) (by omega) (by omega) (by omega) (by omega)).trans ((fm_rd_i (a := 0) (b := i) m23 (by omega)).trans ((g20_5 i (by omega)).trans ((congrFun (f19 0 (by omega)) i).trans ((fm_rd_i (a := 0) (b := i) m12 (by omega)).trans (fm_rd_i (a := 0) (b := i) m2 (by omega))))))))))))))⟩ dX12_years_117
        ·
          refine fr_aload_n h rfl 0 rfl dX12_years_41 ?_
          refine fr_aload_n h rfl 0 rfl dX12_years_42 ?_
          refine fr_getc (z := 10) (iz := 20) h kX12 fX12_39 at_0M rfl rfl rfM_20 (by omega) dX12_years_43 ?_
          refine fr_cvV h kX12 at_0M wX12_goDrawn lX12_373 (c_X12_goDrawn x_20 10 SA_10 g20_3) rfl (by decide) (by decide) rfl (Nat.le_of_ble_eq_true rfl) dX12_years_46 (fun x131 p134 => ?_)
          obtain ⟨p135, f136, f137⟩ := p134
          refine fr_iinc (j := 3) (L' := [(0, vr G 0), (1, vi u), (2, vi n), (3, vi (l3_20 + 1))]) h dX12_years_49 rfl (by decide) [1, 2, 3, 0] rfl ?_
          refine fr_goto (tgt := 36) h dX12_years_52 (by decide) ?_
          exact ih20 (l3_20 + 1) x131 (by omega) (by omega) (by omega) p135 (fun a k0 k1 => ((f136 a (by omega) (by omega)).trans (g20_4 a (by omega) (by omega)))) (fun i k0 => ((f137 i (by omega)).trans (g20_5 i (by omega)))) (by omega)
    exact HL20 ((40 - 0) + 1 : Int).toNat 0 x13 (by omega) (by omega) (by omega) hMA (fun a _ _ => rfl) (fun i _ => rfl) (by omega)
  ·
    refine fr_iconst h dX12_years_15 ?_
    have r138 := (fm_rd_s m2)
    have r139 := (fm_rd_i (a := 0) (b := 12) m2 (by decide))
    exact fr_iret h hq (by omega) ⟨(by omega), ⟨(by rw [show x1 1 = x 1 from (fm_up_row m2 (by omega))]; exact e0.1), (by rw [show x1 8 = x 8 from (fm_up_row m2 (by omega))]; exact e0.2.1), (by rw [show x1 26 = x 26 from (fm_up_row m2 (by omega))]; exact e0.2.2.1), (by have := e0.2.2.2; omega)⟩, (fun a k0 k1 k2 k3 k4 => (fm_up_row m2 (by omega))), (fun i k0 k1 k2 k3 k4 k5 k6 k7 k8 k9 => (fm_rd_i (a := 0) (b := i) m2 (by omega)))⟩ dX12_years_16
