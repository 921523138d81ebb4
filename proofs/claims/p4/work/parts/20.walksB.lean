set_option maxHeartbeats 200000 in
theorem c_X11_best (x : Mm) (p : Int) (k : Int) (h_p : fm_r p) (h_k : fm_r k) (e0 : ((x 0 13 = 110 ∧ x 0 14 = 115) ∨ (x 0 13 = 115 ∧ x 0 14 = 110))) : CnI YC yX11_best cX11_best 4 .int 27 917 (fun G => [vr G 0, vi p, vi k]) x (fun z y' => (∀ a : Int, (a < 79 ∨ 93 < a) → (a < 107 ∨ 108 < a) → (a < 110 ∨ 119 < a) → y' a = x a)) := by
  refine cn_I (by decide) (fun _ => Nat.le_of_ble_eq_true rfl) (fun G C h hq => ?_)
  have h : OK YC G C cX11_best RX11 4 (some .int) 27 917 := h
  show FW YC G C 4 x 0 [(0, vr G 0), (1, vi p), (2, vi k)] []
  obtain ⟨r, hr, er⟩ : ∃ r : Int, isRu r ∧ x 0 13 = r := ⟨x 0 13, by unfold isRu; omega, rfl⟩
  have h_r := Ru_b hr
  obtain ⟨q, hq2, eq⟩ : ∃ q : Int, isRu q ∧ x 0 14 = q := ⟨x 0 14, by unfold isRu; omega, rfl⟩
  have h_q := Ru_b hq2
  refine fr_iload_n h rfl 1 rfl dX11_best_0 ?_
  refine fr_csI h wX11_isKind lX11_203 (c_X11_isKind x p (by omega)) rfl (by decide) (by decide) rfl (Nat.le_of_ble_eq_true rfl) dX11_best_1 (fun z2 x1 w3 p4 => ?_)
  obtain ⟨p5, p6, y7⟩ := p4
  rw [y7]
  clear y7
  refine fr_if_eq (tgt := 17) h dX11_best_4 (by decide) (by omega) (fun c8 => ?_) (fun c8 => ?_)
  ·
    refine fr_iconst h dX11_best_17 ?_
    exact fr_iret h hq (by omega) (fun a _ _ _ => rfl) dX11_best_18
  ·
    refine fr_iload_n h rfl 2 rfl dX11_best_7 ?_
    refine fr_sipush h rfl dX11_best_8 ?_
    refine fr_csI h wX11_isPlace lX11_206 (c_X11_isPlace x k 400 (by omega) (by omega)) rfl (by decide) (by decide) rfl (Nat.le_of_ble_eq_true rfl) dX11_best_11 (fun z10 x9 w11 p12 => ?_)
    obtain ⟨p13, p14, y15⟩ := p12
    rw [y15]
    clear y15
    refine fr_if_ne (tgt := 19) h dX11_best_14 (by decide) (by omega) (fun c16 => ?_) (fun c16 => ?_)
    ·
      refine fr_aload_n h rfl 0 rfl dX11_best_19 ?_
      refine fr_iload_n h rfl 1 rfl dX11_best_20 ?_
      refine fr_cvR h kX11 at_0 wX11_orderOf lX11_210 (c_X11_orderOf x p (by omega) (by omega) (by omega) (by omega)) rfl (by decide) (by decide) rfl (Nat.le_of_ble_eq_true rfl) dX11_best_21 (fun z18 x17 p20 => ?_)
      obtain ⟨p21, f22⟩ := p20
      obtain ⟨n23, i24⟩ := OrN_ex (show isOr z18 by unfold isOr; omega)
      have h_z18 := OrN_b i24
      refine fr_astore_n (L' := [(0, vr G 0), (1, vi p), (2, vi k), (3, vr G z18)]) h rfl dX11_best_24 (by decide) [1, 2, 3, 0] rfl ?_
      refine fr_iload_n h rfl 2 rfl dX11_best_25 ?_
      refine fr_aload_n h rfl 3 rfl dX11_best_26 ?_
      refine fr_cvI h kX6 (Or_at (OrN_is i24)) wX6_size lX11_214 (c_X6_size x17 z18 n23 i24) rfl (by decide) (by decide) rfl (Nat.le_of_ble_eq_true rfl) dX11_best_27 (fun z26 x25 w27 p28 => ?_)
      obtain ⟨p29, p30, p31, p32, y33⟩ := p28
      rw [y33]
      clear y33
      refine fr_icmp_le (tgt := 36) h dX11_best_30 (by decide) (by omega) (by omega) (fun c34 => ?_) (fun c34 => ?_)
      ·
        refine fr_aload_n h rfl 0 rfl dX11_best_36 ?_
        refine fr_aload_n h rfl 3 rfl dX11_best_37 ?_
        refine fr_iload_n h rfl 2 rfl dX11_best_38 ?_
        refine fr_cvI h kX11 at_0 wX11_tellOne lX11_215 (c_X11_tellOne x17 z18 n23 i24 k (by omega)) rfl (by decide) (by decide) rfl (Nat.le_of_ble_eq_true rfl) dX11_best_39 (fun z36 x35 w37 p38 => ?_)
        obtain ⟨p39, p40, f41⟩ := p38
        exact fr_iret h hq (by omega) (fun a k0 k1 k2 => ((f41 a (by omega)).trans (f22 a (by omega) (by omega)))) dX11_best_42
      ·
        refine fr_bipush h rfl dX11_best_33 ?_
        exact fr_iret h hq (by omega) (fun a k0 k1 k2 => (f22 a (by omega) (by omega))) dX11_best_35
    ·
      refine fr_iconst h dX11_best_17 ?_
      exact fr_iret h hq (by omega) (fun a _ _ _ => rfl) dX11_best_18
set_option maxHeartbeats 200000 in
theorem c_X11_many (x : Mm) (p : Int) (h_p : fm_r p) (e0 : ((x 0 13 = 110 ∧ x 0 14 = 115) ∨ (x 0 13 = 115 ∧ x 0 14 = 110))) : CnI YC yX11_many cX11_many 4 .int 27 917 (fun G => [vr G 0, vi p]) x (fun z y' => (∀ a : Int, (a < 79 ∨ 93 < a) → (a < 107 ∨ 108 < a) → (a < 110 ∨ 119 < a) → y' a = x a)) := by
  refine cn_I (by decide) (fun _ => Nat.le_of_ble_eq_true rfl) (fun G C h hq => ?_)
  have h : OK YC G C cX11_many RX11 4 (some .int) 27 917 := h
  show FW YC G C 4 x 0 [(0, vr G 0), (1, vi p)] []
  obtain ⟨r, hr, er⟩ : ∃ r : Int, isRu r ∧ x 0 13 = r := ⟨x 0 13, by unfold isRu; omega, rfl⟩
  have h_r := Ru_b hr
  obtain ⟨q, hq2, eq⟩ : ∃ q : Int, isRu q ∧ x 0 14 = q := ⟨x 0 14, by unfold isRu; omega, rfl⟩
  have h_q := Ru_b hq2
  refine fr_iload_n h rfl 1 rfl dX11_many_0 ?_
  refine fr_csI h wX11_isKind lX11_203 (c_X11_isKind x p (by omega)) rfl (by decide) (by decide) rfl (Nat.le_of_ble_eq_true rfl) dX11_many_1 (fun z2 x1 w3 p4 => ?_)
  obtain ⟨p5, p6, y7⟩ := p4
  rw [y7]
  clear y7
  refine fr_if_ne (tgt := 9) h dX11_many_4 (by decide) (by omega) (fun c8 => ?_) (fun c8 => ?_)
  ·
    refine fr_aload_n h rfl 0 rfl dX11_many_9 ?_
    refine fr_iload_n h rfl 1 rfl dX11_many_10 ?_
    refine fr_cvR h kX11 at_0 wX11_orderOf lX11_210 (c_X11_orderOf x p (by omega) (by omega) (by omega) (by omega)) rfl (by decide) (by decide) rfl (Nat.le_of_ble_eq_true rfl) dX11_many_11 (fun z10 x9 p12 => ?_)
    obtain ⟨p13, f14⟩ := p12
    obtain ⟨n15, i16⟩ := OrN_ex (show isOr z10 by unfold isOr; omega)
    have h_z10 := OrN_b i16
    refine fr_astore_n (L' := [(0, vr G 0), (1, vi p), (2, vr G z10)]) h rfl dX11_many_14 (by decide) [1, 2, 0] rfl ?_
    refine fr_aload_n h rfl 2 rfl dX11_many_15 ?_
    refine fr_cvI h kX6 (Or_at (OrN_is i16)) wX6_size lX11_214 (c_X6_size x9 z10 n15 i16) rfl (by decide) (by decide) rfl (Nat.le_of_ble_eq_true rfl) dX11_many_16 (fun z18 x17 w19 p20 => ?_)
    obtain ⟨p21, p22, p23, p24, y25⟩ := p20
    rw [y25]
    clear y25
    refine fr_istore_n (L' := [(0, vr G 0), (1, vi p), (2, vr G z10), (3, vi z18)]) h rfl dX11_many_19 (by decide) [1, 2, 3, 0] rfl ?_
    refine fr_aload_n h rfl 0 rfl dX11_many_20 ?_
    refine fr_getc (z := 107) (iz := 11) h kX11 fX11_77 at_0 rfl rfl rf_0_11 (by omega) dX11_many_21 ?_
    refine fr_cvV h kX10 at_107 wX10_clear lX11_219 (c_X10_clear x9) rfl (by decide) (by decide) rfl (Nat.le_of_ble_eq_true rfl) dX11_many_24 (fun x26 p29 => ?_)
    have f30 := p29
    refine fr_iload_n h rfl 3 rfl dX11_many_27 ?_
    refine fr_if_le (tgt := 74) h dX11_many_28 (by decide) (by omega) (fun c31 => ?_) (fun c31 => ?_)
    ·
      refine fr_iload_n h rfl 3 rfl dX11_many_74 ?_
      exact fr_iret h hq (by omega) (fun a k0 k1 k2 => ((f30 a (by omega)).trans (f14 a (by omega) (by omega)))) dX11_many_75
    ·
      refine fr_aload_n h rfl 0 rfl dX11_many_31 ?_
      refine fr_getc (z := 107) (iz := 11) h kX11 fX11_77 at_0 rfl rfl rf_0_11 (by omega) dX11_many_32 ?_
      refine fr_aload_n h rfl 2 rfl dX11_many_35 ?_
      refine fr_iconst h dX11_many_36 ?_
      refine fr_cvI h kX6 (Or_at (OrN_is i16)) wX6_costAt lX11_220 (c_X6_costAt x26 z10 n15 i16 1 (by omega)) rfl (by decide) (by decide) rfl (Nat.le_of_ble_eq_true rfl) dX11_many_37 (fun z33 x32 w34 p35 => ?_)
      have y36 := p35
      rw [y36]
      clear y36
      refine fr_i2l h (by omega) dX11_many_40 ?_
      refine fr_cvV h kX10 at_107 wX10_add lX11_223 (c_X10_add x26 z33 (by omega)) rfl (by decide) (by decide) rfl (Nat.le_of_ble_eq_true rfl) dX11_many_41 (fun x37 p40 => ?_)
      have f41 := p40
      refine fr_aload_n h rfl 0 rfl dX11_many_44 ?_
      refine fr_getc (z := 107) (iz := 11) h kX11 fX11_77 at_0 rfl rfl rf_0_11 (by omega) dX11_many_45 ?_
      refine fr_aload_n h rfl 2 rfl dX11_many_48 ?_
      refine fr_aload_n h rfl 2 rfl dX11_many_49 ?_
      refine fr_iconst h dX11_many_50 ?_
      refine fr_cvI h kX6 (Or_at (OrN_is i16)) wX6_costAt lX11_220 (c_X6_costAt x37 z10 n15 i16 1 (by omega)) rfl (by decide) (by decide) rfl (Nat.le_of_ble_eq_true rfl) dX11_many_51 (fun z43 x42 w44 p45 => ?_)
      have y46 := p45
      rw [y46]
      clear y46
      refine fr_cvI h kX6 (Or_at (OrN_is i16)) wX6_upTo lX11_226 (c_X6_upTo x37 z10 n15 i16 z43 (by omega)) rfl (by decide) (by decide) rfl (Nat.le_of_ble_eq_true rfl) dX11_many_54 (fun z48 x47 w49 p50 => ?_)
      obtain ⟨p51, p52, p53, y54⟩ := p50
      rw [y54]
      clear y54
      refine fr_i2l h (by omega) dX11_many_57 ?_
      refine fr_cvV h kX10 at_107 wX10_add lX11_223 (c_X10_add x37 z48 (by omega)) rfl (by decide) (by decide) rfl (Nat.le_of_ble_eq_true rfl) dX11_many_58 (fun x55 p58 => ?_)
      have f59 := p58
      refine fr_aload_n h rfl 0 rfl dX11_many_61 ?_
      refine fr_getc (z := 107) (iz := 11) h kX11 fX11_77 at_0 rfl rfl rf_0_11 (by omega) dX11_many_62 ?_
      refine fr_aload_n h rfl 2 rfl dX11_many_65 ?_
      refine fr_iload_n h rfl 3 rfl dX11_many_66 ?_
      refine fr_cvI h kX6 (Or_at (OrN_is i16)) wX6_costAt lX11_220 (c_X6_costAt x55 z10 n15 i16 z18 (by omega)) rfl (by decide) (by decide) rfl (Nat.le_of_ble_eq_true rfl) dX11_many_67 (fun z61 x60 w62 p63 => ?_)
      have y64 := p63
      rw [y64]
      clear y64
      refine fr_i2l h (by omega) dX11_many_70 ?_
      refine fr_cvV h kX10 at_107 wX10_add lX11_223 (c_X10_add x55 z61 (by omega)) rfl (by decide) (by decide) rfl (Nat.le_of_ble_eq_true rfl) dX11_many_71 (fun x65 p68 => ?_)
      have f69 := p68
      refine fr_iload_n h rfl 3 rfl dX11_many_74 ?_
      exact fr_iret h hq (by omega) (fun a k0 k1 k2 => ((f69 a (by omega)).trans ((f59 a (by omega)).trans ((f41 a (by omega)).trans ((f30 a (by omega)).trans (f14 a (by omega) (by omega))))))) dX11_many_75
  ·
    refine fr_iconst h dX11_many_7 ?_
    exact fr_iret h hq (by omega) (fun a _ _ _ => rfl) dX11_many_8
set_option maxHeartbeats 200000 in
theorem c_X11_below (x : Mm) (p : Int) (v : Int) (h_p : fm_r p) (h_v : fm_r v) (e0 : ((x 0 13 = 110 ∧ x 0 14 = 115) ∨ (x 0 13 = 115 ∧ x 0 14 = 110))) : CnI YC yX11_below cX11_below 5 .int 27 917 (fun G => [vr G 0, vi p, vi v]) x (fun z y' => (∀ a : Int, (a < 79 ∨ 93 < a) → (a < 107 ∨ 108 < a) → (a < 110 ∨ 119 < a) → y' a = x a)) := by
  refine cn_I (by decide) (fun _ => Nat.le_of_ble_eq_true rfl) (fun G C h hq => ?_)
  have h : OK YC G C cX11_below RX11 5 (some .int) 27 917 := h
  show FW YC G C 5 x 0 [(0, vr G 0), (1, vi p), (2, vi v)] []
  obtain ⟨r, hr, er⟩ : ∃ r : Int, isRu r ∧ x 0 13 = r := ⟨x 0 13, by unfold isRu; omega, rfl⟩
  have h_r := Ru_b hr
  obtain ⟨q, hq2, eq⟩ : ∃ q : Int, isRu q ∧ x 0 14 = q := ⟨x 0 14, by unfold isRu; omega, rfl⟩
  have h_q := Ru_b hq2
  refine fr_iload_n h rfl 1 rfl dX11_below_0 ?_
  refine fr_csI h wX11_isKind lX11_203 (c_X11_isKind x p (by omega)) rfl (by decide) (by decide) rfl (Nat.le_of_ble_eq_true rfl) dX11_below_1 (fun z2 x1 w3 p4 => ?_)
  obtain ⟨p5, p6, y7⟩ := p4
  rw [y7]
  clear y7
  refine fr_if_ne (tgt := 9) h dX11_below_4 (by decide) (by omega) (fun c8 => ?_) (fun c8 => ?_)
  ·
    refine fr_aload_n h rfl 0 rfl dX11_below_9 ?_
    refine fr_iload_n h rfl 1 rfl dX11_below_10 ?_
    refine fr_cvR h kX11 at_0 wX11_orderOf lX11_210 (c_X11_orderOf x p (by omega) (by omega) (by omega) (by omega)) rfl (by decide) (by decide) rfl (Nat.le_of_ble_eq_true rfl) dX11_below_11 (fun z10 x9 p12 => ?_)
    obtain ⟨p13, f14⟩ := p12
    obtain ⟨n15, i16⟩ := OrN_ex (show isOr z10 by unfold isOr; omega)
    have h_z10 := OrN_b i16
    refine fr_astore_n (L' := [(0, vr G 0), (1, vi p), (2, vi v), (3, vr G z10)]) h rfl dX11_below_14 (by decide) [1, 2, 3, 0] rfl ?_
    refine fr_aload_n h rfl 3 rfl dX11_below_15 ?_
    refine fr_iload_n h rfl 2 rfl dX11_below_16 ?_
    refine fr_cvI h kX6 (Or_at (OrN_is i16)) wX6_upTo lX11_226 (c_X6_upTo x9 z10 n15 i16 v (by omega)) rfl (by decide) (by decide) rfl (Nat.le_of_ble_eq_true rfl) dX11_below_17 (fun z18 x17 w19 p20 => ?_)
    obtain ⟨p21, p22, p23, y24⟩ := p20
    rw [y24]
    clear y24
    refine fr_istore (L' := [(0, vr G 0), (1, vi p), (2, vi v), (3, vr G z10), (4, vi z18)]) h dX11_below_20 (by decide) [1, 2, 3, 4, 0] rfl ?_
    refine fr_aload_n h rfl 0 rfl dX11_below_22 ?_
    refine fr_getc (z := 107) (iz := 11) h kX11 fX11_77 at_0 rfl rfl rf_0_11 (by omega) dX11_below_23 ?_
    refine fr_cvV h kX10 at_107 wX10_clear lX11_219 (c_X10_clear x9) rfl (by decide) (by decide) rfl (Nat.le_of_ble_eq_true rfl) dX11_below_26 (fun x25 p28 => ?_)
    have f29 := p28
    refine fr_iload h 4 rfl dX11_below_29 ?_
    refine fr_if_le (tgt := 48) h dX11_below_31 (by decide) (by omega) (fun c30 => ?_) (fun c30 => ?_)
    ·
      refine fr_iload h 4 rfl dX11_below_48 ?_
      exact fr_iret h hq (by omega) (fun a k0 k1 k2 => ((f29 a (by omega)).trans (f14 a (by omega) (by omega)))) dX11_below_50
    ·
      refine fr_aload_n h rfl 0 rfl dX11_below_34 ?_
      refine fr_getc (z := 107) (iz := 11) h kX11 fX11_77 at_0 rfl rfl rf_0_11 (by omega) dX11_below_35 ?_
      refine fr_aload_n h rfl 3 rfl dX11_below_38 ?_
      refine fr_iload h 4 rfl dX11_below_39 ?_
      refine fr_cvI h kX6 (Or_at (OrN_is i16)) wX6_costAt lX11_220 (c_X6_costAt x25 z10 n15 i16 z18 (by omega)) rfl (by decide) (by decide) rfl (Nat.le_of_ble_eq_true rfl) dX11_below_41 (fun z32 x31 w33 p34 => ?_)
      have y35 := p34
      rw [y35]
      clear y35
      refine fr_i2l h (by omega) dX11_below_44 ?_
      refine fr_cvV h kX10 at_107 wX10_add lX11_223 (c_X10_add x25 z32 (by omega)) rfl (by decide) (by decide) rfl (Nat.le_of_ble_eq_true rfl) dX11_below_45 (fun x36 p39 => ?_)
      have f40 := p39
      refine fr_iload h 4 rfl dX11_below_48 ?_
      exact fr_iret h hq (by omega) (fun a k0 k1 k2 => ((f40 a (by omega)).trans ((f29 a (by omega)).trans (f14 a (by omega) (by omega))))) dX11_below_50
  ·
    refine fr_iconst h dX11_below_7 ?_
    exact fr_iret h hq (by omega) (fun a _ _ _ => rfl) dX11_below_8
set_option maxHeartbeats 200000 in
theorem c_X11_rank (x : Mm) (p : Int) (h_p : fm_r p) (e0 : ((x 0 13 = 110 ∧ x 0 14 = 115) ∨ (x 0 13 = 115 ∧ x 0 14 = 110))) : CnI YC yX11_rank cX11_rank 7 .int 27 917 (fun G => [vr G 0, vi p]) x (fun z y' => (y' 1 1 = 0) ∧ (∀ a : Int, (a < 1 ∨ 2 < a) → (a < 79 ∨ 93 < a) → (a < 107 ∨ 108 < a) → (a < 110 ∨ 119 < a) → y' a = x a)) := by
  refine cn_I (by decide) (fun _ => Nat.le_of_ble_eq_true rfl) (fun G C h hq => ?_)
  have h : OK YC G C cX11_rank RX11 7 (some .int) 27 917 := h
  show FW YC G C 7 x 0 [(0, vr G 0), (1, vi p)] []
  obtain ⟨r, hr, er⟩ : ∃ r : Int, isRu r ∧ x 0 13 = r := ⟨x 0 13, by unfold isRu; omega, rfl⟩
  have h_r := Ru_b hr
  obtain ⟨q, hq2, eq⟩ : ∃ q : Int, isRu q ∧ x 0 14 = q := ⟨x 0 14, by unfold isRu; omega, rfl⟩
  have h_q := Ru_b hq2
  refine fr_aload_n h rfl 0 rfl dX11_rank_0 ?_
  refine fr_getc (z := 1) (iz := 0) h kX11 fX11_10 at_0 rfl rfl rf_0_0 (by omega) dX11_rank_1 ?_
  refine fr_csI h wX2_fault lX11_229 (c_X2_fault x) rfl (by decide) (by decide) rfl (Nat.le_of_ble_eq_true rfl) dX11_rank_4 (fun z2 x1 w3 p4 => ?_)
  obtain ⟨p5, p6, y7⟩ := p4
  rw [y7]
  clear y7
  refine fr_istore_n (L' := [(0, vr G 0), (1, vi p), (2, vi z2)]) h rfl dX11_rank_7 (by decide) [1, 2, 0] rfl ?_
  refine fr_aload_n h rfl 0 rfl dX11_rank_8 ?_
  refine fr_getc (z := 1) (iz := 0) h kX11 fX11_10 at_0 rfl rfl rf_0_0 (by omega) dX11_rank_9 ?_
  refine fr_csL h wX2_of lX11_232 (c_X2_of x) rfl (by decide) (by decide) rfl (Nat.le_of_ble_eq_true rfl) dX11_rank_12 (fun z9 x8 w10 p11 => ?_)
  have y12 := p11
  rw [y12]
  clear y12
  refine fr_lstore_n (L' := [(0, vr G 0), (1, vi p), (2, vi z2), (3, vj z9)]) h rfl dX11_rank_15 (by decide) [1, 2, 3, 0] rfl ?_
  refine fr_aload_n h rfl 0 rfl dX11_rank_16 ?_
  refine fr_getc (z := 1) (iz := 0) h kX11 fX11_10 at_0 rfl rfl rf_0_0 (by omega) dX11_rank_17 ?_
  refine fr_cvV h kX9 at_1 wX9_clear lX11_117 (c_X9_clear x) rfl (by decide) (by decide) rfl (Nat.le_of_ble_eq_true rfl) dX11_rank_20 (fun x13 p16 => ?_)
  obtain ⟨p17, f18⟩ := p16
  refine fr_iload_n h rfl 2 rfl dX11_rank_23 ?_
  refine fr_iconst h dX11_rank_24 ?_
  refine fr_icmp_eq (tgt := 32) h dX11_rank_25 (by decide) (by omega) (by omega) (fun c19 => ?_) (fun c19 => ?_)
  ·
    refine fr_iload_n h rfl 1 rfl dX11_rank_32 ?_
    refine fr_csI h wX11_isKind lX11_203 (c_X11_isKind x13 p (by omega)) rfl (by decide) (by decide) rfl (Nat.le_of_ble_eq_true rfl) dX11_rank_33 (fun z21 x20 w22 p23 => ?_)
    obtain ⟨p24, p25, y26⟩ := p23
    rw [y26]
    clear y26
    refine fr_if_ne (tgt := 42) h dX11_rank_36 (by decide) (by omega) (fun c27 => ?_) (fun c27 => ?_)
    ·
      refine fr_aload_n h rfl 0 rfl dX11_rank_42 ?_
      refine fr_iload_n h rfl 1 rfl dX11_rank_43 ?_
      have r28 := (congrFun (f18 0 (by omega)) 13)
      have r29 := (congrFun (f18 0 (by omega)) 14)
      have r30 := (congrFun (f18 0 (by omega)) 13)
      have r31 := (congrFun (f18 0 (by omega)) 14)
      refine fr_cvR h kX11 at_0 wX11_orderOf lX11_210 (c_X11_orderOf x13 p (by omega) (by omega) (by omega) (by omega)) rfl (by decide) (by decide) rfl (Nat.le_of_ble_eq_true rfl) dX11_rank_44 (fun z33 x32 p35 => ?_)
      obtain ⟨p36, f37⟩ := p35
      obtain ⟨n38, i39⟩ := OrN_ex (show isOr z33 by unfold isOr; omega)
      have h_z33 := OrN_b i39
      refine fr_astore (L' := [(0, vr G 0), (1, vi p), (2, vi z2), (3, vj z9), (5, vr G z33)]) h dX11_rank_47 (by decide) [1, 2, 3, 4, 0] rfl ?_
      refine fr_aload h 4 rfl dX11_rank_49 ?_
      refine fr_lload_n h rfl 3 rfl dX11_rank_51 ?_
      refine fr_cvI h kX6 (Or_at (OrN_is i39)) wX6_placeOf lX11_236 (c_X6_placeOf x32 z33 n38 i39 z9 (by omega)) rfl (by decide) (by decide) rfl (Nat.le_of_ble_eq_true rfl) dX11_rank_52 (fun z41 x40 w42 p43 => ?_)
      obtain ⟨p44, p45, p46, y47⟩ := p43
      rw [y47]
      clear y47
      refine fr_istore (L' := [(0, vr G 0), (1, vi p), (2, vi z2), (3, vj z9), (5, vr G z33), (6, vi z41)]) h dX11_rank_55 (by decide) [1, 2, 3, 4, 5, 0] rfl ?_
      refine fr_iload h 5 rfl dX11_rank_57 ?_
      refine fr_if_ne (tgt := 65) h dX11_rank_59 (by decide) (by omega) (fun c48 => ?_) (fun c48 => ?_)
      ·
        refine fr_aload_n h rfl 0 rfl dX11_rank_65 ?_
        refine fr_getc (z := 107) (iz := 11) h kX11 fX11_77 at_0 rfl rfl rf_0_11 (by omega) dX11_rank_66 ?_
        refine fr_aload h 4 rfl dX11_rank_69 ?_
        refine fr_iload h 5 rfl dX11_rank_71 ?_
        refine fr_cvI h kX6 (Or_at (OrN_is i39)) wX6_costAt lX11_220 (c_X6_costAt x32 z33 n38 i39 z41 (by omega)) rfl (by decide) (by decide) rfl (Nat.le_of_ble_eq_true rfl) dX11_rank_73 (fun z50 x49 w51 p52 => ?_)
        have y53 := p52
        rw [y53]
        clear y53
        refine fr_i2l h (by omega) dX11_rank_76 ?_
        refine fr_cvV h kX10 at_107 wX10_only lX11_192 (c_X10_only x32 z50 (by omega)) rfl (by decide) (by decide) rfl (Nat.le_of_ble_eq_true rfl) dX11_rank_77 (fun x54 p57 => ?_)
        have f58 := p57
        refine fr_iload h 5 rfl dX11_rank_80 ?_
        have r59 := (congrFun (f58 1 (by omega)) 1)
        have r60 := r59.trans (congrFun (f37 1 (by omega) (by omega)) 1)
        exact fr_iret h hq (by omega) ⟨(by omega), (fun a k0 k1 k2 k3 => ((f58 a (by omega)).trans ((f37 a (by omega) (by omega)).trans (f18 a (by omega)))))⟩ dX11_rank_82
      ·
        refine fr_bipush h rfl dX11_rank_62 ?_
        have r61 := (congrFun (f37 1 (by omega) (by omega)) 1)
        exact fr_iret h hq (by omega) ⟨(by omega), (fun a k0 k1 k2 k3 => ((f37 a (by omega) (by omega)).trans (f18 a (by omega))))⟩ dX11_rank_64
    ·
      refine fr_bipush h rfl dX11_rank_39 ?_
      exact fr_iret h hq (by omega) ⟨(by omega), (fun a k0 k1 k2 k3 => (f18 a (by omega)))⟩ dX11_rank_41
  ·
    refine fr_iconst h dX11_rank_28 ?_
    refine fr_iload_n h rfl 2 rfl dX11_rank_29 ?_
    refine fr_isub h dX11_rank_30 ?_
    exact fr_iret h hq (by omega) ⟨(by omega), (fun a k0 k1 k2 k3 => (f18 a (by omega)))⟩ dX11_rank_31
set_option maxHeartbeats 200000 in
theorem c_X11_alike (x : Mm) (p : Int) (k : Int) (h_p : fm_r p) (h_k : fm_r k) (e0 : ((x 0 13 = 110 ∧ x 0 14 = 115) ∨ (x 0 13 = 115 ∧ x 0 14 = 110))) : CnI YC yX11_alike cX11_alike 6 .int 27 917 (fun G => [vr G 0, vi p, vi k]) x (fun z y' => (∀ a : Int, (a < 79 ∨ 93 < a) → (a < 107 ∨ 108 < a) → (a < 110 ∨ 119 < a) → y' a = x a)) := by
  refine cn_I (by decide) (fun _ => Nat.le_of_ble_eq_true rfl) (fun G C h hq => ?_)
  have h : OK YC G C cX11_alike RX11 6 (some .int) 27 917 := h
  show FW YC G C 6 x 0 [(0, vr G 0), (1, vi p), (2, vi k)] []
  obtain ⟨r, hr, er⟩ : ∃ r : Int, isRu r ∧ x 0 13 = r := ⟨x 0 13, by unfold isRu; omega, rfl⟩
  have h_r := Ru_b hr
  obtain ⟨q, hq2, eq⟩ : ∃ q : Int, isRu q ∧ x 0 14 = q := ⟨x 0 14, by unfold isRu; omega, rfl⟩
  have h_q := Ru_b hq2
  refine fr_iload_n h rfl 1 rfl dX11_alike_0 ?_
  refine fr_csI h wX11_isKind lX11_203 (c_X11_isKind x p (by omega)) rfl (by decide) (by decide) rfl (Nat.le_of_ble_eq_true rfl) dX11_alike_1 (fun z2 x1 w3 p4 => ?_)
  obtain ⟨p5, p6, y7⟩ := p4
  rw [y7]
  clear y7
  refine fr_if_eq (tgt := 17) h dX11_alike_4 (by decide) (by omega) (fun c8 => ?_) (fun c8 => ?_)
  ·
    refine fr_iconst h dX11_alike_17 ?_
    exact fr_iret h hq (by omega) (fun a _ _ _ => rfl) dX11_alike_18
  ·
    refine fr_iload_n h rfl 2 rfl dX11_alike_7 ?_
    refine fr_sipush h rfl dX11_alike_8 ?_
    refine fr_csI h wX11_isPlace lX11_206 (c_X11_isPlace x k 400 (by omega) (by omega)) rfl (by decide) (by decide) rfl (Nat.le_of_ble_eq_true rfl) dX11_alike_11 (fun z10 x9 w11 p12 => ?_)
    obtain ⟨p13, p14, y15⟩ := p12
    rw [y15]
    clear y15
    refine fr_if_ne (tgt := 19) h dX11_alike_14 (by decide) (by omega) (fun c16 => ?_) (fun c16 => ?_)
    ·
      refine fr_aload_n h rfl 0 rfl dX11_alike_19 ?_
      refine fr_iload_n h rfl 1 rfl dX11_alike_20 ?_
      refine fr_cvR h kX11 at_0 wX11_orderOf lX11_210 (c_X11_orderOf x p (by omega) (by omega) (by omega) (by omega)) rfl (by decide) (by decide) rfl (Nat.le_of_ble_eq_true rfl) dX11_alike_21 (fun z18 x17 p20 => ?_)
      obtain ⟨p21, f22⟩ := p20
      obtain ⟨n23, i24⟩ := OrN_ex (show isOr z18 by unfold isOr; omega)
      have h_z18 := OrN_b i24
      refine fr_astore_n (L' := [(0, vr G 0), (1, vi p), (2, vi k), (3, vr G z18)]) h rfl dX11_alike_24 (by decide) [1, 2, 3, 0] rfl ?_
      refine fr_iload_n h rfl 2 rfl dX11_alike_25 ?_
      refine fr_aload_n h rfl 3 rfl dX11_alike_26 ?_
      refine fr_cvI h kX6 (Or_at (OrN_is i24)) wX6_size lX11_214 (c_X6_size x17 z18 n23 i24) rfl (by decide) (by decide) rfl (Nat.le_of_ble_eq_true rfl) dX11_alike_27 (fun z26 x25 w27 p28 => ?_)
      obtain ⟨p29, p30, p31, p32, y33⟩ := p28
      rw [y33]
      clear y33
      refine fr_icmp_le (tgt := 36) h dX11_alike_30 (by decide) (by omega) (by omega) (fun c34 => ?_) (fun c34 => ?_)
      ·
        refine fr_aload_n h rfl 3 rfl dX11_alike_36 ?_
        refine fr_iload_n h rfl 2 rfl dX11_alike_37 ?_
        refine fr_cvI h kX6 (Or_at (OrN_is i24)) wX6_firstAlike lX11_240 (c_X6_firstAlike x17 z18 n23 i24 k (by omega) (by omega)) rfl (by decide) (by decide) rfl (Nat.le_of_ble_eq_true rfl) dX11_alike_38 (fun z36 x35 w37 p38 => ?_)
        obtain ⟨p39, p40, y41⟩ := p38
        rw [y41]
        clear y41
        refine fr_istore (L' := [(0, vr G 0), (1, vi p), (2, vi k), (3, vr G z18), (4, vi z36)]) h dX11_alike_41 (by decide) [1, 2, 3, 4, 0] rfl ?_
        refine fr_aload_n h rfl 3 rfl dX11_alike_43 ?_
        refine fr_aload_n h rfl 3 rfl dX11_alike_44 ?_
        refine fr_iload_n h rfl 2 rfl dX11_alike_45 ?_
        refine fr_cvI h kX6 (Or_at (OrN_is i24)) wX6_costAt lX11_220 (c_X6_costAt x17 z18 n23 i24 k (by omega)) rfl (by decide) (by decide) rfl (Nat.le_of_ble_eq_true rfl) dX11_alike_46 (fun z43 x42 w44 p45 => ?_)
        have y46 := p45
        rw [y46]
        clear y46
        refine fr_cvI h kX6 (Or_at (OrN_is i24)) wX6_upTo lX11_226 (c_X6_upTo x17 z18 n23 i24 z43 (by omega)) rfl (by decide) (by decide) rfl (Nat.le_of_ble_eq_true rfl) dX11_alike_49 (fun z48 x47 w49 p50 => ?_)
        obtain ⟨p51, p52, p53, y54⟩ := p50
        rw [y54]
        clear y54
        refine fr_istore (L' := [(0, vr G 0), (1, vi p), (2, vi k), (3, vr G z18), (4, vi z36), (5, vi z48)]) h dX11_alike_52 (by decide) [1, 2, 3, 4, 5, 0] rfl ?_
        refine fr_aload_n h rfl 0 rfl dX11_alike_54 ?_
        refine fr_getc (z := 107) (iz := 11) h kX11 fX11_77 at_0 rfl rfl rf_0_11 (by omega) dX11_alike_55 ?_
        refine fr_iload h 4 rfl dX11_alike_58 ?_
        refine fr_i2l h (by omega) dX11_alike_60 ?_
        refine fr_cvV h kX10 at_107 wX10_only lX11_192 (c_X10_only x17 z36 (by omega)) rfl (by decide) (by decide) rfl (Nat.le_of_ble_eq_true rfl) dX11_alike_61 (fun x55 p58 => ?_)
        have f59 := p58
        refine fr_aload_n h rfl 0 rfl dX11_alike_64 ?_
        refine fr_getc (z := 107) (iz := 11) h kX11 fX11_77 at_0 rfl rfl rf_0_11 (by omega) dX11_alike_65 ?_
        refine fr_iload h 5 rfl dX11_alike_68 ?_
        refine fr_i2l h (by omega) dX11_alike_70 ?_
        refine fr_cvV h kX10 at_107 wX10_add lX11_223 (c_X10_add x55 z48 (by omega)) rfl (by decide) (by decide) rfl (Nat.le_of_ble_eq_true rfl) dX11_alike_71 (fun x60 p63 => ?_)
        have f64 := p63
        refine fr_iload h 5 rfl dX11_alike_74 ?_
        refine fr_iload h 4 rfl dX11_alike_76 ?_
        refine fr_isub h dX11_alike_78 ?_
        refine fr_iconst h dX11_alike_79 ?_
        refine fr_iadd h dX11_alike_80 ?_
        exact fr_iret h hq (by omega) (fun a k0 k1 k2 => ((f64 a (by omega)).trans ((f59 a (by omega)).trans (f22 a (by omega) (by omega))))) dX11_alike_81
      ·
        refine fr_bipush h rfl dX11_alike_33 ?_
        exact fr_iret h hq (by omega) (fun a k0 k1 k2 => (f22 a (by omega) (by omega))) dX11_alike_35
    ·
      refine fr_iconst h dX11_alike_17 ?_
      exact fr_iret h hq (by omega) (fun a _ _ _ => rfl) dX11_alike_18
set_option maxHeartbeats 200000 in
theorem c_X11_surely (x : Mm) (p : Int) (h_p : fm_r p) (e0 : ((x 0 13 = 110 ∧ x 0 14 = 115) ∨ (x 0 13 = 115 ∧ x 0 14 = 110))) : CnI YC yX11_surely cX11_surely 4 .int 27 917 (fun G => [vr G 0, vi p]) x (fun z y' => (∀ a : Int, (a < 79 ∨ 93 < a) → (a < 107 ∨ 108 < a) → (a < 110 ∨ 119 < a) → y' a = x a)) := by
  refine cn_I (by decide) (fun _ => Nat.le_of_ble_eq_true rfl) (fun G C h hq => ?_)
  have h : OK YC G C cX11_surely RX11 4 (some .int) 27 917 := h
  show FW YC G C 4 x 0 [(0, vr G 0), (1, vi p)] []
  obtain ⟨r, hr, er⟩ : ∃ r : Int, isRu r ∧ x 0 13 = r := ⟨x 0 13, by unfold isRu; omega, rfl⟩
  have h_r := Ru_b hr
  obtain ⟨q, hq2, eq⟩ : ∃ q : Int, isRu q ∧ x 0 14 = q := ⟨x 0 14, by unfold isRu; omega, rfl⟩
  have h_q := Ru_b hq2
  refine fr_iload_n h rfl 1 rfl dX11_surely_0 ?_
  refine fr_csI h wX11_isKind lX11_203 (c_X11_isKind x p (by omega)) rfl (by decide) (by decide) rfl (Nat.le_of_ble_eq_true rfl) dX11_surely_1 (fun z2 x1 w3 p4 => ?_)
  obtain ⟨p5, p6, y7⟩ := p4
  rw [y7]
  clear y7
  refine fr_if_ne (tgt := 9) h dX11_surely_4 (by decide) (by omega) (fun c8 => ?_) (fun c8 => ?_)
  ·
    refine fr_aload_n h rfl 0 rfl dX11_surely_9 ?_
    refine fr_iload_n h rfl 1 rfl dX11_surely_10 ?_
    refine fr_cvR h kX11 at_0 wX11_orderOf lX11_210 (c_X11_orderOf x p (by omega) (by omega) (by omega) (by omega)) rfl (by decide) (by decide) rfl (Nat.le_of_ble_eq_true rfl) dX11_surely_11 (fun z10 x9 p12 => ?_)
    obtain ⟨p13, f14⟩ := p12
    obtain ⟨n15, i16⟩ := OrN_ex (show isOr z10 by unfold isOr; omega)
    have h_z10 := OrN_b i16
    refine fr_astore_n (L' := [(0, vr G 0), (1, vi p), (2, vr G z10)]) h rfl dX11_surely_14 (by decide) [1, 2, 0] rfl ?_
    refine fr_aload_n h rfl 2 rfl dX11_surely_15 ?_
    refine fr_cvI h kX6 (Or_at (OrN_is i16)) wX6_size lX11_214 (c_X6_size x9 z10 n15 i16) rfl (by decide) (by decide) rfl (Nat.le_of_ble_eq_true rfl) dX11_surely_16 (fun z18 x17 w19 p20 => ?_)
    obtain ⟨p21, p22, p23, p24, y25⟩ := p20
    rw [y25]
    clear y25
    refine fr_if_ne (tgt := 25) h dX11_surely_19 (by decide) (by omega) (fun c26 => ?_) (fun c26 => ?_)
    ·
      refine fr_aload_n h rfl 2 rfl dX11_surely_25 ?_
      refine fr_aload_n h rfl 2 rfl dX11_surely_26 ?_
      refine fr_aload_n h rfl 2 rfl dX11_surely_27 ?_
      refine fr_iconst h dX11_surely_28 ?_
      refine fr_cvI h kX6 (Or_at (OrN_is i16)) wX6_costAt lX11_220 (c_X6_costAt x9 z10 n15 i16 1 (by omega)) rfl (by decide) (by decide) rfl (Nat.le_of_ble_eq_true rfl) dX11_surely_29 (fun z28 x27 w29 p30 => ?_)
      have y31 := p30
      rw [y31]
      clear y31
      refine fr_cvI h kX6 (Or_at (OrN_is i16)) wX6_upTo lX11_226 (c_X6_upTo x9 z10 n15 i16 z28 (by omega)) rfl (by decide) (by decide) rfl (Nat.le_of_ble_eq_true rfl) dX11_surely_32 (fun z33 x32 w34 p35 => ?_)
      obtain ⟨p36, p37, p38, y39⟩ := p35
      rw [y39]
      clear y39
      refine fr_cvI h kX6 (Or_at (OrN_is i16)) wX6_sharedPlaces lX11_243 (c_X6_sharedPlaces x9 z10 n15 i16 z33 (by omega) (by omega)) rfl (by decide) (by decide) rfl (Nat.le_of_ble_eq_true rfl) dX11_surely_35 (fun z41 x40 w42 p43 => ?_)
      have y44 := p43
      rw [y44]
      clear y44
      refine fr_istore_n (L' := [(0, vr G 0), (1, vi p), (2, vr G z10), (3, vi z41)]) h rfl dX11_surely_38 (by decide) [1, 2, 3, 0] rfl ?_
      refine fr_aload_n h rfl 0 rfl dX11_surely_39 ?_
      refine fr_getc (z := 107) (iz := 11) h kX11 fX11_77 at_0 rfl rfl rf_0_11 (by omega) dX11_surely_40 ?_
      refine fr_iload_n h rfl 3 rfl dX11_surely_43 ?_
      refine fr_csI h wJ6_bitCount_0f7a4 lX11_246 (c_bitCount x9 z41 (by omega)) rfl (by decide) (by decide) rfl (Nat.le_of_ble_eq_true rfl) dX11_surely_44 (fun z46 x45 w47 p48 => ?_)
      have y49 := p48
      rw [y49]
      clear y49
      refine fr_i2l h (by omega) dX11_surely_47 ?_
      refine fr_cvV h kX10 at_107 wX10_only lX11_192 (c_X10_only x9 z46 (by omega)) rfl (by decide) (by decide) rfl (Nat.le_of_ble_eq_true rfl) dX11_surely_48 (fun x50 p53 => ?_)
      have f54 := p53
      refine fr_iload_n h rfl 3 rfl dX11_surely_51 ?_
      exact fr_iret h hq (by omega) (fun a k0 k1 k2 => ((f54 a (by omega)).trans (f14 a (by omega) (by omega)))) dX11_surely_52
    ·
      refine fr_bipush h rfl dX11_surely_22 ?_
      exact fr_iret h hq (by omega) (fun a k0 k1 k2 => (f14 a (by omega) (by omega))) dX11_surely_24
  ·
    refine fr_iconst h dX11_surely_7 ?_
    exact fr_iret h hq (by omega) (fun a _ _ _ => rfl) dX11_surely_8
set_option maxHeartbeats 200000 in
theorem c_X11_having (x : Mm) (p : Int) (u : Int) (v : Int) (w : Int) (h_p : fm_r p) (h_u : fm_r u) (h_v : fm_r v) (h_w : fm_r w) (e0 : ((x 0 13 = 110 ∧ x 0 14 = 115) ∨ (x 0 13 = 115 ∧ x 0 14 = 110))) : CnI YC yX11_having cX11_having 9 .int 27 917 (fun G => [vr G 0, vi p, vi u, vi v, vi w]) x (fun z y' => (∀ a : Int, (a < 79 ∨ 93 < a) → (a < 107 ∨ 108 < a) → (a < 110 ∨ 119 < a) → y' a = x a)) := by
  refine cn_I (by decide) (fun _ => Nat.le_of_ble_eq_true rfl) (fun G C h hq => ?_)
  have h : OK YC G C cX11_having RX11 9 (some .int) 27 917 := h
  show FW YC G C 9 x 0 [(0, vr G 0), (1, vi p), (2, vi u), (3, vi v), (4, vi w)] []
  obtain ⟨r, hr, er⟩ : ∃ r : Int, isRu r ∧ x 0 13 = r := ⟨x 0 13, by unfold isRu; omega, rfl⟩
  have h_r := Ru_b hr
  obtain ⟨q, hq2, eq⟩ : ∃ q : Int, isRu q ∧ x 0 14 = q := ⟨x 0 14, by unfold isRu; omega, rfl⟩
  have h_q := Ru_b hq2
  refine fr_iload_n h rfl 1 rfl dX11_having_0 ?_
  refine fr_csI h wX11_isKind lX11_203 (c_X11_isKind x p (by omega)) rfl (by decide) (by decide) rfl (Nat.le_of_ble_eq_true rfl) dX11_having_1 (fun z2 x1 w3 p4 => ?_)
  obtain ⟨p5, p6, y7⟩ := p4
  rw [y7]
  clear y7
  refine fr_if_eq (tgt := 38) h dX11_having_4 (by decide) (by omega) (fun c8 => ?_) (fun c8 => ?_)
  ·
    refine fr_iconst h dX11_having_38 ?_
    exact fr_iret h hq (by omega) (fun a _ _ _ => rfl) dX11_having_39
  ·
    refine fr_iload_n h rfl 2 rfl dX11_having_7 ?_
    refine fr_if_lt (tgt := 38) h dX11_having_8 (by decide) (by omega) (fun c9 => ?_) (fun c9 => ?_)
    ·
      refine fr_iconst h dX11_having_38 ?_
      exact fr_iret h hq (by omega) (fun a _ _ _ => rfl) dX11_having_39
    ·
      refine fr_iload_n h rfl 2 rfl dX11_having_11 ?_
      refine fr_bipush h rfl dX11_having_12 ?_
      refine fr_icmp_ge (tgt := 38) h dX11_having_14 (by decide) (by omega) (by omega) (fun c10 => ?_) (fun c10 => ?_)
      ·
        refine fr_iconst h dX11_having_38 ?_
        exact fr_iret h hq (by omega) (fun a _ _ _ => rfl) dX11_having_39
      ·
        refine fr_iload_n h rfl 3 rfl dX11_having_17 ?_
        refine fr_if_lt (tgt := 38) h dX11_having_18 (by decide) (by omega) (fun c11 => ?_) (fun c11 => ?_)
        ·
          refine fr_iconst h dX11_having_38 ?_
          exact fr_iret h hq (by omega) (fun a _ _ _ => rfl) dX11_having_39
        ·
          refine fr_iload_n h rfl 3 rfl dX11_having_21 ?_
          refine fr_bipush h rfl dX11_having_22 ?_
          refine fr_icmp_ge (tgt := 38) h dX11_having_24 (by decide) (by omega) (by omega) (fun c12 => ?_) (fun c12 => ?_)
          ·
            refine fr_iconst h dX11_having_38 ?_
            exact fr_iret h hq (by omega) (fun a _ _ _ => rfl) dX11_having_39
          ·
            refine fr_iload h 4 rfl dX11_having_27 ?_
            refine fr_if_lt (tgt := 38) h dX11_having_29 (by decide) (by omega) (fun c13 => ?_) (fun c13 => ?_)
            ·
              refine fr_iconst h dX11_having_38 ?_
              exact fr_iret h hq (by omega) (fun a _ _ _ => rfl) dX11_having_39
            ·
              refine fr_iload h 4 rfl dX11_having_32 ?_
              refine fr_iconst h dX11_having_34 ?_
              refine fr_icmp_le (tgt := 40) h dX11_having_35 (by decide) (by omega) (by omega) (fun c14 => ?_) (fun c14 => ?_)
              ·
                refine fr_aload_n h rfl 0 rfl dX11_having_40 ?_
                refine fr_iload_n h rfl 1 rfl dX11_having_41 ?_
                refine fr_cvR h kX11 at_0 wX11_orderOf lX11_210 (c_X11_orderOf x p (by omega) (by omega) (by omega) (by omega)) rfl (by decide) (by decide) rfl (Nat.le_of_ble_eq_true rfl) dX11_having_42 (fun z16 x15 p18 => ?_)
                obtain ⟨p19, f20⟩ := p18
                obtain ⟨n21, i22⟩ := OrN_ex (show isOr z16 by unfold isOr; omega)
                have h_z16 := OrN_b i22
                refine fr_astore (L' := [(0, vr G 0), (1, vi p), (2, vi u), (3, vi v), (4, vi w), (5, vr G z16)]) h dX11_having_45 (by decide) [1, 2, 3, 4, 5, 0] rfl ?_
                refine fr_iconst h dX11_having_47 ?_
                refine fr_istore (L' := [(0, vr G 0), (1, vi p), (2, vi u), (3, vi v), (4, vi w), (5, vr G z16), (6, vi 0)]) h dX11_having_48 (by decide) [1, 2, 3, 4, 5, 6, 0] rfl ?_
                refine fr_iconst h dX11_having_50 ?_
                refine fr_istore (L' := [(0, vr G 0), (1, vi p), (2, vi u), (3, vi v), (4, vi w), (5, vr G z16), (6, vi 0), (7, vi 0)]) h dX11_having_51 (by decide) [1, 2, 3, 4, 5, 6, 7, 0] rfl ?_
                refine fr_iconst h dX11_having_53 ?_
                refine fr_istore (L' := [(0, vr G 0), (1, vi p), (2, vi u), (3, vi v), (4, vi w), (5, vr G z16), (6, vi 0), (7, vi 0), (8, vi 1)]) h dX11_having_54 (by decide) [1, 2, 3, 4, 5, 6, 7, 8, 0] rfl ?_
                have HL23 : ∀ (n23 : Nat) (l6_23 l7_23 l8_23 : Int), fm_r l6_23 → 0 ≤ l6_23 → l6_23 ≤ 1297 → fm_r l7_23 → 0 ≤ l7_23 → l7_23 ≤ 1297 → fm_r l8_23 → 1 ≤ l8_23 → l8_23 ≤ 1297 → 1 ≤ l8_23 → l7_23 < l8_23 → (1297 - l8_23) < n23 → FW YC G C 9 x15 56 [(0, vr G 0), (1, vi p), (2, vi u), (3, vi v), (4, vi w), (5, vr G z16), (6, vi l6_23), (7, vi l7_23), (8, vi l8_23)] [] := by
                  intro n23
                  induction n23 with
                  | zero =>
                    intro l6_23 l7_23 l8_23 g23_0 g23_1 g23_2 g23_3 g23_4 g23_5 g23_6 g23_7 g23_8 g23_9 g23_10 g23_11
                    exfalso; omega
                  | succ n23 ih23 =>
                    intro l6_23 l7_23 l8_23 g23_0 g23_1 g23_2 g23_3 g23_4 g23_5 g23_6 g23_7 g23_8 g23_9 g23_10 g23_11
                    refine fr_iload h 8 rfl dX11_having_56 ?_
                    refine fr_aload h 5 rfl dX11_having_58 ?_
                    refine fr_cvI h kX6 (Or_at (OrN_is i22)) wX6_size lX11_214 (c_X6_size x15 z16 n21 i22) rfl (by decide) (by decide) rfl (Nat.le_of_ble_eq_true rfl) dX11_having_60 (fun z25 x24 w26 p27 => ?_)
                    obtain ⟨p28, p29, p30, p31, y32⟩ := p27
                    rw [y32]
                    clear y32
                    refine fr_icmp_gt (tgt := 123) h dX11_having_63 (by decide) (by omega) (by omega) (fun c33 => ?_) (fun c33 => ?_)
                    ·
                      refine fr_aload_n h rfl 0 rfl dX11_having_123 ?_
                      refine fr_getc (z := 107) (iz := 11) h kX11 fX11_77 at_0 rfl rfl rf_0_11 (by omega) dX11_having_124 ?_
                      refine fr_cvV h kX10 at_107 wX10_clear lX11_219 (c_X10_clear x15) rfl (by decide) (by decide) rfl (Nat.le_of_ble_eq_true rfl) dX11_having_127 (fun x34 p37 => ?_)
                      have f38 := p37
                      refine fr_iload h 7 rfl dX11_having_130 ?_
                      refine fr_if_le (tgt := 160) h dX11_having_132 (by decide) (by omega) (fun c39 => ?_) (fun c39 => ?_)
                      ·
                        refine fr_iload h 7 rfl dX11_having_160 ?_
                        exact fr_iret h hq (by omega) (fun a k0 k1 k2 => ((f38 a (by omega)).trans (f20 a (by omega) (by omega)))) dX11_having_162
                      ·
                        refine fr_aload_n h rfl 0 rfl dX11_having_135 ?_
                        refine fr_getc (z := 107) (iz := 11) h kX11 fX11_77 at_0 rfl rfl rf_0_11 (by omega) dX11_having_136 ?_
                        refine fr_iload h 6 rfl dX11_having_139 ?_
                        refine fr_i2l h (by omega) dX11_having_141 ?_
                        refine fr_cvV h kX10 at_107 wX10_add lX11_223 (c_X10_add x34 l6_23 (by omega)) rfl (by decide) (by decide) rfl (Nat.le_of_ble_eq_true rfl) dX11_having_142 (fun x40 p43 => ?_)
                        have f44 := p43
                        refine fr_aload_n h rfl 0 rfl dX11_having_145 ?_
                        refine fr_getc (z := 107) (iz := 11) h kX11 fX11_77 at_0 rfl rfl rf_0_11 (by omega) dX11_having_146 ?_
                        refine fr_aload h 5 rfl dX11_having_149 ?_
                        refine fr_iload h 6 rfl dX11_having_151 ?_
                        refine fr_cvI h kX6 (Or_at (OrN_is i22)) wX6_costAt lX11_220 (c_X6_costAt x40 z16 n21 i22 l6_23 (by omega)) rfl (by decide) (by decide) rfl (Nat.le_of_ble_eq_true rfl) dX11_having_153 (fun z46 x45 w47 p48 => ?_)
                        have y49 := p48
                        rw [y49]
                        clear y49
                        refine fr_i2l h (by omega) dX11_having_156 ?_
                        refine fr_cvV h kX10 at_107 wX10_add lX11_223 (c_X10_add x40 z46 (by omega)) rfl (by decide) (by decide) rfl (Nat.le_of_ble_eq_true rfl) dX11_having_157 (fun x50 p53 => ?_)
                        have f54 := p53
                        refine fr_iload h 7 rfl dX11_having_160 ?_
                        exact fr_iret h hq (by omega) (fun a k0 k1 k2 => ((f54 a (by omega)).trans ((f44 a (by omega)).trans ((f38 a (by omega)).trans (f20 a (by omega) (by omega)))))) dX11_having_162
                    ·
                      refine fr_aload h 5 rfl dX11_having_66 ?_
                      refine fr_iload h 8 rfl dX11_having_68 ?_
                      refine fr_cvL h kX6 (Or_at (OrN_is i22)) wX6_codeAt lX11_251 (c_X6_codeAt x15 z16 n21 i22 l8_23 (by omega)) rfl (by decide) (by decide) rfl (Nat.le_of_ble_eq_true rfl) dX11_having_70 (fun z56 x55 w57 p58 => ?_)
                      have y59 := p58
                      rw [y59]
                      clear y59
                      refine fr_iload_n h rfl 2 rfl dX11_having_73 ?_
                      refine fr_csI h wX2_numberAt lX11_255 (c_X2_numberAt x15 z56 u (by omega) (by omega)) rfl (by decide) (by decide) rfl (Nat.le_of_ble_eq_true rfl) dX11_having_74 (fun z61 x60 w62 p63 => ?_)
                      obtain ⟨p64, p65, y66⟩ := p63
                      rw [y66]
                      clear y66
                      refine fr_iload_n h rfl 3 rfl dX11_having_77 ?_
                      refine fr_icmp_ne (tgt := 85) h dX11_having_78 (by decide) (by omega) (by omega) (fun c67 => ?_) (fun c67 => ?_)
                      ·
                        refine fr_iconst h dX11_having_85 ?_
                        refine fr_iload h 4 rfl dX11_having_86 ?_
                        refine fr_iconst h dX11_having_88 ?_
                        refine fr_icmp_ne (tgt := 96) h dX11_having_89 (by decide) (by omega) (by omega) (fun c68 => ?_) (fun c68 => ?_)
                        ·
                          refine fr_iconst h dX11_having_96 ?_
                          refine fr_icmp_ne (tgt := 117) h dX11_having_97 (by decide) (by omega) (by omega) (fun c69 => by exfalso; omega) (fun c69 => ?_)
                          refine fr_iload h 7 rfl dX11_having_100 ?_
                          refine fr_if_ne (tgt := 110) h dX11_having_102 (by decide) (by omega) (fun c70 => ?_) (fun c70 => ?_)
                          ·
                            refine fr_iload h 6 rfl dX11_having_110 ?_
                            refine fr_istore (L' := [(0, vr G 0), (1, vi p), (2, vi u), (3, vi v), (4, vi w), (5, vr G z16), (6, vi l6_23), (7, vi l7_23), (8, vi l8_23)]) h dX11_having_112 (by decide) [1, 2, 3, 4, 5, 6, 0, 7, 8] rfl ?_
                            refine fr_iinc (j := 7) (L' := [(0, vr G 0), (1, vi p), (2, vi u), (3, vi v), (4, vi w), (5, vr G z16), (6, vi l6_23), (7, vi (l7_23 + 1)), (8, vi l8_23)]) h dX11_having_114 rfl (by decide) [1, 2, 3, 4, 5, 6, 7, 0, 8] rfl ?_
                            refine fr_iinc (j := 8) (L' := [(0, vr G 0), (1, vi p), (2, vi u), (3, vi v), (4, vi w), (5, vr G z16), (6, vi l6_23), (7, vi (l7_23 + 1)), (8, vi (l8_23 + 1))]) h dX11_having_117 rfl (by decide) [1, 2, 3, 4, 5, 6, 7, 8, 0] rfl ?_
                            refine fr_goto (tgt := 56) h dX11_having_120 (by decide) ?_
                            exact ih23 l6_23 (l7_23 + 1) (l8_23 + 1) (by omega) (by omega) (by omega) (by omega) (by omega) (by omega) (by omega) (by omega) (by omega) (by omega) (by omega) (by omega)
                          ·
                            refine fr_iload h 8 rfl dX11_having_105 ?_
                            refine fr_goto (tgt := 112) h dX11_having_107 (by decide) ?_
                            refine fr_istore (L' := [(0, vr G 0), (1, vi p), (2, vi u), (3, vi v), (4, vi w), (5, vr G z16), (6, vi l8_23), (7, vi l7_23), (8, vi l8_23)]) h dX11_having_112 (by decide) [1, 2, 3, 4, 5, 6, 0, 7, 8] rfl ?_
                            refine fr_iinc (j := 7) (L' := [(0, vr G 0), (1, vi p), (2, vi u), (3, vi v), (4, vi w), (5, vr G z16), (6, vi l8_23), (7, vi (l7_23 + 1)), (8, vi l8_23)]) h dX11_having_114 rfl (by decide) [1, 2, 3, 4, 5, 6, 7, 0, 8] rfl ?_
                            refine fr_iinc (j := 8) (L' := [(0, vr G 0), (1, vi p), (2, vi u), (3, vi v), (4, vi w), (5, vr G z16), (6, vi l8_23), (7, vi (l7_23 + 1)), (8, vi (l8_23 + 1))]) h dX11_having_117 rfl (by decide) [1, 2, 3, 4, 5, 6, 7, 8, 0] rfl ?_
                            refine fr_goto (tgt := 56) h dX11_having_120 (by decide) ?_
                            exact ih23 l8_23 (l7_23 + 1) (l8_23 + 1) (by omega) (by omega) (by omega) (by omega) (by omega) (by omega) (by omega) (by omega) (by omega) (by omega) (by omega) (by omega)
                        ·
                          refine fr_iconst h dX11_having_92 ?_
                          refine fr_goto (tgt := 97) h dX11_having_93 (by decide) ?_
                          refine fr_icmp_ne (tgt := 117) h dX11_having_97 (by decide) (by omega) (by omega) (fun c71 => ?_) (fun c71 => by exfalso; omega)
                          refine fr_iinc (j := 8) (L' := [(0, vr G 0), (1, vi p), (2, vi u), (3, vi v), (4, vi w), (5, vr G z16), (6, vi l6_23), (7, vi l7_23), (8, vi (l8_23 + 1))]) h dX11_having_117 rfl (by decide) [1, 2, 3, 4, 5, 6, 7, 8, 0] rfl ?_
                          refine fr_goto (tgt := 56) h dX11_having_120 (by decide) ?_
                          exact ih23 l6_23 l7_23 (l8_23 + 1) (by omega) (by omega) (by omega) (by omega) (by omega) (by omega) (by omega) (by omega) (by omega) (by omega) (by omega) (by omega)
                      ·
                        refine fr_iconst h dX11_having_81 ?_
                        refine fr_goto (tgt := 86) h dX11_having_82 (by decide) ?_
                        refine fr_iload h 4 rfl dX11_having_86 ?_
                        refine fr_iconst h dX11_having_88 ?_
                        refine fr_icmp_ne (tgt := 96) h dX11_having_89 (by decide) (by omega) (by omega) (fun c72 => ?_) (fun c72 => ?_)
                        ·
                          refine fr_iconst h dX11_having_96 ?_
                          refine fr_icmp_ne (tgt := 117) h dX11_having_97 (by decide) (by omega) (by omega) (fun c73 => ?_) (fun c73 => by exfalso; omega)
                          refine fr_iinc (j := 8) (L' := [(0, vr G 0), (1, vi p), (2, vi u), (3, vi v), (4, vi w), (5, vr G z16), (6, vi l6_23), (7, vi l7_23), (8, vi (l8_23 + 1))]) h dX11_having_117 rfl (by decide) [1, 2, 3, 4, 5, 6, 7, 8, 0] rfl ?_
                          refine fr_goto (tgt := 56) h dX11_having_120 (by decide) ?_
                          exact ih23 l6_23 l7_23 (l8_23 + 1) (by omega) (by omega) (by omega) (by omega) (by omega) (by omega) (by omega) (by omega) (by omega) (by omega) (by omega) (by omega)
                        ·
                          refine fr_iconst h dX11_having_92 ?_
                          refine fr_goto (tgt := 97) h dX11_having_93 (by decide) ?_
                          refine fr_icmp_ne (tgt := 117) h dX11_having_97 (by decide) (by omega) (by omega) (fun c74 => by exfalso; omega) (fun c74 => ?_)
                          refine fr_iload h 7 rfl dX11_having_100 ?_
                          refine fr_if_ne (tgt := 110) h dX11_having_102 (by decide) (by omega) (fun c75 => ?_) (fun c75 => ?_)
                          ·
                            refine fr_iload h 6 rfl dX11_having_110 ?_
                            refine fr_istore (L' := [(0, vr G 0), (1, vi p), (2, vi u), (3, vi v), (4, vi w), (5, vr G z16), (6, vi l6_23), (7, vi l7_23), (8, vi l8_23)]) h dX11_having_112 (by decide) [1, 2, 3, 4, 5, 6, 0, 7, 8] rfl ?_
                            refine fr_iinc (j := 7) (L' := [(0, vr G 0), (1, vi p), (2, vi u), (3, vi v), (4, vi w), (5, vr G z16), (6, vi l6_23), (7, vi (l7_23 + 1)), (8, vi l8_23)]) h dX11_having_114 rfl (by decide) [1, 2, 3, 4, 5, 6, 7, 0, 8] rfl ?_
                            refine fr_iinc (j := 8) (L' := [(0, vr G 0), (1, vi p), (2, vi u), (3, vi v), (4, vi w), (5, vr G z16), (6, vi l6_23), (7, vi (l7_23 + 1)), (8, vi (l8_23 + 1))]) h dX11_having_117 rfl (by decide) [1, 2, 3, 4, 5, 6, 7, 8, 0] rfl ?_
                            refine fr_goto (tgt := 56) h dX11_having_120 (by decide) ?_
                            exact ih23 l6_23 (l7_23 + 1) (l8_23 + 1) (by omega) (by omega) (by omega) (by omega) (by omega) (by omega) (by omega) (by omega) (by omega) (by omega) (by omega) (by omega)
                          ·
                            refine fr_iload h 8 rfl dX11_having_105 ?_
                            refine fr_goto (tgt := 112) h dX11_having_107 (by decide) ?_
                            refine fr_istore (L' := [(0, vr G 0), (1, vi p), (2, vi u), (3, vi v), (4, vi w), (5, vr G z16), (6, vi l8_23), (7, vi l7_23), (8, vi l8_23)]) h dX11_having_112 (by decide) [1, 2, 3, 4, 5, 6, 0, 7, 8] rfl ?_
                            refine fr_iinc (j := 7) (L' := [(0, vr G 0), (1, vi p), (2, vi u), (3, vi v), (4, vi w), (5, vr G z16), (6, vi l8_23), (7, vi (l7_23 + 1)), (8, vi l8_23)]) h dX11_having_114 rfl (by decide) [1, 2, 3, 4, 5, 6, 7, 0, 8] rfl ?_
                            refine fr_iinc (j := 8) (L' := [(0, vr G 0), (1, vi p), (2, vi u), (3, vi v), (4, vi w), (5, vr G z16), (6, vi l8_23), (7, vi (l7_23 + 1)), (8, vi (l8_23 + 1))]) h dX11_having_117 rfl (by decide) [1, 2, 3, 4, 5, 6, 7, 8, 0] rfl ?_
                            refine fr_goto (tgt := 56) h dX11_having_120 (by decide) ?_
                            exact ih23 l8_23 (l7_23 + 1) (l8_23 + 1) (by omega) (by omega) (by omega) (by omega) (by omega) (by omega) (by omega) (by omega) (by omega) (by omega) (by omega) (by omega)
                exact HL23 ((1297 - 1) + 1 : Int).toNat 0 0 1 (by omega) (by omega) (by omega) (by omega) (by omega) (by omega) (by omega) (by omega) (by omega) (by omega) (by omega) (by omega)
              ·
                refine fr_iconst h dX11_having_38 ?_
                exact fr_iret h hq (by omega) (fun a _ _ _ => rfl) dX11_having_39
set_option maxHeartbeats 200000 in
theorem c_X11_differ (x : Mm) (p : Int) (u : Int) (v : Int) (h_p : fm_r p) (h_u : fm_r u) (h_v : fm_r v) (e0 : ((x 0 13 = 110 ∧ x 0 14 = 115) ∨ (x 0 13 = 115 ∧ x 0 14 = 110))) : CnI YC yX11_differ cX11_differ 6 .int 27 917 (fun G => [vr G 0, vi p, vi u, vi v]) x (fun z y' => (∀ a : Int, (a < 79 ∨ 93 < a) → (a < 107 ∨ 108 < a) → (a < 110 ∨ 119 < a) → y' a = x a)) := by
  refine cn_I (by decide) (fun _ => Nat.le_of_ble_eq_true rfl) (fun G C h hq => ?_)
  have h : OK YC G C cX11_differ RX11 6 (some .int) 27 917 := h
  show FW YC G C 6 x 0 [(0, vr G 0), (1, vi p), (2, vi u), (3, vi v)] []
  obtain ⟨r, hr, er⟩ : ∃ r : Int, isRu r ∧ x 0 13 = r := ⟨x 0 13, by unfold isRu; omega, rfl⟩
  have h_r := Ru_b hr
  obtain ⟨q, hq2, eq⟩ : ∃ q : Int, isRu q ∧ x 0 14 = q := ⟨x 0 14, by unfold isRu; omega, rfl⟩
  have h_q := Ru_b hq2
  refine fr_iload_n h rfl 1 rfl dX11_differ_0 ?_
  refine fr_csI h wX11_isKind lX11_203 (c_X11_isKind x p (by omega)) rfl (by decide) (by decide) rfl (Nat.le_of_ble_eq_true rfl) dX11_differ_1 (fun z2 x1 w3 p4 => ?_)
  obtain ⟨p5, p6, y7⟩ := p4
  rw [y7]
  clear y7
  refine fr_if_eq (tgt := 27) h dX11_differ_4 (by decide) (by omega) (fun c8 => ?_) (fun c8 => ?_)
  ·
    refine fr_iconst h dX11_differ_27 ?_
    exact fr_iret h hq (by omega) (fun a _ _ _ => rfl) dX11_differ_28
  ·
    refine fr_iload_n h rfl 2 rfl dX11_differ_7 ?_
    refine fr_sipush h rfl dX11_differ_8 ?_
    refine fr_csI h wX11_isPlace lX11_206 (c_X11_isPlace x u 400 (by omega) (by omega)) rfl (by decide) (by decide) rfl (Nat.le_of_ble_eq_true rfl) dX11_differ_11 (fun z10 x9 w11 p12 => ?_)
    obtain ⟨p13, p14, y15⟩ := p12
    rw [y15]
    clear y15
    refine fr_if_eq (tgt := 27) h dX11_differ_14 (by decide) (by omega) (fun c16 => ?_) (fun c16 => ?_)
    ·
      refine fr_iconst h dX11_differ_27 ?_
      exact fr_iret h hq (by omega) (fun a _ _ _ => rfl) dX11_differ_28
    ·
      refine fr_iload_n h rfl 3 rfl dX11_differ_17 ?_
      refine fr_sipush h rfl dX11_differ_18 ?_
      refine fr_csI h wX11_isPlace lX11_206 (c_X11_isPlace x v 400 (by omega) (by omega)) rfl (by decide) (by decide) rfl (Nat.le_of_ble_eq_true rfl) dX11_differ_21 (fun z18 x17 w19 p20 => ?_)
      obtain ⟨p21, p22, y23⟩ := p20
      rw [y23]
      clear y23
      refine fr_if_ne (tgt := 29) h dX11_differ_24 (by decide) (by omega) (fun c24 => ?_) (fun c24 => ?_)
      ·
        refine fr_aload_n h rfl 0 rfl dX11_differ_29 ?_
        refine fr_iload_n h rfl 1 rfl dX11_differ_30 ?_
        refine fr_cvR h kX11 at_0 wX11_orderOf lX11_210 (c_X11_orderOf x p (by omega) (by omega) (by omega) (by omega)) rfl (by decide) (by decide) rfl (Nat.le_of_ble_eq_true rfl) dX11_differ_31 (fun z26 x25 p28 => ?_)
        obtain ⟨p29, f30⟩ := p28
        obtain ⟨n31, i32⟩ := OrN_ex (show isOr z26 by unfold isOr; omega)
        have h_z26 := OrN_b i32
        refine fr_astore (L' := [(0, vr G 0), (1, vi p), (2, vi u), (3, vi v), (4, vr G z26)]) h dX11_differ_34 (by decide) [1, 2, 3, 4, 0] rfl ?_
        refine fr_iload_n h rfl 2 rfl dX11_differ_36 ?_
        refine fr_aload h 4 rfl dX11_differ_37 ?_
        refine fr_cvI h kX6 (Or_at (OrN_is i32)) wX6_size lX11_214 (c_X6_size x25 z26 n31 i32) rfl (by decide) (by decide) rfl (Nat.le_of_ble_eq_true rfl) dX11_differ_39 (fun z34 x33 w35 p36 => ?_)
        obtain ⟨p37, p38, p39, p40, y41⟩ := p36
        rw [y41]
        clear y41
        refine fr_icmp_gt (tgt := 54) h dX11_differ_42 (by decide) (by omega) (by omega) (fun c42 => ?_) (fun c42 => ?_)
        ·
          refine fr_bipush h rfl dX11_differ_54 ?_
          exact fr_iret h hq (by omega) (fun a k0 k1 k2 => (f30 a (by omega) (by omega))) dX11_differ_56
        ·
          refine fr_iload_n h rfl 3 rfl dX11_differ_45 ?_
          refine fr_aload h 4 rfl dX11_differ_46 ?_
          refine fr_cvI h kX6 (Or_at (OrN_is i32)) wX6_size lX11_214 (c_X6_size x25 z26 n31 i32) rfl (by decide) (by decide) rfl (Nat.le_of_ble_eq_true rfl) dX11_differ_48 (fun z44 x43 w45 p46 => ?_)
          obtain ⟨p47, p48, p49, p50, y51⟩ := p46
          rw [y51]
          clear y51
          refine fr_icmp_le (tgt := 57) h dX11_differ_51 (by decide) (by omega) (by omega) (fun c52 => ?_) (fun c52 => ?_)
          ·
            refine fr_aload h 4 rfl dX11_differ_57 ?_
            refine fr_iload_n h rfl 2 rfl dX11_differ_59 ?_
            refine fr_cvL h kX6 (Or_at (OrN_is i32)) wX6_codeAt lX11_251 (c_X6_codeAt x25 z26 n31 i32 u (by omega)) rfl (by decide) (by decide) rfl (Nat.le_of_ble_eq_true rfl) dX11_differ_60 (fun z54 x53 w55 p56 => ?_)
            have y57 := p56
            rw [y57]
            clear y57
            refine fr_aload h 4 rfl dX11_differ_63 ?_
            refine fr_iload_n h rfl 3 rfl dX11_differ_65 ?_
            refine fr_cvL h kX6 (Or_at (OrN_is i32)) wX6_codeAt lX11_251 (c_X6_codeAt x25 z26 n31 i32 v (by omega)) rfl (by decide) (by decide) rfl (Nat.le_of_ble_eq_true rfl) dX11_differ_66 (fun z59 x58 w60 p61 => ?_)
            have y62 := p61
            rw [y62]
            clear y62
            refine fr_csI h wX2_differences lX11_258 (c_X2_differences x25 z54 z59 (by omega) (by omega)) rfl (by decide) (by decide) rfl (Nat.le_of_ble_eq_true rfl) dX11_differ_69 (fun z64 x63 w65 p66 => ?_)
            have y67 := p66
            rw [y67]
            clear y67
            refine fr_istore (L' := [(0, vr G 0), (1, vi p), (2, vi u), (3, vi v), (4, vr G z26), (5, vi z64)]) h dX11_differ_72 (by decide) [1, 2, 3, 4, 5, 0] rfl ?_
            refine fr_aload_n h rfl 0 rfl dX11_differ_74 ?_
            refine fr_getc (z := 107) (iz := 11) h kX11 fX11_77 at_0 rfl rfl rf_0_11 (by omega) dX11_differ_75 ?_
            refine fr_cvV h kX10 at_107 wX10_clear lX11_219 (c_X10_clear x25) rfl (by decide) (by decide) rfl (Nat.le_of_ble_eq_true rfl) dX11_differ_78 (fun x68 p71 => ?_)
            have f72 := p71
            refine fr_iload h 5 rfl dX11_differ_81 ?_
            refine fr_if_eq (tgt := 99) h dX11_differ_83 (by decide) (by omega) (fun c73 => ?_) (fun c73 => ?_)
            ·
              refine fr_iload h 5 rfl dX11_differ_99 ?_
              refine fr_csI h wJ6_bitCount_0f7a4 lX11_246 (c_bitCount x68 z64 (by omega)) rfl (by decide) (by decide) rfl (Nat.le_of_ble_eq_true rfl) dX11_differ_101 (fun z75 x74 w76 p77 => ?_)
              have y78 := p77
              rw [y78]
              clear y78
              exact fr_iret h hq (by omega) (fun a k0 k1 k2 => ((f72 a (by omega)).trans (f30 a (by omega) (by omega)))) dX11_differ_104
            ·
              refine fr_aload_n h rfl 0 rfl dX11_differ_86 ?_
              refine fr_getc (z := 107) (iz := 11) h kX11 fX11_77 at_0 rfl rfl rf_0_11 (by omega) dX11_differ_87 ?_
              refine fr_iload h 5 rfl dX11_differ_90 ?_
              refine fr_csI h wX2_firstOf lX11_262 (c_X2_firstOf x68 z64 (by omega)) rfl (by decide) (by decide) rfl (Nat.le_of_ble_eq_true rfl) dX11_differ_92 (fun z80 x79 w81 p82 => ?_)
              obtain ⟨p83, p84, y85⟩ := p82
              rw [y85]
              clear y85
              refine fr_i2l h (by omega) dX11_differ_95 ?_
              refine fr_cvV h kX10 at_107 wX10_add lX11_223 (c_X10_add x68 z80 (by omega)) rfl (by decide) (by decide) rfl (Nat.le_of_ble_eq_true rfl) dX11_differ_96 (fun x86 p89 => ?_)
              have f90 := p89
              refine fr_iload h 5 rfl dX11_differ_99 ?_
              refine fr_csI h wJ6_bitCount_0f7a4 lX11_246 (c_bitCount x86 z64 (by omega)) rfl (by decide) (by decide) rfl (Nat.le_of_ble_eq_true rfl) dX11_differ_101 (fun z92 x91 w93 p94 => ?_)
              have y95 := p94
              rw [y95]
              clear y95
              exact fr_iret h hq (by omega) (fun a k0 k1 k2 => ((f90 a (by omega)).trans ((f72 a (by omega)).trans (f30 a (by omega) (by omega))))) dX11_differ_104
          ·
            refine fr_bipush h rfl dX11_differ_54 ?_
            exact fr_iret h hq (by omega) (fun a k0 k1 k2 => (f30 a (by omega) (by omega))) dX11_differ_56
      ·
        refine fr_iconst h dX11_differ_27 ?_
        exact fr_iret h hq (by omega) (fun a _ _ _ => rfl) dX11_differ_28
set_option maxHeartbeats 200000 in
theorem c_X11_gap (x : Mm) (p : Int) (k : Int) (h_p : fm_r p) (h_k : fm_r k) (e0 : ((x 0 13 = 110 ∧ x 0 14 = 115) ∨ (x 0 13 = 115 ∧ x 0 14 = 110))) : CnI YC yX11_gap cX11_gap 4 .int 27 917 (fun G => [vr G 0, vi p, vi k]) x (fun z y' => (∀ a : Int, (a < 79 ∨ 93 < a) → (a < 107 ∨ 108 < a) → (a < 110 ∨ 119 < a) → y' a = x a)) := by
  refine cn_I (by decide) (fun _ => Nat.le_of_ble_eq_true rfl) (fun G C h hq => ?_)
  have h : OK YC G C cX11_gap RX11 4 (some .int) 27 917 := h
  show FW YC G C 4 x 0 [(0, vr G 0), (1, vi p), (2, vi k)] []
  obtain ⟨r, hr, er⟩ : ∃ r : Int, isRu r ∧ x 0 13 = r := ⟨x 0 13, by unfold isRu; omega, rfl⟩
  have h_r := Ru_b hr
  obtain ⟨q, hq2, eq⟩ : ∃ q : Int, isRu q ∧ x 0 14 = q := ⟨x 0 14, by unfold isRu; omega, rfl⟩
  have h_q := Ru_b hq2
  refine fr_iload_n h rfl 1 rfl dX11_gap_0 ?_
  refine fr_csI h wX11_isKind lX11_203 (c_X11_isKind x p (by omega)) rfl (by decide) (by decide) rfl (Nat.le_of_ble_eq_true rfl) dX11_gap_1 (fun z2 x1 w3 p4 => ?_)
  obtain ⟨p5, p6, y7⟩ := p4
  rw [y7]
  clear y7
  refine fr_if_eq (tgt := 17) h dX11_gap_4 (by decide) (by omega) (fun c8 => ?_) (fun c8 => ?_)
  ·
    refine fr_iconst h dX11_gap_17 ?_
    exact fr_iret h hq (by omega) (fun a _ _ _ => rfl) dX11_gap_18
  ·
    refine fr_iload_n h rfl 2 rfl dX11_gap_7 ?_
    refine fr_sipush h rfl dX11_gap_8 ?_
    refine fr_csI h wX11_isPlace lX11_206 (c_X11_isPlace x k 399 (by omega) (by omega)) rfl (by decide) (by decide) rfl (Nat.le_of_ble_eq_true rfl) dX11_gap_11 (fun z10 x9 w11 p12 => ?_)
    obtain ⟨p13, p14, y15⟩ := p12
    rw [y15]
    clear y15
    refine fr_if_ne (tgt := 19) h dX11_gap_14 (by decide) (by omega) (fun c16 => ?_) (fun c16 => ?_)
    ·
      refine fr_aload_n h rfl 0 rfl dX11_gap_19 ?_
      refine fr_iload_n h rfl 1 rfl dX11_gap_20 ?_
      refine fr_cvR h kX11 at_0 wX11_orderOf lX11_210 (c_X11_orderOf x p (by omega) (by omega) (by omega) (by omega)) rfl (by decide) (by decide) rfl (Nat.le_of_ble_eq_true rfl) dX11_gap_21 (fun z18 x17 p20 => ?_)
      obtain ⟨p21, f22⟩ := p20
      obtain ⟨n23, i24⟩ := OrN_ex (show isOr z18 by unfold isOr; omega)
      have h_z18 := OrN_b i24
      refine fr_astore_n (L' := [(0, vr G 0), (1, vi p), (2, vi k), (3, vr G z18)]) h rfl dX11_gap_24 (by decide) [1, 2, 3, 0] rfl ?_
      refine fr_iload_n h rfl 2 rfl dX11_gap_25 ?_
      refine fr_iconst h dX11_gap_26 ?_
      refine fr_iadd h dX11_gap_27 ?_
      refine fr_normi (fun z25 w26 q27 => ?_)
      have w28 : fm_r ((k + 1)) → z25 = (k + 1) := fun q => (iI_inj q w26 q27).symm
      refine fr_aload_n h rfl 3 rfl dX11_gap_28 ?_
      refine fr_cvI h kX6 (Or_at (OrN_is i24)) wX6_size lX11_214 (c_X6_size x17 z18 n23 i24) rfl (by decide) (by decide) rfl (Nat.le_of_ble_eq_true rfl) dX11_gap_29 (fun z30 x29 w31 p32 => ?_)
      obtain ⟨p33, p34, p35, p36, y37⟩ := p32
      rw [y37]
      clear y37
      refine fr_icmp_le (tgt := 38) h dX11_gap_32 (by decide) (by omega) (by omega) (fun c38 => ?_) (fun c38 => ?_)
      ·
        refine fr_aload_n h rfl 0 rfl dX11_gap_38 ?_
        refine fr_getc (z := 107) (iz := 11) h kX11 fX11_77 at_0 rfl rfl rf_0_11 (by omega) dX11_gap_39 ?_
        refine fr_aload_n h rfl 3 rfl dX11_gap_42 ?_
        refine fr_iload_n h rfl 2 rfl dX11_gap_43 ?_
        refine fr_iconst h dX11_gap_44 ?_
        refine fr_iadd h dX11_gap_45 ?_
        refine fr_normi (fun z39 w40 q41 => ?_)
        have w42 : fm_r ((k + 1)) → z39 = (k + 1) := fun q => (iI_inj q w40 q41).symm
        refine fr_cvI h kX6 (Or_at (OrN_is i24)) wX6_costAt lX11_220 (c_X6_costAt x17 z18 n23 i24 z39 (by omega)) rfl (by decide) (by decide) rfl (Nat.le_of_ble_eq_true rfl) dX11_gap_46 (fun z44 x43 w45 p46 => ?_)
        have y47 := p46
        rw [y47]
        clear y47
        refine fr_i2l h (by omega) dX11_gap_49 ?_
        refine fr_aload_n h rfl 3 rfl dX11_gap_50 ?_
        refine fr_iload_n h rfl 2 rfl dX11_gap_51 ?_
        refine fr_cvI h kX6 (Or_at (OrN_is i24)) wX6_costAt lX11_220 (c_X6_costAt x17 z18 n23 i24 k (by omega)) rfl (by decide) (by decide) rfl (Nat.le_of_ble_eq_true rfl) dX11_gap_52 (fun z49 x48 w50 p51 => ?_)
        have y52 := p51
        rw [y52]
        clear y52
        refine fr_i2l h (by omega) dX11_gap_55 ?_
        refine fr_lsub h dX11_gap_56 ?_
        refine fr_norml (fun z53 w54 q55 => ?_)
        have w56 : fm_l (z44 - z49) → z53 = (z44 - z49) := fun q => (lI_inj q w54 q55).symm
        refine fr_cvV h kX10 at_107 wX10_only lX11_192 (c_X10_only x17 z53 (by omega)) rfl (by decide) (by decide) rfl (Nat.le_of_ble_eq_true rfl) dX11_gap_57 (fun x57 p60 => ?_)
        have f61 := p60
        refine fr_iconst h dX11_gap_60 ?_
        exact fr_iret h hq (by omega) (fun a k0 k1 k2 => ((f61 a (by omega)).trans (f22 a (by omega) (by omega)))) dX11_gap_61
      ·
        refine fr_bipush h rfl dX11_gap_35 ?_
        exact fr_iret h hq (by omega) (fun a k0 k1 k2 => (f22 a (by omega) (by omega))) dX11_gap_37
    ·
      refine fr_iconst h dX11_gap_17 ?_
      exact fr_iret h hq (by omega) (fun a _ _ _ => rfl) dX11_gap_18
set_option maxHeartbeats 200000 in
theorem c_X11_opens (x : Mm) (c : Int) (k : Int) (h_c : fm_r c) (h_k : fm_r k) (e0 : ((x 0 13 = 110 ∧ x 0 14 = 115) ∨ (x 0 13 = 115 ∧ x 0 14 = 110))) : CnI YC yX11_opens cX11_opens 3 .int 27 917 (fun G => [vr G 0, vi c, vi k]) x (fun z y' => (∀ a : Int, (a < 79 ∨ 93 < a) → (a < 95 ∨ 97 < a) → (a < 110 ∨ 119 < a) → y' a = x a)) := by
  refine cn_I (by decide) (fun _ => Nat.le_of_ble_eq_true rfl) (fun G C h hq => ?_)
  have h : OK YC G C cX11_opens RX11 3 (some .int) 27 917 := h
  show FW YC G C 3 x 0 [(0, vr G 0), (1, vi c), (2, vi k)] []
  obtain ⟨r, hr, er⟩ : ∃ r : Int, isRu r ∧ x 0 13 = r := ⟨x 0 13, by unfold isRu; omega, rfl⟩
  have h_r := Ru_b hr
  obtain ⟨q, hq2, eq⟩ : ∃ q : Int, isRu q ∧ x 0 14 = q := ⟨x 0 14, by unfold isRu; omega, rfl⟩
  have h_q := Ru_b hq2
  refine fr_iload_n h rfl 1 rfl dX11_opens_0 ?_
  refine fr_if_lt (tgt := 16) h dX11_opens_1 (by decide) (by omega) (fun c1 => ?_) (fun c1 => ?_)
  ·
    refine fr_iconst h dX11_opens_16 ?_
    exact fr_iret h hq (by omega) (fun a _ _ _ => rfl) dX11_opens_17
  ·
    refine fr_iload_n h rfl 1 rfl dX11_opens_4 ?_
    refine fr_iconst h dX11_opens_5 ?_
    refine fr_icmp_ge (tgt := 16) h dX11_opens_6 (by decide) (by omega) (by omega) (fun c2 => ?_) (fun c2 => ?_)
    ·
      refine fr_iconst h dX11_opens_16 ?_
      exact fr_iret h hq (by omega) (fun a _ _ _ => rfl) dX11_opens_17
    ·
      refine fr_iload_n h rfl 2 rfl dX11_opens_9 ?_
      refine fr_csI h wX11_isKind lX11_203 (c_X11_isKind x k (by omega)) rfl (by decide) (by decide) rfl (Nat.le_of_ble_eq_true rfl) dX11_opens_10 (fun z4 x3 w5 p6 => ?_)
      obtain ⟨p7, p8, y9⟩ := p6
      rw [y9]
      clear y9
      refine fr_if_ne (tgt := 18) h dX11_opens_13 (by decide) (by omega) (fun c10 => ?_) (fun c10 => ?_)
      ·
        refine fr_aload_n h rfl 0 rfl dX11_opens_18 ?_
        refine fr_getc (z := 94) (iz := 9) h kX11 fX11_63 at_0 rfl rfl rf_0_9 (by omega) dX11_opens_19 ?_
        refine fr_iload_n h rfl 1 rfl dX11_opens_22 ?_
        refine fr_aaldc7 h ar_94 (by omega) (by omega) (rx_94 (by omega) (by omega)) (by omega) dX11_opens_23 (fun q11 w12 => ?_)
        have i13 : isCu q11 := by rw [w12]; exact Cu_ix94 (by omega) (by omega)
        have h_q11 := Cu_b i13
        refine fr_iload_n h rfl 2 rfl dX11_opens_24 ?_
        refine fr_cvV h kX3 (Cu_at i13) wX3_open lX11_265 (c_X3_open x q11 i13 k (by omega) (by omega) (by omega)) rfl (by decide) (by decide) rfl (Nat.le_of_ble_eq_true rfl) dX11_opens_25 (fun x14 p17 => ?_)
        have f18 := p17
        refine fr_aload_n h rfl 0 rfl dX11_opens_28 ?_
        refine fr_iload_n h rfl 2 rfl dX11_opens_29 ?_
        have r19 := (congrFun (f18 0 (by omega)) 13)
        have r20 := (congrFun (f18 0 (by omega)) 14)
        have r21 := (congrFun (f18 0 (by omega)) 13)
        have r22 := (congrFun (f18 0 (by omega)) 14)
        refine fr_cvR h kX11 at_0 wX11_orderOf lX11_210 (c_X11_orderOf x14 k (by omega) (by omega) (by omega) (by omega)) rfl (by decide) (by decide) rfl (Nat.le_of_ble_eq_true rfl) dX11_opens_30 (fun z24 x23 p26 => ?_)
        obtain ⟨p27, f28⟩ := p26
        obtain ⟨n29, i30⟩ := OrN_ex (show isOr z24 by unfold isOr; omega)
        have h_z24 := OrN_b i30
        refine fr_cvI h kX6 (Or_at (OrN_is i30)) wX6_size lX11_214 (c_X6_size x23 z24 n29 i30) rfl (by decide) (by decide) rfl (Nat.le_of_ble_eq_true rfl) dX11_opens_33 (fun z32 x31 w33 p34 => ?_)
        obtain ⟨p35, p36, p37, p38, y39⟩ := p34
        rw [y39]
        clear y39
        exact fr_iret h hq (by omega) (fun a k0 k1 k2 => ((f28 a (by omega) (by omega)).trans (f18 a (by omega)))) dX11_opens_36
      ·
        refine fr_iconst h dX11_opens_16 ?_
        exact fr_iret h hq (by omega) (fun a _ _ _ => rfl) dX11_opens_17
set_option maxHeartbeats 200000 in
theorem c_X11_goes (x : Mm) (c : Int) (h_c : fm_r c) (e0 : ((x 0 13 = 110 ∧ x 0 14 = 115) ∨ (x 0 13 = 115 ∧ x 0 14 = 110))) : CnI YC yX11_goes cX11_goes 4 .int 27 917 (fun G => [vr G 0, vi c]) x (fun z y' => (∀ a : Int, (a < 79 ∨ 93 < a) → (a < 95 ∨ 97 < a) → (a < 107 ∨ 108 < a) → (a < 110 ∨ 119 < a) → y' a = x a)) := by
  refine cn_I (by decide) (fun _ => Nat.le_of_ble_eq_true rfl) (fun G C h hq => ?_)
  have h : OK YC G C cX11_goes RX11 4 (some .int) 27 917 := h
  show FW YC G C 4 x 0 [(0, vr G 0), (1, vi c)] []
  obtain ⟨r, hr, er⟩ : ∃ r : Int, isRu r ∧ x 0 13 = r := ⟨x 0 13, by unfold isRu; omega, rfl⟩
  have h_r := Ru_b hr
  obtain ⟨q, hq2, eq⟩ : ∃ q : Int, isRu q ∧ x 0 14 = q := ⟨x 0 14, by unfold isRu; omega, rfl⟩
  have h_q := Ru_b hq2
  refine fr_iload_n h rfl 1 rfl dX11_goes_0 ?_
  refine fr_if_lt (tgt := 9) h dX11_goes_1 (by decide) (by omega) (fun c1 => ?_) (fun c1 => ?_)
  ·
    refine fr_iconst h dX11_goes_9 ?_
    exact fr_iret h hq (by omega) (fun a _ _ _ _ => rfl) dX11_goes_10
  ·
    refine fr_iload_n h rfl 1 rfl dX11_goes_4 ?_
    refine fr_iconst h dX11_goes_5 ?_
    refine fr_icmp_lt (tgt := 11) h dX11_goes_6 (by decide) (by omega) (by omega) (fun c2 => ?_) (fun c2 => ?_)
    ·
      refine fr_aload_n h rfl 0 rfl dX11_goes_11 ?_
      refine fr_getc (z := 94) (iz := 9) h kX11 fX11_63 at_0 rfl rfl rf_0_9 (by omega) dX11_goes_12 ?_
      refine fr_iload_n h rfl 1 rfl dX11_goes_15 ?_
      refine fr_aaldc7 h ar_94 (by omega) (by omega) (rx_94 (by omega) (by omega)) (by omega) dX11_goes_16 (fun q3 w4 => ?_)
      have i5 : isCu q3 := by rw [w4]; exact Cu_ix94 (by omega) (by omega)
      have h_q3 := Cu_b i5
      refine fr_astore_n (L' := [(0, vr G 0), (1, vi c), (2, vr G q3)]) h rfl dX11_goes_17 (by decide) [1, 2, 0] rfl ?_
      refine fr_aload_n h rfl 2 rfl dX11_goes_18 ?_
      refine fr_cvI h kX3 (Cu_at i5) wX3_isUsable lX11_268 (c_X3_isUsable x q3 i5) rfl (by decide) (by decide) rfl (Nat.le_of_ble_eq_true rfl) dX11_goes_19 (fun z7 x6 w8 p9 => ?_)
      obtain ⟨p10, y11⟩ := p9
      rw [y11]
      clear y11
      refine fr_if_ne (tgt := 30) h dX11_goes_22 (by decide) (by omega) (fun c12 => ?_) (fun c12 => ?_)
      ·
        refine fr_aload_n h rfl 0 rfl dX11_goes_30 ?_
        refine fr_aload_n h rfl 2 rfl dX11_goes_31 ?_
        refine fr_cvI h kX3 (Cu_at i5) wX3_kind lX11_274 (c_X3_kind x q3 i5) rfl (by decide) (by decide) rfl (Nat.le_of_ble_eq_true rfl) dX11_goes_32 (fun z14 x13 w15 p16 => ?_)
        obtain ⟨p17, p18, y19⟩ := p16
        rw [y19]
        clear y19
        refine fr_cvR h kX11 at_0 wX11_orderOf lX11_210 (c_X11_orderOf x z14 (by omega) (by omega) (by omega) (by omega)) rfl (by decide) (by decide) rfl (Nat.le_of_ble_eq_true rfl) dX11_goes_35 (fun z21 x20 p23 => ?_)
        obtain ⟨p24, f25⟩ := p23
        obtain ⟨n26, i27⟩ := OrN_ex (show isOr z21 by unfold isOr; omega)
        have h_z21 := OrN_b i27
        refine fr_astore_n (L' := [(0, vr G 0), (1, vi c), (2, vr G q3), (3, vr G z21)]) h rfl dX11_goes_38 (by decide) [1, 2, 3, 0] rfl ?_
        refine fr_aload_n h rfl 2 rfl dX11_goes_39 ?_
        refine fr_cvI h kX3 (Cu_at i5) wX3_passed lX11_277 (c_X3_passed x20 q3 i5) rfl (by decide) (by decide) rfl (Nat.le_of_ble_eq_true rfl) dX11_goes_40 (fun z29 x28 w30 p31 => ?_)
        obtain ⟨p32, p33, p34, y35⟩ := p31
        rw [y35]
        clear y35
        refine fr_aload_n h rfl 3 rfl dX11_goes_43 ?_
        refine fr_cvI h kX6 (Or_at (OrN_is i27)) wX6_size lX11_214 (c_X6_size x20 z21 n26 i27) rfl (by decide) (by decide) rfl (Nat.le_of_ble_eq_true rfl) dX11_goes_44 (fun z37 x36 w38 p39 => ?_)
        obtain ⟨p40, p41, p42, p43, y44⟩ := p39
        rw [y44]
        clear y44
        refine fr_icmp_lt (tgt := 53) h dX11_goes_47 (by decide) (by omega) (by omega) (fun c45 => ?_) (fun c45 => ?_)
        ·
          refine fr_aload_n h rfl 2 rfl dX11_goes_53 ?_
          refine fr_iconst h dX11_goes_54 ?_
          refine fr_aload_n h rfl 3 rfl dX11_goes_55 ?_
          refine fr_cvI h kX6 (Or_at (OrN_is i27)) wX6_size lX11_214 (c_X6_size x20 z21 n26 i27) rfl (by decide) (by decide) rfl (Nat.le_of_ble_eq_true rfl) dX11_goes_56 (fun z47 x46 w48 p49 => ?_)
          obtain ⟨p50, p51, p52, p53, y54⟩ := p49
          rw [y54]
          clear y54
          refine fr_cvV h kX3 (Cu_at i5) wX3_move lX11_280 (c_X3_move x20 q3 i5 1 z47 (by omega) (by omega) (by omega) (by omega) (by omega) (by omega)) rfl (by decide) (by decide) rfl (Nat.le_of_ble_eq_true rfl) dX11_goes_59 (fun x55 p58 => ?_)
          obtain ⟨p59, f60⟩ := p58
          refine fr_aload_n h rfl 0 rfl dX11_goes_62 ?_
          refine fr_aload_n h rfl 3 rfl dX11_goes_63 ?_
          refine fr_aload_n h rfl 2 rfl dX11_goes_64 ?_
          refine fr_cvI h kX3 (Cu_at i5) wX3_passed lX11_277 (c_X3_passed x55 q3 i5) rfl (by decide) (by decide) rfl (Nat.le_of_ble_eq_true rfl) dX11_goes_65 (fun z62 x61 w63 p64 => ?_)
          obtain ⟨p65, p66, p67, y68⟩ := p64
          rw [y68]
          clear y68
          refine fr_cvI h kX11 at_0 wX11_tellOne lX11_215 (c_X11_tellOne x55 z21 n26 i27 z62 (by omega)) rfl (by decide) (by decide) rfl (Nat.le_of_ble_eq_true rfl) dX11_goes_68 (fun z70 x69 w71 p72 => ?_)
          obtain ⟨p73, p74, f75⟩ := p72
          exact fr_iret h hq (by omega) (fun a k0 k1 k2 k3 => ((f75 a (by omega)).trans ((f60 a (by omega)).trans (f25 a (by omega) (by omega))))) dX11_goes_71
        ·
          refine fr_bipush h rfl dX11_goes_50 ?_
          exact fr_iret h hq (by omega) (fun a k0 k1 k2 k3 => (f25 a (by omega) (by omega))) dX11_goes_52
      ·
        refine fr_aload_n h rfl 2 rfl dX11_goes_25 ?_
        refine fr_cvI h kX3 (Cu_at i5) wX3_refusal lX11_271 (c_X3_refusal x q3 i5) rfl (by decide) (by decide) rfl (Nat.le_of_ble_eq_true rfl) dX11_goes_26 (fun z77 x76 w78 p79 => ?_)
        obtain ⟨p80, p81, y82⟩ := p79
        rw [y82]
        clear y82
        exact fr_iret h hq (by omega) (fun a _ _ _ _ => rfl) dX11_goes_29
    ·
      refine fr_iconst h dX11_goes_9 ?_
      exact fr_iret h hq (by omega) (fun a _ _ _ _ => rfl) dX11_goes_10
set_option maxHeartbeats 200000 in
theorem c_X11_skips (x : Mm) (c : Int) (n : Int) (h_c : fm_r c) (h_n : fm_r n) (e0 : ((x 0 13 = 110 ∧ x 0 14 = 115) ∨ (x 0 13 = 115 ∧ x 0 14 = 110))) : CnI YC yX11_skips cX11_skips 5 .int 27 917 (fun G => [vr G 0, vi c, vi n]) x (fun z y' => (∀ a : Int, (a < 79 ∨ 93 < a) → (a < 95 ∨ 97 < a) → (a < 110 ∨ 119 < a) → y' a = x a)) := by
  refine cn_I (by decide) (fun _ => Nat.le_of_ble_eq_true rfl) (fun G C h hq => ?_)
  have h : OK YC G C cX11_skips RX11 5 (some .int) 27 917 := h
  show FW YC G C 5 x 0 [(0, vr G 0), (1, vi c), (2, vi n)] []
  obtain ⟨r, hr, er⟩ : ∃ r : Int, isRu r ∧ x 0 13 = r := ⟨x 0 13, by unfold isRu; omega, rfl⟩
  have h_r := Ru_b hr
  obtain ⟨q, hq2, eq⟩ : ∃ q : Int, isRu q ∧ x 0 14 = q := ⟨x 0 14, by unfold isRu; omega, rfl⟩
  have h_q := Ru_b hq2
  refine fr_iload_n h rfl 1 rfl dX11_skips_0 ?_
  refine fr_if_lt (tgt := 20) h dX11_skips_1 (by decide) (by omega) (fun c1 => ?_) (fun c1 => ?_)
  ·
    refine fr_iconst h dX11_skips_20 ?_
    exact fr_iret h hq (by omega) (fun a _ _ _ => rfl) dX11_skips_21
  ·
    refine fr_iload_n h rfl 1 rfl dX11_skips_4 ?_
    refine fr_iconst h dX11_skips_5 ?_
    refine fr_icmp_ge (tgt := 20) h dX11_skips_6 (by decide) (by omega) (by omega) (fun c2 => ?_) (fun c2 => ?_)
    ·
      refine fr_iconst h dX11_skips_20 ?_
      exact fr_iret h hq (by omega) (fun a _ _ _ => rfl) dX11_skips_21
    ·
      refine fr_iload_n h rfl 2 rfl dX11_skips_9 ?_
      refine fr_if_lt (tgt := 20) h dX11_skips_10 (by decide) (by omega) (fun c3 => ?_) (fun c3 => ?_)
      ·
        refine fr_iconst h dX11_skips_20 ?_
        exact fr_iret h hq (by omega) (fun a _ _ _ => rfl) dX11_skips_21
      ·
        refine fr_iload_n h rfl 2 rfl dX11_skips_13 ?_
        refine fr_sipush h rfl dX11_skips_14 ?_
        refine fr_icmp_le (tgt := 22) h dX11_skips_17 (by decide) (by omega) (by omega) (fun c4 => ?_) (fun c4 => ?_)
        ·
          refine fr_aload_n h rfl 0 rfl dX11_skips_22 ?_
          refine fr_getc (z := 94) (iz := 9) h kX11 fX11_63 at_0 rfl rfl rf_0_9 (by omega) dX11_skips_23 ?_
          refine fr_iload_n h rfl 1 rfl dX11_skips_26 ?_
          refine fr_aaldc7 h ar_94 (by omega) (by omega) (rx_94 (by omega) (by omega)) (by omega) dX11_skips_27 (fun q5 w6 => ?_)
          have i7 : isCu q5 := by rw [w6]; exact Cu_ix94 (by omega) (by omega)
          have h_q5 := Cu_b i7
          refine fr_astore_n (L' := [(0, vr G 0), (1, vi c), (2, vi n), (3, vr G q5)]) h rfl dX11_skips_28 (by decide) [1, 2, 3, 0] rfl ?_
          refine fr_aload_n h rfl 3 rfl dX11_skips_29 ?_
          refine fr_cvI h kX3 (Cu_at i7) wX3_isUsable lX11_268 (c_X3_isUsable x q5 i7) rfl (by decide) (by decide) rfl (Nat.le_of_ble_eq_true rfl) dX11_skips_30 (fun z9 x8 w10 p11 => ?_)
          obtain ⟨p12, y13⟩ := p11
          rw [y13]
          clear y13
          refine fr_if_ne (tgt := 41) h dX11_skips_33 (by decide) (by omega) (fun c14 => ?_) (fun c14 => ?_)
          ·
            refine fr_aload_n h rfl 0 rfl dX11_skips_41 ?_
            refine fr_aload_n h rfl 3 rfl dX11_skips_42 ?_
            refine fr_cvI h kX3 (Cu_at i7) wX3_kind lX11_274 (c_X3_kind x q5 i7) rfl (by decide) (by decide) rfl (Nat.le_of_ble_eq_true rfl) dX11_skips_43 (fun z16 x15 w17 p18 => ?_)
            obtain ⟨p19, p20, y21⟩ := p18
            rw [y21]
            clear y21
            refine fr_cvR h kX11 at_0 wX11_orderOf lX11_210 (c_X11_orderOf x z16 (by omega) (by omega) (by omega) (by omega)) rfl (by decide) (by decide) rfl (Nat.le_of_ble_eq_true rfl) dX11_skips_46 (fun z23 x22 p25 => ?_)
            obtain ⟨p26, f27⟩ := p25
            obtain ⟨n28, i29⟩ := OrN_ex (show isOr z23 by unfold isOr; omega)
            have h_z23 := OrN_b i29
            refine fr_cvI h kX6 (Or_at (OrN_is i29)) wX6_size lX11_214 (c_X6_size x22 z23 n28 i29) rfl (by decide) (by decide) rfl (Nat.le_of_ble_eq_true rfl) dX11_skips_49 (fun z31 x30 w32 p33 => ?_)
            obtain ⟨p34, p35, p36, p37, y38⟩ := p33
            rw [y38]
            clear y38
            refine fr_istore (L' := [(0, vr G 0), (1, vi c), (2, vi n), (3, vr G q5), (4, vi z31)]) h dX11_skips_52 (by decide) [1, 2, 3, 4, 0] rfl ?_
            refine fr_aload_n h rfl 3 rfl dX11_skips_54 ?_
            refine fr_iload_n h rfl 2 rfl dX11_skips_55 ?_
            refine fr_iload h 4 rfl dX11_skips_56 ?_
            refine fr_cvV h kX3 (Cu_at i7) wX3_move lX11_280 (c_X3_move x22 q5 i7 n z31 (by omega) (by omega) (by omega) (by omega) (by omega) (by omega)) rfl (by decide) (by decide) rfl (Nat.le_of_ble_eq_true rfl) dX11_skips_58 (fun x39 p42 => ?_)
            obtain ⟨p43, f44⟩ := p42
            refine fr_iload h 4 rfl dX11_skips_61 ?_
            refine fr_aload_n h rfl 3 rfl dX11_skips_63 ?_
            refine fr_cvI h kX3 (Cu_at i7) wX3_passed lX11_277 (c_X3_passed x39 q5 i7) rfl (by decide) (by decide) rfl (Nat.le_of_ble_eq_true rfl) dX11_skips_64 (fun z46 x45 w47 p48 => ?_)
            obtain ⟨p49, p50, p51, y52⟩ := p48
            rw [y52]
            clear y52
            refine fr_isub h dX11_skips_67 ?_
            exact fr_iret h hq (by omega) (fun a k0 k1 k2 => ((f44 a (by omega)).trans (f27 a (by omega) (by omega)))) dX11_skips_68
          ·
            refine fr_aload_n h rfl 3 rfl dX11_skips_36 ?_
            refine fr_cvI h kX3 (Cu_at i7) wX3_refusal lX11_271 (c_X3_refusal x q5 i7) rfl (by decide) (by decide) rfl (Nat.le_of_ble_eq_true rfl) dX11_skips_37 (fun z54 x53 w55 p56 => ?_)
            obtain ⟨p57, p58, y59⟩ := p56
            rw [y59]
            clear y59
            exact fr_iret h hq (by omega) (fun a _ _ _ => rfl) dX11_skips_40
        ·
          refine fr_iconst h dX11_skips_20 ?_
          exact fr_iret h hq (by omega) (fun a _ _ _ => rfl) dX11_skips_21
set_option maxHeartbeats 200000 in
theorem c_X11_heard (x : Mm) (p : Int) (v : Int) (h_p : fm_r p) (h_v : fm_r v) : CnI YC yX11_heard cX11_heard 3 .int 1 22 (fun G => [vr G 0, vi p, vi v]) x (fun z y' => ((z = (-1) ∧ y' 98 3 = x 98 3 ∧ ¬ (0 ≤ p ∧ p < 5 ∧ 0 ≤ v ∧ ((p = 0 ∧ v ≤ 30) ∨ (p = 3 ∧ v ≤ 8) ∨ (p ≠ 0 ∧ p ≠ 3 ∧ v ≤ 11)) ∧ x 98 3 < 10)) ∨ (z = x 98 3 + 1 ∧ y' 98 3 = x 98 3 + 1 ∧ (0 ≤ p ∧ p < 5 ∧ 0 ≤ v ∧ ((p = 0 ∧ v ≤ 30) ∨ (p = 3 ∧ v ≤ 8) ∨ (p ≠ 0 ∧ p ≠ 3 ∧ v ≤ 11)) ∧ x 98 3 < 10))) ∧ (∀ a : Int, (a < 98 ∨ 106 < a) → y' a = x a)) := by
  refine cn_I (by decide) (fun _ => Nat.le_of_ble_eq_true rfl) (fun G C h hq => ?_)
  have h : OK YC G C cX11_heard RX11 3 (some .int) 1 22 := h
  show FW YC G C 3 x 0 [(0, vr G 0), (1, vi p), (2, vi v)] []
  refine fr_aload_n h rfl 0 rfl dX11_heard_0 ?_
  refine fr_getc (z := 98) (iz := 10) h kX11 fX11_70 at_0 rfl rfl rf_0_10 (by omega) dX11_heard_1 ?_
  refine fr_iload_n h rfl 1 rfl dX11_heard_4 ?_
  refine fr_iload_n h rfl 2 rfl dX11_heard_5 ?_
  refine fr_cvI h kX1 at_98 wX1_add lX11_284 (c_X1_add x p v (by omega) (by omega)) rfl (by decide) (by decide) rfl (Nat.le_of_ble_eq_true rfl) dX11_heard_6 (fun z2 x1 w3 p4 => ?_)
  obtain ⟨p5, p6, p7, p8, f9⟩ := p4
  refine fr_if_eq (tgt := 22) h dX11_heard_9 (by decide) (by omega) (fun c10 => ?_) (fun c10 => ?_)
  ·
    refine fr_iconst h dX11_heard_22 ?_
    exact fr_iret h hq (by omega) ⟨(by omega), (fun a k0 => (f9 a (by omega)))⟩ dX11_heard_23
  ·
    refine fr_aload_n h rfl 0 rfl dX11_heard_12 ?_
    refine fr_getc (z := 98) (iz := 10) h kX11 fX11_70 at_0 rfl rfl rf_0_10 (by omega) dX11_heard_13 ?_
    refine fr_cvI h kX1 at_98 wX1_size lX11_286 (c_X1_size x1) rfl (by decide) (by decide) rfl (Nat.le_of_ble_eq_true rfl) dX11_heard_16 (fun z12 x11 w13 p14 => ?_)
    obtain ⟨p15, p16, p17, y18⟩ := p14
    rw [y18]
    clear y18
    refine fr_goto (tgt := 23) h dX11_heard_19 (by decide) ?_
    exact fr_iret h hq (by omega) ⟨(by omega), (fun a k0 => (f9 a (by omega)))⟩ dX11_heard_23
set_option maxHeartbeats 200000 in
theorem c_X11_forget (x : Mm) : CnI YC yX11_forget cX11_forget 2 .int 1 20 (fun G => [vr G 0]) x (fun z y' => (z = x 98 3) ∧ (y' 98 3 = 0) ∧ (∀ a : Int, (a < 98 ∨ 106 < a) → y' a = x a)) := by
  refine cn_I (by decide) (fun _ => Nat.le_of_ble_eq_true rfl) (fun G C h hq => ?_)
  have h : OK YC G C cX11_forget RX11 2 (some .int) 1 20 := h
  show FW YC G C 2 x 0 [(0, vr G 0)] []
  refine fr_aload_n h rfl 0 rfl dX11_forget_0 ?_
  refine fr_getc (z := 98) (iz := 10) h kX11 fX11_70 at_0 rfl rfl rf_0_10 (by omega) dX11_forget_1 ?_
  refine fr_cvI h kX1 at_98 wX1_size lX11_286 (c_X1_size x) rfl (by decide) (by decide) rfl (Nat.le_of_ble_eq_true rfl) dX11_forget_4 (fun z2 x1 w3 p4 => ?_)
  obtain ⟨p5, p6, p7, y8⟩ := p4
  rw [y8]
  clear y8
  refine fr_istore_n (L' := [(0, vr G 0), (1, vi z2)]) h rfl dX11_forget_7 (by decide) [1, 0] rfl ?_
  refine fr_aload_n h rfl 0 rfl dX11_forget_8 ?_
  refine fr_getc (z := 98) (iz := 10) h kX11 fX11_70 at_0 rfl rfl rf_0_10 (by omega) dX11_forget_9 ?_
  refine fr_cvV h kX1 at_98 wX1_clear lX11_287 (c_X1_clear x) rfl (by decide) (by decide) rfl (Nat.le_of_ble_eq_true rfl) dX11_forget_12 (fun x9 p12 => ?_)
  obtain ⟨p13, f14⟩ := p12
  refine fr_iload_n h rfl 1 rfl dX11_forget_15 ?_
  exact fr_iret h hq (by omega) ⟨(by omega), (by omega), (fun a k0 => (f14 a (by omega)))⟩ dX11_forget_16
set_option maxHeartbeats 200000 in
theorem c_X11_fits (x : Mm) (p : Int) (h_p : fm_r p) (e0 : ((x 0 13 = 110 ∧ x 0 14 = 115) ∨ (x 0 13 = 115 ∧ x 0 14 = 110))) : CnI YC yX11_fits cX11_fits 6 .int 27 917 (fun G => [vr G 0, vi p]) x (fun z y' => (∀ a : Int, (a < 79 ∨ 93 < a) → (a < 107 ∨ 108 < a) → (a < 110 ∨ 119 < a) → y' a = x a)) := by
  refine cn_I (by decide) (fun _ => Nat.le_of_ble_eq_true rfl) (fun G C h hq => ?_)
  have h : OK YC G C cX11_fits RX11 6 (some .int) 27 917 := h
  show FW YC G C 6 x 0 [(0, vr G 0), (1, vi p)] []
  obtain ⟨r, hr, er⟩ : ∃ r : Int, isRu r ∧ x 0 13 = r := ⟨x 0 13, by unfold isRu; omega, rfl⟩
  have h_r := Ru_b hr
  obtain ⟨q, hq2, eq⟩ : ∃ q : Int, isRu q ∧ x 0 14 = q := ⟨x 0 14, by unfold isRu; omega, rfl⟩
  have h_q := Ru_b hq2
  refine fr_iload_n h rfl 1 rfl dX11_fits_0 ?_
  refine fr_csI h wX11_isKind lX11_203 (c_X11_isKind x p (by omega)) rfl (by decide) (by decide) rfl (Nat.le_of_ble_eq_true rfl) dX11_fits_1 (fun z2 x1 w3 p4 => ?_)
  obtain ⟨p5, p6, y7⟩ := p4
  rw [y7]
  clear y7
  refine fr_if_ne (tgt := 9) h dX11_fits_4 (by decide) (by omega) (fun c8 => ?_) (fun c8 => ?_)
  ·
    refine fr_aload_n h rfl 0 rfl dX11_fits_9 ?_
    refine fr_iload_n h rfl 1 rfl dX11_fits_10 ?_
    refine fr_cvR h kX11 at_0 wX11_orderOf lX11_210 (c_X11_orderOf x p (by omega) (by omega) (by omega) (by omega)) rfl (by decide) (by decide) rfl (Nat.le_of_ble_eq_true rfl) dX11_fits_11 (fun z10 x9 p12 => ?_)
    obtain ⟨p13, f14⟩ := p12
    obtain ⟨n15, i16⟩ := OrN_ex (show isOr z10 by unfold isOr; omega)
    have h_z10 := OrN_b i16
    refine fr_astore_n (L' := [(0, vr G 0), (1, vi p), (2, vr G z10)]) h rfl dX11_fits_14 (by decide) [1, 2, 0] rfl ?_
    refine fr_iconst h dX11_fits_15 ?_
    refine fr_istore_n (L' := [(0, vr G 0), (1, vi p), (2, vr G z10), (3, vi 0)]) h rfl dX11_fits_16 (by decide) [1, 2, 3, 0] rfl ?_
    refine fr_iconst h dX11_fits_17 ?_
    refine fr_istore (L' := [(0, vr G 0), (1, vi p), (2, vr G z10), (3, vi 0), (4, vi 0)]) h dX11_fits_18 (by decide) [1, 2, 3, 4, 0] rfl ?_
    refine fr_iconst h dX11_fits_20 ?_
    refine fr_istore (L' := [(0, vr G 0), (1, vi p), (2, vr G z10), (3, vi 0), (4, vi 0), (5, vi 1)]) h dX11_fits_21 (by decide) [1, 2, 3, 4, 5, 0] rfl ?_
    have HL17 : ∀ (n17 : Nat) (l3_17 l4_17 l5_17 : Int), fm_r l3_17 → 0 ≤ l3_17 → l3_17 ≤ 1297 → fm_r l4_17 → 0 ≤ l4_17 → l4_17 ≤ 1297 → fm_r l5_17 → 1 ≤ l5_17 → l5_17 ≤ 1297 → 1 ≤ l5_17 → l4_17 < l5_17 → (1297 - l5_17) < n17 → FW YC G C 6 x9 23 [(0, vr G 0), (1, vi p), (2, vr G z10), (3, vi l3_17), (4, vi l4_17), (5, vi l5_17)] [] := by
      intro n17
      induction n17 with
      | zero =>
        intro l3_17 l4_17 l5_17 g17_0 g17_1 g17_2 g17_3 g17_4 g17_5 g17_6 g17_7 g17_8 g17_9 g17_10 g17_11
        exfalso; omega
      | succ n17 ih17 =>
        intro l3_17 l4_17 l5_17 g17_0 g17_1 g17_2 g17_3 g17_4 g17_5 g17_6 g17_7 g17_8 g17_9 g17_10 g17_11
        refine fr_iload h 5 rfl dX11_fits_23 ?_
        refine fr_aload_n h rfl 2 rfl dX11_fits_25 ?_
        refine fr_cvI h kX6 (Or_at (OrN_is i16)) wX6_size lX11_214 (c_X6_size x9 z10 n15 i16) rfl (by decide) (by decide) rfl (Nat.le_of_ble_eq_true rfl) dX11_fits_26 (fun z19 x18 w20 p21 => ?_)
        obtain ⟨p22, p23, p24, p25, y26⟩ := p21
        rw [y26]
        clear y26
        refine fr_icmp_gt (tgt := 75) h dX11_fits_29 (by decide) (by omega) (by omega) (fun c27 => ?_) (fun c27 => ?_)
        ·
          refine fr_aload_n h rfl 0 rfl dX11_fits_75 ?_
          refine fr_getc (z := 107) (iz := 11) h kX11 fX11_77 at_0 rfl rfl rf_0_11 (by omega) dX11_fits_76 ?_
          refine fr_cvV h kX10 at_107 wX10_clear lX11_219 (c_X10_clear x9) rfl (by decide) (by decide) rfl (Nat.le_of_ble_eq_true rfl) dX11_fits_79 (fun x28 p31 => ?_)
          have f32 := p31
          refine fr_iload h 4 rfl dX11_fits_82 ?_
          refine fr_if_le (tgt := 96) h dX11_fits_84 (by decide) (by omega) (fun c33 => ?_) (fun c33 => ?_)
          ·
            refine fr_iload h 4 rfl dX11_fits_96 ?_
            exact fr_iret h hq (by omega) (fun a k0 k1 k2 => ((f32 a (by omega)).trans (f14 a (by omega) (by omega)))) dX11_fits_98
          ·
            refine fr_aload_n h rfl 0 rfl dX11_fits_87 ?_
            refine fr_getc (z := 107) (iz := 11) h kX11 fX11_77 at_0 rfl rfl rf_0_11 (by omega) dX11_fits_88 ?_
            refine fr_iload_n h rfl 3 rfl dX11_fits_91 ?_
            refine fr_i2l h (by omega) dX11_fits_92 ?_
            refine fr_cvV h kX10 at_107 wX10_add lX11_223 (c_X10_add x28 l3_17 (by omega)) rfl (by decide) (by decide) rfl (Nat.le_of_ble_eq_true rfl) dX11_fits_93 (fun x34 p37 => ?_)
            have f38 := p37
            refine fr_iload h 4 rfl dX11_fits_96 ?_
            exact fr_iret h hq (by omega) (fun a k0 k1 k2 => ((f38 a (by omega)).trans ((f32 a (by omega)).trans (f14 a (by omega) (by omega))))) dX11_fits_98
        ·
          refine fr_aload_n h rfl 0 rfl dX11_fits_32 ?_
          refine fr_getc (z := 98) (iz := 10) h kX11 fX11_70 at_0 rfl rfl rf_0_10 (by omega) dX11_fits_33 ?_
          refine fr_aload_n h rfl 2 rfl dX11_fits_36 ?_
          refine fr_iload h 5 rfl dX11_fits_37 ?_
          refine fr_cvI h kX6 (Or_at (OrN_is i16)) wX6_costAt lX11_220 (c_X6_costAt x9 z10 n15 i16 l5_17 (by omega)) rfl (by decide) (by decide) rfl (Nat.le_of_ble_eq_true rfl) dX11_fits_39 (fun z40 x39 w41 p42 => ?_)
          have y43 := p42
          rw [y43]
          clear y43
          refine fr_aload_n h rfl 2 rfl dX11_fits_42 ?_
          refine fr_iload h 5 rfl dX11_fits_43 ?_
          refine fr_cvL h kX6 (Or_at (OrN_is i16)) wX6_codeAt lX11_251 (c_X6_codeAt x9 z10 n15 i16 l5_17 (by omega)) rfl (by decide) (by decide) rfl (Nat.le_of_ble_eq_true rfl) dX11_fits_45 (fun z45 x44 w46 p47 => ?_)
          have y48 := p47
          rw [y48]
          clear y48
          refine fr_cvI h kX1 at_98 wX1_allow lX11_288 (c_X1_allow x9 z40 z45 (by omega) (by omega)) rfl (by decide) (by decide) rfl (Nat.le_of_ble_eq_true rfl) dX11_fits_48 (fun z50 x49 w51 p52 => ?_)
          obtain ⟨p53, y54⟩ := p52
          rw [y54]
          clear y54
          refine fr_if_eq (tgt := 69) h dX11_fits_51 (by decide) (by omega) (fun c55 => ?_) (fun c55 => ?_)
          ·
            refine fr_iinc (j := 5) (L' := [(0, vr G 0), (1, vi p), (2, vr G z10), (3, vi l3_17), (4, vi l4_17), (5, vi (l5_17 + 1))]) h dX11_fits_69 rfl (by decide) [1, 2, 3, 4, 5, 0] rfl ?_
            refine fr_goto (tgt := 23) h dX11_fits_72 (by decide) ?_
            exact ih17 l3_17 l4_17 (l5_17 + 1) (by omega) (by omega) (by omega) (by omega) (by omega) (by omega) (by omega) (by omega) (by omega) (by omega) (by omega) (by omega)
          ·
            refine fr_iload h 4 rfl dX11_fits_54 ?_
            refine fr_if_ne (tgt := 64) h dX11_fits_56 (by decide) (by omega) (fun c56 => ?_) (fun c56 => ?_)
            ·
              refine fr_iload_n h rfl 3 rfl dX11_fits_64 ?_
              refine fr_istore_n (L' := [(0, vr G 0), (1, vi p), (2, vr G z10), (3, vi l3_17), (4, vi l4_17), (5, vi l5_17)]) h rfl dX11_fits_65 (by decide) [1, 2, 3, 0, 4, 5] rfl ?_
              refine fr_iinc (j := 4) (L' := [(0, vr G 0), (1, vi p), (2, vr G z10), (3, vi l3_17), (4, vi (l4_17 + 1)), (5, vi l5_17)]) h dX11_fits_66 rfl (by decide) [1, 2, 3, 4, 0, 5] rfl ?_
              refine fr_iinc (j := 5) (L' := [(0, vr G 0), (1, vi p), (2, vr G z10), (3, vi l3_17), (4, vi (l4_17 + 1)), (5, vi (l5_17 + 1))]) h dX11_fits_69 rfl (by decide) [1, 2, 3, 4, 5, 0] rfl ?_
              refine fr_goto (tgt := 23) h dX11_fits_72 (by decide) ?_
              exact ih17 l3_17 (l4_17 + 1) (l5_17 + 1) (by omega) (by omega) (by omega) (by omega) (by omega) (by omega) (by omega) (by omega) (by omega) (by omega) (by omega) (by omega)
            ·
              refine fr_iload h 5 rfl dX11_fits_59 ?_
              refine fr_goto (tgt := 65) h dX11_fits_61 (by decide) ?_
              refine fr_istore_n (L' := [(0, vr G 0), (1, vi p), (2, vr G z10), (3, vi l5_17), (4, vi l4_17), (5, vi l5_17)]) h rfl dX11_fits_65 (by decide) [1, 2, 3, 0, 4, 5] rfl ?_
              refine fr_iinc (j := 4) (L' := [(0, vr G 0), (1, vi p), (2, vr G z10), (3, vi l5_17), (4, vi (l4_17 + 1)), (5, vi l5_17)]) h dX11_fits_66 rfl (by decide) [1, 2, 3, 4, 0, 5] rfl ?_
              refine fr_iinc (j := 5) (L' := [(0, vr G 0), (1, vi p), (2, vr G z10), (3, vi l5_17), (4, vi (l4_17 + 1)), (5, vi (l5_17 + 1))]) h dX11_fits_69 rfl (by decide) [1, 2, 3, 4, 5, 0] rfl ?_
              refine fr_goto (tgt := 23) h dX11_fits_72 (by decide) ?_
              exact ih17 l5_17 (l4_17 + 1) (l5_17 + 1) (by omega) (by omega) (by omega) (by omega) (by omega) (by omega) (by omega) (by omega) (by omega) (by omega) (by omega) (by omega)
    exact HL17 ((1297 - 1) + 1 : Int).toNat 0 0 1 (by omega) (by omega) (by omega) (by omega) (by omega) (by omega) (by omega) (by omega) (by omega) (by omega) (by omega) (by omega)
  ·
    refine fr_iconst h dX11_fits_7 ?_
    exact fr_iret h hq (by omega) (fun a _ _ _ => rfl) dX11_fits_8
set_option maxHeartbeats 200000 in
theorem c_X11_asks (x : Mm) (p : Int) (h_p : fm_r p) (e0 : ((x 0 13 = 110 ∧ x 0 14 = 115) ∨ (x 0 13 = 115 ∧ x 0 14 = 110))) : CnI YC yX11_asks cX11_asks 4 .int 27 917 (fun G => [vr G 0, vi p]) x (fun z y' => (y' 98 3 = x 98 3) ∧ (∀ a : Int, (a < 79 ∨ 93 < a) → (a < 98 ∨ 106 < a) → (a < 107 ∨ 108 < a) → (a < 110 ∨ 119 < a) → y' a = x a)) := by
  refine cn_I (by decide) (fun _ => Nat.le_of_ble_eq_true rfl) (fun G C h hq => ?_)
  have h : OK YC G C cX11_asks RX11 4 (some .int) 27 917 := h
  show FW YC G C 4 x 0 [(0, vr G 0), (1, vi p)] []
  obtain ⟨r, hr, er⟩ : ∃ r : Int, isRu r ∧ x 0 13 = r := ⟨x 0 13, by unfold isRu; omega, rfl⟩
  have h_r := Ru_b hr
  obtain ⟨q, hq2, eq⟩ : ∃ q : Int, isRu q ∧ x 0 14 = q := ⟨x 0 14, by unfold isRu; omega, rfl⟩
  have h_q := Ru_b hq2
  refine fr_iload_n h rfl 1 rfl dX11_asks_0 ?_
  refine fr_csI h wX11_isKind lX11_203 (c_X11_isKind x p (by omega)) rfl (by decide) (by decide) rfl (Nat.le_of_ble_eq_true rfl) dX11_asks_1 (fun z2 x1 w3 p4 => ?_)
  obtain ⟨p5, p6, y7⟩ := p4
  rw [y7]
  clear y7
  refine fr_if_ne (tgt := 9) h dX11_asks_4 (by decide) (by omega) (fun c8 => ?_) (fun c8 => ?_)
  ·
    refine fr_aload_n h rfl 0 rfl dX11_asks_9 ?_
    refine fr_getc (z := 98) (iz := 10) h kX11 fX11_70 at_0 rfl rfl rf_0_10 (by omega) dX11_asks_10 ?_
    refine fr_aload_n h rfl 0 rfl dX11_asks_13 ?_
    refine fr_iload_n h rfl 1 rfl dX11_asks_14 ?_
    refine fr_cvR h kX11 at_0 wX11_orderOf lX11_210 (c_X11_orderOf x p (by omega) (by omega) (by omega) (by omega)) rfl (by decide) (by decide) rfl (Nat.le_of_ble_eq_true rfl) dX11_asks_15 (fun z10 x9 p12 => ?_)
    obtain ⟨p13, f14⟩ := p12
    obtain ⟨n15, i16⟩ := OrN_ex (show isOr z10 by unfold isOr; omega)
    have h_z10 := OrN_b i16
    refine fr_cvI h kX1 at_98 wX1_tally lX11_292 (c_X1_tally x9 z10 n15 i16) rfl (by decide) (by decide) rfl (Nat.le_of_ble_eq_true rfl) dX11_asks_18 (fun z18 x17 w19 p20 => ?_)
    obtain ⟨p21, p22, p23, f24⟩ := p20
    refine fr_istore_n (L' := [(0, vr G 0), (1, vi p), (2, vi z18)]) h rfl dX11_asks_21 (by decide) [1, 2, 0] rfl ?_
    refine fr_iload_n h rfl 2 rfl dX11_asks_22 ?_
    refine fr_if_ne (tgt := 29) h dX11_asks_23 (by decide) (by omega) (fun c25 => ?_) (fun c25 => ?_)
    ·
      refine fr_aload_n h rfl 0 rfl dX11_asks_29 ?_
      refine fr_getc (z := 98) (iz := 10) h kX11 fX11_70 at_0 rfl rfl rf_0_10 (by omega) dX11_asks_30 ?_
      refine fr_iload_n h rfl 2 rfl dX11_asks_33 ?_
      refine fr_cvI h kX1 at_98 wX1_bestQuestion lX11_296 (c_X1_bestQuestion x17 z18 (by omega) (by omega) (by omega)) rfl (by decide) (by decide) rfl (Nat.le_of_ble_eq_true rfl) dX11_asks_34 (fun z27 x26 w28 p29 => ?_)
      obtain ⟨p30, p31, y32⟩ := p29
      rw [y32]
      clear y32
      refine fr_istore_n (L' := [(0, vr G 0), (1, vi p), (2, vi z18), (3, vi z27)]) h rfl dX11_asks_37 (by decide) [1, 2, 3, 0] rfl ?_
      refine fr_aload_n h rfl 0 rfl dX11_asks_38 ?_
      refine fr_getc (z := 107) (iz := 11) h kX11 fX11_77 at_0 rfl rfl rf_0_11 (by omega) dX11_asks_39 ?_
      refine fr_aload_n h rfl 0 rfl dX11_asks_42 ?_
      refine fr_getc (z := 98) (iz := 10) h kX11 fX11_70 at_0 rfl rfl rf_0_10 (by omega) dX11_asks_43 ?_
      refine fr_iload_n h rfl 3 rfl dX11_asks_46 ?_
      refine fr_bipush h rfl dX11_asks_47 ?_
      refine fr_idiv h (by omega) (by omega) (by omega) dX11_asks_49 (fun z33 w34 q35 w36 => ?_)
      have w37 := w36
      refine fr_iload_n h rfl 3 rfl dX11_asks_50 ?_
      refine fr_bipush h rfl dX11_asks_51 ?_
      refine fr_irem h (by omega) (by omega) (by omega) dX11_asks_53 (fun z38 w39 q40 w41 => ?_)
      have w42 := w41
      refine fr_iload_n h rfl 2 rfl dX11_asks_54 ?_
      refine fr_cvI h kX1 at_98 wX1_mostLeft lX11_299 (c_X1_mostLeft x17 z33 z38 z18 (by omega) (by omega) (by omega)) rfl (by decide) (by decide) rfl (Nat.le_of_ble_eq_true rfl) dX11_asks_55 (fun z44 x43 w45 p46 => ?_)
      have y47 := p46
      rw [y47]
      clear y47
      refine fr_i2l h (by omega) dX11_asks_58 ?_
      refine fr_cvV h kX10 at_107 wX10_only lX11_192 (c_X10_only x17 z44 (by omega)) rfl (by decide) (by decide) rfl (Nat.le_of_ble_eq_true rfl) dX11_asks_59 (fun x48 p51 => ?_)
      have f52 := p51
      refine fr_iload_n h rfl 3 rfl dX11_asks_62 ?_
      have r53 := (congrFun (f52 98 (by omega)) 3)
      have r54 := (congrFun (f14 98 (by omega) (by omega)) 3)
      exact fr_iret h hq (by omega) ⟨(by omega), (fun a k0 k1 k2 k3 => ((f52 a (by omega)).trans ((f24 a (by omega)).trans (f14 a (by omega) (by omega)))))⟩ dX11_asks_63
    ·
      refine fr_bipush h rfl dX11_asks_26 ?_
      have r55 := (congrFun (f14 98 (by omega) (by omega)) 3)
      exact fr_iret h hq (by omega) ⟨(by omega), (fun a k0 k1 k2 k3 => ((f24 a (by omega)).trans (f14 a (by omega) (by omega))))⟩ dX11_asks_28
  ·
    refine fr_iconst h dX11_asks_7 ?_
    exact fr_iret h hq (by omega) ⟨(by omega), (fun a _ _ _ _ => rfl)⟩ dX11_asks_8
set_option maxHeartbeats 200000 in
theorem c_X11_odds (x : Mm) (p : Int) (v : Int) (n : Int) (h_p : fm_r p) (h_v : fm_r v) (h_n : fm_r n) (e0 : ((x 0 13 = 110 ∧ x 0 14 = 115) ∨ (x 0 13 = 115 ∧ x 0 14 = 110))) : CnI YC yX11_odds cX11_odds 11 .int 27 917 (fun G => [vr G 0, vi p, vi v, vi n]) x (fun z y' => (∀ a : Int, (a < 79 ∨ 93 < a) → (a < 107 ∨ 108 < a) → (a < 110 ∨ 119 < a) → y' a = x a)) := by
  refine cn_I (by decide) (fun _ => Nat.le_of_ble_eq_true rfl) (fun G C h hq => ?_)
  have h : OK YC G C cX11_odds RX11 11 (some .int) 27 917 := h
  show FW YC G C 11 x 0 [(0, vr G 0), (1, vi p), (2, vi v), (3, vi n)] []
  obtain ⟨r, hr, er⟩ : ∃ r : Int, isRu r ∧ x 0 13 = r := ⟨x 0 13, by unfold isRu; omega, rfl⟩
  have h_r := Ru_b hr
  obtain ⟨q, hq2, eq⟩ : ∃ q : Int, isRu q ∧ x 0 14 = q := ⟨x 0 14, by unfold isRu; omega, rfl⟩
  have h_q := Ru_b hq2
  refine fr_iload_n h rfl 1 rfl dX11_odds_0 ?_
  refine fr_csI h wX11_isKind lX11_203 (c_X11_isKind x p (by omega)) rfl (by decide) (by decide) rfl (Nat.le_of_ble_eq_true rfl) dX11_odds_1 (fun z2 x1 w3 p4 => ?_)
  obtain ⟨p5, p6, y7⟩ := p4
  rw [y7]
  clear y7
  refine fr_if_eq (tgt := 17) h dX11_odds_4 (by decide) (by omega) (fun c8 => ?_) (fun c8 => ?_)
  ·
    refine fr_iconst h dX11_odds_17 ?_
    exact fr_iret h hq (by omega) (fun a _ _ _ => rfl) dX11_odds_18
  ·
    refine fr_iload_n h rfl 3 rfl dX11_odds_7 ?_
    refine fr_iconst h dX11_odds_8 ?_
    refine fr_icmp_lt (tgt := 17) h dX11_odds_9 (by decide) (by omega) (by omega) (fun c9 => ?_) (fun c9 => ?_)
    ·
      refine fr_iconst h dX11_odds_17 ?_
      exact fr_iret h hq (by omega) (fun a _ _ _ => rfl) dX11_odds_18
    ·
      refine fr_iload_n h rfl 3 rfl dX11_odds_12 ?_
      refine fr_iconst h dX11_odds_13 ?_
      refine fr_icmp_le (tgt := 19) h dX11_odds_14 (by decide) (by omega) (by omega) (fun c10 => ?_) (fun c10 => ?_)
      ·
        refine fr_aload_n h rfl 0 rfl dX11_odds_19 ?_
        refine fr_iload_n h rfl 1 rfl dX11_odds_20 ?_
        refine fr_cvR h kX11 at_0 wX11_orderOf lX11_210 (c_X11_orderOf x p (by omega) (by omega) (by omega) (by omega)) rfl (by decide) (by decide) rfl (Nat.le_of_ble_eq_true rfl) dX11_odds_21 (fun z12 x11 p14 => ?_)
        obtain ⟨p15, f16⟩ := p14
        obtain ⟨n17, i18⟩ := OrN_ex (show isOr z12 by unfold isOr; omega)
        have h_z12 := OrN_b i18
        refine fr_astore (L' := [(0, vr G 0), (1, vi p), (2, vi v), (3, vi n), (4, vr G z12)]) h dX11_odds_24 (by decide) [1, 2, 3, 4, 0] rfl ?_
        refine fr_aload h 4 rfl dX11_odds_26 ?_
        refine fr_cvI h kX6 (Or_at (OrN_is i18)) wX6_size lX11_214 (c_X6_size x11 z12 n17 i18) rfl (by decide) (by decide) rfl (Nat.le_of_ble_eq_true rfl) dX11_odds_28 (fun z20 x19 w21 p22 => ?_)
        obtain ⟨p23, p24, p25, p26, y27⟩ := p22
        rw [y27]
        clear y27
        refine fr_if_ne (tgt := 37) h dX11_odds_31 (by decide) (by omega) (fun c28 => ?_) (fun c28 => ?_)
        ·
          refine fr_aload h 4 rfl dX11_odds_37 ?_
          refine fr_cvI h kX6 (Or_at (OrN_is i18)) wX6_size lX11_214 (c_X6_size x11 z12 n17 i18) rfl (by decide) (by decide) rfl (Nat.le_of_ble_eq_true rfl) dX11_odds_39 (fun z30 x29 w31 p32 => ?_)
          obtain ⟨p33, p34, p35, p36, y37⟩ := p32
          rw [y37]
          clear y37
          refine fr_aload h 4 rfl dX11_odds_42 ?_
          refine fr_iload_n h rfl 2 rfl dX11_odds_44 ?_
          refine fr_cvI h kX6 (Or_at (OrN_is i18)) wX6_upTo lX11_226 (c_X6_upTo x11 z12 n17 i18 v (by omega)) rfl (by decide) (by decide) rfl (Nat.le_of_ble_eq_true rfl) dX11_odds_45 (fun z39 x38 w40 p41 => ?_)
          obtain ⟨p42, p43, p44, y45⟩ := p41
          rw [y45]
          clear y45
          refine fr_isub h dX11_odds_48 ?_
          refine fr_istore (L' := [(0, vr G 0), (1, vi p), (2, vi v), (3, vi n), (4, vr G z12), (5, vi (z30 - z39))]) h dX11_odds_49 (by decide) [1, 2, 3, 4, 5, 0] rfl ?_
          refine fr_lconst (z := 1) h rfl dX11_odds_51 ?_
          refine fr_lstore (L' := [(0, vr G 0), (1, vi p), (2, vi v), (3, vi n), (4, vr G z12), (5, vi (z30 - z39)), (6, vj 1)]) h dX11_odds_52 (by decide) [1, 2, 3, 4, 5, 6, 0] rfl ?_
          refine fr_lconst (z := 1) h rfl dX11_odds_54 ?_
          refine fr_lstore (L' := [(0, vr G 0), (1, vi p), (2, vi v), (3, vi n), (4, vr G z12), (5, vi (z30 - z39)), (6, vj 1), (8, vj 1)]) h dX11_odds_55 (by decide) [1, 2, 3, 4, 5, 6, 7, 0] rfl ?_
          refine fr_iconst h dX11_odds_57 ?_
          refine fr_istore (L' := [(0, vr G 0), (1, vi p), (2, vi v), (3, vi n), (4, vr G z12), (5, vi (z30 - z39)), (6, vj 1), (8, vj 1), (10, vi 0)]) h dX11_odds_58 (by decide) [1, 2, 3, 4, 5, 6, 7, 8, 0] rfl ?_
          have HL46 : ∀ (n46 : Nat) (l6_46 l8_46 l10_46 : Int), fm_l l6_46 → fm_l l8_46 → fm_r l10_46 → 0 ≤ l10_46 → l10_46 ≤ 3 → l10_46 ≤ n → (n - l10_46) < n46 → FW YC G C 11 x11 60 [(0, vr G 0), (1, vi p), (2, vi v), (3, vi n), (4, vr G z12), (5, vi (z30 - z39)), (6, vj l6_46), (8, vj l8_46), (10, vi l10_46)] [] := by
            intro n46
            induction n46 with
            | zero =>
              intro l6_46 l8_46 l10_46 g46_0 g46_1 g46_2 g46_3 g46_4 g46_5 g46_6
              exfalso; omega
            | succ n46 ih46 =>
              intro l6_46 l8_46 l10_46 g46_0 g46_1 g46_2 g46_3 g46_4 g46_5 g46_6
              refine fr_iload h 8 rfl dX11_odds_60 ?_
              refine fr_iload_n h rfl 3 rfl dX11_odds_62 ?_
              refine fr_icmp_ge (tgt := 91) h dX11_odds_63 (by decide) (by omega) (by omega) (fun c47 => ?_) (fun c47 => ?_)
              ·
                refine fr_aload_n h rfl 0 rfl dX11_odds_91 ?_
                refine fr_lload h 6 rfl dX11_odds_92 ?_
                refine fr_lload h 7 rfl dX11_odds_94 ?_
                refine fr_lsub h dX11_odds_96 ?_
                refine fr_norml (fun z48 w49 q50 => ?_)
                have w51 : fm_l (l6_46 - l8_46) → z48 = (l6_46 - l8_46) := fun q => (lI_inj q w49 q50).symm
                refine fr_lload h 6 rfl dX11_odds_97 ?_
                refine fr_cvV h kX11 at_0 wX11_tellFraction lX11_302 (c_X11_tellFraction x11 z48 l6_46 (by omega) (by omega)) rfl (by decide) (by decide) rfl (Nat.le_of_ble_eq_true rfl) dX11_odds_99 (fun x52 p55 => ?_)
                have f56 := p55
                refine fr_iconst h dX11_odds_102 ?_
                exact fr_iret h hq (by omega) (fun a k0 k1 k2 => ((f56 a (by omega)).trans (f16 a (by omega) (by omega)))) dX11_odds_103
              ·
                refine fr_lload h 6 rfl dX11_odds_66 ?_
                refine fr_aload h 4 rfl dX11_odds_68 ?_
                refine fr_cvI h kX6 (Or_at (OrN_is i18)) wX6_size lX11_214 (c_X6_size x11 z12 n17 i18) rfl (by decide) (by decide) rfl (Nat.le_of_ble_eq_true rfl) dX11_odds_70 (fun z58 x57 w59 p60 => ?_)
                obtain ⟨p61, p62, p63, p64, y65⟩ := p60
                rw [y65]
                clear y65
                refine fr_i2l h (by omega) dX11_odds_73 ?_
                refine fr_lmul h dX11_odds_74 ?_
                refine fr_norml (fun z66 w67 q68 => ?_)
                have w69 : fm_l (l6_46 * z58) → z66 = (l6_46 * z58) := fun q => (lI_inj q w67 q68).symm
                refine fr_lstore (L' := [(0, vr G 0), (1, vi p), (2, vi v), (3, vi n), (4, vr G z12), (5, vi (z30 - z39)), (6, vj z66), (8, vj l8_46), (10, vi l10_46)]) h dX11_odds_75 (by decide) [1, 2, 3, 4, 5, 6, 0, 7, 8] rfl ?_
                refine fr_lload h 7 rfl dX11_odds_77 ?_
                refine fr_iload h 5 rfl dX11_odds_79 ?_
                refine fr_i2l h (by omega) dX11_odds_81 ?_
                refine fr_lmul h dX11_odds_82 ?_
                refine fr_norml (fun z70 w71 q72 => ?_)
                have w73 : fm_l (l8_46 * (z30 - z39)) → z70 = (l8_46 * (z30 - z39)) := fun q => (lI_inj q w71 q72).symm
                refine fr_lstore (L' := [(0, vr G 0), (1, vi p), (2, vi v), (3, vi n), (4, vr G z12), (5, vi (z30 - z39)), (6, vj z66), (8, vj z70), (10, vi l10_46)]) h dX11_odds_83 (by decide) [1, 2, 3, 4, 5, 6, 7, 0, 8] rfl ?_
                refine fr_iinc (j := 8) (L' := [(0, vr G 0), (1, vi p), (2, vi v), (3, vi n), (4, vr G z12), (5, vi (z30 - z39)), (6, vj z66), (8, vj z70), (10, vi (l10_46 + 1))]) h dX11_odds_85 rfl (by decide) [1, 2, 3, 4, 5, 6, 7, 8, 0] rfl ?_
                refine fr_goto (tgt := 60) h dX11_odds_88 (by decide) ?_
                exact ih46 z66 z70 (l10_46 + 1) (by omega) (by omega) (by omega) (by omega) (by omega) (by omega) (by omega)
          exact HL46 ((n - 0) + 1 : Int).toNat 1 1 0 (by omega) (by omega) (by omega) (by omega) (by omega) (by omega) (by omega)
        ·
          refine fr_bipush h rfl dX11_odds_34 ?_
          exact fr_iret h hq (by omega) (fun a k0 k1 k2 => (f16 a (by omega) (by omega))) dX11_odds_36
      ·
        refine fr_iconst h dX11_odds_17 ?_
        exact fr_iret h hq (by omega) (fun a _ _ _ => rfl) dX11_odds_18
set_option maxHeartbeats 200000 in
theorem c_X11_duel (x : Mm) (p : Int) (h_p : fm_r p) : CnI YC yX11_duel cX11_duel 5 .int 18 535 (fun G => [vr G 0, vi p]) x (fun z y' => (∀ a : Int, (a < 107 ∨ 108 < a) → y' a = x a)) := by
  refine cn_I (by decide) (fun _ => Nat.le_of_ble_eq_true rfl) (fun G C h hq => ?_)
  have h : OK YC G C cX11_duel RX11 5 (some .int) 18 535 := h
  show FW YC G C 5 x 0 [(0, vr G 0), (1, vi p)] []
  refine fr_iload_n h rfl 1 rfl dX11_duel_0 ?_
  refine fr_if_lt (tgt := 9) h dX11_duel_1 (by decide) (by omega) (fun c1 => ?_) (fun c1 => ?_)
  ·
    refine fr_iconst h dX11_duel_9 ?_
    exact fr_iret h hq (by omega) (fun a _ => rfl) dX11_duel_10
  ·
    refine fr_iload_n h rfl 1 rfl dX11_duel_4 ?_
    refine fr_iconst h dX11_duel_5 ?_
    refine fr_icmp_lt (tgt := 11) h dX11_duel_6 (by decide) (by omega) (by omega) (fun c2 => ?_) (fun c2 => ?_)
    ·
      refine fr_aload_n h rfl 0 rfl dX11_duel_11 ?_
      refine fr_getc (z := 3) (iz := 1) h kX11 fX11_19 at_0 rfl rfl rf_0_1 (by omega) dX11_duel_12 ?_
      refine fr_iload_n h rfl 1 rfl dX11_duel_15 ?_
      refine fr_cvI h kX8 (St_at St_3) wX8_sizeOf lX11_306 (c_X8_sizeOf x 3 St_3 p (by omega)) rfl (by decide) (by decide) rfl (Nat.le_of_ble_eq_true rfl) dX11_duel_16 (fun z4 x3 w5 p6 => ?_)
      obtain ⟨p7, p8, p9, p10, y11⟩ := p6
      rw [y11]
      clear y11
      refine fr_iconst h dX11_duel_19 ?_
      refine fr_isub h dX11_duel_20 ?_
      refine fr_istore_n (L' := [(0, vr G 0), (1, vi p), (2, vi (z4 - 1))]) h rfl dX11_duel_21 (by decide) [1, 2, 0] rfl ?_
      refine fr_aload_n h rfl 0 rfl dX11_duel_22 ?_
      refine fr_getc (z := 107) (iz := 11) h kX11 fX11_77 at_0 rfl rfl rf_0_11 (by omega) dX11_duel_23 ?_
      refine fr_cvV h kX10 at_107 wX10_clear lX11_219 (c_X10_clear x) rfl (by decide) (by decide) rfl (Nat.le_of_ble_eq_true rfl) dX11_duel_26 (fun x12 p15 => ?_)
      have f16 := p15
      refine fr_iload_n h rfl 2 rfl dX11_duel_29 ?_
      refine fr_if_ge (tgt := 37) h dX11_duel_30 (by decide) (by omega) (fun c17 => ?_) (fun c17 => ?_)
      ·
        refine fr_aload_n h rfl 0 rfl dX11_duel_37 ?_
        refine fr_getc (z := 3) (iz := 1) h kX11 fX11_19 at_0 rfl rfl rf_0_1 (by omega) dX11_duel_38 ?_
        refine fr_iload_n h rfl 1 rfl dX11_duel_41 ?_
        refine fr_iconst h dX11_duel_42 ?_
        refine fr_cvI h kX8 (St_at St_3) wX8_numberAt lX11_139 (c_X8_numberAt x12 3 St_3 p 0 (by omega) (by omega)) rfl (by decide) (by decide) rfl (Nat.le_of_ble_eq_true rfl) dX11_duel_43 (fun z19 x18 w20 p21 => ?_)
        obtain ⟨p22, p23, p24, y25⟩ := p21
        rw [y25]
        clear y25
        refine fr_aload_n h rfl 0 rfl dX11_duel_46 ?_
        refine fr_getc (z := 3) (iz := 1) h kX11 fX11_19 at_0 rfl rfl rf_0_1 (by omega) dX11_duel_47 ?_
        refine fr_iload_n h rfl 1 rfl dX11_duel_50 ?_
        refine fr_iconst h dX11_duel_51 ?_
        refine fr_iload_n h rfl 2 rfl dX11_duel_52 ?_
        refine fr_csI h wX11_lead lX11_309 (c_X11_lead 7 x12 p 1 (z4 - 1) (by omega) (by omega) (by omega) (by omega) (by omega) (by omega) (by omega)) rfl (by decide) (by decide) rfl (Nat.le_of_ble_eq_true rfl) dX11_duel_53 (fun z27 x26 w28 p29 => ?_)
        have y30 := p29
        rw [y30]
        clear y30
        refine fr_isub h dX11_duel_56 ?_
        refine fr_normi (fun z31 w32 q33 => ?_)
        have w34 : fm_r ((z19 - z27)) → z31 = (z19 - z27) := fun q => (iI_inj q w32 q33).symm
        refine fr_istore_n (L' := [(0, vr G 0), (1, vi p), (2, vi (z4 - 1)), (3, vi z31)]) h rfl dX11_duel_57 (by decide) [1, 2, 3, 0] rfl ?_
        refine fr_aload_n h rfl 0 rfl dX11_duel_58 ?_
        refine fr_getc (z := 3) (iz := 1) h kX11 fX11_19 at_0 rfl rfl rf_0_1 (by omega) dX11_duel_59 ?_
        refine fr_iload_n h rfl 1 rfl dX11_duel_62 ?_
        refine fr_iload_n h rfl 2 rfl dX11_duel_63 ?_
        refine fr_cvI h kX8 (St_at St_3) wX8_numberAt lX11_139 (c_X8_numberAt x12 3 St_3 p (z4 - 1) (by omega) (by omega)) rfl (by decide) (by decide) rfl (Nat.le_of_ble_eq_true rfl) dX11_duel_64 (fun z36 x35 w37 p38 => ?_)
        obtain ⟨p39, p40, p41, y42⟩ := p38
        rw [y42]
        clear y42
        refine fr_aload_n h rfl 0 rfl dX11_duel_67 ?_
        refine fr_getc (z := 3) (iz := 1) h kX11 fX11_19 at_0 rfl rfl rf_0_1 (by omega) dX11_duel_68 ?_
        refine fr_iload_n h rfl 1 rfl dX11_duel_71 ?_
        refine fr_iconst h dX11_duel_72 ?_
        refine fr_iload_n h rfl 2 rfl dX11_duel_73 ?_
        refine fr_iconst h dX11_duel_74 ?_
        refine fr_isub h dX11_duel_75 ?_
        refine fr_csI h wX11_lead lX11_309 (c_X11_lead 7 x12 p 0 ((z4 - 1) - 1) (by omega) (by omega) (by omega) (by omega) (by omega) (by omega) (by omega)) rfl (by decide) (by decide) rfl (Nat.le_of_ble_eq_true rfl) dX11_duel_76 (fun z44 x43 w45 p46 => ?_)
        have y47 := p46
        rw [y47]
        clear y47
        refine fr_isub h dX11_duel_79 ?_
        refine fr_normi (fun z48 w49 q50 => ?_)
        have w51 : fm_r ((z36 - z44)) → z48 = (z36 - z44) := fun q => (iI_inj q w49 q50).symm
        refine fr_istore (L' := [(0, vr G 0), (1, vi p), (2, vi (z4 - 1)), (3, vi z31), (4, vi z48)]) h dX11_duel_80 (by decide) [1, 2, 3, 4, 0] rfl ?_
        refine fr_aload_n h rfl 0 rfl dX11_duel_82 ?_
        refine fr_getc (z := 107) (iz := 11) h kX11 fX11_77 at_0 rfl rfl rf_0_11 (by omega) dX11_duel_83 ?_
        refine fr_iload_n h rfl 3 rfl dX11_duel_86 ?_
        refine fr_iload h 4 rfl dX11_duel_87 ?_
        refine fr_icmp_lt (tgt := 96) h dX11_duel_89 (by decide) (by omega) (by omega) (fun c52 => ?_) (fun c52 => ?_)
        ·
          refine fr_lconst (z := 1) h rfl dX11_duel_96 ?_
          refine fr_cvV h kX10 at_107 wX10_add lX11_223 (c_X10_add x12 1 (by omega)) rfl (by decide) (by decide) rfl (Nat.le_of_ble_eq_true rfl) dX11_duel_97 (fun x53 p56 => ?_)
          have f57 := p56
          refine fr_sipush h rfl dX11_duel_100 ?_
          refine fr_iload_n h rfl 3 rfl dX11_duel_103 ?_
          refine fr_iload h 4 rfl dX11_duel_104 ?_
          refine fr_mmax h (by omega) (by omega) (tb_5 (i := 45) (by decide +kernel) (by decide +kernel)) w_mmax (by decide) (by decide) (Nat.le_of_ble_eq_true rfl) dX11_duel_106 (fun z58 w59 w60 w61 => ?_)
          refine fr_iadd h dX11_duel_109 ?_
          refine fr_normi (fun z62 w63 q64 => ?_)
          have w65 : fm_r ((1000 + z58)) → z62 = (1000 + z58) := fun q => (iI_inj q w63 q64).symm
          exact fr_iret h hq (by omega) (fun a k0 => ((f57 a (by omega)).trans (f16 a (by omega)))) dX11_duel_110
        ·
          refine fr_lconst (z := 0) h rfl dX11_duel_92 ?_
          refine fr_goto (tgt := 97) h dX11_duel_93 (by decide) ?_
          refine fr_cvV h kX10 at_107 wX10_add lX11_223 (c_X10_add x12 0 (by omega)) rfl (by decide) (by decide) rfl (Nat.le_of_ble_eq_true rfl) dX11_duel_97 (fun x66 p69 => ?_)
          have f70 := p69
          refine fr_sipush h rfl dX11_duel_100 ?_
          refine fr_iload_n h rfl 3 rfl dX11_duel_103 ?_
          refine fr_iload h 4 rfl dX11_duel_104 ?_
          refine fr_mmax h (by omega) (by omega) (tb_5 (i := 45) (by decide +kernel) (by decide +kernel)) w_mmax (by decide) (by decide) (Nat.le_of_ble_eq_true rfl) dX11_duel_106 (fun z71 w72 w73 w74 => ?_)
          refine fr_iadd h dX11_duel_109 ?_
          refine fr_normi (fun z75 w76 q77 => ?_)
          have w78 : fm_r ((1000 + z71)) → z75 = (1000 + z71) := fun q => (iI_inj q w76 q77).symm
          exact fr_iret h hq (by omega) (fun a k0 => ((f70 a (by omega)).trans (f16 a (by omega)))) dX11_duel_110
      ·
        refine fr_sipush h rfl dX11_duel_33 ?_
        exact fr_iret h hq (by omega) (fun a k0 => (f16 a (by omega))) dX11_duel_36
    ·
      refine fr_iconst h dX11_duel_9 ?_
      exact fr_iret h hq (by omega) (fun a _ => rfl) dX11_duel_10
set_option maxHeartbeats 200000 in
theorem c_X11_law (x : Mm) (e0 : ((x 0 13 = 110 ∧ x 0 14 = 115) ∨ (x 0 13 = 115 ∧ x 0 14 = 110))) : CnI YC yX11_law cX11_law 11 .int 27 917 (fun G => [vr G 0]) x (fun z y' => (y' 1 1 = 0) ∧ (∀ a : Int, (a < 1 ∨ 2 < a) → (a < 79 ∨ 93 < a) → (a < 107 ∨ 108 < a) → (a < 110 ∨ 119 < a) → y' a = x a)) := by
  refine cn_I (by decide) (fun _ => Nat.le_of_ble_eq_true rfl) (fun G C h hq => ?_)
  have h : OK YC G C cX11_law RX11 11 (some .int) 27 917 := h
  show FW YC G C 11 x 0 [(0, vr G 0)] []
  obtain ⟨r, hr, er⟩ : ∃ r : Int, isRu r ∧ x 0 13 = r := ⟨x 0 13, by unfold isRu; omega, rfl⟩
  have h_r := Ru_b hr
  obtain ⟨q, hq2, eq⟩ : ∃ q : Int, isRu q ∧ x 0 14 = q := ⟨x 0 14, by unfold isRu; omega, rfl⟩
  have h_q := Ru_b hq2
  refine fr_aload_n h rfl 0 rfl dX11_law_0 ?_
  refine fr_getr (z := q) (iz := 14) h kX11 fX11_92 at_0 rfl rfl eq (by omega) dX11_law_1 ?_
  refine fr_aload_n h rfl 0 rfl dX11_law_4 ?_
  refine fr_getc (z := 1) (iz := 0) h kX11 fX11_10 at_0 rfl rfl rf_0_0 (by omega) dX11_law_5 ?_
  refine fr_cvI h kX7 (Ru_at hq2) wX7_read lX11_132 (c_X7_read x q hq2) rfl (by decide) (by decide) rfl (Nat.le_of_ble_eq_true rfl) dX11_law_8 (fun z2 x1 w3 p4 => ?_)
  obtain ⟨p5, p6, f7⟩ := p4
  refine fr_istore_n (L' := [(0, vr G 0), (1, vi z2)]) h rfl dX11_law_11 (by decide) [1, 0] rfl ?_
  refine fr_aload_n h rfl 0 rfl dX11_law_12 ?_
  refine fr_getc (z := 1) (iz := 0) h kX11 fX11_10 at_0 rfl rfl rf_0_0 (by omega) dX11_law_13 ?_
  refine fr_cvV h kX9 at_1 wX9_clear lX11_117 (c_X9_clear x1) rfl (by decide) (by decide) rfl (Nat.le_of_ble_eq_true rfl) dX11_law_16 (fun x8 p11 => ?_)
  obtain ⟨p12, f13⟩ := p11
  refine fr_iload_n h rfl 1 rfl dX11_law_19 ?_
  refine fr_iconst h dX11_law_20 ?_
  refine fr_icmp_eq (tgt := 30) h dX11_law_21 (by decide) (by omega) (by omega) (fun c14 => ?_) (fun c14 => ?_)
  ·
    refine fr_aload_n h rfl 0 rfl dX11_law_30 ?_
    refine fr_iconst h dX11_law_31 ?_
    have r15 := (congrFun (f13 0 (by omega)) 13)
    have r16 := r15.trans (congrFun (f7 0 (by omega)) 13)
    have r17 := (congrFun (f13 0 (by omega)) 14)
    have r18 := r17.trans (congrFun (f7 0 (by omega)) 14)
    have r19 := (congrFun (f13 0 (by omega)) 13)
    have r20 := r19.trans (congrFun (f7 0 (by omega)) 13)
    have r21 := (congrFun (f13 0 (by omega)) 14)
    have r22 := r21.trans (congrFun (f7 0 (by omega)) 14)
    refine fr_cvR h kX11 at_0 wX11_orderOf lX11_210 (c_X11_orderOf x8 0 (by omega) (by omega) (by omega) (by omega)) rfl (by decide) (by decide) rfl (Nat.le_of_ble_eq_true rfl) dX11_law_32 (fun z24 x23 p26 => ?_)
    obtain ⟨p27, f28⟩ := p26
    obtain ⟨n29, i30⟩ := OrN_ex (show isOr z24 by unfold isOr; omega)
    have h_z24 := OrN_b i30
    refine fr_astore_n (L' := [(0, vr G 0), (1, vi z2), (2, vr G z24)]) h rfl dX11_law_35 (by decide) [1, 2, 0] rfl ?_
    refine fr_ldc2 (z := 9223372036854775807) h (by exact tb_5 (i := 50) (by decide +kernel) (by decide +kernel)) rfl dX11_law_36 ?_
    refine fr_lstore_n (L' := [(0, vr G 0), (1, vi z2), (2, vr G z24), (3, vj 9223372036854775807)]) h rfl dX11_law_39 (by decide) [1, 2, 3, 0] rfl ?_
    refine fr_iconst h dX11_law_40 ?_
    refine fr_istore (L' := [(0, vr G 0), (1, vi z2), (2, vr G z24), (3, vj 9223372036854775807), (5, vi 0)]) h dX11_law_41 (by decide) [1, 2, 3, 4, 0] rfl ?_
    refine fr_iconst h dX11_law_43 ?_
    refine fr_istore (L' := [(0, vr G 0), (1, vi z2), (2, vr G z24), (3, vj 9223372036854775807), (5, vi 0), (6, vi 1)]) h dX11_law_44 (by decide) [1, 2, 3, 4, 5, 0] rfl ?_
    have HL31 : ∀ (n31 : Nat) (l3_31 l5_31 l6_31 : Int) (x_31 : Mm), fm_l l3_31 → fm_r l5_31 → fm_r l6_31 → 1 ≤ l6_31 → l6_31 ≤ 1297 → 1 ≤ l6_31 → (∀ a : Int, (a < 89 ∨ 93 < a) → (a < 110 ∨ 119 < a) → x_31 a = x23 a) → (1297 - l6_31) < n31 → FW YC G C 11 x_31 46 [(0, vr G 0), (1, vi z2), (2, vr G z24), (3, vj l3_31), (5, vi l5_31), (6, vi l6_31)] [] := by
      intro n31
      induction n31 with
      | zero =>
        intro l3_31 l5_31 l6_31 x_31 g31_0 g31_1 g31_2 g31_3 g31_4 g31_5 g31_6 g31_7
        exfalso; omega
      | succ n31 ih31 =>
        intro l3_31 l5_31 l6_31 x_31 g31_0 g31_1 g31_2 g31_3 g31_4 g31_5 g31_6 g31_7
        refine fr_iload h 5 rfl dX11_law_46 ?_
        refine fr_aload_n h rfl 2 rfl dX11_law_48 ?_
        refine fr_cvI h kX6 (Or_at (OrN_is i30)) wX6_size lX11_214 (c_X6_size x_31 z24 n29 i30) rfl (by decide) (by decide) rfl (Nat.le_of_ble_eq_true rfl) dX11_law_49 (fun z33 x32 w34 p35 => ?_)
        obtain ⟨p36, p37, p38, p39, y40⟩ := p35
        rw [y40]
        clear y40
        refine fr_icmp_gt (tgt := 107) h dX11_law_52 (by decide) (by omega) (by omega) (fun c41 => ?_) (fun c41 => ?_)
        ·
          refine fr_aload_n h rfl 0 rfl dX11_law_107 ?_
          refine fr_getc (z := 107) (iz := 11) h kX11 fX11_77 at_0 rfl rfl rf_0_11 (by omega) dX11_law_108 ?_
          refine fr_lload_n h rfl 3 rfl dX11_law_111 ?_
          refine fr_csI h wX6_costOf lX11_330 (c_X6_costOf x_31 l3_31 (by omega)) rfl (by decide) (by decide) rfl (Nat.le_of_ble_eq_true rfl) dX11_law_112 (fun z43 x42 w44 p45 => ?_)
          have y46 := p45
          rw [y46]
          clear y46
          refine fr_i2l h (by omega) dX11_law_115 ?_
          refine fr_cvV h kX10 at_107 wX10_only lX11_192 (c_X10_only x_31 z43 (by omega)) rfl (by decide) (by decide) rfl (Nat.le_of_ble_eq_true rfl) dX11_law_116 (fun x47 p50 => ?_)
          have f51 := p50
          refine fr_aload_n h rfl 0 rfl dX11_law_119 ?_
          refine fr_getc (z := 107) (iz := 11) h kX11 fX11_77 at_0 rfl rfl rf_0_11 (by omega) dX11_law_120 ?_
          refine fr_aload_n h rfl 2 rfl dX11_law_123 ?_
          refine fr_iload h 4 rfl dX11_law_124 ?_
          refine fr_cvI h kX6 (Or_at (OrN_is i30)) wX6_costAt lX11_220 (c_X6_costAt x47 z24 n29 i30 l5_31 (by omega)) rfl (by decide) (by decide) rfl (Nat.le_of_ble_eq_true rfl) dX11_law_126 (fun z53 x52 w54 p55 => ?_)
          have y56 := p55
          rw [y56]
          clear y56
          refine fr_i2l h (by omega) dX11_law_129 ?_
          refine fr_cvV h kX10 at_107 wX10_add lX11_223 (c_X10_add x47 z53 (by omega)) rfl (by decide) (by decide) rfl (Nat.le_of_ble_eq_true rfl) dX11_law_130 (fun x57 p60 => ?_)
          have f61 := p60
          refine fr_iload h 4 rfl dX11_law_133 ?_
          have r62 := (congrFun (f61 1 (by omega)) 1)
          have r63 := r62.trans (congrFun (f51 1 (by omega)) 1)
          have r64 := r63.trans (congrFun (g31_6 1 (by omega) (by omega)) 1)
          have r65 := r64.trans (congrFun (f28 1 (by omega) (by omega)) 1)
          have r66 := (congrFun (f7 1 (by omega)) 1)
          exact fr_iret h hq (by omega) ⟨(by omega), (fun a k0 k1 k2 k3 => ((f61 a (by omega)).trans ((f51 a (by omega)).trans ((g31_6 a (by omega) (by omega)).trans ((f28 a (by omega) (by omega)).trans ((f13 a (by omega)).trans (f7 a (by omega))))))))⟩ dX11_law_135
        ·
          refine fr_aload_n h rfl 2 rfl dX11_law_55 ?_
          refine fr_iload h 5 rfl dX11_law_56 ?_
          refine fr_cvL h kX6 (Or_at (OrN_is i30)) wX6_codeAt lX11_251 (c_X6_codeAt x_31 z24 n29 i30 l6_31 (by omega)) rfl (by decide) (by decide) rfl (Nat.le_of_ble_eq_true rfl) dX11_law_58 (fun z68 x67 w69 p70 => ?_)
          have y71 := p70
          rw [y71]
          clear y71
          refine fr_lstore (L' := [(0, vr G 0), (1, vi z2), (2, vr G z24), (3, vj l3_31), (5, vi l5_31), (6, vi l6_31), (7, vj z68)]) h dX11_law_61 (by decide) [1, 2, 3, 4, 5, 6, 0] rfl ?_
          refine fr_aload_n h rfl 0 rfl dX11_law_63 ?_
          refine fr_getc (z := 89) (iz := 8) h kX11 fX11_57 at_0 rfl rfl rf_0_8 (by omega) dX11_law_64 ?_
          refine fr_aload_n h rfl 0 rfl dX11_law_67 ?_
          refine fr_getc (z := 3) (iz := 1) h kX11 fX11_19 at_0 rfl rfl rf_0_1 (by omega) dX11_law_68 ?_
          refine fr_aload_n h rfl 0 rfl dX11_law_71 ?_
          refine fr_getr (z := q) (iz := 14) h kX11 fX11_92 at_0 rfl rfl ((congrFun (g31_6 0 (by omega) (by omega)) 14).trans ((congrFun (f28 0 (by omega) (by omega)) 14).trans ((congrFun (f13 0 (by omega)) 14).trans ((congrFun (f7 0 (by omega)) 14).trans eq)))) (by omega) dX11_law_72 ?_
          refine fr_lload h 6 rfl dX11_law_75 ?_
          refine fr_cvI h kX4 at_89 wX4_costOfChoice lX11_322 (c_X4_costOfChoice x_31 q hq2 z68 (by omega)) rfl (by decide) (by decide) rfl (Nat.le_of_ble_eq_true rfl) dX11_law_77 (fun z73 x72 w74 p75 => ?_)
          have f76 := p75
          refine fr_lload h 6 rfl dX11_law_80 ?_
          refine fr_csL h wX6_keyOf lX11_326 (c_X6_keyOf x72 z73 z68 (by omega) (by omega)) rfl (by decide) (by decide) rfl (Nat.le_of_ble_eq_true rfl) dX11_law_82 (fun z78 x77 w79 p80 => ?_)
          have y81 := p80
          rw [y81]
          clear y81
          refine fr_lstore (L' := [(0, vr G 0), (1, vi z2), (2, vr G z24), (3, vj l3_31), (5, vi l5_31), (6, vi l6_31), (7, vj z68), (9, vj z78)]) h dX11_law_85 (by decide) [1, 2, 3, 4, 5, 6, 7, 0] rfl ?_
          refine fr_lload h 7 rfl dX11_law_87 ?_
          refine fr_lload_n h rfl 3 rfl dX11_law_89 ?_
          refine fr_lcmp h dX11_law_90 (by omega) (by omega) (fun z82 w83 => ?_)
          refine fr_if_ge (tgt := 101) h dX11_law_91 (by decide) (by omega) (fun c84 => ?_) (fun c84 => ?_)
          ·
            refine fr_iinc (j := 5) (L' := [(0, vr G 0), (1, vi z2), (2, vr G z24), (3, vj l3_31), (5, vi l5_31), (6, vi (l6_31 + 1)), (7, vj z68), (9, vj z78)]) h dX11_law_101 rfl (by decide) [1, 2, 3, 4, 5, 0, 6, 7] rfl ?_
            refine fr_goto (tgt := 46) h dX11_law_104 (by decide) ?_
            refine fr_sub (L' := [(0, vr G 0), (1, vi z2), (2, vr G z24), (3, vj l3_31), (5, vi l5_31), (6, vi (l6_31 + 1))]) [0, 1, 2, 3, 4, 5] rfl ?_
            exact ih31 l3_31 l5_31 (l6_31 + 1) x72 (by omega) (by omega) (by omega) (by omega) (by omega) (by omega) (fun a k0 k1 => ((f76 a (by omega) (by omega)).trans (g31_6 a (by omega) (by omega)))) (by omega)
          ·
            refine fr_lload h 7 rfl dX11_law_94 ?_
            refine fr_lstore_n (L' := [(0, vr G 0), (1, vi z2), (2, vr G z24), (3, vj z78), (5, vi l5_31), (6, vi l6_31), (7, vj z68), (9, vj z78)]) h rfl dX11_law_96 (by decide) [1, 2, 3, 0, 4, 5, 6, 7] rfl ?_
            refine fr_iload h 5 rfl dX11_law_97 ?_
            refine fr_istore (L' := [(0, vr G 0), (1, vi z2), (2, vr G z24), (3, vj z78), (5, vi l6_31), (6, vi l6_31), (7, vj z68), (9, vj z78)]) h dX11_law_99 (by decide) [1, 2, 3, 4, 0, 5, 6, 7] rfl ?_
            refine fr_iinc (j := 5) (L' := [(0, vr G 0), (1, vi z2), (2, vr G z24), (3, vj z78), (5, vi l6_31), (6, vi (l6_31 + 1)), (7, vj z68), (9, vj z78)]) h dX11_law_101 rfl (by decide) [1, 2, 3, 4, 5, 0, 6, 7] rfl ?_
            refine fr_goto (tgt := 46) h dX11_law_104 (by decide) ?_
            refine fr_sub (L' := [(0, vr G 0), (1, vi z2), (2, vr G z24), (3, vj z78), (5, vi l6_31), (6, vi (l6_31 + 1))]) [0, 1, 2, 3, 4, 5] rfl ?_
            exact ih31 z78 l6_31 (l6_31 + 1) x72 (by omega) (by omega) (by omega) (by omega) (by omega) (by omega) (fun a k0 k1 => ((f76 a (by omega) (by omega)).trans (g31_6 a (by omega) (by omega)))) (by omega)
    exact HL31 ((1297 - 1) + 1 : Int).toNat 9223372036854775807 0 1 x23 (by omega) (by omega) (by omega) (by omega) (by omega) (by omega) (fun a _ _ => rfl) (by omega)
  ·
    refine fr_sipush h rfl dX11_law_24 ?_
    refine fr_iload_n h rfl 1 rfl dX11_law_27 ?_
    refine fr_isub h dX11_law_28 ?_
    have r85 := (congrFun (f7 1 (by omega)) 1)
    exact fr_iret h hq (by omega) ⟨(by omega), (fun a k0 k1 k2 k3 => ((f13 a (by omega)).trans (f7 a (by omega))))⟩ dX11_law_29
set_option maxHeartbeats 200000 in
theorem c_X11_liveYear (x : Mm) : CnV YC yX11_liveYear cX11_liveYear 3 5 112 (fun G => [vr G 0]) x (fun y' => (y' 0 13 = x 0 13) ∧ (y' 0 14 = x 0 14) ∧ (∀ a : Int, (a < 0 ∨ 0 < a) → (a < 3 ∨ 12 < a) → (a < 14 ∨ 65 < a) → (a < 79 ∨ 88 < a) → (a < 95 ∨ 97 < a) → y' a = x a)) := by
  refine cn_V (by decide) (fun _ => Nat.le_of_ble_eq_true rfl) (fun G C h hq => ?_)
  have h : OK YC G C cX11_liveYear RX11 3 none 5 112 := h
  show FW YC G C 3 x 0 [(0, vr G 0)] []
  refine fr_aload_n h rfl 0 rfl dX11_liveYear_0 ?_
  refine fr_iconst h dX11_liveYear_1 ?_
  refine fr_cvI h kX11 at_0 wX11_draw lX11_383 (c_X11_draw x 4 (by omega)) rfl (by decide) (by decide) rfl (Nat.le_of_ble_eq_true rfl) dX11_liveYear_2 (fun z2 x1 w3 p4 => ?_)
  obtain ⟨p5, p6, p7, p8, f9⟩ := p4
  by_cases c11 : z2 = 0
  ·
    refine fr_tab_in (off := 27) (tgt := 32) h dX11_liveYear_5 (by omega) (by omega) (by omega) (by rw [c11]; rfl) (by decide) ?_
    refine fr_aload_n h rfl 0 rfl dX11_liveYear_32 ?_
    refine fr_iconst h dX11_liveYear_33 ?_
    refine fr_cvI h kX11 at_0 wX11_draw lX11_383 (c_X11_draw x1 4 (by omega)) rfl (by decide) (by decide) rfl (Nat.le_of_ble_eq_true rfl) dX11_liveYear_34 (fun z13 x12 w14 p15 => ?_)
    obtain ⟨p16, p17, p18, p19, f20⟩ := p15
    refine fr_istore_n (L' := [(0, vr G 0), (1, vi z13)]) h rfl dX11_liveYear_37 (by decide) [1, 0] rfl ?_
    refine fr_aload_n h rfl 0 rfl dX11_liveYear_38 ?_
    refine fr_iload_n h rfl 1 rfl dX11_liveYear_39 ?_
    refine fr_aload_n h rfl 0 rfl dX11_liveYear_40 ?_
    refine fr_bipush h rfl dX11_liveYear_41 ?_
    refine fr_cvI h kX11 at_0 wX11_draw lX11_383 (c_X11_draw x12 100 (by omega)) rfl (by decide) (by decide) rfl (Nat.le_of_ble_eq_true rfl) dX11_liveYear_43 (fun z22 x21 w23 p24 => ?_)
    obtain ⟨p25, p26, p27, p28, f29⟩ := p24
    refine fr_cvI h kX11 at_0 wX11_puts lX11_386 (c_X11_puts x21 z13 z22 (by omega) (by omega)) rfl (by decide) (by decide) rfl (Nat.le_of_ble_eq_true rfl) dX11_liveYear_46 (fun z31 x30 w32 p33 => ?_)
    have f34 := p33
    refine fr_pop h rfl dX11_liveYear_49 ?_
    refine fr_goto (tgt := 134) h dX11_liveYear_50 (by decide) ?_
    have r35 := (congrFun (f34 0 (by omega) (by omega) (by omega) (by omega)) 13)
    have r36 := (congrFun (f34 0 (by omega) (by omega) (by omega) (by omega)) 14)
    exact fr_vret h hq ⟨(by omega), (by omega), (fun a k0 k1 k2 k3 k4 => ((f34 a (by omega) (by omega) (by omega) (by omega)).trans ((f29 a (by omega)).trans ((f20 a (by omega)).trans (f9 a (by omega))))))⟩ dX11_liveYear_134
  ·
    by_cases c37 : z2 = 1
    ·
      refine fr_tab_in (off := 48) (tgt := 53) h dX11_liveYear_5 (by omega) (by omega) (by omega) (by rw [c37]; rfl) (by decide) ?_
      refine fr_aload_n h rfl 0 rfl dX11_liveYear_53 ?_
      refine fr_iconst h dX11_liveYear_54 ?_
      refine fr_cvI h kX11 at_0 wX11_draw lX11_383 (c_X11_draw x1 4 (by omega)) rfl (by decide) (by decide) rfl (Nat.le_of_ble_eq_true rfl) dX11_liveYear_55 (fun z39 x38 w40 p41 => ?_)
      obtain ⟨p42, p43, p44, p45, f46⟩ := p41
      refine fr_istore_n (L' := [(0, vr G 0), (1, vi z39)]) h rfl dX11_liveYear_58 (by decide) [1, 0] rfl ?_
      refine fr_aload_n h rfl 0 rfl dX11_liveYear_59 ?_
      refine fr_iload_n h rfl 1 rfl dX11_liveYear_60 ?_
      refine fr_aload_n h rfl 0 rfl dX11_liveYear_61 ?_
      refine fr_bipush h rfl dX11_liveYear_62 ?_
      refine fr_cvI h kX11 at_0 wX11_draw lX11_383 (c_X11_draw x38 6 (by omega)) rfl (by decide) (by decide) rfl (Nat.le_of_ble_eq_true rfl) dX11_liveYear_64 (fun z48 x47 w49 p50 => ?_)
      obtain ⟨p51, p52, p53, p54, f55⟩ := p50
      refine fr_cvI h kX11 at_0 wX11_takes lX11_389 (c_X11_takes x47 z39 z48 (by omega) (by omega)) rfl (by decide) (by decide) rfl (Nat.le_of_ble_eq_true rfl) dX11_liveYear_67 (fun z57 x56 w58 p59 => ?_)
      have f60 := p59
      refine fr_pop h rfl dX11_liveYear_70 ?_
      refine fr_goto (tgt := 134) h dX11_liveYear_71 (by decide) ?_
      have r61 := (congrFun (f60 0 (by omega) (by omega) (by omega) (by omega)) 13)
      have r62 := (congrFun (f60 0 (by omega) (by omega) (by omega) (by omega)) 14)
      exact fr_vret h hq ⟨(by omega), (by omega), (fun a k0 k1 k2 k3 k4 => ((f60 a (by omega) (by omega) (by omega) (by omega)).trans ((f55 a (by omega)).trans ((f46 a (by omega)).trans (f9 a (by omega))))))⟩ dX11_liveYear_134
    ·
      by_cases c63 : z2 = 2
      ·
        refine fr_tab_in (off := 69) (tgt := 74) h dX11_liveYear_5 (by omega) (by omega) (by omega) (by rw [c63]; rfl) (by decide) ?_
        refine fr_aload_n h rfl 0 rfl dX11_liveYear_74 ?_
        refine fr_bipush h rfl dX11_liveYear_75 ?_
        refine fr_cvI h kX11 at_0 wX11_draw lX11_383 (c_X11_draw x1 7 (by omega)) rfl (by decide) (by decide) rfl (Nat.le_of_ble_eq_true rfl) dX11_liveYear_77 (fun z65 x64 w66 p67 => ?_)
        obtain ⟨p68, p69, p70, p71, f72⟩ := p67
        refine fr_istore_n (L' := [(0, vr G 0), (1, vi z65)]) h rfl dX11_liveYear_80 (by decide) [1, 0] rfl ?_
        refine fr_aload_n h rfl 0 rfl dX11_liveYear_81 ?_
        refine fr_bipush h rfl dX11_liveYear_82 ?_
        refine fr_cvI h kX11 at_0 wX11_draw lX11_383 (c_X11_draw x64 7 (by omega)) rfl (by decide) (by decide) rfl (Nat.le_of_ble_eq_true rfl) dX11_liveYear_84 (fun z74 x73 w75 p76 => ?_)
        obtain ⟨p77, p78, p79, p80, f81⟩ := p76
        refine fr_istore_n (L' := [(0, vr G 0), (1, vi z65), (2, vi z74)]) h rfl dX11_liveYear_87 (by decide) [1, 2, 0] rfl ?_
        refine fr_aload_n h rfl 0 rfl dX11_liveYear_88 ?_
        refine fr_iload_n h rfl 1 rfl dX11_liveYear_89 ?_
        refine fr_iload_n h rfl 2 rfl dX11_liveYear_90 ?_
        refine fr_aload_n h rfl 0 rfl dX11_liveYear_91 ?_
        refine fr_bipush h rfl dX11_liveYear_92 ?_
        refine fr_cvI h kX11 at_0 wX11_draw lX11_383 (c_X11_draw x73 99 (by omega)) rfl (by decide) (by decide) rfl (Nat.le_of_ble_eq_true rfl) dX11_liveYear_94 (fun z83 x82 w84 p85 => ?_)
        obtain ⟨p86, p87, p88, p89, f90⟩ := p85
        refine fr_iconst h dX11_liveYear_97 ?_
        refine fr_iadd h dX11_liveYear_98 ?_
        refine fr_normi (fun z91 w92 q93 => ?_)
        have w94 : fm_r ((z83 + 1)) → z91 = (z83 + 1) := fun q => (iI_inj q w92 q93).symm
        refine fr_cvI h kX11 at_0 wX11_joins lX11_392 (c_X11_joins x82 z65 z74 z91 (by omega) (by omega) (by omega)) rfl (by decide) (by decide) rfl (Nat.le_of_ble_eq_true rfl) dX11_liveYear_99 (fun z96 x95 w97 p98 => ?_)
        have f99 := p98
        refine fr_pop h rfl dX11_liveYear_102 ?_
        refine fr_goto (tgt := 134) h dX11_liveYear_103 (by decide) ?_
        have r100 := (congrFun (f99 0 (by omega) (by omega) (by omega) (by omega)) 13)
        have r101 := (congrFun (f99 0 (by omega) (by omega) (by omega) (by omega)) 14)
        exact fr_vret h hq ⟨(by omega), (by omega), (fun a k0 k1 k2 k3 k4 => ((f99 a (by omega) (by omega) (by omega) (by omega)).trans ((f90 a (by omega)).trans ((f81 a (by omega)).trans ((f72 a (by omega)).trans (f9 a (by omega)))))))⟩ dX11_liveYear_134
      ·
        refine fr_tab_out (tgt := 106) h dX11_liveYear_5 (by omega) (by omega) (by decide) ?_
        refine fr_aload_n h rfl 0 rfl dX11_liveYear_106 ?_
        refine fr_iconst h dX11_liveYear_107 ?_
        refine fr_cvI h kX11 at_0 wX11_draw lX11_383 (c_X11_draw x1 5 (by omega)) rfl (by decide) (by decide) rfl (Nat.le_of_ble_eq_true rfl) dX11_liveYear_108 (fun z103 x102 w104 p105 => ?_)
        obtain ⟨p106, p107, p108, p109, f110⟩ := p105
        refine fr_istore_n (L' := [(0, vr G 0), (1, vi z103)]) h rfl dX11_liveYear_111 (by decide) [1, 0] rfl ?_
        refine fr_aload_n h rfl 0 rfl dX11_liveYear_112 ?_
        refine fr_iconst h dX11_liveYear_113 ?_
        refine fr_cvI h kX11 at_0 wX11_draw lX11_383 (c_X11_draw x102 5 (by omega)) rfl (by decide) (by decide) rfl (Nat.le_of_ble_eq_true rfl) dX11_liveYear_114 (fun z112 x111 w113 p114 => ?_)
        obtain ⟨p115, p116, p117, p118, f119⟩ := p114
        refine fr_istore_n (L' := [(0, vr G 0), (1, vi z103), (2, vi z112)]) h rfl dX11_liveYear_117 (by decide) [1, 2, 0] rfl ?_
        refine fr_aload_n h rfl 0 rfl dX11_liveYear_118 ?_
        refine fr_iload_n h rfl 1 rfl dX11_liveYear_119 ?_
        refine fr_iload_n h rfl 2 rfl dX11_liveYear_120 ?_
        refine fr_aload_n h rfl 0 rfl dX11_liveYear_121 ?_
        refine fr_bipush h rfl dX11_liveYear_122 ?_
        refine fr_cvI h kX11 at_0 wX11_draw lX11_383 (c_X11_draw x111 100 (by omega)) rfl (by decide) (by decide) rfl (Nat.le_of_ble_eq_true rfl) dX11_liveYear_124 (fun z121 x120 w122 p123 => ?_)
        obtain ⟨p124, p125, p126, p127, f128⟩ := p123
        refine fr_cvI h kX11 at_0 wX11_costs lX11_395 (c_X11_costs x120 z103 z112 z121 (by omega) (by omega) (by omega)) rfl (by decide) (by decide) rfl (Nat.le_of_ble_eq_true rfl) dX11_liveYear_127 (fun z130 x129 w131 p132 => ?_)
        have f133 := p132
        refine fr_pop h rfl dX11_liveYear_130 ?_
        refine fr_goto (tgt := 134) h dX11_liveYear_131 (by decide) ?_
        have r134 := (congrFun (f133 0 (by omega) (by omega) (by omega) (by omega)) 13)
        have r135 := (congrFun (f133 0 (by omega) (by omega) (by omega) (by omega)) 14)
        exact fr_vret h hq ⟨(by omega), (by omega), (fun a k0 k1 k2 k3 k4 => ((f133 a (by omega) (by omega) (by omega) (by omega)).trans ((f128 a (by omega)).trans ((f119 a (by omega)).trans ((f110 a (by omega)).trans (f9 a (by omega)))))))⟩ dX11_liveYear_134
set_option maxHeartbeats 200000 in
theorem c_X11_years (x : Mm) (v : Int) (n : Int) (h_v : fm_r v) (h_n : fm_r n) (e0 : ((x 0 13 = 110 ∧ x 0 14 = 115) ∨ (x 0 13 = 115 ∧ x 0 14 = 110))) : CnI YC yX11_years cX11_years 4 .int 27 917 (fun G => [vr G 0, vi v, vi n]) x (fun z y' => (((y' 0 13 = 110 ∧ y' 0 14 = 115) ∨ (y' 0 13 = 115 ∧ y' 0 14 = 110))) ∧ (∀ a : Int, (a < 0 ∨ 0 < a) → (a < 3 ∨ 12 < a) → (a < 14 ∨ 65 < a) → (a < 79 ∨ 93 < a) → (a < 95 ∨ 97 < a) → (a < 107 ∨ 108 < a) → (a < 110 ∨ 119 < a) → y' a = x a)) := by
  refine cn_I (by decide) (fun _ => Nat.le_of_ble_eq_true rfl) (fun G C h hq => ?_)
  have h : OK YC G C cX11_years RX11 4 (some .int) 27 917 := h
  show FW YC G C 4 x 0 [(0, vr G 0), (1, vi v), (2, vi n)] []
  obtain ⟨r, hr, er⟩ : ∃ r : Int, isRu r ∧ x 0 13 = r := ⟨x 0 13, by unfold isRu; omega, rfl⟩
  have h_r := Ru_b hr
  obtain ⟨q, hq2, eq⟩ : ∃ q : Int, isRu q ∧ x 0 14 = q := ⟨x 0 14, by unfold isRu; omega, rfl⟩
  have h_q := Ru_b hq2
  refine fr_iload_n h rfl 2 rfl dX11_years_0 ?_
  refine fr_iconst h dX11_years_1 ?_
  refine fr_icmp_lt (tgt := 11) h dX11_years_2 (by decide) (by omega) (by omega) (fun c1 => ?_) (fun c1 => ?_)
  ·
    refine fr_iconst h dX11_years_11 ?_
    exact fr_iret h hq (by omega) ⟨(by omega), (fun a _ _ _ _ _ _ _ => rfl)⟩ dX11_years_12
  ·
    refine fr_iload_n h rfl 2 rfl dX11_years_5 ?_
    refine fr_bipush h rfl dX11_years_6 ?_
    refine fr_icmp_le (tgt := 13) h dX11_years_8 (by decide) (by omega) (by omega) (fun c2 => ?_) (fun c2 => ?_)
    ·
      refine fr_aload_n h rfl 0 rfl dX11_years_13 ?_
      refine fr_iload_n h rfl 1 rfl dX11_years_14 ?_
      refine fr_puti (iz := 15) h kX11 fX11_333 at_0 rfl rfl (by decide) (by decide) rfl (by decide +kernel) rf_0_15 (by omega) (by omega) dX11_years_15 ?_
      refine fr_mem (fun x3 m4 => ?_)
      refine fr_iconst h dX11_years_18 ?_
      refine fr_istore_n (L' := [(0, vr G 0), (1, vi v), (2, vi n), (3, vi 0)]) h rfl dX11_years_19 (by decide) [1, 2, 3, 0] rfl ?_
      have HL5 : ∀ (n5 : Nat) (l3_5 : Int) (x_5 : Mm), fm_r l3_5 → 0 ≤ l3_5 → l3_5 ≤ 40 → x_5 0 13 = x 0 13 → x_5 0 14 = x 0 14 → l3_5 ≤ n → (∀ a : Int, (a < 0 ∨ 0 < a) → (a < 3 ∨ 12 < a) → (a < 14 ∨ 65 < a) → (a < 79 ∨ 88 < a) → (a < 95 ∨ 97 < a) → x_5 a = x3 a) → (n - l3_5) < n5 → FW YC G C 4 x_5 20 [(0, vr G 0), (1, vi v), (2, vi n), (3, vi l3_5)] [] := by
        intro n5
        induction n5 with
        | zero =>
          intro l3_5 x_5 g5_0 g5_1 g5_2 g5_3 g5_4 g5_5 g5_6 g5_7
          exfalso; omega
        | succ n5 ih5 =>
          intro l3_5 x_5 g5_0 g5_1 g5_2 g5_3 g5_4 g5_5 g5_6 g5_7
          refine fr_iload_n h rfl 3 rfl dX11_years_20 ?_
          refine fr_iload_n h rfl 2 rfl dX11_years_21 ?_
          refine fr_icmp_ge (tgt := 35) h dX11_years_22 (by decide) (by omega) (by omega) (fun c6 => ?_) (fun c6 => ?_)
          ·
            refine fr_aload_n h rfl 0 rfl dX11_years_35 ?_
            refine fr_getc (z := 107) (iz := 11) h kX11 fX11_77 at_0 rfl rfl rf_0_11 (by omega) dX11_years_36 ?_
            refine fr_aload_n h rfl 0 rfl dX11_years_39 ?_
            refine fr_iconst h dX11_years_40 ?_
            have r7 := (fm_rd_i (a := 0) (b := 13) m4 (by decide))
            have r8 := (fm_rd_i (a := 0) (b := 14) m4 (by decide))
            have r9 := (fm_rd_i (a := 0) (b := 13) m4 (by decide))
            have r10 := (fm_rd_i (a := 0) (b := 14) m4 (by decide))
            refine fr_cvR h kX11 at_0 wX11_orderOf lX11_210 (c_X11_orderOf x_5 1 (by omega) (by omega) (by omega) (by omega)) rfl (by decide) (by decide) rfl (Nat.le_of_ble_eq_true rfl) dX11_years_41 (fun z12 x11 p14 => ?_)
            obtain ⟨p15, f16⟩ := p14
            obtain ⟨n17, i18⟩ := OrN_ex (show isOr z12 by unfold isOr; omega)
            have h_z12 := OrN_b i18
            refine fr_cvI h kX6 (Or_at (OrN_is i18)) wX6_size lX11_214 (c_X6_size x11 z12 n17 i18) rfl (by decide) (by decide) rfl (Nat.le_of_ble_eq_true rfl) dX11_years_44 (fun z20 x19 w21 p22 => ?_)
            obtain ⟨p23, p24, p25, p26, y27⟩ := p22
            rw [y27]
            clear y27
            refine fr_i2l h (by omega) dX11_years_47 ?_
            refine fr_cvV h kX10 at_107 wX10_only lX11_192 (c_X10_only x11 z20 (by omega)) rfl (by decide) (by decide) rfl (Nat.le_of_ble_eq_true rfl) dX11_years_48 (fun x28 p31 => ?_)
            have f32 := p31
            refine fr_aload_n h rfl 0 rfl dX11_years_51 ?_
            refine fr_getc (z := 107) (iz := 11) h kX11 fX11_77 at_0 rfl rfl rf_0_11 (by omega) dX11_years_52 ?_
            refine fr_aload_n h rfl 0 rfl dX11_years_55 ?_
            refine fr_iconst h dX11_years_56 ?_
            have r33 := (congrFun (f32 0 (by omega)) 13)
            have r34 := r33.trans (congrFun (f16 0 (by omega) (by omega)) 13)
            have r35 := (fm_rd_i (a := 0) (b := 13) m4 (by decide))
            have r36 := (congrFun (f32 0 (by omega)) 14)
            have r37 := r36.trans (congrFun (f16 0 (by omega) (by omega)) 14)
            have r38 := (fm_rd_i (a := 0) (b := 14) m4 (by decide))
            have r39 := (congrFun (f32 0 (by omega)) 13)
            have r40 := r39.trans (congrFun (f16 0 (by omega) (by omega)) 13)
            have r41 := (fm_rd_i (a := 0) (b := 13) m4 (by decide))
            have r42 := (congrFun (f32 0 (by omega)) 14)
            have r43 := r42.trans (congrFun (f16 0 (by omega) (by omega)) 14)
            have r44 := (fm_rd_i (a := 0) (b := 14) m4 (by decide))
            refine fr_cvR h kX11 at_0 wX11_orderOf lX11_210 (c_X11_orderOf x28 4 (by omega) (by omega) (by omega) (by omega)) rfl (by decide) (by decide) rfl (Nat.le_of_ble_eq_true rfl) dX11_years_57 (fun z46 x45 p48 => ?_)
            obtain ⟨p49, f50⟩ := p48
            obtain ⟨n51, i52⟩ := OrN_ex (show isOr z46 by unfold isOr; omega)
            have h_z46 := OrN_b i52
            refine fr_cvI h kX6 (Or_at (OrN_is i52)) wX6_size lX11_214 (c_X6_size x45 z46 n51 i52) rfl (by decide) (by decide) rfl (Nat.le_of_ble_eq_true rfl) dX11_years_60 (fun z54 x53 w55 p56 => ?_)
            obtain ⟨p57, p58, p59, p60, y61⟩ := p56
            rw [y61]
            clear y61
            refine fr_i2l h (by omega) dX11_years_63 ?_
            refine fr_cvV h kX10 at_107 wX10_add lX11_223 (c_X10_add x45 z54 (by omega)) rfl (by decide) (by decide) rfl (Nat.le_of_ble_eq_true rfl) dX11_years_64 (fun x62 p65 => ?_)
            have f66 := p65
            refine fr_aload_n h rfl 0 rfl dX11_years_67 ?_
            refine fr_getc (z := 107) (iz := 11) h kX11 fX11_77 at_0 rfl rfl rf_0_11 (by omega) dX11_years_68 ?_
            refine fr_aload_n h rfl 0 rfl dX11_years_71 ?_
            refine fr_iconst h dX11_years_72 ?_
            have r67 := (congrFun (f66 0 (by omega)) 13)
            have r68 := r67.trans (congrFun (f50 0 (by omega) (by omega)) 13)
            have r69 := r68.trans (congrFun (f32 0 (by omega)) 13)
            have r70 := r69.trans (congrFun (f16 0 (by omega) (by omega)) 13)
            have r71 := (fm_rd_i (a := 0) (b := 13) m4 (by decide))
            have r72 := (congrFun (f66 0 (by omega)) 14)
            have r73 := r72.trans (congrFun (f50 0 (by omega) (by omega)) 14)
            have r74 := r73.trans (congrFun (f32 0 (by omega)) 14)
            have r75 := r74.trans (congrFun (f16 0 (by omega) (by omega)) 14)
            have r76 := (fm_rd_i (a := 0) (b := 14) m4 (by decide))
            have r77 := (congrFun (f66 0 (by omega)) 13)
            have r78 := r77.trans (congrFun (f50 0 (by omega) (by omega)) 13)
            have r79 := r78.trans (congrFun (f32 0 (by omega)) 13)
            have r80 := r79.trans (congrFun (f16 0 (by omega) (by omega)) 13)
            have r81 := (fm_rd_i (a := 0) (b := 13) m4 (by decide))
            have r82 := (congrFun (f66 0 (by omega)) 14)
            have r83 := r82.trans (congrFun (f50 0 (by omega) (by omega)) 14)
            have r84 := r83.trans (congrFun (f32 0 (by omega)) 14)
            have r85 := r84.trans (congrFun (f16 0 (by omega) (by omega)) 14)
            have r86 := (fm_rd_i (a := 0) (b := 14) m4 (by decide))
            refine fr_cvR h kX11 at_0 wX11_orderOf lX11_210 (c_X11_orderOf x62 2 (by omega) (by omega) (by omega) (by omega)) rfl (by decide) (by decide) rfl (Nat.le_of_ble_eq_true rfl) dX11_years_73 (fun z88 x87 p90 => ?_)
            obtain ⟨p91, f92⟩ := p90
            obtain ⟨n93, i94⟩ := OrN_ex (show isOr z88 by unfold isOr; omega)
            have h_z88 := OrN_b i94
            refine fr_iconst h dX11_years_76 ?_
            refine fr_cvI h kX6 (Or_at (OrN_is i94)) wX6_costAt lX11_220 (c_X6_costAt x87 z88 n93 i94 1 (by omega)) rfl (by decide) (by decide) rfl (Nat.le_of_ble_eq_true rfl) dX11_years_77 (fun z96 x95 w97 p98 => ?_)
            have y99 := p98
            rw [y99]
            clear y99
            refine fr_i2l h (by omega) dX11_years_80 ?_
            refine fr_cvV h kX10 at_107 wX10_add lX11_223 (c_X10_add x87 z96 (by omega)) rfl (by decide) (by decide) rfl (Nat.le_of_ble_eq_true rfl) dX11_years_81 (fun x100 p103 => ?_)
            have f104 := p103
            refine fr_aload_n h rfl 0 rfl dX11_years_84 ?_
            refine fr_iconst h dX11_years_85 ?_
            have r105 := (congrFun (f104 0 (by omega)) 13)
            have r106 := r105.trans (congrFun (f92 0 (by omega) (by omega)) 13)
            have r107 := r106.trans (congrFun (f66 0 (by omega)) 13)
            have r108 := r107.trans (congrFun (f50 0 (by omega) (by omega)) 13)
            have r109 := r108.trans (congrFun (f32 0 (by omega)) 13)
            have r110 := r109.trans (congrFun (f16 0 (by omega) (by omega)) 13)
            have r111 := (fm_rd_i (a := 0) (b := 13) m4 (by decide))
            have r112 := (congrFun (f104 0 (by omega)) 14)
            have r113 := r112.trans (congrFun (f92 0 (by omega) (by omega)) 14)
            have r114 := r113.trans (congrFun (f66 0 (by omega)) 14)
            have r115 := r114.trans (congrFun (f50 0 (by omega) (by omega)) 14)
            have r116 := r115.trans (congrFun (f32 0 (by omega)) 14)
            have r117 := r116.trans (congrFun (f16 0 (by omega) (by omega)) 14)
            have r118 := (fm_rd_i (a := 0) (b := 14) m4 (by decide))
            have r119 := (congrFun (f104 0 (by omega)) 13)
            have r120 := r119.trans (congrFun (f92 0 (by omega) (by omega)) 13)
            have r121 := r120.trans (congrFun (f66 0 (by omega)) 13)
            have r122 := r121.trans (congrFun (f50 0 (by omega) (by omega)) 13)
            have r123 := r122.trans (congrFun (f32 0 (by omega)) 13)
            have r124 := r123.trans (congrFun (f16 0 (by omega) (by omega)) 13)
            have r125 := (fm_rd_i (a := 0) (b := 13) m4 (by decide))
            have r126 := (congrFun (f104 0 (by omega)) 14)
            have r127 := r126.trans (congrFun (f92 0 (by omega) (by omega)) 14)
            have r128 := r127.trans (congrFun (f66 0 (by omega)) 14)
            have r129 := r128.trans (congrFun (f50 0 (by omega) (by omega)) 14)
            have r130 := r129.trans (congrFun (f32 0 (by omega)) 14)
            have r131 := r130.trans (congrFun (f16 0 (by omega) (by omega)) 14)
            have r132 := (fm_rd_i (a := 0) (b := 14) m4 (by decide))
            refine fr_cvR h kX11 at_0 wX11_orderOf lX11_210 (c_X11_orderOf x100 0 (by omega) (by omega) (by omega) (by omega)) rfl (by decide) (by decide) rfl (Nat.le_of_ble_eq_true rfl) dX11_years_86 (fun z134 x133 p136 => ?_)
            obtain ⟨p137, f138⟩ := p136
            obtain ⟨n139, i140⟩ := OrN_ex (show isOr z134 by unfold isOr; omega)
            have h_z134 := OrN_b i140
            refine fr_cvI h kX6 (Or_at (OrN_is i140)) wX6_size lX11_214 (c_X6_size x133 z134 n139 i140) rfl (by decide) (by decide) rfl (Nat.le_of_ble_eq_true rfl) dX11_years_89 (fun z142 x141 w143 p144 => ?_)
            obtain ⟨p145, p146, p147, p148, y149⟩ := p144
            rw [y149]
            clear y149
            have r150 := (congrFun (f138 0 (by omega) (by omega)) 13)
            have r151 := r150.trans (congrFun (f104 0 (by omega)) 13)
            have r152 := r151.trans (congrFun (f92 0 (by omega) (by omega)) 13)
            have r153 := r152.trans (congrFun (f66 0 (by omega)) 13)
            have r154 := r153.trans (congrFun (f50 0 (by omega) (by omega)) 13)
            have r155 := r154.trans (congrFun (f32 0 (by omega)) 13)
            have r156 := r155.trans (congrFun (f16 0 (by omega) (by omega)) 13)
            have r157 := (fm_rd_i (a := 0) (b := 13) m4 (by decide))
            have r158 := (congrFun (f138 0 (by omega) (by omega)) 14)
            have r159 := r158.trans (congrFun (f104 0 (by omega)) 14)
            have r160 := r159.trans (congrFun (f92 0 (by omega) (by omega)) 14)
            have r161 := r160.trans (congrFun (f66 0 (by omega)) 14)
            have r162 := r161.trans (congrFun (f50 0 (by omega) (by omega)) 14)
            have r163 := r162.trans (congrFun (f32 0 (by omega)) 14)
            have r164 := r163.trans (congrFun (f16 0 (by omega) (by omega)) 14)
            have r165 := (fm_rd_i (a := 0) (b := 14) m4 (by decide))
            have r166 := (congrFun (f138 0 (by omega) (by omega)) 13)
            have r167 := r166.trans (congrFun (f104 0 (by omega)) 13)
            have r168 := r167.trans (congrFun (f92 0 (by omega) (by omega)) 13)
            have r169 := r168.trans (congrFun (f66 0 (by omega)) 13)
            have r170 := r169.trans (congrFun (f50 0 (by omega) (by omega)) 13)
            have r171 := r170.trans (congrFun (f32 0 (by omega)) 13)
            have r172 := r171.trans (congrFun (f16 0 (by omega) (by omega)) 13)
            have r173 := (fm_rd_i (a := 0) (b := 13) m4 (by decide))
            have r174 := (congrFun (f138 0 (by omega) (by omega)) 14)
            have r175 := r174.trans (congrFun (f104 0 (by omega)) 14)
            have r176 := r175.trans (congrFun (f92 0 (by omega) (by omega)) 14)
            have r177 := r176.trans (congrFun (f66 0 (by omega)) 14)
            have r178 := r177.trans (congrFun (f50 0 (by omega) (by omega)) 14)
            have r179 := r178.trans (congrFun (f32 0 (by omega)) 14)
            have r180 := r179.trans (congrFun (f16 0 (by omega) (by omega)) 14)
            have r181 := (fm_rd_i (a := 0) (b := 14) m4 (by decide))
            exact fr_iret h hq (by omega) ⟨(by omega), (fun a k0 k1 k2 k3 k4 k5 k6 => ((f138 a (by omega) (by omega)).trans ((f104 a (by omega)).trans ((f92 a (by omega) (by omega)).trans ((f66 a (by omega)).trans ((f50 a (by omega) (by omega)).trans ((f32 a (by omega)).trans ((f16 a (by omega) (by omega)).trans ((g5_6 a (by omega) (by omega) (by omega) (by omega) (by omega)).trans (fm_up_row m4 (by omega)))))))))))⟩ dX11_years_92
          ·
            refine fr_aload_n h rfl 0 rfl dX11_years_25 ?_
            refine fr_cvV h kX11 at_0 wX11_liveYear lX11_337 (c_X11_liveYear x_5) rfl (by decide) (by decide) rfl (Nat.le_of_ble_eq_true rfl) dX11_years_26 (fun x182 p185 => ?_)
            obtain ⟨p186, p187, f188⟩ := p185
            refine fr_iinc (j := 3) (L' := [(0, vr G 0), (1, vi v), (2, vi n), (3, vi (l3_5 + 1))]) h dX11_years_29 rfl (by decide) [1, 2, 3, 0] rfl ?_
            refine fr_goto (tgt := 20) h dX11_years_32 (by decide) ?_
            have r189 := (fm_rd_i (a := 0) (b := 13) m4 (by decide))
            have r190 := (fm_rd_i (a := 0) (b := 14) m4 (by decide))
            exact ih5 (l3_5 + 1) x182 (by omega) (by omega) (by omega) (by omega) (by omega) (by omega) (fun a k0 k1 k2 k3 k4 => ((f188 a (by omega) (by omega) (by omega) (by omega) (by omega)).trans (g5_6 a (by omega) (by omega) (by omega) (by omega) (by omega)))) (by omega)
      have r191 := (fm_rd_i (a := 0) (b := 13) m4 (by decide))
      have r192 := (fm_rd_i (a := 0) (b := 14) m4 (by decide))
      exact HL5 ((n - 0) + 1 : Int).toNat 0 x3 (by omega) (by omega) (by omega) (by omega) (by omega) (by omega) (fun a _ _ _ _ _ => rfl) (by omega)
    ·
      refine fr_iconst h dX11_years_11 ?_
      exact fr_iret h hq (by omega) ⟨(by omega), (fun a _ _ _ _ _ _ _ => rfl)⟩ dX11_years_12
set_option maxHeartbeats 200000 in
theorem c_X11_keep (x : Mm) (p : Int) (h_p : fm_r p) : CnI YC yX11_keep cX11_keep 2 .boolean 2 47 (fun G => [vr G 0, vi p]) x (fun z y' => (z = 0 ∨ z = 1) ∧ ((z = 1 ↔ 0 ≤ p ∧ p < 2)) ∧ (z = 1 → y' 77 p = 1) ∧ (∀ j : Int, ¬ (z = 1 ∧ j = p) → y' 77 j = x 77 j) ∧ (∀ a : Int, (a < 67 ∨ 77 < a) → y' a = x a)) := by
  refine cn_I (by decide) (fun _ => Nat.le_of_ble_eq_true rfl) (fun G C h hq => ?_)
  have h : OK YC G C cX11_keep RX11 2 (some .boolean) 2 47 := h
  show FW YC G C 2 x 0 [(0, vr G 0), (1, vi p)] []
  refine fr_iload_n h rfl 1 rfl dX11_keep_0 ?_
  refine fr_if_lt (tgt := 9) h dX11_keep_1 (by decide) (by omega) (fun c1 => ?_) (fun c1 => ?_)
  ·
    refine fr_iconst h dX11_keep_9 ?_
    exact fr_zret h rfl hq (by omega) ⟨(by omega), (by omega), (by omega), (fun j hj => rfl), (fun a _ => rfl)⟩ dX11_keep_10
  ·
    refine fr_iload_n h rfl 1 rfl dX11_keep_4 ?_
    refine fr_iconst h dX11_keep_5 ?_
    refine fr_icmp_lt (tgt := 11) h dX11_keep_6 (by decide) (by omega) (by omega) (fun c2 => ?_) (fun c2 => ?_)
    ·
      refine fr_aload_n h rfl 0 rfl dX11_keep_11 ?_
      refine fr_getc (z := 66) (iz := 5) h kX11 fX11_40 at_0 rfl rfl rf_0_5 (by omega) dX11_keep_12 ?_
      refine fr_iload_n h rfl 1 rfl dX11_keep_15 ?_
      refine fr_aaldc5 h ar_66 (by omega) (by omega) (rx_66 (by omega) (by omega)) (by omega) dX11_keep_16 (fun q3 w4 => ?_)
      have i5 : isSt q3 := by rw [w4]; exact St_ix66 (by omega) (by omega)
      have h_q3 := St_b i5
      refine fr_aload_n h rfl 0 rfl dX11_keep_17 ?_
      refine fr_getc (z := 3) (iz := 1) h kX11 fX11_19 at_0 rfl rfl rf_0_1 (by omega) dX11_keep_18 ?_
      refine fr_cvV h kX8 (St_at i5) wX8_copyFrom lX11_120 (c_X8_copyFrom x q3 i5 3 St_3) rfl (by decide) (by decide) rfl (Nat.le_of_ble_eq_true rfl) dX11_keep_21 (fun x6 p9 => ?_)
      have f10 := p9
      refine fr_aload_n h rfl 0 rfl dX11_keep_24 ?_
      refine fr_getc (z := 77) (iz := 6) h kX11 fX11_44 at_0 rfl rfl rf_0_6 (by omega) dX11_keep_25 ?_
      refine fr_iload_n h rfl 1 rfl dX11_keep_28 ?_
      refine fr_iconst h dX11_keep_29 ?_
      refine fr_zast h ar_77 (by omega) (by omega) (rr_77 p) (by omega) (by omega) (by omega) dX11_keep_30 ?_
      refine fr_mem (fun x11 m12 => ?_)
      refine fr_iconst h dX11_keep_31 ?_
      have r13 := (fm_rd_s m12)
      exact fr_zret h rfl hq (by omega) ⟨(by omega), (by omega), (by omega), (fun j hj => ((fm_rd_i (a := 77) (b := j) m12 (by omega)).trans ((congrFun (f10 77 (by omega)) j)))), (fun a k0 => ((fm_up_row m12 (by omega)).trans (f10 a (by omega))))⟩ dX11_keep_32
    ·
      refine fr_iconst h dX11_keep_9 ?_
      exact fr_zret h rfl hq (by omega) ⟨(by omega), (by omega), (by omega), (fun j hj => rfl), (fun a _ => rfl)⟩ dX11_keep_10
set_option maxHeartbeats 200000 in
theorem c_X11_again (x : Mm) (p : Int) (h_p : fm_r p) : CnI YC yX11_again cX11_again 2 .boolean 2 47 (fun G => [vr G 0, vi p]) x (fun z y' => (z = 0 ∨ z = 1) ∧ ((z = 1 ↔ 0 ≤ p ∧ p < 2 ∧ x 77 p ≠ 0)) ∧ (∀ a : Int, (a < 3 ∨ 12 < a) → (a < 14 ∨ 65 < a) → (a < 79 ∨ 88 < a) → (a < 95 ∨ 97 < a) → y' a = x a)) := by
  refine cn_I (by decide) (fun _ => Nat.le_of_ble_eq_true rfl) (fun G C h hq => ?_)
  have h : OK YC G C cX11_again RX11 2 (some .boolean) 2 47 := h
  show FW YC G C 2 x 0 [(0, vr G 0), (1, vi p)] []
  refine fr_iload_n h rfl 1 rfl dX11_again_0 ?_
  refine fr_if_lt (tgt := 18) h dX11_again_1 (by decide) (by omega) (fun c1 => ?_) (fun c1 => ?_)
  ·
    refine fr_iconst h dX11_again_18 ?_
    exact fr_zret h rfl hq (by omega) ⟨(by omega), (by omega), (fun a _ _ _ _ => rfl)⟩ dX11_again_19
  ·
    refine fr_iload_n h rfl 1 rfl dX11_again_4 ?_
    refine fr_iconst h dX11_again_5 ?_
    refine fr_icmp_ge (tgt := 18) h dX11_again_6 (by decide) (by omega) (by omega) (fun c2 => ?_) (fun c2 => ?_)
    ·
      refine fr_iconst h dX11_again_18 ?_
      exact fr_zret h rfl hq (by omega) ⟨(by omega), (by omega), (fun a _ _ _ _ => rfl)⟩ dX11_again_19
    ·
      refine fr_aload_n h rfl 0 rfl dX11_again_9 ?_
      refine fr_getc (z := 77) (iz := 6) h kX11 fX11_44 at_0 rfl rfl rf_0_6 (by omega) dX11_again_10 ?_
      refine fr_iload_n h rfl 1 rfl dX11_again_13 ?_
      refine fr_zald h ar_77 (by omega) (by omega) (rr_77 p) dX11_again_14 (fun z3 w4 w5 q6 => ?_)
      refine fr_if_ne (tgt := 20) h dX11_again_15 (by decide) (by omega) (fun c7 => ?_) (fun c7 => ?_)
      ·
        refine fr_aload_n h rfl 0 rfl dX11_again_20 ?_
        refine fr_getc (z := 3) (iz := 1) h kX11 fX11_19 at_0 rfl rfl rf_0_1 (by omega) dX11_again_21 ?_
        refine fr_aload_n h rfl 0 rfl dX11_again_24 ?_
        refine fr_getc (z := 66) (iz := 5) h kX11 fX11_40 at_0 rfl rfl rf_0_5 (by omega) dX11_again_25 ?_
        refine fr_iload_n h rfl 1 rfl dX11_again_28 ?_
        refine fr_aaldc5 h ar_66 (by omega) (by omega) (rx_66 (by omega) (by omega)) (by omega) dX11_again_29 (fun q8 w9 => ?_)
        have i10 : isSt q8 := by rw [w9]; exact St_ix66 (by omega) (by omega)
        have h_q8 := St_b i10
        refine fr_cvV h kX8 (St_at St_3) wX8_copyFrom lX11_120 (c_X8_copyFrom x 3 St_3 q8 i10) rfl (by decide) (by decide) rfl (Nat.le_of_ble_eq_true rfl) dX11_again_30 (fun x11 p14 => ?_)
        have f15 := p14
        refine fr_aload_n h rfl 0 rfl dX11_again_33 ?_
        refine fr_getc (z := 14) (iz := 4) h kX11 fX11_36 at_0 rfl rfl rf_0_4 (by omega) dX11_again_34 ?_
        refine fr_cvV h kX5 at_14 wX5_clear lX11_340 (c_X5_clear x11) rfl (by decide) (by decide) rfl (Nat.le_of_ble_eq_true rfl) dX11_again_37 (fun x16 p19 => ?_)
        have f20 := p19
        refine fr_aload_n h rfl 0 rfl dX11_again_40 ?_
        refine fr_cvV h kX11 at_0 wX11_changed lX11_136 (c_X11_changed x16) rfl (by decide) (by decide) rfl (Nat.le_of_ble_eq_true rfl) dX11_again_41 (fun x21 p24 => ?_)
        have f25 := p24
        refine fr_iconst h dX11_again_44 ?_
        exact fr_zret h rfl hq (by omega) ⟨(by omega), (by omega), (fun a k0 k1 k2 k3 => ((f25 a (by omega) (by omega)).trans ((f20 a (by omega)).trans (f15 a (by omega)))))⟩ dX11_again_45
      ·
        refine fr_iconst h dX11_again_18 ?_
        exact fr_zret h rfl hq (by omega) ⟨(by omega), (by omega), (fun a _ _ _ _ => rfl)⟩ dX11_again_19
set_option maxHeartbeats 200000 in
theorem c_X11_count (x : Mm) (p : Int) (h_p : fm_r p) : CnI YC yX11_count cX11_count 2 .int 1 22 (fun G => [vr G 0, vi p]) x (fun z y' => (y' = x)) := by
  refine cn_I (by decide) (fun _ => Nat.le_of_ble_eq_true rfl) (fun G C h hq => ?_)
  have h : OK YC G C cX11_count RX11 2 (some .int) 1 22 := h
  show FW YC G C 2 x 0 [(0, vr G 0), (1, vi p)] []
  refine fr_iload_n h rfl 1 rfl dX11_count_0 ?_
  by_cases c2 : p = 0
  ·
    refine fr_tab_in (off := 55) (tgt := 56) h dX11_count_1 (by omega) (by omega) (by omega) (by rw [c2]; rfl) (by decide) ?_
    refine fr_aload_n h rfl 0 rfl dX11_count_56 ?_
    refine fr_getc (z := 3) (iz := 1) h kX11 fX11_19 at_0 rfl rfl rf_0_1 (by omega) dX11_count_57 ?_
    refine fr_cvI h kX8 (St_at St_3) wX8_allNumbers lX11_341 (c_X8_allNumbers x 3 St_3) rfl (by decide) (by decide) rfl (Nat.le_of_ble_eq_true rfl) dX11_count_60 (fun z4 x3 w5 p6 => ?_)
    obtain ⟨p7, p8, y9⟩ := p6
    rw [y9]
    clear y9
    exact fr_iret h hq (by omega) rfl dX11_count_63
  ·
    by_cases c10 : p = 1
    ·
      refine fr_tab_in (off := 63) (tgt := 64) h dX11_count_1 (by omega) (by omega) (by omega) (by rw [c10]; rfl) (by decide) ?_
      refine fr_aload_n h rfl 0 rfl dX11_count_64 ?_
      refine fr_getc (z := 3) (iz := 1) h kX11 fX11_19 at_0 rfl rfl rf_0_1 (by omega) dX11_count_65 ?_
      refine fr_cvI h kX8 (St_at St_3) wX8_edges lX11_344 (c_X8_edges x 3 St_3) rfl (by decide) (by decide) rfl (Nat.le_of_ble_eq_true rfl) dX11_count_68 (fun z12 x11 w13 p14 => ?_)
      obtain ⟨p15, p16, y17⟩ := p14
      rw [y17]
      clear y17
      exact fr_iret h hq (by omega) rfl dX11_count_71
    ·
      by_cases c18 : p = 2
      ·
        refine fr_tab_in (off := 71) (tgt := 72) h dX11_count_1 (by omega) (by omega) (by omega) (by rw [c18]; rfl) (by decide) ?_
        refine fr_aload_n h rfl 0 rfl dX11_count_72 ?_
        refine fr_getc (z := 3) (iz := 1) h kX11 fX11_19 at_0 rfl rfl rf_0_1 (by omega) dX11_count_73 ?_
        refine fr_cvI h kX8 (St_at St_3) wX8_size lX11_347 (c_X8_size x 3 St_3) rfl (by decide) (by decide) rfl (Nat.le_of_ble_eq_true rfl) dX11_count_76 (fun z20 x19 w21 p22 => ?_)
        obtain ⟨p23, p24, p25, y26⟩ := p22
        rw [y26]
        clear y26
        exact fr_iret h hq (by omega) rfl dX11_count_79
      ·
        by_cases c27 : p = 3
        ·
          refine fr_tab_in (off := 79) (tgt := 80) h dX11_count_1 (by omega) (by omega) (by omega) (by rw [c27]; rfl) (by decide) ?_
          refine fr_aload_n h rfl 0 rfl dX11_count_80 ?_
          refine fr_getc (z := 3) (iz := 1) h kX11 fX11_19 at_0 rfl rfl rf_0_1 (by omega) dX11_count_81 ?_
          refine fr_cvI h kX8 (St_at St_3) wX8_picked lX11_348 (c_X8_picked x 3 St_3) rfl (by decide) (by decide) rfl (Nat.le_of_ble_eq_true rfl) dX11_count_84 (fun z29 x28 w30 p31 => ?_)
          obtain ⟨p32, p33, p34, y35⟩ := p31
          rw [y35]
          clear y35
          exact fr_iret h hq (by omega) rfl dX11_count_87
        ·
          by_cases c36 : p = 4
          ·
            refine fr_tab_in (off := 87) (tgt := 88) h dX11_count_1 (by omega) (by omega) (by omega) (by rw [c36]; rfl) (by decide) ?_
            refine fr_aload_n h rfl 0 rfl dX11_count_88 ?_
            refine fr_getc (z := 3) (iz := 1) h kX11 fX11_19 at_0 rfl rfl rf_0_1 (by omega) dX11_count_89 ?_
            refine fr_cvI h kX8 (St_at St_3) wX8_endsAsNumber lX11_351 (c_X8_endsAsNumber x 3 St_3) rfl (by decide) (by decide) rfl (Nat.le_of_ble_eq_true rfl) dX11_count_92 (fun z38 x37 w39 p40 => ?_)
            obtain ⟨p41, p42, y43⟩ := p40
            rw [y43]
            clear y43
            exact fr_iret h hq (by omega) rfl dX11_count_95
          ·
            by_cases c44 : p = 5
            ·
              refine fr_tab_in (off := 95) (tgt := 96) h dX11_count_1 (by omega) (by omega) (by omega) (by rw [c44]; rfl) (by decide) ?_
              refine fr_aload_n h rfl 0 rfl dX11_count_96 ?_
              refine fr_getc (z := 98) (iz := 10) h kX11 fX11_70 at_0 rfl rfl rf_0_10 (by omega) dX11_count_97 ?_
              refine fr_cvI h kX1 at_98 wX1_size lX11_286 (c_X1_size x) rfl (by decide) (by decide) rfl (Nat.le_of_ble_eq_true rfl) dX11_count_100 (fun z46 x45 w47 p48 => ?_)
              obtain ⟨p49, p50, p51, y52⟩ := p48
              rw [y52]
              clear y52
              exact fr_iret h hq (by omega) rfl dX11_count_103
            ·
              by_cases c53 : p = 6
              ·
                refine fr_tab_in (off := 103) (tgt := 104) h dX11_count_1 (by omega) (by omega) (by omega) (by rw [c53]; rfl) (by decide) ?_
                refine fr_aload_n h rfl 0 rfl dX11_count_104 ?_
                refine fr_getc (z := 14) (iz := 4) h kX11 fX11_36 at_0 rfl rfl rf_0_4 (by omega) dX11_count_105 ?_
                refine fr_cvI h kX5 at_14 wX5_size lX11_200 (c_X5_size x) rfl (by decide) (by decide) rfl (Nat.le_of_ble_eq_true rfl) dX11_count_108 (fun z55 x54 w56 p57 => ?_)
                obtain ⟨p58, p59, p60, y61⟩ := p57
                rw [y61]
                clear y61
                exact fr_iret h hq (by omega) rfl dX11_count_111
              ·
                by_cases c62 : p = 7
                ·
                  refine fr_tab_in (off := 111) (tgt := 112) h dX11_count_1 (by omega) (by omega) (by omega) (by rw [c62]; rfl) (by decide) ?_
                  refine fr_aload_n h rfl 0 rfl dX11_count_112 ?_
                  refine fr_getc (z := 107) (iz := 11) h kX11 fX11_77 at_0 rfl rfl rf_0_11 (by omega) dX11_count_113 ?_
                  refine fr_cvI h kX10 at_107 wX10_size lX11_354 (c_X10_size x) rfl (by decide) (by decide) rfl (Nat.le_of_ble_eq_true rfl) dX11_count_116 (fun z64 x63 w65 p66 => ?_)
                  obtain ⟨p67, p68, p69, y70⟩ := p66
                  rw [y70]
                  clear y70
                  exact fr_iret h hq (by omega) rfl dX11_count_119
                ·
                  by_cases c71 : p = 8
                  ·
                    refine fr_tab_in (off := 119) (tgt := 120) h dX11_count_1 (by omega) (by omega) (by omega) (by rw [c71]; rfl) (by decide) ?_
                    refine fr_aload_n h rfl 0 rfl dX11_count_120 ?_
                    refine fr_getc (z := 1) (iz := 0) h kX11 fX11_10 at_0 rfl rfl rf_0_0 (by omega) dX11_count_121 ?_
                    refine fr_cvI h kX9 at_1 wX9_length lX11_106 (c_X9_length x) rfl (by decide) (by decide) rfl (Nat.le_of_ble_eq_true rfl) dX11_count_124 (fun z73 x72 w74 p75 => ?_)
                    obtain ⟨p76, p77, p78, y79⟩ := p75
                    rw [y79]
                    clear y79
                    exact fr_iret h hq (by omega) rfl dX11_count_127
                  ·
                    by_cases c80 : p = 9
                    ·
                      refine fr_tab_in (off := 127) (tgt := 128) h dX11_count_1 (by omega) (by omega) (by omega) (by rw [c80]; rfl) (by decide) ?_
                      refine fr_aload_n h rfl 0 rfl dX11_count_128 ?_
                      refine fr_getc (z := 3) (iz := 1) h kX11 fX11_19 at_0 rfl rfl rf_0_1 (by omega) dX11_count_129 ?_
                      refine fr_cvI h kX8 (St_at St_3) wX8_joinedNodes lX11_355 (c_X8_joinedNodes x 3 St_3) rfl (by decide) (by decide) rfl (Nat.le_of_ble_eq_true rfl) dX11_count_132 (fun z82 x81 w83 p84 => ?_)
                      have y85 := p84
                      rw [y85]
                      clear y85
                      exact fr_iret h hq (by omega) rfl dX11_count_135
                    ·
                      refine fr_tab_out (tgt := 136) h dX11_count_1 (by omega) (by omega) (by decide) ?_
                      refine fr_iconst h dX11_count_136 ?_
                      exact fr_iret h hq (by omega) rfl dX11_count_137
