set_option maxHeartbeats 1000000 in
theorem f_X11_best (x : Mm) (p : Int) (k : Int) (h_p : fm_r p) (h_k : fm_r k) (e0 : FRC x) : CnI YC yX11_best cX11_best 4 .int 18 522 (fun G => [vr G 0, vi p, vi k]) x (fun z y' => (¬ (0 ≤ p ∧ p < 5 ∧ 1 ≤ k ∧ k ≤ 400) → z = (-1)) ∧ ((0 ≤ p ∧ p < 5 ∧ 1 ≤ k ∧ k ≤ 400) → p ≠ 4 → (k = 1 → z = 0) ∧ (k ≠ 1 → z = (-2))) ∧ ((0 ≤ p ∧ p < 5 ∧ 1 ≤ k ∧ k ≤ 400) → p = 4 → z = (-2)) ∧ (∀ a : Int, (a < 79 ∨ 93 < a) → (a < 107 ∨ 108 < a) → (a < 110 ∨ 119 < a) → y' a = x a)) := by
  refine cn_I (by decide) (fun _ => Nat.le_of_ble_eq_true rfl) (fun G C h hq => ?_)
  have h : OK YC G C cX11_best RX11 4 (some .int) 18 522 := h
  show FW YC G C 4 x 0 [(0, vr G 0), (1, vi p), (2, vi k)] []
  obtain ⟨hSZ, hWZ, hTZ, hKN, hKE, h34, h35, h36, h37, h13, h14, h1104, h111, h11, h142, h983, h1071, hCU, hKP⟩ := e0
  have hru : isRu 110 := Or.inl rfl
  have h_110 := Ru_b hru
  have hru5 : isRu 115 := Or.inr rfl
  have h_115 := Ru_b hru5
  refine fr_iload_n h rfl 1 rfl dX11_best_0 ?_
  refine fr_csI h wX11_isKind lX11_203 (c_X11_isKind x p (by omega)) rfl (by decide) (by decide) rfl (Nat.le_of_ble_eq_true rfl) dX11_best_1 (fun z2 x1 w3 p4 => ?_)
  obtain ⟨p5, p6, y7⟩ := p4
  rw [y7]
  clear y7
  refine fr_if_eq (tgt := 17) h dX11_best_4 (by decide) (by omega) (fun c8 => ?_) (fun c8 => ?_)
  ·
    refine fr_iconst h dX11_best_17 ?_
    exact fr_iret h hq (by omega) ⟨(by omega), (by omega), (by omega), (fun a _ _ _ => rfl)⟩ dX11_best_18
  ·
    refine fr_iload_n h rfl 2 rfl dX11_best_7 ?_
    refine fr_sipush h rfl dX11_best_8 ?_
    refine fr_csI h wX11_isPlace lX11_206 (c_X11_isPlace x k 400 (by omega) (by omega)) rfl (by decide) (by decide) rfl (Nat.le_of_ble_eq_true rfl) dX11_best_11 (fun z10 x9 w11 p12 => ?_)
    obtain ⟨p13, p14, y15⟩ := p12
    rw [y15]
    clear y15
    refine fr_if_ne (tgt := 19) h dX11_best_14 (by decide) (by omega) (fun c16 => ?_) (fun c16 => ?_)
    ·
      refine fr_aload_n h rfl 0 rfl dX11_best_19 ?_
      refine fr_iload_n h rfl 1 rfl dX11_best_20 ?_
      refine fr_cvR h kX11 at_0 wX11_orderOf lX11_210 (f_X11_orderOf x p (by omega) (by omega) (by omega) hKN hKE (fun j a b => hSZ j a b) (fun j a b => hWZ j a b) (by omega) (by omega) (by omega) (by omega) (by omega) (by omega)) rfl (by decide) (by decide) rfl (Nat.le_of_ble_eq_true rfl) dX11_best_21 (fun z18 x17 p20 => ?_)
      obtain ⟨p21, p22, p23, p24, p25, f26⟩ := p20
      obtain ⟨n27, i28⟩ := OrN_ex (show isOr z18 by unfold isOr; omega)
      have h_z18 := OrN_b i28
      refine fr_astore_n (L' := [(0, vr G 0), (1, vi p), (2, vi k), (3, vr G z18)]) h rfl dX11_best_24 (by decide) [1, 2, 3, 0] rfl ?_
      refine fr_iload_n h rfl 2 rfl dX11_best_25 ?_
      refine fr_aload_n h rfl 3 rfl dX11_best_26 ?_
      refine fr_cvI h kX6 (Or_at (OrN_is i28)) wX6_size lX11_214 (c_X6_size x17 z18 n27 i28) rfl (by decide) (by decide) rfl (Nat.le_of_ble_eq_true rfl) dX11_best_27 (fun z30 x29 w31 p32 => ?_)
      obtain ⟨p33, p34, p35, p36, y37⟩ := p32
      rw [y37]
      clear y37
      refine fr_icmp_le (tgt := 36) h dX11_best_30 (by decide) (by omega) (by omega) (fun c38 => ?_) (fun c38 => ?_)
      ·
        refine fr_aload_n h rfl 0 rfl dX11_best_36 ?_
        refine fr_aload_n h rfl 3 rfl dX11_best_37 ?_
        refine fr_iload_n h rfl 2 rfl dX11_best_38 ?_
        refine fr_cvI h kX11 at_0 wX11_tellOne lX11_215 (f_X11_tellOne x17 z18 n27 i28 k (by omega) (by omega) (by omega)) rfl (by decide) (by decide) rfl (Nat.le_of_ble_eq_true rfl) dX11_best_39 (fun z40 x39 w41 p42 => ?_)
        obtain ⟨p43, f44⟩ := p42
        exact fr_iret h hq (by omega) ⟨(by omega), (by omega), (by omega), (fun a k0 k1 k2 => ((f44 a (by omega)).trans (f26 a (by omega) (by omega))))⟩ dX11_best_42
      ·
        refine fr_bipush h rfl dX11_best_33 ?_
        exact fr_iret h hq (by omega) ⟨(by omega), (by omega), (by omega), (fun a k0 k1 k2 => (f26 a (by omega) (by omega)))⟩ dX11_best_35
    ·
      refine fr_iconst h dX11_best_17 ?_
      exact fr_iret h hq (by omega) ⟨(by omega), (by omega), (by omega), (fun a _ _ _ => rfl)⟩ dX11_best_18
set_option maxHeartbeats 1000000 in
theorem f_X11_many (x : Mm) (p : Int) (h_p : fm_r p) (e0 : FRC x) : CnI YC yX11_many cX11_many 4 .int 18 522 (fun G => [vr G 0, vi p]) x (fun z y' => (¬ (0 ≤ p ∧ p < 5) → z = (-1)) ∧ ((0 ≤ p ∧ p < 5) → p ≠ 4 → z = 1) ∧ ((0 ≤ p ∧ p < 5) → p = 4 → z = 0) ∧ (∀ a : Int, (a < 79 ∨ 93 < a) → (a < 107 ∨ 108 < a) → (a < 110 ∨ 119 < a) → y' a = x a)) := by
  refine cn_I (by decide) (fun _ => Nat.le_of_ble_eq_true rfl) (fun G C h hq => ?_)
  have h : OK YC G C cX11_many RX11 4 (some .int) 18 522 := h
  show FW YC G C 4 x 0 [(0, vr G 0), (1, vi p)] []
  obtain ⟨hSZ, hWZ, hTZ, hKN, hKE, h34, h35, h36, h37, h13, h14, h1104, h111, h11, h142, h983, h1071, hCU, hKP⟩ := e0
  have hru : isRu 110 := Or.inl rfl
  have h_110 := Ru_b hru
  have hru5 : isRu 115 := Or.inr rfl
  have h_115 := Ru_b hru5
  refine fr_iload_n h rfl 1 rfl dX11_many_0 ?_
  refine fr_csI h wX11_isKind lX11_203 (c_X11_isKind x p (by omega)) rfl (by decide) (by decide) rfl (Nat.le_of_ble_eq_true rfl) dX11_many_1 (fun z2 x1 w3 p4 => ?_)
  obtain ⟨p5, p6, y7⟩ := p4
  rw [y7]
  clear y7
  refine fr_if_ne (tgt := 9) h dX11_many_4 (by decide) (by omega) (fun c8 => ?_) (fun c8 => ?_)
  ·
    refine fr_aload_n h rfl 0 rfl dX11_many_9 ?_
    refine fr_iload_n h rfl 1 rfl dX11_many_10 ?_
    refine fr_cvR h kX11 at_0 wX11_orderOf lX11_210 (f_X11_orderOf x p (by omega) (by omega) (by omega) hKN hKE (fun j a b => hSZ j a b) (fun j a b => hWZ j a b) (by omega) (by omega) (by omega) (by omega) (by omega) (by omega)) rfl (by decide) (by decide) rfl (Nat.le_of_ble_eq_true rfl) dX11_many_11 (fun z10 x9 p12 => ?_)
    obtain ⟨p13, p14, p15, p16, p17, f18⟩ := p12
    obtain ⟨n19, i20⟩ := OrN_ex (show isOr z10 by unfold isOr; omega)
    have h_z10 := OrN_b i20
    refine fr_astore_n (L' := [(0, vr G 0), (1, vi p), (2, vr G z10)]) h rfl dX11_many_14 (by decide) [1, 2, 0] rfl ?_
    refine fr_aload_n h rfl 2 rfl dX11_many_15 ?_
    refine fr_cvI h kX6 (Or_at (OrN_is i20)) wX6_size lX11_214 (c_X6_size x9 z10 n19 i20) rfl (by decide) (by decide) rfl (Nat.le_of_ble_eq_true rfl) dX11_many_16 (fun z22 x21 w23 p24 => ?_)
    obtain ⟨p25, p26, p27, p28, y29⟩ := p24
    rw [y29]
    clear y29
    refine fr_istore_n (L' := [(0, vr G 0), (1, vi p), (2, vr G z10), (3, vi z22)]) h rfl dX11_many_19 (by decide) [1, 2, 3, 0] rfl ?_
    refine fr_aload_n h rfl 0 rfl dX11_many_20 ?_
    refine fr_getc (z := 107) (iz := 11) h kX11 fX11_77 at_0 rfl rfl rf_0_11 (by omega) dX11_many_21 ?_
    refine fr_cvV h kX10 at_107 wX10_clear lX11_219 (c_X10_clear x9) rfl (by decide) (by decide) rfl (Nat.le_of_ble_eq_true rfl) dX11_many_24 (fun x30 p33 => ?_)
    have f34 := p33
    refine fr_iload_n h rfl 3 rfl dX11_many_27 ?_
    refine fr_if_le (tgt := 74) h dX11_many_28 (by decide) (by omega) (fun c35 => ?_) (fun c35 => ?_)
    ·
      refine fr_iload_n h rfl 3 rfl dX11_many_74 ?_
      exact fr_iret h hq (by omega) ⟨(by omega), (by omega), (by omega), (fun a k0 k1 k2 => ((f34 a (by omega)).trans (f18 a (by omega) (by omega))))⟩ dX11_many_75
    ·
      refine fr_aload_n h rfl 0 rfl dX11_many_31 ?_
      refine fr_getc (z := 107) (iz := 11) h kX11 fX11_77 at_0 rfl rfl rf_0_11 (by omega) dX11_many_32 ?_
      refine fr_aload_n h rfl 2 rfl dX11_many_35 ?_
      refine fr_iconst h dX11_many_36 ?_
      have r36 := (congrFun (f34 z10 (by omega)) 1)
      have r37 := (congrFun (f34 (z10 + 1) (by omega)) 0)
      refine fr_cvI h kX6 (Or_at (OrN_is i20)) wX6_costAt lX11_220 (f_X6_costAt x30 z10 n19 i20 1 (by omega) (by omega) (by omega)) rfl (by decide) (by decide) rfl (Nat.le_of_ble_eq_true rfl) dX11_many_37 (fun z39 x38 w40 p41 => ?_)
      obtain ⟨p42, y43⟩ := p41
      rw [y43]
      clear y43
      refine fr_i2l h (by omega) dX11_many_40 ?_
      refine fr_cvV h kX10 at_107 wX10_add lX11_223 (c_X10_add x30 z39 (by omega)) rfl (by decide) (by decide) rfl (Nat.le_of_ble_eq_true rfl) dX11_many_41 (fun x44 p47 => ?_)
      have f48 := p47
      refine fr_aload_n h rfl 0 rfl dX11_many_44 ?_
      refine fr_getc (z := 107) (iz := 11) h kX11 fX11_77 at_0 rfl rfl rf_0_11 (by omega) dX11_many_45 ?_
      refine fr_aload_n h rfl 2 rfl dX11_many_48 ?_
      refine fr_aload_n h rfl 2 rfl dX11_many_49 ?_
      refine fr_iconst h dX11_many_50 ?_
      have r49 := (congrFun (f48 z10 (by omega)) 1)
      have r50 := r49.trans (congrFun (f34 z10 (by omega)) 1)
      have r51 := (congrFun (f48 (z10 + 1) (by omega)) 0)
      have r52 := r51.trans (congrFun (f34 (z10 + 1) (by omega)) 0)
      refine fr_cvI h kX6 (Or_at (OrN_is i20)) wX6_costAt lX11_220 (f_X6_costAt x44 z10 n19 i20 1 (by omega) (by omega) (by omega)) rfl (by decide) (by decide) rfl (Nat.le_of_ble_eq_true rfl) dX11_many_51 (fun z54 x53 w55 p56 => ?_)
      obtain ⟨p57, y58⟩ := p56
      rw [y58]
      clear y58
      refine fr_cvI h kX6 (Or_at (OrN_is i20)) wX6_upTo lX11_226 (f_X6_upTo x44 z10 n19 i20 z54 (by omega) (by omega) (by omega)) rfl (by decide) (by decide) rfl (Nat.le_of_ble_eq_true rfl) dX11_many_54 (fun z60 x59 w61 p62 => ?_)
      obtain ⟨p63, p64, p65, p66, y67⟩ := p62
      rw [y67]
      clear y67
      refine fr_i2l h (by omega) dX11_many_57 ?_
      refine fr_cvV h kX10 at_107 wX10_add lX11_223 (c_X10_add x44 z60 (by omega)) rfl (by decide) (by decide) rfl (Nat.le_of_ble_eq_true rfl) dX11_many_58 (fun x68 p71 => ?_)
      have f72 := p71
      refine fr_aload_n h rfl 0 rfl dX11_many_61 ?_
      refine fr_getc (z := 107) (iz := 11) h kX11 fX11_77 at_0 rfl rfl rf_0_11 (by omega) dX11_many_62 ?_
      refine fr_aload_n h rfl 2 rfl dX11_many_65 ?_
      refine fr_iload_n h rfl 3 rfl dX11_many_66 ?_
      have r73 := (congrFun (f72 z10 (by omega)) 1)
      have r74 := r73.trans (congrFun (f48 z10 (by omega)) 1)
      have r75 := r74.trans (congrFun (f34 z10 (by omega)) 1)
      have r76 := (congrFun (f72 (z10 + 1) (by omega)) 0)
      have r77 := r76.trans (congrFun (f48 (z10 + 1) (by omega)) 0)
      have r78 := r77.trans (congrFun (f34 (z10 + 1) (by omega)) 0)
      refine fr_cvI h kX6 (Or_at (OrN_is i20)) wX6_costAt lX11_220 (f_X6_costAt x68 z10 n19 i20 z22 (by omega) (by omega) (by omega)) rfl (by decide) (by decide) rfl (Nat.le_of_ble_eq_true rfl) dX11_many_67 (fun z80 x79 w81 p82 => ?_)
      obtain ⟨p83, y84⟩ := p82
      rw [y84]
      clear y84
      refine fr_i2l h (by omega) dX11_many_70 ?_
      refine fr_cvV h kX10 at_107 wX10_add lX11_223 (c_X10_add x68 z80 (by omega)) rfl (by decide) (by decide) rfl (Nat.le_of_ble_eq_true rfl) dX11_many_71 (fun x85 p88 => ?_)
      have f89 := p88
      refine fr_iload_n h rfl 3 rfl dX11_many_74 ?_
      exact fr_iret h hq (by omega) ⟨(by omega), (by omega), (by omega), (fun a k0 k1 k2 => ((f89 a (by omega)).trans ((f72 a (by omega)).trans ((f48 a (by omega)).trans ((f34 a (by omega)).trans (f18 a (by omega) (by omega)))))))⟩ dX11_many_75
  ·
    refine fr_iconst h dX11_many_7 ?_
    exact fr_iret h hq (by omega) ⟨(by omega), (by omega), (by omega), (fun a _ _ _ => rfl)⟩ dX11_many_8
set_option maxHeartbeats 1000000 in
theorem f_X11_below (x : Mm) (p : Int) (v : Int) (h_p : fm_r p) (h_v : fm_r v) (e0 : FRC x) : CnI YC yX11_below cX11_below 5 .int 18 522 (fun G => [vr G 0, vi p, vi v]) x (fun z y' => (¬ (0 ≤ p ∧ p < 5) → z = (-1)) ∧ ((0 ≤ p ∧ p < 5) → p ≠ 4 → (0 ≤ v → z = 1) ∧ (v < 0 → z = 0)) ∧ ((0 ≤ p ∧ p < 5) → p = 4 → z = 0) ∧ (∀ a : Int, (a < 79 ∨ 93 < a) → (a < 107 ∨ 108 < a) → (a < 110 ∨ 119 < a) → y' a = x a)) := by
  refine cn_I (by decide) (fun _ => Nat.le_of_ble_eq_true rfl) (fun G C h hq => ?_)
  have h : OK YC G C cX11_below RX11 5 (some .int) 18 522 := h
  show FW YC G C 5 x 0 [(0, vr G 0), (1, vi p), (2, vi v)] []
  obtain ⟨hSZ, hWZ, hTZ, hKN, hKE, h34, h35, h36, h37, h13, h14, h1104, h111, h11, h142, h983, h1071, hCU, hKP⟩ := e0
  have hru : isRu 110 := Or.inl rfl
  have h_110 := Ru_b hru
  have hru5 : isRu 115 := Or.inr rfl
  have h_115 := Ru_b hru5
  refine fr_iload_n h rfl 1 rfl dX11_below_0 ?_
  refine fr_csI h wX11_isKind lX11_203 (c_X11_isKind x p (by omega)) rfl (by decide) (by decide) rfl (Nat.le_of_ble_eq_true rfl) dX11_below_1 (fun z2 x1 w3 p4 => ?_)
  obtain ⟨p5, p6, y7⟩ := p4
  rw [y7]
  clear y7
  refine fr_if_ne (tgt := 9) h dX11_below_4 (by decide) (by omega) (fun c8 => ?_) (fun c8 => ?_)
  ·
    refine fr_aload_n h rfl 0 rfl dX11_below_9 ?_
    refine fr_iload_n h rfl 1 rfl dX11_below_10 ?_
    refine fr_cvR h kX11 at_0 wX11_orderOf lX11_210 (f_X11_orderOf x p (by omega) (by omega) (by omega) hKN hKE (fun j a b => hSZ j a b) (fun j a b => hWZ j a b) (by omega) (by omega) (by omega) (by omega) (by omega) (by omega)) rfl (by decide) (by decide) rfl (Nat.le_of_ble_eq_true rfl) dX11_below_11 (fun z10 x9 p12 => ?_)
    obtain ⟨p13, p14, p15, p16, p17, f18⟩ := p12
    obtain ⟨n19, i20⟩ := OrN_ex (show isOr z10 by unfold isOr; omega)
    have h_z10 := OrN_b i20
    refine fr_astore_n (L' := [(0, vr G 0), (1, vi p), (2, vi v), (3, vr G z10)]) h rfl dX11_below_14 (by decide) [1, 2, 3, 0] rfl ?_
    refine fr_aload_n h rfl 3 rfl dX11_below_15 ?_
    refine fr_iload_n h rfl 2 rfl dX11_below_16 ?_
    refine fr_cvI h kX6 (Or_at (OrN_is i20)) wX6_upTo lX11_226 (f_X6_upTo x9 z10 n19 i20 v (by omega) (by omega) (by omega)) rfl (by decide) (by decide) rfl (Nat.le_of_ble_eq_true rfl) dX11_below_17 (fun z22 x21 w23 p24 => ?_)
    obtain ⟨p25, p26, p27, p28, y29⟩ := p24
    rw [y29]
    clear y29
    refine fr_istore (L' := [(0, vr G 0), (1, vi p), (2, vi v), (3, vr G z10), (4, vi z22)]) h dX11_below_20 (by decide) [1, 2, 3, 4, 0] rfl ?_
    refine fr_aload_n h rfl 0 rfl dX11_below_22 ?_
    refine fr_getc (z := 107) (iz := 11) h kX11 fX11_77 at_0 rfl rfl rf_0_11 (by omega) dX11_below_23 ?_
    refine fr_cvV h kX10 at_107 wX10_clear lX11_219 (c_X10_clear x9) rfl (by decide) (by decide) rfl (Nat.le_of_ble_eq_true rfl) dX11_below_26 (fun x30 p33 => ?_)
    have f34 := p33
    refine fr_iload h 4 rfl dX11_below_29 ?_
    refine fr_if_le (tgt := 48) h dX11_below_31 (by decide) (by omega) (fun c35 => ?_) (fun c35 => ?_)
    ·
      refine fr_iload h 4 rfl dX11_below_48 ?_
      exact fr_iret h hq (by omega) ⟨(by omega), (by omega), (by omega), (fun a k0 k1 k2 => ((f34 a (by omega)).trans (f18 a (by omega) (by omega))))⟩ dX11_below_50
    ·
      refine fr_aload_n h rfl 0 rfl dX11_below_34 ?_
      refine fr_getc (z := 107) (iz := 11) h kX11 fX11_77 at_0 rfl rfl rf_0_11 (by omega) dX11_below_35 ?_
      refine fr_aload_n h rfl 3 rfl dX11_below_38 ?_
      refine fr_iload h 4 rfl dX11_below_39 ?_
      have r36 := (congrFun (f34 z10 (by omega)) 1)
      have r37 := (congrFun (f34 (z10 + 1) (by omega)) 0)
      refine fr_cvI h kX6 (Or_at (OrN_is i20)) wX6_costAt lX11_220 (f_X6_costAt x30 z10 n19 i20 z22 (by omega) (by omega) (by omega)) rfl (by decide) (by decide) rfl (Nat.le_of_ble_eq_true rfl) dX11_below_41 (fun z39 x38 w40 p41 => ?_)
      obtain ⟨p42, y43⟩ := p41
      rw [y43]
      clear y43
      refine fr_i2l h (by omega) dX11_below_44 ?_
      refine fr_cvV h kX10 at_107 wX10_add lX11_223 (c_X10_add x30 z39 (by omega)) rfl (by decide) (by decide) rfl (Nat.le_of_ble_eq_true rfl) dX11_below_45 (fun x44 p47 => ?_)
      have f48 := p47
      refine fr_iload h 4 rfl dX11_below_48 ?_
      exact fr_iret h hq (by omega) ⟨(by omega), (by omega), (by omega), (fun a k0 k1 k2 => ((f48 a (by omega)).trans ((f34 a (by omega)).trans (f18 a (by omega) (by omega)))))⟩ dX11_below_50
  ·
    refine fr_iconst h dX11_below_7 ?_
    exact fr_iret h hq (by omega) ⟨(by omega), (by omega), (by omega), (fun a _ _ _ => rfl)⟩ dX11_below_8
set_option maxHeartbeats 1000000 in
theorem f_X11_rank (x : Mm) (p : Int) (h_p : fm_r p) (e0 : FRC x) : CnI YC yX11_rank cX11_rank 7 .int 18 522 (fun G => [vr G 0, vi p]) x (fun z y' => (¬ (0 ≤ p ∧ p < 5) → z = (-101)) ∧ ((0 ≤ p ∧ p < 5) → p ≠ 4 → z = 1) ∧ ((0 ≤ p ∧ p < 5) → p = 4 → z = (-100)) ∧ (∀ a : Int, (a < 1 ∨ 2 < a) → (a < 79 ∨ 93 < a) → (a < 107 ∨ 108 < a) → (a < 110 ∨ 119 < a) → y' a = x a)) := by
  refine cn_I (by decide) (fun _ => Nat.le_of_ble_eq_true rfl) (fun G C h hq => ?_)
  have h : OK YC G C cX11_rank RX11 7 (some .int) 18 522 := h
  show FW YC G C 7 x 0 [(0, vr G 0), (1, vi p)] []
  obtain ⟨hSZ, hWZ, hTZ, hKN, hKE, h34, h35, h36, h37, h13, h14, h1104, h111, h11, h142, h983, h1071, hCU, hKP⟩ := e0
  have hru : isRu 110 := Or.inl rfl
  have h_110 := Ru_b hru
  have hru5 : isRu 115 := Or.inr rfl
  have h_115 := Ru_b hru5
  refine fr_aload_n h rfl 0 rfl dX11_rank_0 ?_
  refine fr_getc (z := 1) (iz := 0) h kX11 fX11_10 at_0 rfl rfl rf_0_0 (by omega) dX11_rank_1 ?_
  refine fr_csI h wX2_fault lX11_229 (f_X2_fault x) rfl (by decide) (by decide) rfl (Nat.le_of_ble_eq_true rfl) dX11_rank_4 (fun z2 x1 w3 p4 => ?_)
  obtain ⟨p5, p6, p7, y8⟩ := p4
  rw [y8]
  clear y8
  refine fr_istore_n (L' := [(0, vr G 0), (1, vi p), (2, vi z2)]) h rfl dX11_rank_7 (by decide) [1, 2, 0] rfl ?_
  refine fr_aload_n h rfl 0 rfl dX11_rank_8 ?_
  refine fr_getc (z := 1) (iz := 0) h kX11 fX11_10 at_0 rfl rfl rf_0_0 (by omega) dX11_rank_9 ?_
  refine fr_csL h wX2_of lX11_232 (f_X2_of x) rfl (by decide) (by decide) rfl (Nat.le_of_ble_eq_true rfl) dX11_rank_12 (fun z10 x9 w11 p12 => ?_)
  obtain ⟨p13, y14⟩ := p12
  rw [y14]
  clear y14
  refine fr_lstore_n (L' := [(0, vr G 0), (1, vi p), (2, vi z2), (3, vj z10)]) h rfl dX11_rank_15 (by decide) [1, 2, 3, 0] rfl ?_
  refine fr_aload_n h rfl 0 rfl dX11_rank_16 ?_
  refine fr_getc (z := 1) (iz := 0) h kX11 fX11_10 at_0 rfl rfl rf_0_0 (by omega) dX11_rank_17 ?_
  refine fr_cvV h kX9 at_1 wX9_clear lX11_117 (c_X9_clear x) rfl (by decide) (by decide) rfl (Nat.le_of_ble_eq_true rfl) dX11_rank_20 (fun x15 p18 => ?_)
  obtain ⟨p19, f20⟩ := p18
  refine fr_iload_n h rfl 2 rfl dX11_rank_23 ?_
  refine fr_iconst h dX11_rank_24 ?_
  refine fr_icmp_eq (tgt := 32) h dX11_rank_25 (by decide) (by omega) (by omega) (fun c21 => ?_) (fun c21 => ?_)
  ·
    refine fr_iload_n h rfl 1 rfl dX11_rank_32 ?_
    refine fr_csI h wX11_isKind lX11_203 (c_X11_isKind x15 p (by omega)) rfl (by decide) (by decide) rfl (Nat.le_of_ble_eq_true rfl) dX11_rank_33 (fun z23 x22 w24 p25 => ?_)
    obtain ⟨p26, p27, y28⟩ := p25
    rw [y28]
    clear y28
    refine fr_if_ne (tgt := 42) h dX11_rank_36 (by decide) (by omega) (fun c29 => ?_) (fun c29 => ?_)
    ·
      refine fr_aload_n h rfl 0 rfl dX11_rank_42 ?_
      refine fr_iload_n h rfl 1 rfl dX11_rank_43 ?_
      have r30 := (congrFun (f20 3 (by omega)) 4)
      have r31 := (congrFun (f20 3 (by omega)) 6)
      have r32 := (congrFun (f20 3 (by omega)) 7)
      have r33 := (congrFun (f20 0 (by omega)) 13)
      have r34 := (congrFun (f20 110 (by omega)) 4)
      have r35 := (congrFun (f20 (110 + 1) (by omega)) 0)
      refine fr_cvR h kX11 at_0 wX11_orderOf lX11_210 (f_X11_orderOf x15 p (by omega) (by omega) (by omega) (fun k a b => (congrFun (f20 (79 + 2 * k) (by omega)) 2).trans (hKN k a b)) (fun k a b => (congrFun (f20 (79 + 2 * k + 1) (by omega)) 0).trans (hKE k a b)) (fun j a b => (congrFun (f20 (3 + 1) (by omega)) j).trans (hSZ j a b)) (fun j a b => (congrFun (f20 (3 + 3) (by omega)) j).trans (hWZ j a b)) (by omega) (by omega) (by omega) (by omega) (by omega) (by omega)) rfl (by decide) (by decide) rfl (Nat.le_of_ble_eq_true rfl) dX11_rank_44 (fun z37 x36 p39 => ?_)
      obtain ⟨p40, p41, p42, p43, p44, f45⟩ := p39
      obtain ⟨n46, i47⟩ := OrN_ex (show isOr z37 by unfold isOr; omega)
      have h_z37 := OrN_b i47
      refine fr_astore (L' := [(0, vr G 0), (1, vi p), (2, vi z2), (3, vj z10), (5, vr G z37)]) h dX11_rank_47 (by decide) [1, 2, 3, 4, 0] rfl ?_
      refine fr_aload h 4 rfl dX11_rank_49 ?_
      refine fr_lload_n h rfl 3 rfl dX11_rank_51 ?_
      have r48 := (congrFun (f20 z37 (by omega)) 1)
      have r49 := (congrFun (f20 (z37 + 1) (by omega)) 0)
      refine fr_cvI h kX6 (Or_at (OrN_is i47)) wX6_placeOf lX11_236 (f_X6_placeOf x36 z37 n46 i47 z10 (by omega) (by omega) (by omega) (by omega)) rfl (by decide) (by decide) rfl (Nat.le_of_ble_eq_true rfl) dX11_rank_52 (fun z51 x50 w52 p53 => ?_)
      obtain ⟨p54, p55, p56, y57⟩ := p53
      rw [y57]
      clear y57
      refine fr_istore (L' := [(0, vr G 0), (1, vi p), (2, vi z2), (3, vj z10), (5, vr G z37), (6, vi z51)]) h dX11_rank_55 (by decide) [1, 2, 3, 4, 5, 0] rfl ?_
      refine fr_iload h 5 rfl dX11_rank_57 ?_
      refine fr_if_ne (tgt := 65) h dX11_rank_59 (by decide) (by omega) (fun c58 => ?_) (fun c58 => ?_)
      ·
        refine fr_aload_n h rfl 0 rfl dX11_rank_65 ?_
        refine fr_getc (z := 107) (iz := 11) h kX11 fX11_77 at_0 rfl rfl rf_0_11 (by omega) dX11_rank_66 ?_
        refine fr_aload h 4 rfl dX11_rank_69 ?_
        refine fr_iload h 5 rfl dX11_rank_71 ?_
        refine fr_cvI h kX6 (Or_at (OrN_is i47)) wX6_costAt lX11_220 (f_X6_costAt x36 z37 n46 i47 z51 (by omega) (by omega) (by omega)) rfl (by decide) (by decide) rfl (Nat.le_of_ble_eq_true rfl) dX11_rank_73 (fun z60 x59 w61 p62 => ?_)
        obtain ⟨p63, y64⟩ := p62
        rw [y64]
        clear y64
        refine fr_i2l h (by omega) dX11_rank_76 ?_
        refine fr_cvV h kX10 at_107 wX10_only lX11_192 (c_X10_only x36 z60 (by omega)) rfl (by decide) (by decide) rfl (Nat.le_of_ble_eq_true rfl) dX11_rank_77 (fun x65 p68 => ?_)
        have f69 := p68
        refine fr_iload h 5 rfl dX11_rank_80 ?_
        exact fr_iret h hq (by omega) ⟨(by omega), (by omega), (by omega), (fun a k0 k1 k2 k3 => ((f69 a (by omega)).trans ((f45 a (by omega) (by omega)).trans (f20 a (by omega)))))⟩ dX11_rank_82
      ·
        refine fr_bipush h rfl dX11_rank_62 ?_
        exact fr_iret h hq (by omega) ⟨(by omega), (by omega), (by omega), (fun a k0 k1 k2 k3 => ((f45 a (by omega) (by omega)).trans (f20 a (by omega))))⟩ dX11_rank_64
    ·
      refine fr_bipush h rfl dX11_rank_39 ?_
      exact fr_iret h hq (by omega) ⟨(by omega), (by omega), (by omega), (fun a k0 k1 k2 k3 => (f20 a (by omega)))⟩ dX11_rank_41
  ·
    exfalso; omega
set_option maxHeartbeats 1000000 in
theorem f_X11_alike (x : Mm) (p : Int) (k : Int) (h_p : fm_r p) (h_k : fm_r k) (e0 : FRC x) : CnI YC yX11_alike cX11_alike 6 .int 18 522 (fun G => [vr G 0, vi p, vi k]) x (fun z y' => (¬ (0 ≤ p ∧ p < 5 ∧ 1 ≤ k ∧ k ≤ 400) → z = (-1)) ∧ ((0 ≤ p ∧ p < 5 ∧ 1 ≤ k ∧ k ≤ 400) → p ≠ 4 → (k = 1 → z = 1) ∧ (k ≠ 1 → z = (-2))) ∧ ((0 ≤ p ∧ p < 5 ∧ 1 ≤ k ∧ k ≤ 400) → p = 4 → z = (-2)) ∧ (∀ a : Int, (a < 79 ∨ 93 < a) → (a < 107 ∨ 108 < a) → (a < 110 ∨ 119 < a) → y' a = x a)) := by
  refine cn_I (by decide) (fun _ => Nat.le_of_ble_eq_true rfl) (fun G C h hq => ?_)
  have h : OK YC G C cX11_alike RX11 6 (some .int) 18 522 := h
  show FW YC G C 6 x 0 [(0, vr G 0), (1, vi p), (2, vi k)] []
  obtain ⟨hSZ, hWZ, hTZ, hKN, hKE, h34, h35, h36, h37, h13, h14, h1104, h111, h11, h142, h983, h1071, hCU, hKP⟩ := e0
  have hru : isRu 110 := Or.inl rfl
  have h_110 := Ru_b hru
  have hru5 : isRu 115 := Or.inr rfl
  have h_115 := Ru_b hru5
  refine fr_iload_n h rfl 1 rfl dX11_alike_0 ?_
  refine fr_csI h wX11_isKind lX11_203 (c_X11_isKind x p (by omega)) rfl (by decide) (by decide) rfl (Nat.le_of_ble_eq_true rfl) dX11_alike_1 (fun z2 x1 w3 p4 => ?_)
  obtain ⟨p5, p6, y7⟩ := p4
  rw [y7]
  clear y7
  refine fr_if_eq (tgt := 17) h dX11_alike_4 (by decide) (by omega) (fun c8 => ?_) (fun c8 => ?_)
  ·
    refine fr_iconst h dX11_alike_17 ?_
    exact fr_iret h hq (by omega) ⟨(by omega), (by omega), (by omega), (fun a _ _ _ => rfl)⟩ dX11_alike_18
  ·
    refine fr_iload_n h rfl 2 rfl dX11_alike_7 ?_
    refine fr_sipush h rfl dX11_alike_8 ?_
    refine fr_csI h wX11_isPlace lX11_206 (c_X11_isPlace x k 400 (by omega) (by omega)) rfl (by decide) (by decide) rfl (Nat.le_of_ble_eq_true rfl) dX11_alike_11 (fun z10 x9 w11 p12 => ?_)
    obtain ⟨p13, p14, y15⟩ := p12
    rw [y15]
    clear y15
    refine fr_if_ne (tgt := 19) h dX11_alike_14 (by decide) (by omega) (fun c16 => ?_) (fun c16 => ?_)
    ·
      refine fr_aload_n h rfl 0 rfl dX11_alike_19 ?_
      refine fr_iload_n h rfl 1 rfl dX11_alike_20 ?_
      refine fr_cvR h kX11 at_0 wX11_orderOf lX11_210 (f_X11_orderOf x p (by omega) (by omega) (by omega) hKN hKE (fun j a b => hSZ j a b) (fun j a b => hWZ j a b) (by omega) (by omega) (by omega) (by omega) (by omega) (by omega)) rfl (by decide) (by decide) rfl (Nat.le_of_ble_eq_true rfl) dX11_alike_21 (fun z18 x17 p20 => ?_)
      obtain ⟨p21, p22, p23, p24, p25, f26⟩ := p20
      obtain ⟨n27, i28⟩ := OrN_ex (show isOr z18 by unfold isOr; omega)
      have h_z18 := OrN_b i28
      refine fr_astore_n (L' := [(0, vr G 0), (1, vi p), (2, vi k), (3, vr G z18)]) h rfl dX11_alike_24 (by decide) [1, 2, 3, 0] rfl ?_
      refine fr_iload_n h rfl 2 rfl dX11_alike_25 ?_
      refine fr_aload_n h rfl 3 rfl dX11_alike_26 ?_
      refine fr_cvI h kX6 (Or_at (OrN_is i28)) wX6_size lX11_214 (c_X6_size x17 z18 n27 i28) rfl (by decide) (by decide) rfl (Nat.le_of_ble_eq_true rfl) dX11_alike_27 (fun z30 x29 w31 p32 => ?_)
      obtain ⟨p33, p34, p35, p36, y37⟩ := p32
      rw [y37]
      clear y37
      refine fr_icmp_le (tgt := 36) h dX11_alike_30 (by decide) (by omega) (by omega) (fun c38 => ?_) (fun c38 => ?_)
      ·
        refine fr_aload_n h rfl 3 rfl dX11_alike_36 ?_
        refine fr_iload_n h rfl 2 rfl dX11_alike_37 ?_
        refine fr_cvI h kX6 (Or_at (OrN_is i28)) wX6_firstAlike lX11_240 (f_X6_firstAlike x17 z18 n27 i28 k (by omega) (by omega) (by omega) (by omega)) rfl (by decide) (by decide) rfl (Nat.le_of_ble_eq_true rfl) dX11_alike_38 (fun z40 x39 w41 p42 => ?_)
        obtain ⟨p43, y44⟩ := p42
        rw [y44]
        clear y44
        refine fr_istore (L' := [(0, vr G 0), (1, vi p), (2, vi k), (3, vr G z18), (4, vi z40)]) h dX11_alike_41 (by decide) [1, 2, 3, 4, 0] rfl ?_
        refine fr_aload_n h rfl 3 rfl dX11_alike_43 ?_
        refine fr_aload_n h rfl 3 rfl dX11_alike_44 ?_
        refine fr_iload_n h rfl 2 rfl dX11_alike_45 ?_
        refine fr_cvI h kX6 (Or_at (OrN_is i28)) wX6_costAt lX11_220 (f_X6_costAt x17 z18 n27 i28 k (by omega) (by omega) (by omega)) rfl (by decide) (by decide) rfl (Nat.le_of_ble_eq_true rfl) dX11_alike_46 (fun z46 x45 w47 p48 => ?_)
        obtain ⟨p49, y50⟩ := p48
        rw [y50]
        clear y50
        refine fr_cvI h kX6 (Or_at (OrN_is i28)) wX6_upTo lX11_226 (f_X6_upTo x17 z18 n27 i28 z46 (by omega) (by omega) (by omega)) rfl (by decide) (by decide) rfl (Nat.le_of_ble_eq_true rfl) dX11_alike_49 (fun z52 x51 w53 p54 => ?_)
        obtain ⟨p55, p56, p57, p58, y59⟩ := p54
        rw [y59]
        clear y59
        refine fr_istore (L' := [(0, vr G 0), (1, vi p), (2, vi k), (3, vr G z18), (4, vi z40), (5, vi z52)]) h dX11_alike_52 (by decide) [1, 2, 3, 4, 5, 0] rfl ?_
        refine fr_aload_n h rfl 0 rfl dX11_alike_54 ?_
        refine fr_getc (z := 107) (iz := 11) h kX11 fX11_77 at_0 rfl rfl rf_0_11 (by omega) dX11_alike_55 ?_
        refine fr_iload h 4 rfl dX11_alike_58 ?_
        refine fr_i2l h (by omega) dX11_alike_60 ?_
        refine fr_cvV h kX10 at_107 wX10_only lX11_192 (c_X10_only x17 z40 (by omega)) rfl (by decide) (by decide) rfl (Nat.le_of_ble_eq_true rfl) dX11_alike_61 (fun x60 p63 => ?_)
        have f64 := p63
        refine fr_aload_n h rfl 0 rfl dX11_alike_64 ?_
        refine fr_getc (z := 107) (iz := 11) h kX11 fX11_77 at_0 rfl rfl rf_0_11 (by omega) dX11_alike_65 ?_
        refine fr_iload h 5 rfl dX11_alike_68 ?_
        refine fr_i2l h (by omega) dX11_alike_70 ?_
        refine fr_cvV h kX10 at_107 wX10_add lX11_223 (c_X10_add x60 z52 (by omega)) rfl (by decide) (by decide) rfl (Nat.le_of_ble_eq_true rfl) dX11_alike_71 (fun x65 p68 => ?_)
        have f69 := p68
        refine fr_iload h 5 rfl dX11_alike_74 ?_
        refine fr_iload h 4 rfl dX11_alike_76 ?_
        refine fr_isub h dX11_alike_78 ?_
        refine fr_normi (fun z70 w71 q72 => ?_)
        have w73 : fm_r ((z52 - z40)) → z70 = (z52 - z40) := fun q => (iI_inj q w71 q72).symm
        refine fr_iconst h dX11_alike_79 ?_
        refine fr_iadd h dX11_alike_80 ?_
        refine fr_normi (fun z74 w75 q76 => ?_)
        have w77 : fm_r ((z70 + 1)) → z74 = (z70 + 1) := fun q => (iI_inj q w75 q76).symm
        exact fr_iret h hq (by omega) ⟨(by omega), (by omega), (by omega), (fun a k0 k1 k2 => ((f69 a (by omega)).trans ((f64 a (by omega)).trans (f26 a (by omega) (by omega)))))⟩ dX11_alike_81
      ·
        refine fr_bipush h rfl dX11_alike_33 ?_
        exact fr_iret h hq (by omega) ⟨(by omega), (by omega), (by omega), (fun a k0 k1 k2 => (f26 a (by omega) (by omega)))⟩ dX11_alike_35
    ·
      refine fr_iconst h dX11_alike_17 ?_
      exact fr_iret h hq (by omega) ⟨(by omega), (by omega), (by omega), (fun a _ _ _ => rfl)⟩ dX11_alike_18
set_option maxHeartbeats 1000000 in
theorem f_X11_surely (x : Mm) (p : Int) (h_p : fm_r p) (e0 : FRC x) : CnI YC yX11_surely cX11_surely 4 .int 18 522 (fun G => [vr G 0, vi p]) x (fun z y' => (¬ (0 ≤ p ∧ p < 5) → z = (-1)) ∧ ((0 ≤ p ∧ p < 5) → p ≠ 4 → z = 0) ∧ ((0 ≤ p ∧ p < 5) → p = 4 → z = (-2)) ∧ (∀ a : Int, (a < 79 ∨ 93 < a) → (a < 107 ∨ 108 < a) → (a < 110 ∨ 119 < a) → y' a = x a)) := by
  refine cn_I (by decide) (fun _ => Nat.le_of_ble_eq_true rfl) (fun G C h hq => ?_)
  have h : OK YC G C cX11_surely RX11 4 (some .int) 18 522 := h
  show FW YC G C 4 x 0 [(0, vr G 0), (1, vi p)] []
  obtain ⟨hSZ, hWZ, hTZ, hKN, hKE, h34, h35, h36, h37, h13, h14, h1104, h111, h11, h142, h983, h1071, hCU, hKP⟩ := e0
  have hru : isRu 110 := Or.inl rfl
  have h_110 := Ru_b hru
  have hru5 : isRu 115 := Or.inr rfl
  have h_115 := Ru_b hru5
  refine fr_iload_n h rfl 1 rfl dX11_surely_0 ?_
  refine fr_csI h wX11_isKind lX11_203 (c_X11_isKind x p (by omega)) rfl (by decide) (by decide) rfl (Nat.le_of_ble_eq_true rfl) dX11_surely_1 (fun z2 x1 w3 p4 => ?_)
  obtain ⟨p5, p6, y7⟩ := p4
  rw [y7]
  clear y7
  refine fr_if_ne (tgt := 9) h dX11_surely_4 (by decide) (by omega) (fun c8 => ?_) (fun c8 => ?_)
  ·
    refine fr_aload_n h rfl 0 rfl dX11_surely_9 ?_
    refine fr_iload_n h rfl 1 rfl dX11_surely_10 ?_
    refine fr_cvR h kX11 at_0 wX11_orderOf lX11_210 (f_X11_orderOf x p (by omega) (by omega) (by omega) hKN hKE (fun j a b => hSZ j a b) (fun j a b => hWZ j a b) (by omega) (by omega) (by omega) (by omega) (by omega) (by omega)) rfl (by decide) (by decide) rfl (Nat.le_of_ble_eq_true rfl) dX11_surely_11 (fun z10 x9 p12 => ?_)
    obtain ⟨p13, p14, p15, p16, p17, f18⟩ := p12
    obtain ⟨n19, i20⟩ := OrN_ex (show isOr z10 by unfold isOr; omega)
    have h_z10 := OrN_b i20
    refine fr_astore_n (L' := [(0, vr G 0), (1, vi p), (2, vr G z10)]) h rfl dX11_surely_14 (by decide) [1, 2, 0] rfl ?_
    refine fr_aload_n h rfl 2 rfl dX11_surely_15 ?_
    refine fr_cvI h kX6 (Or_at (OrN_is i20)) wX6_size lX11_214 (c_X6_size x9 z10 n19 i20) rfl (by decide) (by decide) rfl (Nat.le_of_ble_eq_true rfl) dX11_surely_16 (fun z22 x21 w23 p24 => ?_)
    obtain ⟨p25, p26, p27, p28, y29⟩ := p24
    rw [y29]
    clear y29
    refine fr_if_ne (tgt := 25) h dX11_surely_19 (by decide) (by omega) (fun c30 => ?_) (fun c30 => ?_)
    ·
      refine fr_aload_n h rfl 2 rfl dX11_surely_25 ?_
      refine fr_aload_n h rfl 2 rfl dX11_surely_26 ?_
      refine fr_aload_n h rfl 2 rfl dX11_surely_27 ?_
      refine fr_iconst h dX11_surely_28 ?_
      refine fr_cvI h kX6 (Or_at (OrN_is i20)) wX6_costAt lX11_220 (f_X6_costAt x9 z10 n19 i20 1 (by omega) (by omega) (by omega)) rfl (by decide) (by decide) rfl (Nat.le_of_ble_eq_true rfl) dX11_surely_29 (fun z32 x31 w33 p34 => ?_)
      obtain ⟨p35, y36⟩ := p34
      rw [y36]
      clear y36
      refine fr_cvI h kX6 (Or_at (OrN_is i20)) wX6_upTo lX11_226 (f_X6_upTo x9 z10 n19 i20 z32 (by omega) (by omega) (by omega)) rfl (by decide) (by decide) rfl (Nat.le_of_ble_eq_true rfl) dX11_surely_32 (fun z38 x37 w39 p40 => ?_)
      obtain ⟨p41, p42, p43, p44, y45⟩ := p40
      rw [y45]
      clear y45
      refine fr_cvI h kX6 (Or_at (OrN_is i20)) wX6_sharedPlaces lX11_243 (f_X6_sharedPlaces x9 z10 n19 i20 z38 (by omega) (by omega) (by omega) (by omega)) rfl (by decide) (by decide) rfl (Nat.le_of_ble_eq_true rfl) dX11_surely_35 (fun z47 x46 w48 p49 => ?_)
      obtain ⟨p50, y51⟩ := p49
      rw [y51]
      clear y51
      refine fr_istore_n (L' := [(0, vr G 0), (1, vi p), (2, vr G z10), (3, vi z47)]) h rfl dX11_surely_38 (by decide) [1, 2, 3, 0] rfl ?_
      refine fr_aload_n h rfl 0 rfl dX11_surely_39 ?_
      refine fr_getc (z := 107) (iz := 11) h kX11 fX11_77 at_0 rfl rfl rf_0_11 (by omega) dX11_surely_40 ?_
      refine fr_iload_n h rfl 3 rfl dX11_surely_43 ?_
      refine fr_csI h wJ6_bitCount_0f7a4 lX11_246 (f_J6_bitCount_0f7a4 x9 z47 (by omega)) rfl (by decide) (by decide) rfl (Nat.le_of_ble_eq_true rfl) dX11_surely_44 (fun z53 x52 w54 p55 => ?_)
      obtain ⟨p56, y57⟩ := p55
      rw [y57]
      clear y57
      refine fr_i2l h (by omega) dX11_surely_47 ?_
      refine fr_cvV h kX10 at_107 wX10_only lX11_192 (c_X10_only x9 z53 (by omega)) rfl (by decide) (by decide) rfl (Nat.le_of_ble_eq_true rfl) dX11_surely_48 (fun x58 p61 => ?_)
      have f62 := p61
      refine fr_iload_n h rfl 3 rfl dX11_surely_51 ?_
      exact fr_iret h hq (by omega) ⟨(by omega), (by omega), (by omega), (fun a k0 k1 k2 => ((f62 a (by omega)).trans (f18 a (by omega) (by omega))))⟩ dX11_surely_52
    ·
      refine fr_bipush h rfl dX11_surely_22 ?_
      exact fr_iret h hq (by omega) ⟨(by omega), (by omega), (by omega), (fun a k0 k1 k2 => (f18 a (by omega) (by omega)))⟩ dX11_surely_24
  ·
    refine fr_iconst h dX11_surely_7 ?_
    exact fr_iret h hq (by omega) ⟨(by omega), (by omega), (by omega), (fun a _ _ _ => rfl)⟩ dX11_surely_8
set_option maxHeartbeats 1000000 in
theorem f_X11_having (x : Mm) (p : Int) (u : Int) (v : Int) (w : Int) (h_p : fm_r p) (h_u : fm_r u) (h_v : fm_r v) (h_w : fm_r w) (e0 : FRC x) : CnI YC yX11_having cX11_having 9 .int 18 522 (fun G => [vr G 0, vi p, vi u, vi v, vi w]) x (fun z y' => (¬ (0 ≤ p ∧ p < 5 ∧ 0 ≤ u ∧ u < 8 ∧ 0 ≤ v ∧ v < 12 ∧ 0 ≤ w ∧ w ≤ 1) → z = (-1)) ∧ ((0 ≤ p ∧ p < 5 ∧ 0 ≤ u ∧ u < 8 ∧ 0 ≤ v ∧ v < 12 ∧ 0 ≤ w ∧ w ≤ 1) → p ≠ 4 → z = 1 - w) ∧ ((0 ≤ p ∧ p < 5 ∧ 0 ≤ u ∧ u < 8 ∧ 0 ≤ v ∧ v < 12 ∧ 0 ≤ w ∧ w ≤ 1) → p = 4 → z = 0) ∧ (∀ a : Int, (a < 79 ∨ 93 < a) → (a < 107 ∨ 108 < a) → (a < 110 ∨ 119 < a) → y' a = x a)) := by
  refine cn_I (by decide) (fun _ => Nat.le_of_ble_eq_true rfl) (fun G C h hq => ?_)
  have h : OK YC G C cX11_having RX11 9 (some .int) 18 522 := h
  show FW YC G C 9 x 0 [(0, vr G 0), (1, vi p), (2, vi u), (3, vi v), (4, vi w)] []
  obtain ⟨hSZ, hWZ, hTZ, hKN, hKE, h34, h35, h36, h37, h13, h14, h1104, h111, h11, h142, h983, h1071, hCU, hKP⟩ := e0
  have hru : isRu 110 := Or.inl rfl
  have h_110 := Ru_b hru
  have hru5 : isRu 115 := Or.inr rfl
  have h_115 := Ru_b hru5
  refine fr_iload_n h rfl 1 rfl dX11_having_0 ?_
  refine fr_csI h wX11_isKind lX11_203 (c_X11_isKind x p (by omega)) rfl (by decide) (by decide) rfl (Nat.le_of_ble_eq_true rfl) dX11_having_1 (fun z2 x1 w3 p4 => ?_)
  obtain ⟨p5, p6, y7⟩ := p4
  rw [y7]
  clear y7
  refine fr_if_eq (tgt := 38) h dX11_having_4 (by decide) (by omega) (fun c8 => ?_) (fun c8 => ?_)
  ·
    refine fr_iconst h dX11_having_38 ?_
    exact fr_iret h hq (by omega) ⟨(by omega), (by omega), (by omega), (fun a _ _ _ => rfl)⟩ dX11_having_39
  ·
    refine fr_iload_n h rfl 2 rfl dX11_having_7 ?_
    refine fr_if_lt (tgt := 38) h dX11_having_8 (by decide) (by omega) (fun c9 => ?_) (fun c9 => ?_)
    ·
      refine fr_iconst h dX11_having_38 ?_
      exact fr_iret h hq (by omega) ⟨(by omega), (by omega), (by omega), (fun a _ _ _ => rfl)⟩ dX11_having_39
    ·
      refine fr_iload_n h rfl 2 rfl dX11_having_11 ?_
      refine fr_bipush h rfl dX11_having_12 ?_
      refine fr_icmp_ge (tgt := 38) h dX11_having_14 (by decide) (by omega) (by omega) (fun c10 => ?_) (fun c10 => ?_)
      ·
        refine fr_iconst h dX11_having_38 ?_
        exact fr_iret h hq (by omega) ⟨(by omega), (by omega), (by omega), (fun a _ _ _ => rfl)⟩ dX11_having_39
      ·
        refine fr_iload_n h rfl 3 rfl dX11_having_17 ?_
        refine fr_if_lt (tgt := 38) h dX11_having_18 (by decide) (by omega) (fun c11 => ?_) (fun c11 => ?_)
        ·
          refine fr_iconst h dX11_having_38 ?_
          exact fr_iret h hq (by omega) ⟨(by omega), (by omega), (by omega), (fun a _ _ _ => rfl)⟩ dX11_having_39
        ·
          refine fr_iload_n h rfl 3 rfl dX11_having_21 ?_
          refine fr_bipush h rfl dX11_having_22 ?_
          refine fr_icmp_ge (tgt := 38) h dX11_having_24 (by decide) (by omega) (by omega) (fun c12 => ?_) (fun c12 => ?_)
          ·
            refine fr_iconst h dX11_having_38 ?_
            exact fr_iret h hq (by omega) ⟨(by omega), (by omega), (by omega), (fun a _ _ _ => rfl)⟩ dX11_having_39
          ·
            refine fr_iload h 4 rfl dX11_having_27 ?_
            refine fr_if_lt (tgt := 38) h dX11_having_29 (by decide) (by omega) (fun c13 => ?_) (fun c13 => ?_)
            ·
              refine fr_iconst h dX11_having_38 ?_
              exact fr_iret h hq (by omega) ⟨(by omega), (by omega), (by omega), (fun a _ _ _ => rfl)⟩ dX11_having_39
            ·
              refine fr_iload h 4 rfl dX11_having_32 ?_
              refine fr_iconst h dX11_having_34 ?_
              refine fr_icmp_le (tgt := 40) h dX11_having_35 (by decide) (by omega) (by omega) (fun c14 => ?_) (fun c14 => ?_)
              ·
                refine fr_aload_n h rfl 0 rfl dX11_having_40 ?_
                refine fr_iload_n h rfl 1 rfl dX11_having_41 ?_
                refine fr_cvR h kX11 at_0 wX11_orderOf lX11_210 (f_X11_orderOf x p (by omega) (by omega) (by omega) hKN hKE (fun j a b => hSZ j a b) (fun j a b => hWZ j a b) (by omega) (by omega) (by omega) (by omega) (by omega) (by omega)) rfl (by decide) (by decide) rfl (Nat.le_of_ble_eq_true rfl) dX11_having_42 (fun z16 x15 p18 => ?_)
                obtain ⟨p19, p20, p21, p22, p23, f24⟩ := p18
                obtain ⟨n25, i26⟩ := OrN_ex (show isOr z16 by unfold isOr; omega)
                have h_z16 := OrN_b i26
                refine fr_astore (L' := [(0, vr G 0), (1, vi p), (2, vi u), (3, vi v), (4, vi w), (5, vr G z16)]) h dX11_having_45 (by decide) [1, 2, 3, 4, 5, 0] rfl ?_
                refine fr_iconst h dX11_having_47 ?_
                refine fr_istore (L' := [(0, vr G 0), (1, vi p), (2, vi u), (3, vi v), (4, vi w), (5, vr G z16), (6, vi 0)]) h dX11_having_48 (by decide) [1, 2, 3, 4, 5, 6, 0] rfl ?_
                refine fr_iconst h dX11_having_50 ?_
                refine fr_istore (L' := [(0, vr G 0), (1, vi p), (2, vi u), (3, vi v), (4, vi w), (5, vr G z16), (6, vi 0), (7, vi 0)]) h dX11_having_51 (by decide) [1, 2, 3, 4, 5, 6, 7, 0] rfl ?_
                refine fr_iconst h dX11_having_53 ?_
                refine fr_istore (L' := [(0, vr G 0), (1, vi p), (2, vi u), (3, vi v), (4, vi w), (5, vr G z16), (6, vi 0), (7, vi 0), (8, vi 1)]) h dX11_having_54 (by decide) [1, 2, 3, 4, 5, 6, 7, 8, 0] rfl ?_
                have HL27 : ∀ (n27 : Nat) (l6_27 l7_27 l8_27 : Int), fm_r l6_27 → 0 ≤ l6_27 → l6_27 ≤ 1297 → fm_r l7_27 → 0 ≤ l7_27 → l7_27 ≤ 1297 → fm_r l8_27 → 1 ≤ l8_27 → l8_27 ≤ 1297 → 1 ≤ l8_27 → l8_27 ≤ 2 → ((l8_27 = 1 ∧ l7_27 = 0) ∨ (l8_27 = 2 ∧ p ≠ 4 ∧ l7_27 = 1 - w)) → (1297 - l8_27) < n27 → FW YC G C 9 x15 56 [(0, vr G 0), (1, vi p), (2, vi u), (3, vi v), (4, vi w), (5, vr G z16), (6, vi l6_27), (7, vi l7_27), (8, vi l8_27)] [] := by
                  intro n27
                  induction n27 with
                  | zero =>
                    intro l6_27 l7_27 l8_27 g27_0 g27_1 g27_2 g27_3 g27_4 g27_5 g27_6 g27_7 g27_8 g27_9 g27_10 g27_11 g27_12
                    exfalso; omega
                  | succ n27 ih27 =>
                    intro l6_27 l7_27 l8_27 g27_0 g27_1 g27_2 g27_3 g27_4 g27_5 g27_6 g27_7 g27_8 g27_9 g27_10 g27_11 g27_12
                    refine fr_iload h 8 rfl dX11_having_56 ?_
                    refine fr_aload h 5 rfl dX11_having_58 ?_
                    refine fr_cvI h kX6 (Or_at (OrN_is i26)) wX6_size lX11_214 (c_X6_size x15 z16 n25 i26) rfl (by decide) (by decide) rfl (Nat.le_of_ble_eq_true rfl) dX11_having_60 (fun z29 x28 w30 p31 => ?_)
                    obtain ⟨p32, p33, p34, p35, y36⟩ := p31
                    rw [y36]
                    clear y36
                    refine fr_icmp_gt (tgt := 123) h dX11_having_63 (by decide) (by omega) (by omega) (fun c37 => ?_) (fun c37 => ?_)
                    ·
                      refine fr_aload_n h rfl 0 rfl dX11_having_123 ?_
                      refine fr_getc (z := 107) (iz := 11) h kX11 fX11_77 at_0 rfl rfl rf_0_11 (by omega) dX11_having_124 ?_
                      refine fr_cvV h kX10 at_107 wX10_clear lX11_219 (c_X10_clear x15) rfl (by decide) (by decide) rfl (Nat.le_of_ble_eq_true rfl) dX11_having_127 (fun x38 p41 => ?_)
                      have f42 := p41
                      refine fr_iload h 7 rfl dX11_having_130 ?_
                      refine fr_if_le (tgt := 160) h dX11_having_132 (by decide) (by omega) (fun c43 => ?_) (fun c43 => ?_)
                      ·
                        refine fr_iload h 7 rfl dX11_having_160 ?_
                        exact fr_iret h hq (by omega) ⟨(by omega), (by omega), (by omega), (fun a k0 k1 k2 => ((f42 a (by omega)).trans (f24 a (by omega) (by omega))))⟩ dX11_having_162
                      ·
                        refine fr_aload_n h rfl 0 rfl dX11_having_135 ?_
                        refine fr_getc (z := 107) (iz := 11) h kX11 fX11_77 at_0 rfl rfl rf_0_11 (by omega) dX11_having_136 ?_
                        refine fr_iload h 6 rfl dX11_having_139 ?_
                        refine fr_i2l h (by omega) dX11_having_141 ?_
                        refine fr_cvV h kX10 at_107 wX10_add lX11_223 (c_X10_add x38 l6_27 (by omega)) rfl (by decide) (by decide) rfl (Nat.le_of_ble_eq_true rfl) dX11_having_142 (fun x44 p47 => ?_)
                        have f48 := p47
                        refine fr_aload_n h rfl 0 rfl dX11_having_145 ?_
                        refine fr_getc (z := 107) (iz := 11) h kX11 fX11_77 at_0 rfl rfl rf_0_11 (by omega) dX11_having_146 ?_
                        refine fr_aload h 5 rfl dX11_having_149 ?_
                        refine fr_iload h 6 rfl dX11_having_151 ?_
                        have r49 := (congrFun (f48 z16 (by omega)) 1)
                        have r50 := r49.trans (congrFun (f42 z16 (by omega)) 1)
                        have r51 := (congrFun (f48 (z16 + 1) (by omega)) 0)
                        have r52 := r51.trans (congrFun (f42 (z16 + 1) (by omega)) 0)
                        refine fr_cvI h kX6 (Or_at (OrN_is i26)) wX6_costAt lX11_220 (f_X6_costAt x44 z16 n25 i26 l6_27 (by omega) (by omega) (by omega)) rfl (by decide) (by decide) rfl (Nat.le_of_ble_eq_true rfl) dX11_having_153 (fun z54 x53 w55 p56 => ?_)
                        obtain ⟨p57, y58⟩ := p56
                        rw [y58]
                        clear y58
                        refine fr_i2l h (by omega) dX11_having_156 ?_
                        refine fr_cvV h kX10 at_107 wX10_add lX11_223 (c_X10_add x44 z54 (by omega)) rfl (by decide) (by decide) rfl (Nat.le_of_ble_eq_true rfl) dX11_having_157 (fun x59 p62 => ?_)
                        have f63 := p62
                        refine fr_iload h 7 rfl dX11_having_160 ?_
                        exact fr_iret h hq (by omega) ⟨(by omega), (by omega), (by omega), (fun a k0 k1 k2 => ((f63 a (by omega)).trans ((f48 a (by omega)).trans ((f42 a (by omega)).trans (f24 a (by omega) (by omega))))))⟩ dX11_having_162
                    ·
                      refine fr_aload h 5 rfl dX11_having_66 ?_
                      refine fr_iload h 8 rfl dX11_having_68 ?_
                      refine fr_cvL h kX6 (Or_at (OrN_is i26)) wX6_codeAt lX11_251 (f_X6_codeAt x15 z16 n25 i26 l8_27 (by omega) (by omega) (by omega)) rfl (by decide) (by decide) rfl (Nat.le_of_ble_eq_true rfl) dX11_having_70 (fun z65 x64 w66 p67 => ?_)
                      obtain ⟨p68, y69⟩ := p67
                      rw [y69]
                      clear y69
                      refine fr_iload_n h rfl 2 rfl dX11_having_73 ?_
                      refine fr_csI h wX2_numberAt lX11_255 (f_X2_numberAt x15 z65 u (by omega) (by omega)) rfl (by decide) (by decide) rfl (Nat.le_of_ble_eq_true rfl) dX11_having_74 (fun z71 x70 w72 p73 => ?_)
                      obtain ⟨p74, p75, p76, y77⟩ := p73
                      rw [y77]
                      clear y77
                      refine fr_iload_n h rfl 3 rfl dX11_having_77 ?_
                      refine fr_icmp_ne (tgt := 85) h dX11_having_78 (by decide) (by omega) (by omega) (fun c78 => ?_) (fun c78 => ?_)
                      ·
                        refine fr_iconst h dX11_having_85 ?_
                        refine fr_iload h 4 rfl dX11_having_86 ?_
                        refine fr_iconst h dX11_having_88 ?_
                        refine fr_icmp_ne (tgt := 96) h dX11_having_89 (by decide) (by omega) (by omega) (fun c79 => ?_) (fun c79 => ?_)
                        ·
                          refine fr_iconst h dX11_having_96 ?_
                          refine fr_icmp_ne (tgt := 117) h dX11_having_97 (by decide) (by omega) (by omega) (fun c80 => by exfalso; omega) (fun c80 => ?_)
                          refine fr_iload h 7 rfl dX11_having_100 ?_
                          refine fr_if_ne (tgt := 110) h dX11_having_102 (by decide) (by omega) (fun c81 => ?_) (fun c81 => ?_)
                          ·
                            refine fr_iload h 6 rfl dX11_having_110 ?_
                            refine fr_istore (L' := [(0, vr G 0), (1, vi p), (2, vi u), (3, vi v), (4, vi w), (5, vr G z16), (6, vi l6_27), (7, vi l7_27), (8, vi l8_27)]) h dX11_having_112 (by decide) [1, 2, 3, 4, 5, 6, 0, 7, 8] rfl ?_
                            refine fr_iinc (j := 7) (L' := [(0, vr G 0), (1, vi p), (2, vi u), (3, vi v), (4, vi w), (5, vr G z16), (6, vi l6_27), (7, vi (l7_27 + 1)), (8, vi l8_27)]) h dX11_having_114 rfl (by decide) [1, 2, 3, 4, 5, 6, 7, 0, 8] rfl ?_
                            refine fr_iinc (j := 8) (L' := [(0, vr G 0), (1, vi p), (2, vi u), (3, vi v), (4, vi w), (5, vr G z16), (6, vi l6_27), (7, vi (l7_27 + 1)), (8, vi (l8_27 + 1))]) h dX11_having_117 rfl (by decide) [1, 2, 3, 4, 5, 6, 7, 8, 0] rfl ?_
                            refine fr_goto (tgt := 56) h dX11_having_120 (by decide) ?_
                            exact ih27 l6_27 (l7_27 + 1) (l8_27 + 1) (by omega) (by omega) (by omega) (by omega) (by omega) (by omega) (by omega) (by omega) (by omega) (by omega) (by omega) (by omega) (by omega)
                          ·
                            refine fr_iload h 8 rfl dX11_having_105 ?_
                            refine fr_goto (tgt := 112) h dX11_having_107 (by decide) ?_
                            refine fr_istore (L' := [(0, vr G 0), (1, vi p), (2, vi u), (3, vi v), (4, vi w), (5, vr G z16), (6, vi l8_27), (7, vi l7_27), (8, vi l8_27)]) h dX11_having_112 (by decide) [1, 2, 3, 4, 5, 6, 0, 7, 8] rfl ?_
                            refine fr_iinc (j := 7) (L' := [(0, vr G 0), (1, vi p), (2, vi u), (3, vi v), (4, vi w), (5, vr G z16), (6, vi l8_27), (7, vi (l7_27 + 1)), (8, vi l8_27)]) h dX11_having_114 rfl (by decide) [1, 2, 3, 4, 5, 6, 7, 0, 8] rfl ?_
                            refine fr_iinc (j := 8) (L' := [(0, vr G 0), (1, vi p), (2, vi u), (3, vi v), (4, vi w), (5, vr G z16), (6, vi l8_27), (7, vi (l7_27 + 1)), (8, vi (l8_27 + 1))]) h dX11_having_117 rfl (by decide) [1, 2, 3, 4, 5, 6, 7, 8, 0] rfl ?_
                            refine fr_goto (tgt := 56) h dX11_having_120 (by decide) ?_
                            exact ih27 l8_27 (l7_27 + 1) (l8_27 + 1) (by omega) (by omega) (by omega) (by omega) (by omega) (by omega) (by omega) (by omega) (by omega) (by omega) (by omega) (by omega) (by omega)
                        ·
                          refine fr_iconst h dX11_having_92 ?_
                          refine fr_goto (tgt := 97) h dX11_having_93 (by decide) ?_
                          refine fr_icmp_ne (tgt := 117) h dX11_having_97 (by decide) (by omega) (by omega) (fun c82 => ?_) (fun c82 => by exfalso; omega)
                          refine fr_iinc (j := 8) (L' := [(0, vr G 0), (1, vi p), (2, vi u), (3, vi v), (4, vi w), (5, vr G z16), (6, vi l6_27), (7, vi l7_27), (8, vi (l8_27 + 1))]) h dX11_having_117 rfl (by decide) [1, 2, 3, 4, 5, 6, 7, 8, 0] rfl ?_
                          refine fr_goto (tgt := 56) h dX11_having_120 (by decide) ?_
                          exact ih27 l6_27 l7_27 (l8_27 + 1) (by omega) (by omega) (by omega) (by omega) (by omega) (by omega) (by omega) (by omega) (by omega) (by omega) (by omega) (by omega) (by omega)
                      ·
                        refine fr_iconst h dX11_having_81 ?_
                        refine fr_goto (tgt := 86) h dX11_having_82 (by decide) ?_
                        refine fr_iload h 4 rfl dX11_having_86 ?_
                        refine fr_iconst h dX11_having_88 ?_
                        refine fr_icmp_ne (tgt := 96) h dX11_having_89 (by decide) (by omega) (by omega) (fun c83 => ?_) (fun c83 => ?_)
                        ·
                          refine fr_iconst h dX11_having_96 ?_
                          refine fr_icmp_ne (tgt := 117) h dX11_having_97 (by decide) (by omega) (by omega) (fun c84 => ?_) (fun c84 => by exfalso; omega)
                          refine fr_iinc (j := 8) (L' := [(0, vr G 0), (1, vi p), (2, vi u), (3, vi v), (4, vi w), (5, vr G z16), (6, vi l6_27), (7, vi l7_27), (8, vi (l8_27 + 1))]) h dX11_having_117 rfl (by decide) [1, 2, 3, 4, 5, 6, 7, 8, 0] rfl ?_
                          refine fr_goto (tgt := 56) h dX11_having_120 (by decide) ?_
                          exact ih27 l6_27 l7_27 (l8_27 + 1) (by omega) (by omega) (by omega) (by omega) (by omega) (by omega) (by omega) (by omega) (by omega) (by omega) (by omega) (by omega) (by omega)
                        ·
                          refine fr_iconst h dX11_having_92 ?_
                          refine fr_goto (tgt := 97) h dX11_having_93 (by decide) ?_
                          refine fr_icmp_ne (tgt := 117) h dX11_having_97 (by decide) (by omega) (by omega) (fun c85 => by exfalso; omega) (fun c85 => ?_)
                          refine fr_iload h 7 rfl dX11_having_100 ?_
                          refine fr_if_ne (tgt := 110) h dX11_having_102 (by decide) (by omega) (fun c86 => ?_) (fun c86 => ?_)
                          ·
                            refine fr_iload h 6 rfl dX11_having_110 ?_
                            refine fr_istore (L' := [(0, vr G 0), (1, vi p), (2, vi u), (3, vi v), (4, vi w), (5, vr G z16), (6, vi l6_27), (7, vi l7_27), (8, vi l8_27)]) h dX11_having_112 (by decide) [1, 2, 3, 4, 5, 6, 0, 7, 8] rfl ?_
                            refine fr_iinc (j := 7) (L' := [(0, vr G 0), (1, vi p), (2, vi u), (3, vi v), (4, vi w), (5, vr G z16), (6, vi l6_27), (7, vi (l7_27 + 1)), (8, vi l8_27)]) h dX11_having_114 rfl (by decide) [1, 2, 3, 4, 5, 6, 7, 0, 8] rfl ?_
                            refine fr_iinc (j := 8) (L' := [(0, vr G 0), (1, vi p), (2, vi u), (3, vi v), (4, vi w), (5, vr G z16), (6, vi l6_27), (7, vi (l7_27 + 1)), (8, vi (l8_27 + 1))]) h dX11_having_117 rfl (by decide) [1, 2, 3, 4, 5, 6, 7, 8, 0] rfl ?_
                            refine fr_goto (tgt := 56) h dX11_having_120 (by decide) ?_
                            exact ih27 l6_27 (l7_27 + 1) (l8_27 + 1) (by omega) (by omega) (by omega) (by omega) (by omega) (by omega) (by omega) (by omega) (by omega) (by omega) (by omega) (by omega) (by omega)
                          ·
                            refine fr_iload h 8 rfl dX11_having_105 ?_
                            refine fr_goto (tgt := 112) h dX11_having_107 (by decide) ?_
                            refine fr_istore (L' := [(0, vr G 0), (1, vi p), (2, vi u), (3, vi v), (4, vi w), (5, vr G z16), (6, vi l8_27), (7, vi l7_27), (8, vi l8_27)]) h dX11_having_112 (by decide) [1, 2, 3, 4, 5, 6, 0, 7, 8] rfl ?_
                            refine fr_iinc (j := 7) (L' := [(0, vr G 0), (1, vi p), (2, vi u), (3, vi v), (4, vi w), (5, vr G z16), (6, vi l8_27), (7, vi (l7_27 + 1)), (8, vi l8_27)]) h dX11_having_114 rfl (by decide) [1, 2, 3, 4, 5, 6, 7, 0, 8] rfl ?_
                            refine fr_iinc (j := 8) (L' := [(0, vr G 0), (1, vi p), (2, vi u), (3, vi v), (4, vi w), (5, vr G z16), (6, vi l8_27), (7, vi (l7_27 + 1)), (8, vi (l8_27 + 1))]) h dX11_having_117 rfl (by decide) [1, 2, 3, 4, 5, 6, 7, 8, 0] rfl ?_
                            refine fr_goto (tgt := 56) h dX11_having_120 (by decide) ?_
                            exact ih27 l8_27 (l7_27 + 1) (l8_27 + 1) (by omega) (by omega) (by omega) (by omega) (by omega) (by omega) (by omega) (by omega) (by omega) (by omega) (by omega) (by omega) (by omega)
                exact HL27 ((1297 - 1) + 1 : Int).toNat 0 0 1 (by omega) (by omega) (by omega) (by omega) (by omega) (by omega) (by omega) (by omega) (by omega) (by omega) (by omega) (by omega) (by omega)
              ·
                refine fr_iconst h dX11_having_38 ?_
                exact fr_iret h hq (by omega) ⟨(by omega), (by omega), (by omega), (fun a _ _ _ => rfl)⟩ dX11_having_39
set_option maxHeartbeats 1000000 in
theorem f_X11_differ (x : Mm) (p : Int) (u : Int) (v : Int) (h_p : fm_r p) (h_u : fm_r u) (h_v : fm_r v) (e0 : FRC x) : CnI YC yX11_differ cX11_differ 6 .int 18 522 (fun G => [vr G 0, vi p, vi u, vi v]) x (fun z y' => (¬ (0 ≤ p ∧ p < 5 ∧ 1 ≤ u ∧ u ≤ 400 ∧ 1 ≤ v ∧ v ≤ 400) → z = (-1)) ∧ ((0 ≤ p ∧ p < 5 ∧ 1 ≤ u ∧ u ≤ 400 ∧ 1 ≤ v ∧ v ≤ 400) → p ≠ 4 → (u = 1 ∧ v = 1 → z = 0) ∧ (¬ (u = 1 ∧ v = 1) → z = (-2))) ∧ ((0 ≤ p ∧ p < 5 ∧ 1 ≤ u ∧ u ≤ 400 ∧ 1 ≤ v ∧ v ≤ 400) → p = 4 → z = (-2)) ∧ (∀ a : Int, (a < 79 ∨ 93 < a) → (a < 107 ∨ 108 < a) → (a < 110 ∨ 119 < a) → y' a = x a)) := by
  refine cn_I (by decide) (fun _ => Nat.le_of_ble_eq_true rfl) (fun G C h hq => ?_)
  have h : OK YC G C cX11_differ RX11 6 (some .int) 18 522 := h
  show FW YC G C 6 x 0 [(0, vr G 0), (1, vi p), (2, vi u), (3, vi v)] []
  obtain ⟨hSZ, hWZ, hTZ, hKN, hKE, h34, h35, h36, h37, h13, h14, h1104, h111, h11, h142, h983, h1071, hCU, hKP⟩ := e0
  have hru : isRu 110 := Or.inl rfl
  have h_110 := Ru_b hru
  have hru5 : isRu 115 := Or.inr rfl
  have h_115 := Ru_b hru5
  refine fr_iload_n h rfl 1 rfl dX11_differ_0 ?_
  refine fr_csI h wX11_isKind lX11_203 (c_X11_isKind x p (by omega)) rfl (by decide) (by decide) rfl (Nat.le_of_ble_eq_true rfl) dX11_differ_1 (fun z2 x1 w3 p4 => ?_)
  obtain ⟨p5, p6, y7⟩ := p4
  rw [y7]
  clear y7
  refine fr_if_eq (tgt := 27) h dX11_differ_4 (by decide) (by omega) (fun c8 => ?_) (fun c8 => ?_)
  ·
    refine fr_iconst h dX11_differ_27 ?_
    exact fr_iret h hq (by omega) ⟨(by omega), (by omega), (by omega), (fun a _ _ _ => rfl)⟩ dX11_differ_28
  ·
    refine fr_iload_n h rfl 2 rfl dX11_differ_7 ?_
    refine fr_sipush h rfl dX11_differ_8 ?_
    refine fr_csI h wX11_isPlace lX11_206 (c_X11_isPlace x u 400 (by omega) (by omega)) rfl (by decide) (by decide) rfl (Nat.le_of_ble_eq_true rfl) dX11_differ_11 (fun z10 x9 w11 p12 => ?_)
    obtain ⟨p13, p14, y15⟩ := p12
    rw [y15]
    clear y15
    refine fr_if_eq (tgt := 27) h dX11_differ_14 (by decide) (by omega) (fun c16 => ?_) (fun c16 => ?_)
    ·
      refine fr_iconst h dX11_differ_27 ?_
      exact fr_iret h hq (by omega) ⟨(by omega), (by omega), (by omega), (fun a _ _ _ => rfl)⟩ dX11_differ_28
    ·
      refine fr_iload_n h rfl 3 rfl dX11_differ_17 ?_
      refine fr_sipush h rfl dX11_differ_18 ?_
      refine fr_csI h wX11_isPlace lX11_206 (c_X11_isPlace x v 400 (by omega) (by omega)) rfl (by decide) (by decide) rfl (Nat.le_of_ble_eq_true rfl) dX11_differ_21 (fun z18 x17 w19 p20 => ?_)
      obtain ⟨p21, p22, y23⟩ := p20
      rw [y23]
      clear y23
      refine fr_if_ne (tgt := 29) h dX11_differ_24 (by decide) (by omega) (fun c24 => ?_) (fun c24 => ?_)
      ·
        refine fr_aload_n h rfl 0 rfl dX11_differ_29 ?_
        refine fr_iload_n h rfl 1 rfl dX11_differ_30 ?_
        refine fr_cvR h kX11 at_0 wX11_orderOf lX11_210 (f_X11_orderOf x p (by omega) (by omega) (by omega) hKN hKE (fun j a b => hSZ j a b) (fun j a b => hWZ j a b) (by omega) (by omega) (by omega) (by omega) (by omega) (by omega)) rfl (by decide) (by decide) rfl (Nat.le_of_ble_eq_true rfl) dX11_differ_31 (fun z26 x25 p28 => ?_)
        obtain ⟨p29, p30, p31, p32, p33, f34⟩ := p28
        obtain ⟨n35, i36⟩ := OrN_ex (show isOr z26 by unfold isOr; omega)
        have h_z26 := OrN_b i36
        refine fr_astore (L' := [(0, vr G 0), (1, vi p), (2, vi u), (3, vi v), (4, vr G z26)]) h dX11_differ_34 (by decide) [1, 2, 3, 4, 0] rfl ?_
        refine fr_iload_n h rfl 2 rfl dX11_differ_36 ?_
        refine fr_aload h 4 rfl dX11_differ_37 ?_
        refine fr_cvI h kX6 (Or_at (OrN_is i36)) wX6_size lX11_214 (c_X6_size x25 z26 n35 i36) rfl (by decide) (by decide) rfl (Nat.le_of_ble_eq_true rfl) dX11_differ_39 (fun z38 x37 w39 p40 => ?_)
        obtain ⟨p41, p42, p43, p44, y45⟩ := p40
        rw [y45]
        clear y45
        refine fr_icmp_gt (tgt := 54) h dX11_differ_42 (by decide) (by omega) (by omega) (fun c46 => ?_) (fun c46 => ?_)
        ·
          refine fr_bipush h rfl dX11_differ_54 ?_
          exact fr_iret h hq (by omega) ⟨(by omega), (by omega), (by omega), (fun a k0 k1 k2 => (f34 a (by omega) (by omega)))⟩ dX11_differ_56
        ·
          refine fr_iload_n h rfl 3 rfl dX11_differ_45 ?_
          refine fr_aload h 4 rfl dX11_differ_46 ?_
          refine fr_cvI h kX6 (Or_at (OrN_is i36)) wX6_size lX11_214 (c_X6_size x25 z26 n35 i36) rfl (by decide) (by decide) rfl (Nat.le_of_ble_eq_true rfl) dX11_differ_48 (fun z48 x47 w49 p50 => ?_)
          obtain ⟨p51, p52, p53, p54, y55⟩ := p50
          rw [y55]
          clear y55
          refine fr_icmp_le (tgt := 57) h dX11_differ_51 (by decide) (by omega) (by omega) (fun c56 => ?_) (fun c56 => ?_)
          ·
            refine fr_aload h 4 rfl dX11_differ_57 ?_
            refine fr_iload_n h rfl 2 rfl dX11_differ_59 ?_
            refine fr_cvL h kX6 (Or_at (OrN_is i36)) wX6_codeAt lX11_251 (f_X6_codeAt x25 z26 n35 i36 u (by omega) (by omega) (by omega)) rfl (by decide) (by decide) rfl (Nat.le_of_ble_eq_true rfl) dX11_differ_60 (fun z58 x57 w59 p60 => ?_)
            obtain ⟨p61, y62⟩ := p60
            rw [y62]
            clear y62
            refine fr_aload h 4 rfl dX11_differ_63 ?_
            refine fr_iload_n h rfl 3 rfl dX11_differ_65 ?_
            refine fr_cvL h kX6 (Or_at (OrN_is i36)) wX6_codeAt lX11_251 (f_X6_codeAt x25 z26 n35 i36 v (by omega) (by omega) (by omega)) rfl (by decide) (by decide) rfl (Nat.le_of_ble_eq_true rfl) dX11_differ_66 (fun z64 x63 w65 p66 => ?_)
            obtain ⟨p67, y68⟩ := p66
            rw [y68]
            clear y68
            refine fr_csI h wX2_differences lX11_258 (f_X2_differences x25 z58 z64 (by omega) (by omega)) rfl (by decide) (by decide) rfl (Nat.le_of_ble_eq_true rfl) dX11_differ_69 (fun z70 x69 w71 p72 => ?_)
            obtain ⟨p73, y74⟩ := p72
            rw [y74]
            clear y74
            refine fr_istore (L' := [(0, vr G 0), (1, vi p), (2, vi u), (3, vi v), (4, vr G z26), (5, vi z70)]) h dX11_differ_72 (by decide) [1, 2, 3, 4, 5, 0] rfl ?_
            refine fr_aload_n h rfl 0 rfl dX11_differ_74 ?_
            refine fr_getc (z := 107) (iz := 11) h kX11 fX11_77 at_0 rfl rfl rf_0_11 (by omega) dX11_differ_75 ?_
            refine fr_cvV h kX10 at_107 wX10_clear lX11_219 (c_X10_clear x25) rfl (by decide) (by decide) rfl (Nat.le_of_ble_eq_true rfl) dX11_differ_78 (fun x75 p78 => ?_)
            have f79 := p78
            refine fr_iload h 5 rfl dX11_differ_81 ?_
            refine fr_if_eq (tgt := 99) h dX11_differ_83 (by decide) (by omega) (fun c80 => ?_) (fun c80 => ?_)
            ·
              refine fr_iload h 5 rfl dX11_differ_99 ?_
              refine fr_csI h wJ6_bitCount_0f7a4 lX11_246 (f_J6_bitCount_0f7a4 x75 z70 (by omega)) rfl (by decide) (by decide) rfl (Nat.le_of_ble_eq_true rfl) dX11_differ_101 (fun z82 x81 w83 p84 => ?_)
              obtain ⟨p85, y86⟩ := p84
              rw [y86]
              clear y86
              exact fr_iret h hq (by omega) ⟨(by omega), (by omega), (by omega), (fun a k0 k1 k2 => ((f79 a (by omega)).trans (f34 a (by omega) (by omega))))⟩ dX11_differ_104
            ·
              refine fr_aload_n h rfl 0 rfl dX11_differ_86 ?_
              refine fr_getc (z := 107) (iz := 11) h kX11 fX11_77 at_0 rfl rfl rf_0_11 (by omega) dX11_differ_87 ?_
              refine fr_iload h 5 rfl dX11_differ_90 ?_
              refine fr_csI h wX2_firstOf lX11_262 (c_X2_firstOf x75 z70 (by omega)) rfl (by decide) (by decide) rfl (Nat.le_of_ble_eq_true rfl) dX11_differ_92 (fun z88 x87 w89 p90 => ?_)
              obtain ⟨p91, p92, y93⟩ := p90
              rw [y93]
              clear y93
              refine fr_i2l h (by omega) dX11_differ_95 ?_
              refine fr_cvV h kX10 at_107 wX10_add lX11_223 (c_X10_add x75 z88 (by omega)) rfl (by decide) (by decide) rfl (Nat.le_of_ble_eq_true rfl) dX11_differ_96 (fun x94 p97 => ?_)
              have f98 := p97
              refine fr_iload h 5 rfl dX11_differ_99 ?_
              refine fr_csI h wJ6_bitCount_0f7a4 lX11_246 (f_J6_bitCount_0f7a4 x94 z70 (by omega)) rfl (by decide) (by decide) rfl (Nat.le_of_ble_eq_true rfl) dX11_differ_101 (fun z100 x99 w101 p102 => ?_)
              obtain ⟨p103, y104⟩ := p102
              rw [y104]
              clear y104
              exact fr_iret h hq (by omega) ⟨(by omega), (by omega), (by omega), (fun a k0 k1 k2 => ((f98 a (by omega)).trans ((f79 a (by omega)).trans (f34 a (by omega) (by omega)))))⟩ dX11_differ_104
          ·
            refine fr_bipush h rfl dX11_differ_54 ?_
            exact fr_iret h hq (by omega) ⟨(by omega), (by omega), (by omega), (fun a k0 k1 k2 => (f34 a (by omega) (by omega)))⟩ dX11_differ_56
      ·
        refine fr_iconst h dX11_differ_27 ?_
        exact fr_iret h hq (by omega) ⟨(by omega), (by omega), (by omega), (fun a _ _ _ => rfl)⟩ dX11_differ_28
set_option maxHeartbeats 1000000 in
theorem f_X11_gap (x : Mm) (p : Int) (k : Int) (h_p : fm_r p) (h_k : fm_r k) (e0 : FRC x) : CnI YC yX11_gap cX11_gap 4 .int 18 522 (fun G => [vr G 0, vi p, vi k]) x (fun z y' => (¬ (0 ≤ p ∧ p < 5 ∧ 1 ≤ k ∧ k ≤ 399) → z = (-1)) ∧ ((0 ≤ p ∧ p < 5 ∧ 1 ≤ k ∧ k ≤ 399) → z = (-2)) ∧ (∀ a : Int, (a < 79 ∨ 93 < a) → (a < 107 ∨ 108 < a) → (a < 110 ∨ 119 < a) → y' a = x a)) := by
  refine cn_I (by decide) (fun _ => Nat.le_of_ble_eq_true rfl) (fun G C h hq => ?_)
  have h : OK YC G C cX11_gap RX11 4 (some .int) 18 522 := h
  show FW YC G C 4 x 0 [(0, vr G 0), (1, vi p), (2, vi k)] []
  obtain ⟨hSZ, hWZ, hTZ, hKN, hKE, h34, h35, h36, h37, h13, h14, h1104, h111, h11, h142, h983, h1071, hCU, hKP⟩ := e0
  have hru : isRu 110 := Or.inl rfl
  have h_110 := Ru_b hru
  have hru5 : isRu 115 := Or.inr rfl
  have h_115 := Ru_b hru5
  refine fr_iload_n h rfl 1 rfl dX11_gap_0 ?_
  refine fr_csI h wX11_isKind lX11_203 (c_X11_isKind x p (by omega)) rfl (by decide) (by decide) rfl (Nat.le_of_ble_eq_true rfl) dX11_gap_1 (fun z2 x1 w3 p4 => ?_)
  obtain ⟨p5, p6, y7⟩ := p4
  rw [y7]
  clear y7
  refine fr_if_eq (tgt := 17) h dX11_gap_4 (by decide) (by omega) (fun c8 => ?_) (fun c8 => ?_)
  ·
    refine fr_iconst h dX11_gap_17 ?_
    exact fr_iret h hq (by omega) ⟨(by omega), (by omega), (fun a _ _ _ => rfl)⟩ dX11_gap_18
  ·
    refine fr_iload_n h rfl 2 rfl dX11_gap_7 ?_
    refine fr_sipush h rfl dX11_gap_8 ?_
    refine fr_csI h wX11_isPlace lX11_206 (c_X11_isPlace x k 399 (by omega) (by omega)) rfl (by decide) (by decide) rfl (Nat.le_of_ble_eq_true rfl) dX11_gap_11 (fun z10 x9 w11 p12 => ?_)
    obtain ⟨p13, p14, y15⟩ := p12
    rw [y15]
    clear y15
    refine fr_if_ne (tgt := 19) h dX11_gap_14 (by decide) (by omega) (fun c16 => ?_) (fun c16 => ?_)
    ·
      refine fr_aload_n h rfl 0 rfl dX11_gap_19 ?_
      refine fr_iload_n h rfl 1 rfl dX11_gap_20 ?_
      refine fr_cvR h kX11 at_0 wX11_orderOf lX11_210 (f_X11_orderOf x p (by omega) (by omega) (by omega) hKN hKE (fun j a b => hSZ j a b) (fun j a b => hWZ j a b) (by omega) (by omega) (by omega) (by omega) (by omega) (by omega)) rfl (by decide) (by decide) rfl (Nat.le_of_ble_eq_true rfl) dX11_gap_21 (fun z18 x17 p20 => ?_)
      obtain ⟨p21, p22, p23, p24, p25, f26⟩ := p20
      obtain ⟨n27, i28⟩ := OrN_ex (show isOr z18 by unfold isOr; omega)
      have h_z18 := OrN_b i28
      refine fr_astore_n (L' := [(0, vr G 0), (1, vi p), (2, vi k), (3, vr G z18)]) h rfl dX11_gap_24 (by decide) [1, 2, 3, 0] rfl ?_
      refine fr_iload_n h rfl 2 rfl dX11_gap_25 ?_
      refine fr_iconst h dX11_gap_26 ?_
      refine fr_iadd h dX11_gap_27 ?_
      refine fr_normi (fun z29 w30 q31 => ?_)
      have w32 : fm_r ((k + 1)) → z29 = (k + 1) := fun q => (iI_inj q w30 q31).symm
      refine fr_aload_n h rfl 3 rfl dX11_gap_28 ?_
      refine fr_cvI h kX6 (Or_at (OrN_is i28)) wX6_size lX11_214 (c_X6_size x17 z18 n27 i28) rfl (by decide) (by decide) rfl (Nat.le_of_ble_eq_true rfl) dX11_gap_29 (fun z34 x33 w35 p36 => ?_)
      obtain ⟨p37, p38, p39, p40, y41⟩ := p36
      rw [y41]
      clear y41
      refine fr_icmp_le (tgt := 38) h dX11_gap_32 (by decide) (by omega) (by omega) (fun c42 => ?_) (fun c42 => ?_)
      ·
        exfalso; omega
      ·
        refine fr_bipush h rfl dX11_gap_35 ?_
        exact fr_iret h hq (by omega) ⟨(by omega), (by omega), (fun a k0 k1 k2 => (f26 a (by omega) (by omega)))⟩ dX11_gap_37
    ·
      refine fr_iconst h dX11_gap_17 ?_
      exact fr_iret h hq (by omega) ⟨(by omega), (by omega), (fun a _ _ _ => rfl)⟩ dX11_gap_18
set_option maxHeartbeats 1000000 in
theorem f_X11_opens (x : Mm) (c : Int) (p : Int) (h_c : fm_r c) (h_p : fm_r p) (e0 : FRC x) : CnI YC yX11_opens cX11_opens 3 .int 18 522 (fun G => [vr G 0, vi c, vi p]) x (fun z y' => (¬ (0 ≤ c ∧ c < 3 ∧ 0 ≤ p ∧ p < 5) → z = (-1)) ∧ ((0 ≤ c ∧ c < 3 ∧ 0 ≤ p ∧ p < 5) → p ≠ 4 → z = 1) ∧ ((0 ≤ c ∧ c < 3 ∧ 0 ≤ p ∧ p < 5) → p = 4 → z = 0) ∧ (∀ a : Int, (a < 79 ∨ 93 < a) → (a < 95 ∨ 97 < a) → (a < 110 ∨ 119 < a) → y' a = x a)) := by
  refine cn_I (by decide) (fun _ => Nat.le_of_ble_eq_true rfl) (fun G C h hq => ?_)
  have h : OK YC G C cX11_opens RX11 3 (some .int) 18 522 := h
  show FW YC G C 3 x 0 [(0, vr G 0), (1, vi c), (2, vi p)] []
  obtain ⟨hSZ, hWZ, hTZ, hKN, hKE, h34, h35, h36, h37, h13, h14, h1104, h111, h11, h142, h983, h1071, hCU, hKP⟩ := e0
  have hru : isRu 110 := Or.inl rfl
  have h_110 := Ru_b hru
  have hru5 : isRu 115 := Or.inr rfl
  have h_115 := Ru_b hru5
  refine fr_iload_n h rfl 1 rfl dX11_opens_0 ?_
  refine fr_if_lt (tgt := 16) h dX11_opens_1 (by decide) (by omega) (fun c1 => ?_) (fun c1 => ?_)
  ·
    refine fr_iconst h dX11_opens_16 ?_
    exact fr_iret h hq (by omega) ⟨(by omega), (by omega), (by omega), (fun a _ _ _ => rfl)⟩ dX11_opens_17
  ·
    refine fr_iload_n h rfl 1 rfl dX11_opens_4 ?_
    refine fr_iconst h dX11_opens_5 ?_
    refine fr_icmp_ge (tgt := 16) h dX11_opens_6 (by decide) (by omega) (by omega) (fun c2 => ?_) (fun c2 => ?_)
    ·
      refine fr_iconst h dX11_opens_16 ?_
      exact fr_iret h hq (by omega) ⟨(by omega), (by omega), (by omega), (fun a _ _ _ => rfl)⟩ dX11_opens_17
    ·
      refine fr_iload_n h rfl 2 rfl dX11_opens_9 ?_
      refine fr_csI h wX11_isKind lX11_203 (c_X11_isKind x p (by omega)) rfl (by decide) (by decide) rfl (Nat.le_of_ble_eq_true rfl) dX11_opens_10 (fun z4 x3 w5 p6 => ?_)
      obtain ⟨p7, p8, y9⟩ := p6
      rw [y9]
      clear y9
      refine fr_if_ne (tgt := 18) h dX11_opens_13 (by decide) (by omega) (fun c10 => ?_) (fun c10 => ?_)
      ·
        refine fr_aload_n h rfl 0 rfl dX11_opens_18 ?_
        refine fr_getc (z := 94) (iz := 9) h kX11 fX11_63 at_0 rfl rfl rf_0_9 (by omega) dX11_opens_19 ?_
        refine fr_iload_n h rfl 1 rfl dX11_opens_22 ?_
        refine fr_aaldc7 h ar_94 (by omega) (by omega) (rx_94 (by omega) (by omega)) (by omega) dX11_opens_23 (fun q11 w12 => ?_)
        have i13 : isCu q11 := by rw [w12]; exact Cu_ix94 (by omega) (by omega)
        have h_q11 := Cu_b i13
        refine fr_iload_n h rfl 2 rfl dX11_opens_24 ?_
        refine fr_cvV h kX3 (Cu_at i13) wX3_open lX11_265 (c_X3_open x q11 i13 p (by omega) (by omega) (by omega)) rfl (by decide) (by decide) rfl (Nat.le_of_ble_eq_true rfl) dX11_opens_25 (fun x14 p17 => ?_)
        have f18 := p17
        refine fr_aload_n h rfl 0 rfl dX11_opens_28 ?_
        refine fr_iload_n h rfl 2 rfl dX11_opens_29 ?_
        have r19 := (congrFun (f18 3 (by omega)) 4)
        have r20 := (congrFun (f18 3 (by omega)) 6)
        have r21 := (congrFun (f18 3 (by omega)) 7)
        have r22 := (congrFun (f18 0 (by omega)) 13)
        have r23 := (congrFun (f18 110 (by omega)) 4)
        have r24 := (congrFun (f18 (110 + 1) (by omega)) 0)
        refine fr_cvR h kX11 at_0 wX11_orderOf lX11_210 (f_X11_orderOf x14 p (by omega) (by omega) (by omega) (fun k a b => (congrFun (f18 (79 + 2 * k) (by omega)) 2).trans (hKN k a b)) (fun k a b => (congrFun (f18 (79 + 2 * k + 1) (by omega)) 0).trans (hKE k a b)) (fun j a b => (congrFun (f18 (3 + 1) (by omega)) j).trans (hSZ j a b)) (fun j a b => (congrFun (f18 (3 + 3) (by omega)) j).trans (hWZ j a b)) (by omega) (by omega) (by omega) (by omega) (by omega) (by omega)) rfl (by decide) (by decide) rfl (Nat.le_of_ble_eq_true rfl) dX11_opens_30 (fun z26 x25 p28 => ?_)
        obtain ⟨p29, p30, p31, p32, p33, f34⟩ := p28
        obtain ⟨n35, i36⟩ := OrN_ex (show isOr z26 by unfold isOr; omega)
        have h_z26 := OrN_b i36
        refine fr_cvI h kX6 (Or_at (OrN_is i36)) wX6_size lX11_214 (c_X6_size x25 z26 n35 i36) rfl (by decide) (by decide) rfl (Nat.le_of_ble_eq_true rfl) dX11_opens_33 (fun z38 x37 w39 p40 => ?_)
        obtain ⟨p41, p42, p43, p44, y45⟩ := p40
        rw [y45]
        clear y45
        exact fr_iret h hq (by omega) ⟨(by omega), (by omega), (by omega), (fun a k0 k1 k2 => ((f34 a (by omega) (by omega)).trans (f18 a (by omega))))⟩ dX11_opens_36
      ·
        refine fr_iconst h dX11_opens_16 ?_
        exact fr_iret h hq (by omega) ⟨(by omega), (by omega), (by omega), (fun a _ _ _ => rfl)⟩ dX11_opens_17
set_option maxHeartbeats 1000000 in
theorem f_X11_goes (x : Mm) (c : Int) (h_c : fm_r c) (e0 : FRC x) : CnI YC yX11_goes cX11_goes 4 .int 1 20 (fun G => [vr G 0, vi c]) x (fun z y' => (¬ (0 ≤ c ∧ c < 3) → z = (-1)) ∧ (0 ≤ c ∧ c < 3 → z = (-3)) ∧ (∀ a : Int, (a < 79 ∨ 93 < a) → (a < 95 ∨ 97 < a) → (a < 107 ∨ 108 < a) → (a < 110 ∨ 119 < a) → y' a = x a)) := by
  refine cn_I (by decide) (fun _ => Nat.le_of_ble_eq_true rfl) (fun G C h hq => ?_)
  have h : OK YC G C cX11_goes RX11 4 (some .int) 1 20 := h
  show FW YC G C 4 x 0 [(0, vr G 0), (1, vi c)] []
  obtain ⟨hSZ, hWZ, hTZ, hKN, hKE, h34, h35, h36, h37, h13, h14, h1104, h111, h11, h142, h983, h1071, hCU, hKP⟩ := e0
  have hru : isRu 110 := Or.inl rfl
  have h_110 := Ru_b hru
  have hru5 : isRu 115 := Or.inr rfl
  have h_115 := Ru_b hru5
  refine fr_iload_n h rfl 1 rfl dX11_goes_0 ?_
  refine fr_if_lt (tgt := 9) h dX11_goes_1 (by decide) (by omega) (fun c1 => ?_) (fun c1 => ?_)
  ·
    refine fr_iconst h dX11_goes_9 ?_
    exact fr_iret h hq (by omega) ⟨(by omega), (by omega), (fun a _ _ _ _ => rfl)⟩ dX11_goes_10
  ·
    refine fr_iload_n h rfl 1 rfl dX11_goes_4 ?_
    refine fr_iconst h dX11_goes_5 ?_
    refine fr_icmp_lt (tgt := 11) h dX11_goes_6 (by decide) (by omega) (by omega) (fun c2 => ?_) (fun c2 => ?_)
    ·
      refine fr_aload_n h rfl 0 rfl dX11_goes_11 ?_
      refine fr_getc (z := 94) (iz := 9) h kX11 fX11_63 at_0 rfl rfl rf_0_9 (by omega) dX11_goes_12 ?_
      refine fr_iload_n h rfl 1 rfl dX11_goes_15 ?_
      refine fr_aaldc7 h ar_94 (by omega) (by omega) (rx_94 (by omega) (by omega)) (by omega) dX11_goes_16 (fun q3 w4 => ?_)
      have i5 : isCu q3 := by rw [w4]; exact Cu_ix94 (by omega) (by omega)
      have h_q3 := Cu_b i5
      have hcu := hCU q3 (by omega) (by omega)
      refine fr_astore_n (L' := [(0, vr G 0), (1, vi c), (2, vr G q3)]) h rfl dX11_goes_17 (by decide) [1, 2, 0] rfl ?_
      refine fr_aload_n h rfl 2 rfl dX11_goes_18 ?_
      refine fr_cvI h kX3 (Cu_at i5) wX3_isUsable lX11_268 (f_X3_isUsable x q3 i5) rfl (by decide) (by decide) rfl (Nat.le_of_ble_eq_true rfl) dX11_goes_19 (fun z7 x6 w8 p9 => ?_)
      obtain ⟨p10, p11, y12⟩ := p9
      rw [y12]
      clear y12
      refine fr_if_ne (tgt := 30) h dX11_goes_22 (by decide) (by omega) (fun c13 => ?_) (fun c13 => ?_)
      ·
        exfalso; omega
      ·
        refine fr_aload_n h rfl 2 rfl dX11_goes_25 ?_
        refine fr_cvI h kX3 (Cu_at i5) wX3_refusal lX11_271 (f_X3_refusal x q3 i5) rfl (by decide) (by decide) rfl (Nat.le_of_ble_eq_true rfl) dX11_goes_26 (fun z15 x14 w16 p17 => ?_)
        obtain ⟨p18, p19, p20, y21⟩ := p17
        rw [y21]
        clear y21
        exact fr_iret h hq (by omega) ⟨(by omega), (by omega), (fun a _ _ _ _ => rfl)⟩ dX11_goes_29
    ·
      refine fr_iconst h dX11_goes_9 ?_
      exact fr_iret h hq (by omega) ⟨(by omega), (by omega), (fun a _ _ _ _ => rfl)⟩ dX11_goes_10
set_option maxHeartbeats 1000000 in
theorem f_X11_skips (x : Mm) (c : Int) (n : Int) (h_c : fm_r c) (h_n : fm_r n) (e0 : FRC x) : CnI YC yX11_skips cX11_skips 5 .int 1 20 (fun G => [vr G 0, vi c, vi n]) x (fun z y' => (¬ (0 ≤ c ∧ c < 3 ∧ 0 ≤ n ∧ n ≤ 400) → z = (-1)) ∧ (0 ≤ c ∧ c < 3 ∧ 0 ≤ n ∧ n ≤ 400 → z = (-3)) ∧ (∀ a : Int, (a < 79 ∨ 93 < a) → (a < 95 ∨ 97 < a) → (a < 110 ∨ 119 < a) → y' a = x a)) := by
  refine cn_I (by decide) (fun _ => Nat.le_of_ble_eq_true rfl) (fun G C h hq => ?_)
  have h : OK YC G C cX11_skips RX11 5 (some .int) 1 20 := h
  show FW YC G C 5 x 0 [(0, vr G 0), (1, vi c), (2, vi n)] []
  obtain ⟨hSZ, hWZ, hTZ, hKN, hKE, h34, h35, h36, h37, h13, h14, h1104, h111, h11, h142, h983, h1071, hCU, hKP⟩ := e0
  have hru : isRu 110 := Or.inl rfl
  have h_110 := Ru_b hru
  have hru5 : isRu 115 := Or.inr rfl
  have h_115 := Ru_b hru5
  refine fr_iload_n h rfl 1 rfl dX11_skips_0 ?_
  refine fr_if_lt (tgt := 20) h dX11_skips_1 (by decide) (by omega) (fun c1 => ?_) (fun c1 => ?_)
  ·
    refine fr_iconst h dX11_skips_20 ?_
    exact fr_iret h hq (by omega) ⟨(by omega), (by omega), (fun a _ _ _ => rfl)⟩ dX11_skips_21
  ·
    refine fr_iload_n h rfl 1 rfl dX11_skips_4 ?_
    refine fr_iconst h dX11_skips_5 ?_
    refine fr_icmp_ge (tgt := 20) h dX11_skips_6 (by decide) (by omega) (by omega) (fun c2 => ?_) (fun c2 => ?_)
    ·
      refine fr_iconst h dX11_skips_20 ?_
      exact fr_iret h hq (by omega) ⟨(by omega), (by omega), (fun a _ _ _ => rfl)⟩ dX11_skips_21
    ·
      refine fr_iload_n h rfl 2 rfl dX11_skips_9 ?_
      refine fr_if_lt (tgt := 20) h dX11_skips_10 (by decide) (by omega) (fun c3 => ?_) (fun c3 => ?_)
      ·
        refine fr_iconst h dX11_skips_20 ?_
        exact fr_iret h hq (by omega) ⟨(by omega), (by omega), (fun a _ _ _ => rfl)⟩ dX11_skips_21
      ·
        refine fr_iload_n h rfl 2 rfl dX11_skips_13 ?_
        refine fr_sipush h rfl dX11_skips_14 ?_
        refine fr_icmp_le (tgt := 22) h dX11_skips_17 (by decide) (by omega) (by omega) (fun c4 => ?_) (fun c4 => ?_)
        ·
          refine fr_aload_n h rfl 0 rfl dX11_skips_22 ?_
          refine fr_getc (z := 94) (iz := 9) h kX11 fX11_63 at_0 rfl rfl rf_0_9 (by omega) dX11_skips_23 ?_
          refine fr_iload_n h rfl 1 rfl dX11_skips_26 ?_
          refine fr_aaldc7 h ar_94 (by omega) (by omega) (rx_94 (by omega) (by omega)) (by omega) dX11_skips_27 (fun q5 w6 => ?_)
          have i7 : isCu q5 := by rw [w6]; exact Cu_ix94 (by omega) (by omega)
          have h_q5 := Cu_b i7
          have hcu := hCU q5 (by omega) (by omega)
          refine fr_astore_n (L' := [(0, vr G 0), (1, vi c), (2, vi n), (3, vr G q5)]) h rfl dX11_skips_28 (by decide) [1, 2, 3, 0] rfl ?_
          refine fr_aload_n h rfl 3 rfl dX11_skips_29 ?_
          refine fr_cvI h kX3 (Cu_at i7) wX3_isUsable lX11_268 (f_X3_isUsable x q5 i7) rfl (by decide) (by decide) rfl (Nat.le_of_ble_eq_true rfl) dX11_skips_30 (fun z9 x8 w10 p11 => ?_)
          obtain ⟨p12, p13, y14⟩ := p11
          rw [y14]
          clear y14
          refine fr_if_ne (tgt := 41) h dX11_skips_33 (by decide) (by omega) (fun c15 => ?_) (fun c15 => ?_)
          ·
            exfalso; omega
          ·
            refine fr_aload_n h rfl 3 rfl dX11_skips_36 ?_
            refine fr_cvI h kX3 (Cu_at i7) wX3_refusal lX11_271 (f_X3_refusal x q5 i7) rfl (by decide) (by decide) rfl (Nat.le_of_ble_eq_true rfl) dX11_skips_37 (fun z17 x16 w18 p19 => ?_)
            obtain ⟨p20, p21, p22, y23⟩ := p19
            rw [y23]
            clear y23
            exact fr_iret h hq (by omega) ⟨(by omega), (by omega), (fun a _ _ _ => rfl)⟩ dX11_skips_40
        ·
          refine fr_iconst h dX11_skips_20 ?_
          exact fr_iret h hq (by omega) ⟨(by omega), (by omega), (fun a _ _ _ => rfl)⟩ dX11_skips_21
set_option maxHeartbeats 1000000 in
theorem f_X11_fits (x : Mm) (p : Int) (h_p : fm_r p) (e0 : FRC x) : CnI YC yX11_fits cX11_fits 6 .int 18 522 (fun G => [vr G 0, vi p]) x (fun z y' => (¬ (0 ≤ p ∧ p < 5) → z = (-1)) ∧ ((0 ≤ p ∧ p < 5) → p ≠ 4 → z = 1) ∧ ((0 ≤ p ∧ p < 5) → p = 4 → z = 0) ∧ (∀ a : Int, (a < 79 ∨ 93 < a) → (a < 107 ∨ 108 < a) → (a < 110 ∨ 119 < a) → y' a = x a)) := by
  refine cn_I (by decide) (fun _ => Nat.le_of_ble_eq_true rfl) (fun G C h hq => ?_)
  have h : OK YC G C cX11_fits RX11 6 (some .int) 18 522 := h
  show FW YC G C 6 x 0 [(0, vr G 0), (1, vi p)] []
  obtain ⟨hSZ, hWZ, hTZ, hKN, hKE, h34, h35, h36, h37, h13, h14, h1104, h111, h11, h142, h983, h1071, hCU, hKP⟩ := e0
  have hru : isRu 110 := Or.inl rfl
  have h_110 := Ru_b hru
  have hru5 : isRu 115 := Or.inr rfl
  have h_115 := Ru_b hru5
  refine fr_iload_n h rfl 1 rfl dX11_fits_0 ?_
  refine fr_csI h wX11_isKind lX11_203 (c_X11_isKind x p (by omega)) rfl (by decide) (by decide) rfl (Nat.le_of_ble_eq_true rfl) dX11_fits_1 (fun z2 x1 w3 p4 => ?_)
  obtain ⟨p5, p6, y7⟩ := p4
  rw [y7]
  clear y7
  refine fr_if_ne (tgt := 9) h dX11_fits_4 (by decide) (by omega) (fun c8 => ?_) (fun c8 => ?_)
  ·
    refine fr_aload_n h rfl 0 rfl dX11_fits_9 ?_
    refine fr_iload_n h rfl 1 rfl dX11_fits_10 ?_
    refine fr_cvR h kX11 at_0 wX11_orderOf lX11_210 (f_X11_orderOf x p (by omega) (by omega) (by omega) hKN hKE (fun j a b => hSZ j a b) (fun j a b => hWZ j a b) (by omega) (by omega) (by omega) (by omega) (by omega) (by omega)) rfl (by decide) (by decide) rfl (Nat.le_of_ble_eq_true rfl) dX11_fits_11 (fun z10 x9 p12 => ?_)
    obtain ⟨p13, p14, p15, p16, p17, f18⟩ := p12
    obtain ⟨n19, i20⟩ := OrN_ex (show isOr z10 by unfold isOr; omega)
    have h_z10 := OrN_b i20
    refine fr_astore_n (L' := [(0, vr G 0), (1, vi p), (2, vr G z10)]) h rfl dX11_fits_14 (by decide) [1, 2, 0] rfl ?_
    refine fr_iconst h dX11_fits_15 ?_
    refine fr_istore_n (L' := [(0, vr G 0), (1, vi p), (2, vr G z10), (3, vi 0)]) h rfl dX11_fits_16 (by decide) [1, 2, 3, 0] rfl ?_
    refine fr_iconst h dX11_fits_17 ?_
    refine fr_istore (L' := [(0, vr G 0), (1, vi p), (2, vr G z10), (3, vi 0), (4, vi 0)]) h dX11_fits_18 (by decide) [1, 2, 3, 4, 0] rfl ?_
    refine fr_iconst h dX11_fits_20 ?_
    refine fr_istore (L' := [(0, vr G 0), (1, vi p), (2, vr G z10), (3, vi 0), (4, vi 0), (5, vi 1)]) h dX11_fits_21 (by decide) [1, 2, 3, 4, 5, 0] rfl ?_
    have HL21 : ∀ (n21 : Nat) (l3_21 l4_21 l5_21 : Int), fm_r l3_21 → 0 ≤ l3_21 → l3_21 ≤ 1297 → fm_r l4_21 → 0 ≤ l4_21 → l4_21 ≤ 1297 → fm_r l5_21 → 1 ≤ l5_21 → l5_21 ≤ 1297 → 1 ≤ l5_21 → l5_21 ≤ 2 → ((l5_21 = 1 ∧ l4_21 = 0) ∨ (l5_21 = 2 ∧ p ≠ 4 ∧ l4_21 = 1)) → (1297 - l5_21) < n21 → FW YC G C 6 x9 23 [(0, vr G 0), (1, vi p), (2, vr G z10), (3, vi l3_21), (4, vi l4_21), (5, vi l5_21)] [] := by
      intro n21
      induction n21 with
      | zero =>
        intro l3_21 l4_21 l5_21 g21_0 g21_1 g21_2 g21_3 g21_4 g21_5 g21_6 g21_7 g21_8 g21_9 g21_10 g21_11 g21_12
        exfalso; omega
      | succ n21 ih21 =>
        intro l3_21 l4_21 l5_21 g21_0 g21_1 g21_2 g21_3 g21_4 g21_5 g21_6 g21_7 g21_8 g21_9 g21_10 g21_11 g21_12
        refine fr_iload h 5 rfl dX11_fits_23 ?_
        refine fr_aload_n h rfl 2 rfl dX11_fits_25 ?_
        refine fr_cvI h kX6 (Or_at (OrN_is i20)) wX6_size lX11_214 (c_X6_size x9 z10 n19 i20) rfl (by decide) (by decide) rfl (Nat.le_of_ble_eq_true rfl) dX11_fits_26 (fun z23 x22 w24 p25 => ?_)
        obtain ⟨p26, p27, p28, p29, y30⟩ := p25
        rw [y30]
        clear y30
        refine fr_icmp_gt (tgt := 75) h dX11_fits_29 (by decide) (by omega) (by omega) (fun c31 => ?_) (fun c31 => ?_)
        ·
          refine fr_aload_n h rfl 0 rfl dX11_fits_75 ?_
          refine fr_getc (z := 107) (iz := 11) h kX11 fX11_77 at_0 rfl rfl rf_0_11 (by omega) dX11_fits_76 ?_
          refine fr_cvV h kX10 at_107 wX10_clear lX11_219 (c_X10_clear x9) rfl (by decide) (by decide) rfl (Nat.le_of_ble_eq_true rfl) dX11_fits_79 (fun x32 p35 => ?_)
          have f36 := p35
          refine fr_iload h 4 rfl dX11_fits_82 ?_
          refine fr_if_le (tgt := 96) h dX11_fits_84 (by decide) (by omega) (fun c37 => ?_) (fun c37 => ?_)
          ·
            refine fr_iload h 4 rfl dX11_fits_96 ?_
            exact fr_iret h hq (by omega) ⟨(by omega), (by omega), (by omega), (fun a k0 k1 k2 => ((f36 a (by omega)).trans (f18 a (by omega) (by omega))))⟩ dX11_fits_98
          ·
            refine fr_aload_n h rfl 0 rfl dX11_fits_87 ?_
            refine fr_getc (z := 107) (iz := 11) h kX11 fX11_77 at_0 rfl rfl rf_0_11 (by omega) dX11_fits_88 ?_
            refine fr_iload_n h rfl 3 rfl dX11_fits_91 ?_
            refine fr_i2l h (by omega) dX11_fits_92 ?_
            refine fr_cvV h kX10 at_107 wX10_add lX11_223 (c_X10_add x32 l3_21 (by omega)) rfl (by decide) (by decide) rfl (Nat.le_of_ble_eq_true rfl) dX11_fits_93 (fun x38 p41 => ?_)
            have f42 := p41
            refine fr_iload h 4 rfl dX11_fits_96 ?_
            exact fr_iret h hq (by omega) ⟨(by omega), (by omega), (by omega), (fun a k0 k1 k2 => ((f42 a (by omega)).trans ((f36 a (by omega)).trans (f18 a (by omega) (by omega)))))⟩ dX11_fits_98
        ·
          refine fr_aload_n h rfl 0 rfl dX11_fits_32 ?_
          refine fr_getc (z := 98) (iz := 10) h kX11 fX11_70 at_0 rfl rfl rf_0_10 (by omega) dX11_fits_33 ?_
          refine fr_aload_n h rfl 2 rfl dX11_fits_36 ?_
          refine fr_iload h 5 rfl dX11_fits_37 ?_
          refine fr_cvI h kX6 (Or_at (OrN_is i20)) wX6_costAt lX11_220 (f_X6_costAt x9 z10 n19 i20 l5_21 (by omega) (by omega) (by omega)) rfl (by decide) (by decide) rfl (Nat.le_of_ble_eq_true rfl) dX11_fits_39 (fun z44 x43 w45 p46 => ?_)
          obtain ⟨p47, y48⟩ := p46
          rw [y48]
          clear y48
          refine fr_aload_n h rfl 2 rfl dX11_fits_42 ?_
          refine fr_iload h 5 rfl dX11_fits_43 ?_
          refine fr_cvL h kX6 (Or_at (OrN_is i20)) wX6_codeAt lX11_251 (f_X6_codeAt x9 z10 n19 i20 l5_21 (by omega) (by omega) (by omega)) rfl (by decide) (by decide) rfl (Nat.le_of_ble_eq_true rfl) dX11_fits_45 (fun z50 x49 w51 p52 => ?_)
          obtain ⟨p53, y54⟩ := p52
          rw [y54]
          clear y54
          have r55 := (congrFun (f18 98 (by omega) (by omega)) 3)
          refine fr_cvI h kX1 at_98 wX1_allow lX11_288 (f_X1_allow x9 z44 z50 (by omega) (by omega) (by omega)) rfl (by decide) (by decide) rfl (Nat.le_of_ble_eq_true rfl) dX11_fits_48 (fun z57 x56 w58 p59 => ?_)
          obtain ⟨p60, y61⟩ := p59
          rw [y61]
          clear y61
          refine fr_if_eq (tgt := 69) h dX11_fits_51 (by decide) (by omega) (fun c62 => ?_) (fun c62 => ?_)
          ·
            refine fr_iinc (j := 5) (L' := [(0, vr G 0), (1, vi p), (2, vr G z10), (3, vi l3_21), (4, vi l4_21), (5, vi (l5_21 + 1))]) h dX11_fits_69 rfl (by decide) [1, 2, 3, 4, 5, 0] rfl ?_
            refine fr_goto (tgt := 23) h dX11_fits_72 (by decide) ?_
            exact ih21 l3_21 l4_21 (l5_21 + 1) (by omega) (by omega) (by omega) (by omega) (by omega) (by omega) (by omega) (by omega) (by omega) (by omega) (by omega) (by omega) (by omega)
          ·
            refine fr_iload h 4 rfl dX11_fits_54 ?_
            refine fr_if_ne (tgt := 64) h dX11_fits_56 (by decide) (by omega) (fun c63 => ?_) (fun c63 => ?_)
            ·
              refine fr_iload_n h rfl 3 rfl dX11_fits_64 ?_
              refine fr_istore_n (L' := [(0, vr G 0), (1, vi p), (2, vr G z10), (3, vi l3_21), (4, vi l4_21), (5, vi l5_21)]) h rfl dX11_fits_65 (by decide) [1, 2, 3, 0, 4, 5] rfl ?_
              refine fr_iinc (j := 4) (L' := [(0, vr G 0), (1, vi p), (2, vr G z10), (3, vi l3_21), (4, vi (l4_21 + 1)), (5, vi l5_21)]) h dX11_fits_66 rfl (by decide) [1, 2, 3, 4, 0, 5] rfl ?_
              refine fr_iinc (j := 5) (L' := [(0, vr G 0), (1, vi p), (2, vr G z10), (3, vi l3_21), (4, vi (l4_21 + 1)), (5, vi (l5_21 + 1))]) h dX11_fits_69 rfl (by decide) [1, 2, 3, 4, 5, 0] rfl ?_
              refine fr_goto (tgt := 23) h dX11_fits_72 (by decide) ?_
              exact ih21 l3_21 (l4_21 + 1) (l5_21 + 1) (by omega) (by omega) (by omega) (by omega) (by omega) (by omega) (by omega) (by omega) (by omega) (by omega) (by omega) (by omega) (by omega)
            ·
              refine fr_iload h 5 rfl dX11_fits_59 ?_
              refine fr_goto (tgt := 65) h dX11_fits_61 (by decide) ?_
              refine fr_istore_n (L' := [(0, vr G 0), (1, vi p), (2, vr G z10), (3, vi l5_21), (4, vi l4_21), (5, vi l5_21)]) h rfl dX11_fits_65 (by decide) [1, 2, 3, 0, 4, 5] rfl ?_
              refine fr_iinc (j := 4) (L' := [(0, vr G 0), (1, vi p), (2, vr G z10), (3, vi l5_21), (4, vi (l4_21 + 1)), (5, vi l5_21)]) h dX11_fits_66 rfl (by decide) [1, 2, 3, 4, 0, 5] rfl ?_
              refine fr_iinc (j := 5) (L' := [(0, vr G 0), (1, vi p), (2, vr G z10), (3, vi l5_21), (4, vi (l4_21 + 1)), (5, vi (l5_21 + 1))]) h dX11_fits_69 rfl (by decide) [1, 2, 3, 4, 5, 0] rfl ?_
              refine fr_goto (tgt := 23) h dX11_fits_72 (by decide) ?_
              exact ih21 l5_21 (l4_21 + 1) (l5_21 + 1) (by omega) (by omega) (by omega) (by omega) (by omega) (by omega) (by omega) (by omega) (by omega) (by omega) (by omega) (by omega) (by omega)
    exact HL21 ((1297 - 1) + 1 : Int).toNat 0 0 1 (by omega) (by omega) (by omega) (by omega) (by omega) (by omega) (by omega) (by omega) (by omega) (by omega) (by omega) (by omega) (by omega)
  ·
    refine fr_iconst h dX11_fits_7 ?_
    exact fr_iret h hq (by omega) ⟨(by omega), (by omega), (by omega), (fun a _ _ _ => rfl)⟩ dX11_fits_8
set_option maxHeartbeats 1000000 in
theorem f_X11_odds (x : Mm) (p : Int) (v : Int) (n : Int) (h_p : fm_r p) (h_v : fm_r v) (h_n : fm_r n) (e0 : FRC x) : CnI YC yX11_odds cX11_odds 11 .int 18 522 (fun G => [vr G 0, vi p, vi v, vi n]) x (fun z y' => (¬ (0 ≤ p ∧ p < 5 ∧ 1 ≤ n ∧ n ≤ 3) → z = (-1)) ∧ ((0 ≤ p ∧ p < 5 ∧ 1 ≤ n ∧ n ≤ 3) → p ≠ 4 → z = 0) ∧ ((0 ≤ p ∧ p < 5 ∧ 1 ≤ n ∧ n ≤ 3) → p = 4 → z = (-2)) ∧ (∀ a : Int, (a < 79 ∨ 93 < a) → (a < 107 ∨ 108 < a) → (a < 110 ∨ 119 < a) → y' a = x a)) := by
  refine cn_I (by decide) (fun _ => Nat.le_of_ble_eq_true rfl) (fun G C h hq => ?_)
  have h : OK YC G C cX11_odds RX11 11 (some .int) 18 522 := h
  show FW YC G C 11 x 0 [(0, vr G 0), (1, vi p), (2, vi v), (3, vi n)] []
  obtain ⟨hSZ, hWZ, hTZ, hKN, hKE, h34, h35, h36, h37, h13, h14, h1104, h111, h11, h142, h983, h1071, hCU, hKP⟩ := e0
  have hru : isRu 110 := Or.inl rfl
  have h_110 := Ru_b hru
  have hru5 : isRu 115 := Or.inr rfl
  have h_115 := Ru_b hru5
  refine fr_iload_n h rfl 1 rfl dX11_odds_0 ?_
  refine fr_csI h wX11_isKind lX11_203 (c_X11_isKind x p (by omega)) rfl (by decide) (by decide) rfl (Nat.le_of_ble_eq_true rfl) dX11_odds_1 (fun z2 x1 w3 p4 => ?_)
  obtain ⟨p5, p6, y7⟩ := p4
  rw [y7]
  clear y7
  refine fr_if_eq (tgt := 17) h dX11_odds_4 (by decide) (by omega) (fun c8 => ?_) (fun c8 => ?_)
  ·
    refine fr_iconst h dX11_odds_17 ?_
    exact fr_iret h hq (by omega) ⟨(by omega), (by omega), (by omega), (fun a _ _ _ => rfl)⟩ dX11_odds_18
  ·
    refine fr_iload_n h rfl 3 rfl dX11_odds_7 ?_
    refine fr_iconst h dX11_odds_8 ?_
    refine fr_icmp_lt (tgt := 17) h dX11_odds_9 (by decide) (by omega) (by omega) (fun c9 => ?_) (fun c9 => ?_)
    ·
      refine fr_iconst h dX11_odds_17 ?_
      exact fr_iret h hq (by omega) ⟨(by omega), (by omega), (by omega), (fun a _ _ _ => rfl)⟩ dX11_odds_18
    ·
      refine fr_iload_n h rfl 3 rfl dX11_odds_12 ?_
      refine fr_iconst h dX11_odds_13 ?_
      refine fr_icmp_le (tgt := 19) h dX11_odds_14 (by decide) (by omega) (by omega) (fun c10 => ?_) (fun c10 => ?_)
      ·
        refine fr_aload_n h rfl 0 rfl dX11_odds_19 ?_
        refine fr_iload_n h rfl 1 rfl dX11_odds_20 ?_
        refine fr_cvR h kX11 at_0 wX11_orderOf lX11_210 (f_X11_orderOf x p (by omega) (by omega) (by omega) hKN hKE (fun j a b => hSZ j a b) (fun j a b => hWZ j a b) (by omega) (by omega) (by omega) (by omega) (by omega) (by omega)) rfl (by decide) (by decide) rfl (Nat.le_of_ble_eq_true rfl) dX11_odds_21 (fun z12 x11 p14 => ?_)
        obtain ⟨p15, p16, p17, p18, p19, f20⟩ := p14
        obtain ⟨n21, i22⟩ := OrN_ex (show isOr z12 by unfold isOr; omega)
        have h_z12 := OrN_b i22
        refine fr_astore (L' := [(0, vr G 0), (1, vi p), (2, vi v), (3, vi n), (4, vr G z12)]) h dX11_odds_24 (by decide) [1, 2, 3, 4, 0] rfl ?_
        refine fr_aload h 4 rfl dX11_odds_26 ?_
        refine fr_cvI h kX6 (Or_at (OrN_is i22)) wX6_size lX11_214 (c_X6_size x11 z12 n21 i22) rfl (by decide) (by decide) rfl (Nat.le_of_ble_eq_true rfl) dX11_odds_28 (fun z24 x23 w25 p26 => ?_)
        obtain ⟨p27, p28, p29, p30, y31⟩ := p26
        rw [y31]
        clear y31
        refine fr_if_ne (tgt := 37) h dX11_odds_31 (by decide) (by omega) (fun c32 => ?_) (fun c32 => ?_)
        ·
          refine fr_aload h 4 rfl dX11_odds_37 ?_
          refine fr_cvI h kX6 (Or_at (OrN_is i22)) wX6_size lX11_214 (c_X6_size x11 z12 n21 i22) rfl (by decide) (by decide) rfl (Nat.le_of_ble_eq_true rfl) dX11_odds_39 (fun z34 x33 w35 p36 => ?_)
          obtain ⟨p37, p38, p39, p40, y41⟩ := p36
          rw [y41]
          clear y41
          refine fr_aload h 4 rfl dX11_odds_42 ?_
          refine fr_iload_n h rfl 2 rfl dX11_odds_44 ?_
          refine fr_cvI h kX6 (Or_at (OrN_is i22)) wX6_upTo lX11_226 (f_X6_upTo x11 z12 n21 i22 v (by omega) (by omega) (by omega)) rfl (by decide) (by decide) rfl (Nat.le_of_ble_eq_true rfl) dX11_odds_45 (fun z43 x42 w44 p45 => ?_)
          obtain ⟨p46, p47, p48, p49, y50⟩ := p45
          rw [y50]
          clear y50
          refine fr_isub h dX11_odds_48 ?_
          refine fr_istore (L' := [(0, vr G 0), (1, vi p), (2, vi v), (3, vi n), (4, vr G z12), (5, vi (z34 - z43))]) h dX11_odds_49 (by decide) [1, 2, 3, 4, 5, 0] rfl ?_
          refine fr_lconst (z := 1) h rfl dX11_odds_51 ?_
          refine fr_lstore (L' := [(0, vr G 0), (1, vi p), (2, vi v), (3, vi n), (4, vr G z12), (5, vi (z34 - z43)), (6, vj 1)]) h dX11_odds_52 (by decide) [1, 2, 3, 4, 5, 6, 0] rfl ?_
          refine fr_lconst (z := 1) h rfl dX11_odds_54 ?_
          refine fr_lstore (L' := [(0, vr G 0), (1, vi p), (2, vi v), (3, vi n), (4, vr G z12), (5, vi (z34 - z43)), (6, vj 1), (8, vj 1)]) h dX11_odds_55 (by decide) [1, 2, 3, 4, 5, 6, 7, 0] rfl ?_
          refine fr_iconst h dX11_odds_57 ?_
          refine fr_istore (L' := [(0, vr G 0), (1, vi p), (2, vi v), (3, vi n), (4, vr G z12), (5, vi (z34 - z43)), (6, vj 1), (8, vj 1), (10, vi 0)]) h dX11_odds_58 (by decide) [1, 2, 3, 4, 5, 6, 7, 8, 0] rfl ?_
          have HL51 : ∀ (n51 : Nat) (l6_51 l8_51 l10_51 : Int), fm_l l6_51 → fm_l l8_51 → fm_r l10_51 → 0 ≤ l10_51 → l10_51 ≤ 3 → l10_51 ≤ n → (n - l10_51) < n51 → FW YC G C 11 x11 60 [(0, vr G 0), (1, vi p), (2, vi v), (3, vi n), (4, vr G z12), (5, vi (z34 - z43)), (6, vj l6_51), (8, vj l8_51), (10, vi l10_51)] [] := by
            intro n51
            induction n51 with
            | zero =>
              intro l6_51 l8_51 l10_51 g51_0 g51_1 g51_2 g51_3 g51_4 g51_5 g51_6
              exfalso; omega
            | succ n51 ih51 =>
              intro l6_51 l8_51 l10_51 g51_0 g51_1 g51_2 g51_3 g51_4 g51_5 g51_6
              refine fr_iload h 8 rfl dX11_odds_60 ?_
              refine fr_iload_n h rfl 3 rfl dX11_odds_62 ?_
              refine fr_icmp_ge (tgt := 91) h dX11_odds_63 (by decide) (by omega) (by omega) (fun c52 => ?_) (fun c52 => ?_)
              ·
                refine fr_aload_n h rfl 0 rfl dX11_odds_91 ?_
                refine fr_lload h 6 rfl dX11_odds_92 ?_
                refine fr_lload h 7 rfl dX11_odds_94 ?_
                refine fr_lsub h dX11_odds_96 ?_
                refine fr_norml (fun z53 w54 q55 => ?_)
                have w56 : fm_l (l6_51 - l8_51) → z53 = (l6_51 - l8_51) := fun q => (lI_inj q w54 q55).symm
                refine fr_lload h 6 rfl dX11_odds_97 ?_
                refine fr_cvV h kX11 at_0 wX11_tellFraction lX11_302 (c_X11_tellFraction x11 z53 l6_51 (by omega) (by omega)) rfl (by decide) (by decide) rfl (Nat.le_of_ble_eq_true rfl) dX11_odds_99 (fun x57 p60 => ?_)
                have f61 := p60
                refine fr_iconst h dX11_odds_102 ?_
                exact fr_iret h hq (by omega) ⟨(by omega), (by omega), (by omega), (fun a k0 k1 k2 => ((f61 a (by omega)).trans (f20 a (by omega) (by omega))))⟩ dX11_odds_103
              ·
                refine fr_lload h 6 rfl dX11_odds_66 ?_
                refine fr_aload h 4 rfl dX11_odds_68 ?_
                refine fr_cvI h kX6 (Or_at (OrN_is i22)) wX6_size lX11_214 (c_X6_size x11 z12 n21 i22) rfl (by decide) (by decide) rfl (Nat.le_of_ble_eq_true rfl) dX11_odds_70 (fun z63 x62 w64 p65 => ?_)
                obtain ⟨p66, p67, p68, p69, y70⟩ := p65
                rw [y70]
                clear y70
                refine fr_i2l h (by omega) dX11_odds_73 ?_
                refine fr_lmul h dX11_odds_74 ?_
                refine fr_norml (fun z71 w72 q73 => ?_)
                have w74 : fm_l (l6_51 * z63) → z71 = (l6_51 * z63) := fun q => (lI_inj q w72 q73).symm
                refine fr_lstore (L' := [(0, vr G 0), (1, vi p), (2, vi v), (3, vi n), (4, vr G z12), (5, vi (z34 - z43)), (6, vj z71), (8, vj l8_51), (10, vi l10_51)]) h dX11_odds_75 (by decide) [1, 2, 3, 4, 5, 6, 0, 7, 8] rfl ?_
                refine fr_lload h 7 rfl dX11_odds_77 ?_
                refine fr_iload h 5 rfl dX11_odds_79 ?_
                refine fr_i2l h (by omega) dX11_odds_81 ?_
                refine fr_lmul h dX11_odds_82 ?_
                refine fr_norml (fun z75 w76 q77 => ?_)
                have w78 : fm_l (l8_51 * (z34 - z43)) → z75 = (l8_51 * (z34 - z43)) := fun q => (lI_inj q w76 q77).symm
                refine fr_lstore (L' := [(0, vr G 0), (1, vi p), (2, vi v), (3, vi n), (4, vr G z12), (5, vi (z34 - z43)), (6, vj z71), (8, vj z75), (10, vi l10_51)]) h dX11_odds_83 (by decide) [1, 2, 3, 4, 5, 6, 7, 0, 8] rfl ?_
                refine fr_iinc (j := 8) (L' := [(0, vr G 0), (1, vi p), (2, vi v), (3, vi n), (4, vr G z12), (5, vi (z34 - z43)), (6, vj z71), (8, vj z75), (10, vi (l10_51 + 1))]) h dX11_odds_85 rfl (by decide) [1, 2, 3, 4, 5, 6, 7, 8, 0] rfl ?_
                refine fr_goto (tgt := 60) h dX11_odds_88 (by decide) ?_
                exact ih51 z71 z75 (l10_51 + 1) (by omega) (by omega) (by omega) (by omega) (by omega) (by omega) (by omega)
          exact HL51 ((n - 0) + 1 : Int).toNat 1 1 0 (by omega) (by omega) (by omega) (by omega) (by omega) (by omega) (by omega)
        ·
          refine fr_bipush h rfl dX11_odds_34 ?_
          exact fr_iret h hq (by omega) ⟨(by omega), (by omega), (by omega), (fun a k0 k1 k2 => (f20 a (by omega) (by omega)))⟩ dX11_odds_36
      ·
        refine fr_iconst h dX11_odds_17 ?_
        exact fr_iret h hq (by omega) ⟨(by omega), (by omega), (by omega), (fun a _ _ _ => rfl)⟩ dX11_odds_18
set_option maxHeartbeats 1000000 in
theorem f_X11_duel (x : Mm) (p : Int) (h_p : fm_r p) (e0 : FRC x) : CnI YC yX11_duel cX11_duel 5 .int 2 42 (fun G => [vr G 0, vi p]) x (fun z y' => (¬ (0 ≤ p ∧ p < 4) → z = (-1)) ∧ (0 ≤ p ∧ p < 4 → z = 1000) ∧ (∀ a : Int, (a < 107 ∨ 108 < a) → y' a = x a)) := by
  refine cn_I (by decide) (fun _ => Nat.le_of_ble_eq_true rfl) (fun G C h hq => ?_)
  have h : OK YC G C cX11_duel RX11 5 (some .int) 2 42 := h
  show FW YC G C 5 x 0 [(0, vr G 0), (1, vi p)] []
  obtain ⟨hSZ, hWZ, hTZ, hKN, hKE, h34, h35, h36, h37, h13, h14, h1104, h111, h11, h142, h983, h1071, hCU, hKP⟩ := e0
  have hru : isRu 110 := Or.inl rfl
  have h_110 := Ru_b hru
  have hru5 : isRu 115 := Or.inr rfl
  have h_115 := Ru_b hru5
  refine fr_iload_n h rfl 1 rfl dX11_duel_0 ?_
  refine fr_if_lt (tgt := 9) h dX11_duel_1 (by decide) (by omega) (fun c1 => ?_) (fun c1 => ?_)
  ·
    refine fr_iconst h dX11_duel_9 ?_
    exact fr_iret h hq (by omega) ⟨(by omega), (by omega), (fun a _ => rfl)⟩ dX11_duel_10
  ·
    refine fr_iload_n h rfl 1 rfl dX11_duel_4 ?_
    refine fr_iconst h dX11_duel_5 ?_
    refine fr_icmp_lt (tgt := 11) h dX11_duel_6 (by decide) (by omega) (by omega) (fun c2 => ?_) (fun c2 => ?_)
    ·
      refine fr_aload_n h rfl 0 rfl dX11_duel_11 ?_
      refine fr_getc (z := 3) (iz := 1) h kX11 fX11_19 at_0 rfl rfl rf_0_1 (by omega) dX11_duel_12 ?_
      refine fr_iload_n h rfl 1 rfl dX11_duel_15 ?_
      refine fr_cvI h kX8 (St_at St_3) wX8_sizeOf lX11_306 (f_X8_sizeOf x p (by omega) (fun j a b => hSZ j a b)) rfl (by decide) (by decide) rfl (Nat.le_of_ble_eq_true rfl) dX11_duel_16 (fun z4 x3 w5 p6 => ?_)
      obtain ⟨p7, y8⟩ := p6
      rw [y8]
      clear y8
      refine fr_iconst h dX11_duel_19 ?_
      refine fr_isub h dX11_duel_20 ?_
      refine fr_normi (fun z9 w10 q11 => ?_)
      have w12 : fm_r ((z4 - 1)) → z9 = (z4 - 1) := fun q => (iI_inj q w10 q11).symm
      refine fr_istore_n (L' := [(0, vr G 0), (1, vi p), (2, vi z9)]) h rfl dX11_duel_21 (by decide) [1, 2, 0] rfl ?_
      refine fr_aload_n h rfl 0 rfl dX11_duel_22 ?_
      refine fr_getc (z := 107) (iz := 11) h kX11 fX11_77 at_0 rfl rfl rf_0_11 (by omega) dX11_duel_23 ?_
      refine fr_cvV h kX10 at_107 wX10_clear lX11_219 (c_X10_clear x) rfl (by decide) (by decide) rfl (Nat.le_of_ble_eq_true rfl) dX11_duel_26 (fun x13 p16 => ?_)
      have f17 := p16
      refine fr_iload_n h rfl 2 rfl dX11_duel_29 ?_
      refine fr_if_ge (tgt := 37) h dX11_duel_30 (by decide) (by omega) (fun c18 => ?_) (fun c18 => ?_)
      ·
        exfalso; omega
      ·
        refine fr_sipush h rfl dX11_duel_33 ?_
        exact fr_iret h hq (by omega) ⟨(by omega), (by omega), (fun a k0 => (f17 a (by omega)))⟩ dX11_duel_36
    ·
      refine fr_iconst h dX11_duel_9 ?_
      exact fr_iret h hq (by omega) ⟨(by omega), (by omega), (fun a _ => rfl)⟩ dX11_duel_10
set_option maxHeartbeats 1000000 in
theorem f_X11_sheet (x : Mm) (k : Int) (n : Int) (u : Int) (v : Int) (h_k : fm_r k) (h_n : fm_r n) (h_u : fm_r u) (h_v : fm_r v) (e0 : FRC x) : CnI YC yX11_sheet cX11_sheet 6 .int 2 41 (fun G => [vr G 0, vi k, vi n, vi u, vi v]) x (fun z y' => (k < 0 ∨ 3 < k ∨ 12 < n → z = (-1)) ∧ (0 ≤ k ∧ k < 3 ∧ n < 0 → z = (-2)) ∧ (k = 3 ∧ n ≤ 12 → z = (-3)) ∧ (0 ≤ k ∧ k < 3 ∧ 0 ≤ n ∧ n ≤ 12 → z = 0) ∧ (∀ a : Int, (a < 3 ∨ 7 < a) → (a < 79 ∨ 88 < a) → (a < 95 ∨ 97 < a) → y' a = x a)) := by
  refine cn_I (by decide) (fun _ => Nat.le_of_ble_eq_true rfl) (fun G C h hq => ?_)
  have h : OK YC G C cX11_sheet RX11 6 (some .int) 2 41 := h
  show FW YC G C 6 x 0 [(0, vr G 0), (1, vi k), (2, vi n), (3, vi u), (4, vi v)] []
  obtain ⟨hSZ, hWZ, hTZ, hKN, hKE, h34, h35, h36, h37, h13, h14, h1104, h111, h11, h142, h983, h1071, hCU, hKP⟩ := e0
  have hru : isRu 110 := Or.inl rfl
  have h_110 := Ru_b hru
  have hru5 : isRu 115 := Or.inr rfl
  have h_115 := Ru_b hru5
  refine fr_iload_n h rfl 1 rfl dX11_sheet_0 ?_
  refine fr_if_lt (tgt := 15) h dX11_sheet_1 (by decide) (by omega) (fun c1 => ?_) (fun c1 => ?_)
  ·
    refine fr_iconst h dX11_sheet_15 ?_
    exact fr_iret h hq (by omega) ⟨(by omega), (by omega), (by omega), (by omega), (fun a _ _ _ => rfl)⟩ dX11_sheet_16
  ·
    refine fr_iload_n h rfl 1 rfl dX11_sheet_4 ?_
    refine fr_iconst h dX11_sheet_5 ?_
    refine fr_icmp_gt (tgt := 15) h dX11_sheet_6 (by decide) (by omega) (by omega) (fun c2 => ?_) (fun c2 => ?_)
    ·
      refine fr_iconst h dX11_sheet_15 ?_
      exact fr_iret h hq (by omega) ⟨(by omega), (by omega), (by omega), (by omega), (fun a _ _ _ => rfl)⟩ dX11_sheet_16
    ·
      refine fr_iload_n h rfl 2 rfl dX11_sheet_9 ?_
      refine fr_bipush h rfl dX11_sheet_10 ?_
      refine fr_icmp_le (tgt := 17) h dX11_sheet_12 (by decide) (by omega) (by omega) (fun c3 => ?_) (fun c3 => ?_)
      ·
        refine fr_iload_n h rfl 1 rfl dX11_sheet_17 ?_
        refine fr_iconst h dX11_sheet_18 ?_
        refine fr_icmp_eq (tgt := 29) h dX11_sheet_19 (by decide) (by omega) (by omega) (fun c4 => ?_) (fun c4 => ?_)
        ·
          refine fr_aload_n h rfl 0 rfl dX11_sheet_29 ?_
          refine fr_getc (z := 3) (iz := 1) h kX11 fX11_19 at_0 rfl rfl rf_0_1 (by omega) dX11_sheet_30 ?_
          refine fr_iload_n h rfl 1 rfl dX11_sheet_33 ?_
          refine fr_iload_n h rfl 1 rfl dX11_sheet_34 ?_
          refine fr_iconst h dX11_sheet_35 ?_
          refine fr_icmp_ne (tgt := 43) h dX11_sheet_36 (by decide) (by omega) (by omega) (fun c5 => by exfalso; omega) (fun c5 => ?_)
          refine fr_iconst h dX11_sheet_39 ?_
          refine fr_goto (tgt := 44) h dX11_sheet_40 (by decide) ?_
          refine fr_iload_n h rfl 3 rfl dX11_sheet_44 ?_
          refine fr_iload h 4 rfl dX11_sheet_45 ?_
          refine fr_cvI h kX8 (St_at St_3) wX8_weigh lX11_158 (f_X8_weigh x k 0 u v (by omega) (by omega) (by omega) (by omega) (fun j a b => hWZ j a b)) rfl (by decide) (by decide) rfl (Nat.le_of_ble_eq_true rfl) dX11_sheet_47 (fun z7 x6 w8 p9 => ?_)
          obtain ⟨p10, y11⟩ := p9
          rw [y11]
          clear y11
          refine fr_istore (L' := [(0, vr G 0), (1, vi k), (2, vi n), (3, vi u), (4, vi v), (5, vi z7)]) h dX11_sheet_50 (by decide) [1, 2, 3, 4, 5, 0] rfl ?_
          refine fr_aload_n h rfl 0 rfl dX11_sheet_52 ?_
          refine fr_cvV h kX11 at_0 wX11_changed lX11_136 (c_X11_changed x) rfl (by decide) (by decide) rfl (Nat.le_of_ble_eq_true rfl) dX11_sheet_53 (fun x12 p15 => ?_)
          have f16 := p15
          refine fr_iload_n h rfl 1 rfl dX11_sheet_56 ?_
          refine fr_iconst h dX11_sheet_57 ?_
          refine fr_icmp_ne (tgt := 66) h dX11_sheet_58 (by decide) (by omega) (by omega) (fun c17 => by exfalso; omega) (fun c17 => ?_)
          refine fr_bipush h rfl dX11_sheet_61 ?_
          refine fr_goto (tgt := 68) h dX11_sheet_63 (by decide) ?_
          exact fr_iret h hq (by omega) ⟨(by omega), (by omega), (by omega), (by omega), (fun a k0 k1 k2 => (f16 a (by omega) (by omega)))⟩ dX11_sheet_68
        ·
          refine fr_iload_n h rfl 2 rfl dX11_sheet_22 ?_
          refine fr_if_ge (tgt := 29) h dX11_sheet_23 (by decide) (by omega) (fun c18 => ?_) (fun c18 => ?_)
          ·
            refine fr_aload_n h rfl 0 rfl dX11_sheet_29 ?_
            refine fr_getc (z := 3) (iz := 1) h kX11 fX11_19 at_0 rfl rfl rf_0_1 (by omega) dX11_sheet_30 ?_
            refine fr_iload_n h rfl 1 rfl dX11_sheet_33 ?_
            refine fr_iload_n h rfl 1 rfl dX11_sheet_34 ?_
            refine fr_iconst h dX11_sheet_35 ?_
            refine fr_icmp_ne (tgt := 43) h dX11_sheet_36 (by decide) (by omega) (by omega) (fun c19 => ?_) (fun c19 => by exfalso; omega)
            refine fr_iload_n h rfl 2 rfl dX11_sheet_43 ?_
            refine fr_iload_n h rfl 3 rfl dX11_sheet_44 ?_
            refine fr_iload h 4 rfl dX11_sheet_45 ?_
            refine fr_cvI h kX8 (St_at St_3) wX8_weigh lX11_158 (f_X8_weigh x k n u v (by omega) (by omega) (by omega) (by omega) (fun j a b => hWZ j a b)) rfl (by decide) (by decide) rfl (Nat.le_of_ble_eq_true rfl) dX11_sheet_47 (fun z21 x20 w22 p23 => ?_)
            obtain ⟨p24, y25⟩ := p23
            rw [y25]
            clear y25
            refine fr_istore (L' := [(0, vr G 0), (1, vi k), (2, vi n), (3, vi u), (4, vi v), (5, vi z21)]) h dX11_sheet_50 (by decide) [1, 2, 3, 4, 5, 0] rfl ?_
            refine fr_aload_n h rfl 0 rfl dX11_sheet_52 ?_
            refine fr_cvV h kX11 at_0 wX11_changed lX11_136 (c_X11_changed x) rfl (by decide) (by decide) rfl (Nat.le_of_ble_eq_true rfl) dX11_sheet_53 (fun x26 p29 => ?_)
            have f30 := p29
            refine fr_iload_n h rfl 1 rfl dX11_sheet_56 ?_
            refine fr_iconst h dX11_sheet_57 ?_
            refine fr_icmp_ne (tgt := 66) h dX11_sheet_58 (by decide) (by omega) (by omega) (fun c31 => ?_) (fun c31 => by exfalso; omega)
            refine fr_iload h 5 rfl dX11_sheet_66 ?_
            exact fr_iret h hq (by omega) ⟨(by omega), (by omega), (by omega), (by omega), (fun a k0 k1 k2 => (f30 a (by omega) (by omega)))⟩ dX11_sheet_68
          ·
            refine fr_bipush h rfl dX11_sheet_26 ?_
            exact fr_iret h hq (by omega) ⟨(by omega), (by omega), (by omega), (by omega), (fun a _ _ _ => rfl)⟩ dX11_sheet_28
      ·
        refine fr_iconst h dX11_sheet_15 ?_
        exact fr_iret h hq (by omega) ⟨(by omega), (by omega), (by omega), (by omega), (fun a _ _ _ => rfl)⟩ dX11_sheet_16
set_option maxHeartbeats 1000000 in
theorem f_X11_puts (x : Mm) (p : Int) (v : Int) (h_p : fm_r p) (h_v : fm_r v) (e0 : FRC x) : CnI YC yX11_puts cX11_puts 3 .int 4 89 (fun G => [vr G 0, vi p, vi v]) x (fun z y' => ((0 ≤ p ∧ p < 4 ∧ 0 ≤ v ∧ v ≤ 99) → z = 0) ∧ (¬ (0 ≤ p ∧ p < 4 ∧ 0 ≤ v ∧ v ≤ 99) → z = (-1)) ∧ (∀ a : Int, (a < 3 ∨ 12 < a) → (a < 14 ∨ 65 < a) → (a < 79 ∨ 88 < a) → (a < 95 ∨ 97 < a) → y' a = x a)) := by
  refine cn_I (by decide) (fun _ => Nat.le_of_ble_eq_true rfl) (fun G C h hq => ?_)
  have h : OK YC G C cX11_puts RX11 3 (some .int) 4 89 := h
  show FW YC G C 3 x 0 [(0, vr G 0), (1, vi p), (2, vi v)] []
  obtain ⟨hSZ, hWZ, hTZ, hKN, hKE, h34, h35, h36, h37, h13, h14, h1104, h111, h11, h142, h983, h1071, hCU, hKP⟩ := e0
  have hru : isRu 110 := Or.inl rfl
  have h_110 := Ru_b hru
  have hru5 : isRu 115 := Or.inr rfl
  have h_115 := Ru_b hru5
  refine fr_aload_n h rfl 0 rfl dX11_puts_0 ?_
  refine fr_getc (z := 8) (iz := 2) h kX11 fX11_23 at_0 rfl rfl rf_0_2 (by omega) dX11_puts_1 ?_
  refine fr_aload_n h rfl 0 rfl dX11_puts_4 ?_
  refine fr_getc (z := 3) (iz := 1) h kX11 fX11_19 at_0 rfl rfl rf_0_1 (by omega) dX11_puts_5 ?_
  refine fr_cvV h kX8 (St_at St_8) wX8_copyFrom lX11_120 (c_X8_copyFrom x 8 St_8 3 St_3) rfl (by decide) (by decide) rfl (Nat.le_of_ble_eq_true rfl) dX11_puts_8 (fun x1 p4 => ?_)
  have f5 := p4
  refine fr_aload_n h rfl 0 rfl dX11_puts_11 ?_
  refine fr_aload_n h rfl 0 rfl dX11_puts_12 ?_
  refine fr_getc (z := 3) (iz := 1) h kX11 fX11_19 at_0 rfl rfl rf_0_1 (by omega) dX11_puts_13 ?_
  refine fr_iload_n h rfl 1 rfl dX11_puts_16 ?_
  refine fr_iload_n h rfl 2 rfl dX11_puts_17 ?_
  refine fr_cvI h kX8 (St_at St_3) wX8_putNumber lX11_162 (f_X8_putNumber x1 p v (by omega) (by omega) (fun j a b => (congrFun (f5 (3 + 1) (by omega)) j).trans (hSZ j a b))) rfl (by decide) (by decide) rfl (Nat.le_of_ble_eq_true rfl) dX11_puts_18 (fun z7 x6 w8 p9 => ?_)
  obtain ⟨p10, p11, f12⟩ := p9
  refine fr_cvI h kX11 at_0 wX11_settled lX11_128 (c_X11_settled x6 z7 (by omega)) rfl (by decide) (by decide) rfl (Nat.le_of_ble_eq_true rfl) dX11_puts_21 (fun z14 x13 w15 p16 => ?_)
  obtain ⟨p17, f18⟩ := p16
  exact fr_iret h hq (by omega) ⟨(by omega), (by omega), (fun a k0 k1 k2 k3 => ((f18 a (by omega) (by omega) (by omega)).trans ((f12 a (by omega)).trans (f5 a (by omega)))))⟩ dX11_puts_24
set_option maxHeartbeats 1000000 in
theorem f_X11_takes (x : Mm) (p : Int) (v : Int) (h_p : fm_r p) (h_v : fm_r v) (e0 : FRC x) : CnI YC yX11_takes cX11_takes 3 .int 4 89 (fun G => [vr G 0, vi p, vi v]) x (fun z y' => (z = (-1)) ∧ (∀ a : Int, (a < 3 ∨ 12 < a) → (a < 14 ∨ 65 < a) → (a < 79 ∨ 88 < a) → (a < 95 ∨ 97 < a) → y' a = x a)) := by
  refine cn_I (by decide) (fun _ => Nat.le_of_ble_eq_true rfl) (fun G C h hq => ?_)
  have h : OK YC G C cX11_takes RX11 3 (some .int) 4 89 := h
  show FW YC G C 3 x 0 [(0, vr G 0), (1, vi p), (2, vi v)] []
  obtain ⟨hSZ, hWZ, hTZ, hKN, hKE, h34, h35, h36, h37, h13, h14, h1104, h111, h11, h142, h983, h1071, hCU, hKP⟩ := e0
  have hru : isRu 110 := Or.inl rfl
  have h_110 := Ru_b hru
  have hru5 : isRu 115 := Or.inr rfl
  have h_115 := Ru_b hru5
  refine fr_aload_n h rfl 0 rfl dX11_takes_0 ?_
  refine fr_getc (z := 8) (iz := 2) h kX11 fX11_23 at_0 rfl rfl rf_0_2 (by omega) dX11_takes_1 ?_
  refine fr_aload_n h rfl 0 rfl dX11_takes_4 ?_
  refine fr_getc (z := 3) (iz := 1) h kX11 fX11_19 at_0 rfl rfl rf_0_1 (by omega) dX11_takes_5 ?_
  refine fr_cvV h kX8 (St_at St_8) wX8_copyFrom lX11_120 (c_X8_copyFrom x 8 St_8 3 St_3) rfl (by decide) (by decide) rfl (Nat.le_of_ble_eq_true rfl) dX11_takes_8 (fun x1 p4 => ?_)
  have f5 := p4
  refine fr_aload_n h rfl 0 rfl dX11_takes_11 ?_
  refine fr_aload_n h rfl 0 rfl dX11_takes_12 ?_
  refine fr_getc (z := 3) (iz := 1) h kX11 fX11_19 at_0 rfl rfl rf_0_1 (by omega) dX11_takes_13 ?_
  refine fr_iload_n h rfl 1 rfl dX11_takes_16 ?_
  refine fr_iload_n h rfl 2 rfl dX11_takes_17 ?_
  refine fr_cvI h kX8 (St_at St_3) wX8_takeNumber lX11_165 (f_X8_takeNumber x1 p v (by omega) (by omega) (fun j a b => (congrFun (f5 (3 + 1) (by omega)) j).trans (hSZ j a b))) rfl (by decide) (by decide) rfl (Nat.le_of_ble_eq_true rfl) dX11_takes_18 (fun z7 x6 w8 p9 => ?_)
  obtain ⟨p10, f11⟩ := p9
  refine fr_cvI h kX11 at_0 wX11_settled lX11_128 (c_X11_settled x6 z7 (by omega)) rfl (by decide) (by decide) rfl (Nat.le_of_ble_eq_true rfl) dX11_takes_21 (fun z13 x12 w14 p15 => ?_)
  obtain ⟨p16, f17⟩ := p15
  exact fr_iret h hq (by omega) ⟨(by omega), (fun a k0 k1 k2 k3 => ((f17 a (by omega) (by omega) (by omega)).trans ((f11 a (by omega)).trans (f5 a (by omega)))))⟩ dX11_takes_24
set_option maxHeartbeats 1000000 in
theorem f_X11_joins (x : Mm) (p : Int) (u : Int) (v : Int) (h_p : fm_r p) (h_u : fm_r u) (h_v : fm_r v) (e0 : FRC x) : CnI YC yX11_joins cX11_joins 4 .int 4 89 (fun G => [vr G 0, vi p, vi u, vi v]) x (fun z y' => (¬ (0 ≤ p ∧ p < 7 ∧ 0 ≤ u ∧ u < 7 ∧ p ≠ u ∧ 0 ≤ v ∧ v ≤ 99) → z = (-1)) ∧ ((0 ≤ p ∧ p < 7 ∧ 0 ≤ u ∧ u < 7 ∧ p ≠ u ∧ 0 ≤ v ∧ v ≤ 99) → v = 0 → z = (-2)) ∧ ((0 ≤ p ∧ p < 7 ∧ 0 ≤ u ∧ u < 7 ∧ p ≠ u ∧ 0 ≤ v ∧ v ≤ 99) → 1 ≤ v → z = 1) ∧ (∀ a : Int, (a < 3 ∨ 12 < a) → (a < 14 ∨ 65 < a) → (a < 79 ∨ 88 < a) → (a < 95 ∨ 97 < a) → y' a = x a)) := by
  refine cn_I (by decide) (fun _ => Nat.le_of_ble_eq_true rfl) (fun G C h hq => ?_)
  have h : OK YC G C cX11_joins RX11 4 (some .int) 4 89 := h
  show FW YC G C 4 x 0 [(0, vr G 0), (1, vi p), (2, vi u), (3, vi v)] []
  obtain ⟨hSZ, hWZ, hTZ, hKN, hKE, h34, h35, h36, h37, h13, h14, h1104, h111, h11, h142, h983, h1071, hCU, hKP⟩ := e0
  have hru : isRu 110 := Or.inl rfl
  have h_110 := Ru_b hru
  have hru5 : isRu 115 := Or.inr rfl
  have h_115 := Ru_b hru5
  refine fr_aload_n h rfl 0 rfl dX11_joins_0 ?_
  refine fr_getc (z := 8) (iz := 2) h kX11 fX11_23 at_0 rfl rfl rf_0_2 (by omega) dX11_joins_1 ?_
  refine fr_aload_n h rfl 0 rfl dX11_joins_4 ?_
  refine fr_getc (z := 3) (iz := 1) h kX11 fX11_19 at_0 rfl rfl rf_0_1 (by omega) dX11_joins_5 ?_
  refine fr_cvV h kX8 (St_at St_8) wX8_copyFrom lX11_120 (c_X8_copyFrom x 8 St_8 3 St_3) rfl (by decide) (by decide) rfl (Nat.le_of_ble_eq_true rfl) dX11_joins_8 (fun x1 p4 => ?_)
  have f5 := p4
  refine fr_aload_n h rfl 0 rfl dX11_joins_11 ?_
  refine fr_aload_n h rfl 0 rfl dX11_joins_12 ?_
  refine fr_getc (z := 3) (iz := 1) h kX11 fX11_19 at_0 rfl rfl rf_0_1 (by omega) dX11_joins_13 ?_
  refine fr_iload_n h rfl 1 rfl dX11_joins_16 ?_
  refine fr_iload_n h rfl 2 rfl dX11_joins_17 ?_
  refine fr_iload_n h rfl 3 rfl dX11_joins_18 ?_
  refine fr_cvI h kX8 (St_at St_3) wX8_joinNodes lX11_168 (f_X8_joinNodes x1 p u v (by omega) (by omega) (by omega) (fun j a b => (congrFun (f5 (3 + 3) (by omega)) j).trans (hWZ j a b))) rfl (by decide) (by decide) rfl (Nat.le_of_ble_eq_true rfl) dX11_joins_19 (fun z7 x6 w8 p9 => ?_)
  obtain ⟨p10, p11, p12, f13⟩ := p9
  refine fr_cvI h kX11 at_0 wX11_settled lX11_128 (c_X11_settled x6 z7 (by omega)) rfl (by decide) (by decide) rfl (Nat.le_of_ble_eq_true rfl) dX11_joins_22 (fun z15 x14 w16 p17 => ?_)
  obtain ⟨p18, f19⟩ := p17
  exact fr_iret h hq (by omega) ⟨(by omega), (by omega), (by omega), (fun a k0 k1 k2 k3 => ((f19 a (by omega) (by omega) (by omega)).trans ((f13 a (by omega)).trans (f5 a (by omega)))))⟩ dX11_joins_25
set_option maxHeartbeats 1000000 in
theorem f_X11_costs (x : Mm) (p : Int) (u : Int) (v : Int) (h_p : fm_r p) (h_u : fm_r u) (h_v : fm_r v) (e0 : FRC x) : CnI YC yX11_costs cX11_costs 4 .int 4 89 (fun G => [vr G 0, vi p, vi u, vi v]) x (fun z y' => ((0 ≤ p ∧ p < 5 ∧ 0 ≤ u ∧ u < 5 ∧ 0 ≤ v ∧ v ≤ 99) → z = 0) ∧ (¬ (0 ≤ p ∧ p < 5 ∧ 0 ≤ u ∧ u < 5 ∧ 0 ≤ v ∧ v ≤ 99) → z = (-1)) ∧ (∀ a : Int, (a < 3 ∨ 12 < a) → (a < 14 ∨ 65 < a) → (a < 79 ∨ 88 < a) → (a < 95 ∨ 97 < a) → y' a = x a)) := by
  refine cn_I (by decide) (fun _ => Nat.le_of_ble_eq_true rfl) (fun G C h hq => ?_)
  have h : OK YC G C cX11_costs RX11 4 (some .int) 4 89 := h
  show FW YC G C 4 x 0 [(0, vr G 0), (1, vi p), (2, vi u), (3, vi v)] []
  obtain ⟨hSZ, hWZ, hTZ, hKN, hKE, h34, h35, h36, h37, h13, h14, h1104, h111, h11, h142, h983, h1071, hCU, hKP⟩ := e0
  have hru : isRu 110 := Or.inl rfl
  have h_110 := Ru_b hru
  have hru5 : isRu 115 := Or.inr rfl
  have h_115 := Ru_b hru5
  refine fr_aload_n h rfl 0 rfl dX11_costs_0 ?_
  refine fr_getc (z := 8) (iz := 2) h kX11 fX11_23 at_0 rfl rfl rf_0_2 (by omega) dX11_costs_1 ?_
  refine fr_aload_n h rfl 0 rfl dX11_costs_4 ?_
  refine fr_getc (z := 3) (iz := 1) h kX11 fX11_19 at_0 rfl rfl rf_0_1 (by omega) dX11_costs_5 ?_
  refine fr_cvV h kX8 (St_at St_8) wX8_copyFrom lX11_120 (c_X8_copyFrom x 8 St_8 3 St_3) rfl (by decide) (by decide) rfl (Nat.le_of_ble_eq_true rfl) dX11_costs_8 (fun x1 p4 => ?_)
  have f5 := p4
  refine fr_aload_n h rfl 0 rfl dX11_costs_11 ?_
  refine fr_aload_n h rfl 0 rfl dX11_costs_12 ?_
  refine fr_getc (z := 3) (iz := 1) h kX11 fX11_19 at_0 rfl rfl rf_0_1 (by omega) dX11_costs_13 ?_
  refine fr_iload_n h rfl 1 rfl dX11_costs_16 ?_
  refine fr_iload_n h rfl 2 rfl dX11_costs_17 ?_
  refine fr_iload_n h rfl 3 rfl dX11_costs_18 ?_
  refine fr_cvI h kX8 (St_at St_3) wX8_setCost lX11_172 (f_X8_setCost x1 p u v (by omega) (by omega) (by omega) (fun j a b => (congrFun (f5 (3 + 4) (by omega)) j).trans (hTZ j a b))) rfl (by decide) (by decide) rfl (Nat.le_of_ble_eq_true rfl) dX11_costs_19 (fun z7 x6 w8 p9 => ?_)
  obtain ⟨p10, p11, f12⟩ := p9
  refine fr_cvI h kX11 at_0 wX11_settled lX11_128 (c_X11_settled x6 z7 (by omega)) rfl (by decide) (by decide) rfl (Nat.le_of_ble_eq_true rfl) dX11_costs_22 (fun z14 x13 w15 p16 => ?_)
  obtain ⟨p17, f18⟩ := p16
  exact fr_iret h hq (by omega) ⟨(by omega), (by omega), (fun a k0 k1 k2 k3 => ((f18 a (by omega) (by omega) (by omega)).trans ((f12 a (by omega)).trans (f5 a (by omega)))))⟩ dX11_costs_25
set_option maxHeartbeats 1000000 in
theorem f_X11_sets (x : Mm) (p : Int) (v : Int) (h_p : fm_r p) (h_v : fm_r v) (e0 : FRC x) : CnI YC yX11_sets cX11_sets 3 .int 4 89 (fun G => [vr G 0, vi p, vi v]) x (fun z y' => (¬ ((p = 0 ∧ 0 ≤ v ∧ v ≤ 5) ∨ (p = 1 ∧ 0 ≤ v ∧ v ≤ 3)) → z = (-1)) ∧ (((p = 0 ∧ 0 ≤ v ∧ v ≤ 5) ∨ (p = 1 ∧ 0 ≤ v ∧ v ≤ 3)) → v = 0 → z = (-2)) ∧ (((p = 0 ∧ 0 ≤ v ∧ v ≤ 5) ∨ (p = 1 ∧ 0 ≤ v ∧ v ≤ 3)) → v ≠ 0 → z = 10) ∧ (∀ a : Int, (a < 3 ∨ 12 < a) → (a < 14 ∨ 65 < a) → (a < 79 ∨ 88 < a) → (a < 95 ∨ 97 < a) → y' a = x a)) := by
  refine cn_I (by decide) (fun _ => Nat.le_of_ble_eq_true rfl) (fun G C h hq => ?_)
  have h : OK YC G C cX11_sets RX11 3 (some .int) 4 89 := h
  show FW YC G C 3 x 0 [(0, vr G 0), (1, vi p), (2, vi v)] []
  obtain ⟨hSZ, hWZ, hTZ, hKN, hKE, h34, h35, h36, h37, h13, h14, h1104, h111, h11, h142, h983, h1071, hCU, hKP⟩ := e0
  have hru : isRu 110 := Or.inl rfl
  have h_110 := Ru_b hru
  have hru5 : isRu 115 := Or.inr rfl
  have h_115 := Ru_b hru5
  refine fr_aload_n h rfl 0 rfl dX11_sets_0 ?_
  refine fr_getc (z := 8) (iz := 2) h kX11 fX11_23 at_0 rfl rfl rf_0_2 (by omega) dX11_sets_1 ?_
  refine fr_aload_n h rfl 0 rfl dX11_sets_4 ?_
  refine fr_getc (z := 3) (iz := 1) h kX11 fX11_19 at_0 rfl rfl rf_0_1 (by omega) dX11_sets_5 ?_
  refine fr_cvV h kX8 (St_at St_8) wX8_copyFrom lX11_120 (c_X8_copyFrom x 8 St_8 3 St_3) rfl (by decide) (by decide) rfl (Nat.le_of_ble_eq_true rfl) dX11_sets_8 (fun x1 p4 => ?_)
  have f5 := p4
  refine fr_aload_n h rfl 0 rfl dX11_sets_11 ?_
  refine fr_aload_n h rfl 0 rfl dX11_sets_12 ?_
  refine fr_getc (z := 3) (iz := 1) h kX11 fX11_19 at_0 rfl rfl rf_0_1 (by omega) dX11_sets_13 ?_
  refine fr_iload_n h rfl 1 rfl dX11_sets_16 ?_
  refine fr_iload_n h rfl 2 rfl dX11_sets_17 ?_
  have r6 := (congrFun (f5 3 (by omega)) 4)
  have r7 := (congrFun (f5 3 (by omega)) 5)
  refine fr_cvI h kX8 (St_at St_3) wX8_setWhat lX11_175 (f_X8_setWhat x1 p v (by omega) (by omega) (by omega) (by omega)) rfl (by decide) (by decide) rfl (Nat.le_of_ble_eq_true rfl) dX11_sets_18 (fun z9 x8 w10 p11 => ?_)
  obtain ⟨p12, p13, p14, f15⟩ := p11
  refine fr_cvI h kX11 at_0 wX11_settled lX11_128 (c_X11_settled x8 z9 (by omega)) rfl (by decide) (by decide) rfl (Nat.le_of_ble_eq_true rfl) dX11_sets_21 (fun z17 x16 w18 p19 => ?_)
  obtain ⟨p20, f21⟩ := p19
  exact fr_iret h hq (by omega) ⟨(by omega), (by omega), (by omega), (fun a k0 k1 k2 k3 => ((f21 a (by omega) (by omega) (by omega)).trans ((f15 a (by omega)).trans (f5 a (by omega)))))⟩ dX11_sets_24
set_option maxHeartbeats 1000000 in
theorem f_X11_ends (x : Mm) (p : Int) (v : Int) (h_p : fm_r p) (h_v : fm_r v) (e0 : FRC x) : CnI YC yX11_ends cX11_ends 3 .int 4 89 (fun G => [vr G 0, vi p, vi v]) x (fun z y' => ((0 ≤ p ∧ p < 7 ∧ 0 ≤ v ∧ v < 7 ∧ p ≠ v) → z = 1) ∧ (¬ (0 ≤ p ∧ p < 7 ∧ 0 ≤ v ∧ v < 7 ∧ p ≠ v) → z = (-1)) ∧ (∀ a : Int, (a < 3 ∨ 12 < a) → (a < 14 ∨ 65 < a) → (a < 79 ∨ 88 < a) → (a < 95 ∨ 97 < a) → y' a = x a)) := by
  refine cn_I (by decide) (fun _ => Nat.le_of_ble_eq_true rfl) (fun G C h hq => ?_)
  have h : OK YC G C cX11_ends RX11 3 (some .int) 4 89 := h
  show FW YC G C 3 x 0 [(0, vr G 0), (1, vi p), (2, vi v)] []
  obtain ⟨hSZ, hWZ, hTZ, hKN, hKE, h34, h35, h36, h37, h13, h14, h1104, h111, h11, h142, h983, h1071, hCU, hKP⟩ := e0
  have hru : isRu 110 := Or.inl rfl
  have h_110 := Ru_b hru
  have hru5 : isRu 115 := Or.inr rfl
  have h_115 := Ru_b hru5
  refine fr_aload_n h rfl 0 rfl dX11_ends_0 ?_
  refine fr_getc (z := 8) (iz := 2) h kX11 fX11_23 at_0 rfl rfl rf_0_2 (by omega) dX11_ends_1 ?_
  refine fr_aload_n h rfl 0 rfl dX11_ends_4 ?_
  refine fr_getc (z := 3) (iz := 1) h kX11 fX11_19 at_0 rfl rfl rf_0_1 (by omega) dX11_ends_5 ?_
  refine fr_cvV h kX8 (St_at St_8) wX8_copyFrom lX11_120 (c_X8_copyFrom x 8 St_8 3 St_3) rfl (by decide) (by decide) rfl (Nat.le_of_ble_eq_true rfl) dX11_ends_8 (fun x1 p4 => ?_)
  have f5 := p4
  refine fr_aload_n h rfl 0 rfl dX11_ends_11 ?_
  refine fr_aload_n h rfl 0 rfl dX11_ends_12 ?_
  refine fr_getc (z := 3) (iz := 1) h kX11 fX11_19 at_0 rfl rfl rf_0_1 (by omega) dX11_ends_13 ?_
  refine fr_iload_n h rfl 1 rfl dX11_ends_16 ?_
  refine fr_iload_n h rfl 2 rfl dX11_ends_17 ?_
  have r6 := (congrFun (f5 3 (by omega)) 6)
  have r7 := (congrFun (f5 3 (by omega)) 7)
  refine fr_cvI h kX8 (St_at St_3) wX8_setEnds lX11_178 (f_X8_setEnds x1 p v (by omega) (by omega) (by omega) (by omega)) rfl (by decide) (by decide) rfl (Nat.le_of_ble_eq_true rfl) dX11_ends_18 (fun z9 x8 w10 p11 => ?_)
  obtain ⟨p12, p13, f14⟩ := p11
  refine fr_cvI h kX11 at_0 wX11_settled lX11_128 (c_X11_settled x8 z9 (by omega)) rfl (by decide) (by decide) rfl (Nat.le_of_ble_eq_true rfl) dX11_ends_21 (fun z16 x15 w17 p18 => ?_)
  obtain ⟨p19, f20⟩ := p18
  exact fr_iret h hq (by omega) ⟨(by omega), (by omega), (fun a k0 k1 k2 k3 => ((f20 a (by omega) (by omega) (by omega)).trans ((f14 a (by omega)).trans (f5 a (by omega)))))⟩ dX11_ends_24
set_option maxHeartbeats 1000000 in
theorem f_X11_undo (x : Mm) (e0 : FRC x) : CnI YC yX11_undo cX11_undo 1 .int 1 21 (fun G => [vr G 0]) x (fun z y' => (z = (-1)) ∧ (∀ a : Int, (a < 3 ∨ 12 < a) → (a < 14 ∨ 65 < a) → (a < 79 ∨ 88 < a) → (a < 95 ∨ 97 < a) → y' a = x a)) := by
  refine cn_I (by decide) (fun _ => Nat.le_of_ble_eq_true rfl) (fun G C h hq => ?_)
  have h : OK YC G C cX11_undo RX11 1 (some .int) 1 21 := h
  show FW YC G C 1 x 0 [(0, vr G 0)] []
  obtain ⟨hSZ, hWZ, hTZ, hKN, hKE, h34, h35, h36, h37, h13, h14, h1104, h111, h11, h142, h983, h1071, hCU, hKP⟩ := e0
  have hru : isRu 110 := Or.inl rfl
  have h_110 := Ru_b hru
  have hru5 : isRu 115 := Or.inr rfl
  have h_115 := Ru_b hru5
  refine fr_aload_n h rfl 0 rfl dX11_undo_0 ?_
  refine fr_getc (z := 14) (iz := 4) h kX11 fX11_36 at_0 rfl rfl rf_0_4 (by omega) dX11_undo_1 ?_
  refine fr_aload_n h rfl 0 rfl dX11_undo_4 ?_
  refine fr_getc (z := 3) (iz := 1) h kX11 fX11_19 at_0 rfl rfl rf_0_1 (by omega) dX11_undo_5 ?_
  refine fr_cvI h kX5 at_14 wX5_takeLatest lX11_196 (f_X5_takeLatest x (by omega)) rfl (by decide) (by decide) rfl (Nat.le_of_ble_eq_true rfl) dX11_undo_8 (fun z2 x1 w3 p4 => ?_)
  obtain ⟨p5, f6⟩ := p4
  refine fr_if_ne (tgt := 16) h dX11_undo_11 (by decide) (by omega) (fun c7 => ?_) (fun c7 => ?_)
  ·
    exfalso; omega
  ·
    refine fr_iconst h dX11_undo_14 ?_
    exact fr_iret h hq (by omega) ⟨(by omega), (fun a k0 k1 k2 k3 => (f6 a (by omega) (by omega)))⟩ dX11_undo_15
set_option maxHeartbeats 1000000 in
theorem f_X11_count (x : Mm) (p : Int) (h_p : fm_r p) (e0 : FRC x) : CnI YC yX11_count cX11_count 2 .int 1 22 (fun G => [vr G 0, vi p]) x (fun z y' => (p = 4 → z = 1) ∧ (0 ≤ p ∧ p ≤ 9 ∧ p ≠ 4 → z = 0) ∧ (¬ (0 ≤ p ∧ p ≤ 9) → z = (-1)) ∧ (y' = x)) := by
  refine cn_I (by decide) (fun _ => Nat.le_of_ble_eq_true rfl) (fun G C h hq => ?_)
  have h : OK YC G C cX11_count RX11 2 (some .int) 1 22 := h
  show FW YC G C 2 x 0 [(0, vr G 0), (1, vi p)] []
  obtain ⟨hSZ, hWZ, hTZ, hKN, hKE, h34, h35, h36, h37, h13, h14, h1104, h111, h11, h142, h983, h1071, hCU, hKP⟩ := e0
  have hru : isRu 110 := Or.inl rfl
  have h_110 := Ru_b hru
  have hru5 : isRu 115 := Or.inr rfl
  have h_115 := Ru_b hru5
  refine fr_iload_n h rfl 1 rfl dX11_count_0 ?_
  by_cases c2 : p = 0
  ·
    refine fr_tab_in (off := 55) (tgt := 56) h dX11_count_1 (by omega) (by omega) (by omega) (by rw [c2]; rfl) (by decide) ?_
    refine fr_aload_n h rfl 0 rfl dX11_count_56 ?_
    refine fr_getc (z := 3) (iz := 1) h kX11 fX11_19 at_0 rfl rfl rf_0_1 (by omega) dX11_count_57 ?_
    refine fr_cvI h kX8 (St_at St_3) wX8_allNumbers lX11_341 (f_X8_allNumbers x (fun j a b => hSZ j a b)) rfl (by decide) (by decide) rfl (Nat.le_of_ble_eq_true rfl) dX11_count_60 (fun z4 x3 w5 p6 => ?_)
    obtain ⟨p7, y8⟩ := p6
    rw [y8]
    clear y8
    exact fr_iret h hq (by omega) ⟨(by omega), (by omega), (by omega), rfl⟩ dX11_count_63
  ·
    by_cases c9 : p = 1
    ·
      refine fr_tab_in (off := 63) (tgt := 64) h dX11_count_1 (by omega) (by omega) (by omega) (by rw [c9]; rfl) (by decide) ?_
      refine fr_aload_n h rfl 0 rfl dX11_count_64 ?_
      refine fr_getc (z := 3) (iz := 1) h kX11 fX11_19 at_0 rfl rfl rf_0_1 (by omega) dX11_count_65 ?_
      refine fr_cvI h kX8 (St_at St_3) wX8_edges lX11_344 (f_X8_edges x (-1) (fun j a b _ => hWZ j a b) (fun k => by exfalso; omega) (by omega) (by omega)) rfl (by decide) (by decide) rfl (Nat.le_of_ble_eq_true rfl) dX11_count_68 (fun z11 x10 w12 p13 => ?_)
      obtain ⟨p14, p15, y16⟩ := p13
      rw [y16]
      clear y16
      exact fr_iret h hq (by omega) ⟨(by omega), (by omega), (by omega), rfl⟩ dX11_count_71
    ·
      by_cases c17 : p = 2
      ·
        refine fr_tab_in (off := 71) (tgt := 72) h dX11_count_1 (by omega) (by omega) (by omega) (by rw [c17]; rfl) (by decide) ?_
        refine fr_aload_n h rfl 0 rfl dX11_count_72 ?_
        refine fr_getc (z := 3) (iz := 1) h kX11 fX11_19 at_0 rfl rfl rf_0_1 (by omega) dX11_count_73 ?_
        refine fr_cvI h kX8 (St_at St_3) wX8_size lX11_347 (c_X8_size x 3 St_3) rfl (by decide) (by decide) rfl (Nat.le_of_ble_eq_true rfl) dX11_count_76 (fun z19 x18 w20 p21 => ?_)
        obtain ⟨p22, p23, p24, y25⟩ := p21
        rw [y25]
        clear y25
        exact fr_iret h hq (by omega) ⟨(by omega), (by omega), (by omega), rfl⟩ dX11_count_79
      ·
        by_cases c26 : p = 3
        ·
          refine fr_tab_in (off := 79) (tgt := 80) h dX11_count_1 (by omega) (by omega) (by omega) (by rw [c26]; rfl) (by decide) ?_
          refine fr_aload_n h rfl 0 rfl dX11_count_80 ?_
          refine fr_getc (z := 3) (iz := 1) h kX11 fX11_19 at_0 rfl rfl rf_0_1 (by omega) dX11_count_81 ?_
          refine fr_cvI h kX8 (St_at St_3) wX8_picked lX11_348 (c_X8_picked x 3 St_3) rfl (by decide) (by decide) rfl (Nat.le_of_ble_eq_true rfl) dX11_count_84 (fun z28 x27 w29 p30 => ?_)
          obtain ⟨p31, p32, p33, y34⟩ := p30
          rw [y34]
          clear y34
          exact fr_iret h hq (by omega) ⟨(by omega), (by omega), (by omega), rfl⟩ dX11_count_87
        ·
          by_cases c35 : p = 4
          ·
            refine fr_tab_in (off := 87) (tgt := 88) h dX11_count_1 (by omega) (by omega) (by omega) (by rw [c35]; rfl) (by decide) ?_
            refine fr_aload_n h rfl 0 rfl dX11_count_88 ?_
            refine fr_getc (z := 3) (iz := 1) h kX11 fX11_19 at_0 rfl rfl rf_0_1 (by omega) dX11_count_89 ?_
            refine fr_cvI h kX8 (St_at St_3) wX8_endsAsNumber lX11_351 (f_X8_endsAsNumber x (by omega) (by omega)) rfl (by decide) (by decide) rfl (Nat.le_of_ble_eq_true rfl) dX11_count_92 (fun z37 x36 w38 p39 => ?_)
            obtain ⟨p40, y41⟩ := p39
            rw [y41]
            clear y41
            exact fr_iret h hq (by omega) ⟨(by omega), (by omega), (by omega), rfl⟩ dX11_count_95
          ·
            by_cases c42 : p = 5
            ·
              refine fr_tab_in (off := 95) (tgt := 96) h dX11_count_1 (by omega) (by omega) (by omega) (by rw [c42]; rfl) (by decide) ?_
              refine fr_aload_n h rfl 0 rfl dX11_count_96 ?_
              refine fr_getc (z := 98) (iz := 10) h kX11 fX11_70 at_0 rfl rfl rf_0_10 (by omega) dX11_count_97 ?_
              refine fr_cvI h kX1 at_98 wX1_size lX11_286 (c_X1_size x) rfl (by decide) (by decide) rfl (Nat.le_of_ble_eq_true rfl) dX11_count_100 (fun z44 x43 w45 p46 => ?_)
              obtain ⟨p47, p48, p49, y50⟩ := p46
              rw [y50]
              clear y50
              exact fr_iret h hq (by omega) ⟨(by omega), (by omega), (by omega), rfl⟩ dX11_count_103
            ·
              by_cases c51 : p = 6
              ·
                refine fr_tab_in (off := 103) (tgt := 104) h dX11_count_1 (by omega) (by omega) (by omega) (by rw [c51]; rfl) (by decide) ?_
                refine fr_aload_n h rfl 0 rfl dX11_count_104 ?_
                refine fr_getc (z := 14) (iz := 4) h kX11 fX11_36 at_0 rfl rfl rf_0_4 (by omega) dX11_count_105 ?_
                refine fr_cvI h kX5 at_14 wX5_size lX11_200 (c_X5_size x) rfl (by decide) (by decide) rfl (Nat.le_of_ble_eq_true rfl) dX11_count_108 (fun z53 x52 w54 p55 => ?_)
                obtain ⟨p56, p57, p58, y59⟩ := p55
                rw [y59]
                clear y59
                exact fr_iret h hq (by omega) ⟨(by omega), (by omega), (by omega), rfl⟩ dX11_count_111
              ·
                by_cases c60 : p = 7
                ·
                  refine fr_tab_in (off := 111) (tgt := 112) h dX11_count_1 (by omega) (by omega) (by omega) (by rw [c60]; rfl) (by decide) ?_
                  refine fr_aload_n h rfl 0 rfl dX11_count_112 ?_
                  refine fr_getc (z := 107) (iz := 11) h kX11 fX11_77 at_0 rfl rfl rf_0_11 (by omega) dX11_count_113 ?_
                  refine fr_cvI h kX10 at_107 wX10_size lX11_354 (c_X10_size x) rfl (by decide) (by decide) rfl (Nat.le_of_ble_eq_true rfl) dX11_count_116 (fun z62 x61 w63 p64 => ?_)
                  obtain ⟨p65, p66, p67, y68⟩ := p64
                  rw [y68]
                  clear y68
                  exact fr_iret h hq (by omega) ⟨(by omega), (by omega), (by omega), rfl⟩ dX11_count_119
                ·
                  by_cases c69 : p = 8
                  ·
                    refine fr_tab_in (off := 119) (tgt := 120) h dX11_count_1 (by omega) (by omega) (by omega) (by rw [c69]; rfl) (by decide) ?_
                    refine fr_aload_n h rfl 0 rfl dX11_count_120 ?_
                    refine fr_getc (z := 1) (iz := 0) h kX11 fX11_10 at_0 rfl rfl rf_0_0 (by omega) dX11_count_121 ?_
                    refine fr_cvI h kX9 at_1 wX9_length lX11_106 (c_X9_length x) rfl (by decide) (by decide) rfl (Nat.le_of_ble_eq_true rfl) dX11_count_124 (fun z71 x70 w72 p73 => ?_)
                    obtain ⟨p74, p75, p76, y77⟩ := p73
                    rw [y77]
                    clear y77
                    exact fr_iret h hq (by omega) ⟨(by omega), (by omega), (by omega), rfl⟩ dX11_count_127
                  ·
                    by_cases c78 : p = 9
                    ·
                      refine fr_tab_in (off := 127) (tgt := 128) h dX11_count_1 (by omega) (by omega) (by omega) (by rw [c78]; rfl) (by decide) ?_
                      refine fr_aload_n h rfl 0 rfl dX11_count_128 ?_
                      refine fr_getc (z := 3) (iz := 1) h kX11 fX11_19 at_0 rfl rfl rf_0_1 (by omega) dX11_count_129 ?_
                      refine fr_cvI h kX8 (St_at St_3) wX8_joinedNodes lX11_355 (f_X8_joinedNodes x (fun j a b => hWZ j a b)) rfl (by decide) (by decide) rfl (Nat.le_of_ble_eq_true rfl) dX11_count_132 (fun z80 x79 w81 p82 => ?_)
                      obtain ⟨p83, y84⟩ := p82
                      rw [y84]
                      clear y84
                      exact fr_iret h hq (by omega) ⟨(by omega), (by omega), (by omega), rfl⟩ dX11_count_135
                    ·
                      refine fr_tab_out (tgt := 136) h dX11_count_1 (by omega) (by omega) (by decide) ?_
                      refine fr_iconst h dX11_count_136 ?_
                      exact fr_iret h hq (by omega) ⟨(by omega), (by omega), (by omega), rfl⟩ dX11_count_137
