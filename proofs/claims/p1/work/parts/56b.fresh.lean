set_option maxHeartbeats 2000000 in
theorem f_X12_best (x : Mm) (k : Int) (p : Int) (h_k : fm_r k) (h_p : fm_r p) (e0 : GI x) (e1 : FRM x) : CnI YM yX12_best cX12_best 3 .int 207 6248 (fun G => [vr G 0, vi k, vi p]) x (fun z y' => (¬ (0 ≤ k ∧ k < 5 ∧ 1 ≤ p ∧ p ≤ 400) → z = (-1)) ∧ ((0 ≤ k ∧ k < 5 ∧ 1 ≤ p ∧ p ≤ 400) → k ≠ 4 → (p = 1 → z = 0) ∧ (p ≠ 1 → z = (-2))) ∧ ((0 ≤ k ∧ k < 5 ∧ 1 ≤ p ∧ p ≤ 400) → k = 4 → z = (-2)) ∧ (∀ a : Int, (a < 0 ∨ 0 < a) → (a < 3 ∨ 3 < a) → (a < 7 ∨ 7 < a) → (a < 12 ∨ 18 < a) → y' a = x a) ∧ (∀ i : Int, i ≠ 4 → i ≠ 5 → i ≠ 6 → i ≠ 7 → i ≠ 8 → i ≠ 9 → i ≠ 10 → i ≠ 15 → i ≠ 26 → y' 0 i = x 0 i)) := by
  refine cn_I (by decide) (fun _ => Nat.le_of_ble_eq_true rfl) (fun G C h hq => ?_)
  have h : OK YM G C cX12_best RX12 3 (some .int) 207 6248 := h
  show FW YM G C 3 x 0 [(0, vr G 0), (1, vi k), (2, vi p)] []
  have e12 := e0.2.2.2
  obtain ⟨mZ, m103, m104, m105, m02, m04, m018, m037, m20, m27, m014, m15, m13, m14⟩ := e1
  have m102 := mZ 102 (by omega) (by omega)
  refine fr_aload_n h rfl 0 rfl dX12_best_0 ?_
  refine fr_iconst h dX12_best_1 ?_
  refine fr_puti (iz := 5) h kX12 fX12_94 at_0M rfl rfl (by decide) (by decide) rfl (by decide +kernel) rfM_5 (by omega) (by omega) dX12_best_2 ?_
  refine fr_mem (fun x1 m2 => ?_)
  refine fr_iload_n h rfl 1 rfl dX12_best_5 ?_
  refine fr_csI h wX12_isKind lX12_324 (c_X12_isKind x1 k (by omega)) rfl (by decide) (by decide) rfl (Nat.le_of_ble_eq_true rfl) dX12_best_6 (fun z4 x3 w5 p6 => ?_)
  obtain ⟨p7, p8, y9⟩ := p6
  rw [y9]
  clear y9
  refine fr_if_eq (tgt := 23) h dX12_best_9 (by decide) (by omega) (fun c10 => ?_) (fun c10 => ?_)
  ·
    refine fr_iconst h dX12_best_23 ?_
    exact fr_iret h hq (by omega) ⟨(by omega), (by omega), (by omega), (fun a k0 k1 k2 k3 => (fm_up_row m2 (by omega))), (fun i k0 k1 k2 k3 k4 k5 k6 k7 k8 => (fm_rd_i (a := 0) (b := i) m2 (by omega)))⟩ dX12_best_24
  ·
    refine fr_iload_n h rfl 2 rfl dX12_best_12 ?_
    refine fr_iconst h dX12_best_13 ?_
    refine fr_sipush h rfl dX12_best_14 ?_
    refine fr_csI h wX12_in lX12_101 (c_X12_in x1 p 1 400 (by omega) (by omega) (by omega)) rfl (by decide) (by decide) rfl (Nat.le_of_ble_eq_true rfl) dX12_best_17 (fun z12 x11 w13 p14 => ?_)
    obtain ⟨p15, p16, y17⟩ := p14
    rw [y17]
    clear y17
    refine fr_if_ne (tgt := 25) h dX12_best_20 (by decide) (by omega) (fun c18 => ?_) (fun c18 => ?_)
    ·
      refine fr_aload_n h rfl 0 rfl dX12_best_25 ?_
      refine fr_aload_n h rfl 0 rfl dX12_best_26 ?_
      refine fr_getc (z := 1) (iz := 0) h kX12 fX12_9 at_0M rfl rfl rfM_0 (by omega) dX12_best_27 ?_
      refine fr_iload_n h rfl 1 rfl dX12_best_30 ?_
      have r19 := (fm_rd_k (a := 1) (b := 102) m2 (by omega))
      have r20 := (fm_rd_k (a := 1) (b := 103) m2 (by omega))
      have r21 := (fm_rd_k (a := 1) (b := 104) m2 (by omega))
      have r22 := (fm_rd_k (a := 1) (b := 105) m2 (by omega))
      have r23 := (fm_rd_i (a := 0) (b := 14) m2 (by decide))
      have r24 := (fm_rd_k (a := 15) (b := 0) m2 (by omega))
      have r25 := (fm_rd_k (a := 13) (b := 0) m2 (by omega))
      have r26 := (fm_rd_k (a := 14) (b := 0) m2 (by omega))
      refine fr_cvI h kX12 at_0M wX12_layAll lX12_327 (f_X12_layAll x1 1 SA_1 k (by omega) (fun j a c => (congrFun (fm_up_row m2 (by omega)) j).trans (mZ j a c)) (by omega) (by omega) (by omega) (by omega) (by omega) (by omega) (by omega) (by omega) (by omega) (by omega)) rfl (by decide) (by decide) rfl (Nat.le_of_ble_eq_true rfl) dX12_best_31 (fun z28 x27 w29 p30 => ?_)
      obtain ⟨p31, p32, p33, p34, p35, p36, p37, p38, f39, f40⟩ := p30
      refine fr_iload_n h rfl 2 rfl dX12_best_34 ?_
      refine fr_icmp_ge (tgt := 43) h dX12_best_35 (by decide) (by omega) (by omega) (fun c41 => ?_) (fun c41 => ?_)
      ·
        refine fr_aload_n h rfl 0 rfl dX12_best_43 ?_
        refine fr_iload_n h rfl 2 rfl dX12_best_44 ?_
        have r42 := (fm_rd_k (a := 15) (b := 0) m2 (by omega))
        have r43 := (fm_rd_k (a := 13) (b := 0) m2 (by omega))
        have r44 := (fm_rd_k (a := 14) (b := 0) m2 (by omega))
        refine fr_cvI h kX12 at_0M wX12_tellItem lX12_330 (f_X12_tellItem x27 p (by omega) (by omega) (by omega) (by omega) (by omega)) rfl (by decide) (by decide) rfl (Nat.le_of_ble_eq_true rfl) dX12_best_45 (fun z46 x45 w47 p48 => ?_)
        obtain ⟨p49, f50, f51⟩ := p48
        exact fr_iret h hq (by omega) ⟨(by omega), (by omega), (by omega), (fun a k0 k1 k2 k3 => ((f50 a (by omega) (by omega)).trans ((f39 a (by omega) (by omega) (by omega)).trans (fm_up_row m2 (by omega))))), (fun i k0 k1 k2 k3 k4 k5 k6 k7 k8 => ((f51 i (by omega)).trans ((f40 i (by omega) (by omega) (by omega) (by omega) (by omega) (by omega) (by omega)).trans (fm_rd_i (a := 0) (b := i) m2 (by omega)))))⟩ dX12_best_48
      ·
        refine fr_bipush h rfl dX12_best_38 ?_
        refine fr_goto (tgt := 48) h dX12_best_40 (by decide) ?_
        exact fr_iret h hq (by omega) ⟨(by omega), (by omega), (by omega), (fun a k0 k1 k2 k3 => ((f39 a (by omega) (by omega) (by omega)).trans (fm_up_row m2 (by omega)))), (fun i k0 k1 k2 k3 k4 k5 k6 k7 k8 => ((f40 i (by omega) (by omega) (by omega) (by omega) (by omega) (by omega) (by omega)).trans (fm_rd_i (a := 0) (b := i) m2 (by omega))))⟩ dX12_best_48
    ·
      refine fr_iconst h dX12_best_23 ?_
      exact fr_iret h hq (by omega) ⟨(by omega), (by omega), (by omega), (fun a k0 k1 k2 k3 => (fm_up_row m2 (by omega))), (fun i k0 k1 k2 k3 k4 k5 k6 k7 k8 => (fm_rd_i (a := 0) (b := i) m2 (by omega)))⟩ dX12_best_24
set_option maxHeartbeats 2000000 in
theorem f_X12_many (x : Mm) (k : Int) (h_k : fm_r k) (e0 : GI x) (e1 : FRM x) : CnI YM yX12_many cX12_many 3 .int 207 6248 (fun G => [vr G 0, vi k]) x (fun z y' => (¬ (0 ≤ k ∧ k < 5) → z = (-1)) ∧ ((0 ≤ k ∧ k < 5) → k ≠ 4 → z = 1) ∧ ((0 ≤ k ∧ k < 5) → k = 4 → z = 0) ∧ (∀ a : Int, (a < 0 ∨ 0 < a) → (a < 3 ∨ 3 < a) → (a < 7 ∨ 7 < a) → (a < 12 ∨ 18 < a) → y' a = x a) ∧ (∀ i : Int, i ≠ 4 → i ≠ 5 → i ≠ 6 → i ≠ 7 → i ≠ 8 → i ≠ 9 → i ≠ 10 → i ≠ 15 → i ≠ 26 → y' 0 i = x 0 i)) := by
  refine cn_I (by decide) (fun _ => Nat.le_of_ble_eq_true rfl) (fun G C h hq => ?_)
  have h : OK YM G C cX12_many RX12 3 (some .int) 207 6248 := h
  show FW YM G C 3 x 0 [(0, vr G 0), (1, vi k)] []
  have e12 := e0.2.2.2
  obtain ⟨mZ, m103, m104, m105, m02, m04, m018, m037, m20, m27, m014, m15, m13, m14⟩ := e1
  have m102 := mZ 102 (by omega) (by omega)
  refine fr_aload_n h rfl 0 rfl dX12_many_0 ?_
  refine fr_iconst h dX12_many_1 ?_
  refine fr_puti (iz := 5) h kX12 fX12_94 at_0M rfl rfl (by decide) (by decide) rfl (by decide +kernel) rfM_5 (by omega) (by omega) dX12_many_2 ?_
  refine fr_mem (fun x1 m2 => ?_)
  refine fr_iload_n h rfl 1 rfl dX12_many_5 ?_
  refine fr_csI h wX12_isKind lX12_324 (c_X12_isKind x1 k (by omega)) rfl (by decide) (by decide) rfl (Nat.le_of_ble_eq_true rfl) dX12_many_6 (fun z4 x3 w5 p6 => ?_)
  obtain ⟨p7, p8, y9⟩ := p6
  rw [y9]
  clear y9
  refine fr_if_ne (tgt := 14) h dX12_many_9 (by decide) (by omega) (fun c10 => ?_) (fun c10 => ?_)
  ·
    refine fr_aload_n h rfl 0 rfl dX12_many_14 ?_
    refine fr_aload_n h rfl 0 rfl dX12_many_15 ?_
    refine fr_getc (z := 1) (iz := 0) h kX12 fX12_9 at_0M rfl rfl rfM_0 (by omega) dX12_many_16 ?_
    refine fr_iload_n h rfl 1 rfl dX12_many_19 ?_
    have r11 := (fm_rd_k (a := 1) (b := 102) m2 (by omega))
    have r12 := (fm_rd_k (a := 1) (b := 103) m2 (by omega))
    have r13 := (fm_rd_k (a := 1) (b := 104) m2 (by omega))
    have r14 := (fm_rd_k (a := 1) (b := 105) m2 (by omega))
    have r15 := (fm_rd_i (a := 0) (b := 14) m2 (by decide))
    have r16 := (fm_rd_k (a := 15) (b := 0) m2 (by omega))
    have r17 := (fm_rd_k (a := 13) (b := 0) m2 (by omega))
    have r18 := (fm_rd_k (a := 14) (b := 0) m2 (by omega))
    refine fr_cvI h kX12 at_0M wX12_layAll lX12_327 (f_X12_layAll x1 1 SA_1 k (by omega) (fun j a c => (congrFun (fm_up_row m2 (by omega)) j).trans (mZ j a c)) (by omega) (by omega) (by omega) (by omega) (by omega) (by omega) (by omega) (by omega) (by omega) (by omega)) rfl (by decide) (by decide) rfl (Nat.le_of_ble_eq_true rfl) dX12_many_20 (fun z20 x19 w21 p22 => ?_)
    obtain ⟨p23, p24, p25, p26, p27, p28, p29, p30, f31, f32⟩ := p22
    refine fr_istore_n (L' := [(0, vr G 0), (1, vi k), (2, vi z20)]) h rfl dX12_many_23 (by decide) [1, 2, 0] rfl ?_
    refine fr_aload_n h rfl 0 rfl dX12_many_24 ?_
    refine fr_iconst h dX12_many_25 ?_
    refine fr_puti (iz := 4) h kX12 fX12_98 at_0M rfl rfl (by decide) (by decide) rfl (by decide +kernel) rfM_4 (by omega) (by omega) dX12_many_26 ?_
    refine fr_mem (fun x33 m34 => ?_)
    refine fr_iload_n h rfl 2 rfl dX12_many_29 ?_
    refine fr_if_le (tgt := 67) h dX12_many_30 (by decide) (by omega) (fun c35 => ?_) (fun c35 => ?_)
    ·
      refine fr_iload_n h rfl 2 rfl dX12_many_67 ?_
      exact fr_iret h hq (by omega) ⟨(by omega), (by omega), (by omega), (fun a k0 k1 k2 k3 => ((fm_up_row m34 (by omega)).trans ((f31 a (by omega) (by omega) (by omega)).trans (fm_up_row m2 (by omega))))), (fun i k0 k1 k2 k3 k4 k5 k6 k7 k8 => ((fm_rd_i (a := 0) (b := i) m34 (by omega)).trans ((f32 i (by omega) (by omega) (by omega) (by omega) (by omega) (by omega) (by omega)).trans (fm_rd_i (a := 0) (b := i) m2 (by omega)))))⟩ dX12_many_68
    ·
      refine fr_aload_n h rfl 0 rfl dX12_many_33 ?_
      refine fr_aload_n h rfl 0 rfl dX12_many_34 ?_
      refine fr_iconst h dX12_many_35 ?_
      have r36 := (fm_rd_k (a := 15) (b := 0) m34 (by omega))
      have r37 := (fm_rd_k (a := 15) (b := 0) m2 (by omega))
      have r38 := (fm_rd_k (a := 13) (b := 0) m34 (by omega))
      have r39 := (fm_rd_k (a := 13) (b := 0) m2 (by omega))
      have r40 := (fm_rd_k (a := 14) (b := 0) m34 (by omega))
      have r41 := (fm_rd_k (a := 14) (b := 0) m2 (by omega))
      refine fr_cvI h kX12 at_0M wX12_costAt lX12_333 (f_X12_costAt x33 1 (by omega) (by omega) (by omega) (by omega) (by omega)) rfl (by decide) (by decide) rfl (Nat.le_of_ble_eq_true rfl) dX12_many_36 (fun z43 x42 w44 p45 => ?_)
      obtain ⟨p46, y47⟩ := p45
      rw [y47]
      clear y47
      refine fr_i2l h (by omega) dX12_many_39 ?_
      have r48 := (fm_rd_s m34)
      refine fr_cvV h kX12 at_0M wX12_tell lX12_269 (c_X12_tell x33 z43 (by omega) (by omega)) rfl (by decide) (by decide) rfl (Nat.le_of_ble_eq_true rfl) dX12_many_40 (fun x49 p52 => ?_)
      obtain ⟨p53, f54, f55⟩ := p52
      refine fr_aload_n h rfl 0 rfl dX12_many_43 ?_
      refine fr_aload_n h rfl 0 rfl dX12_many_44 ?_
      refine fr_aload_n h rfl 0 rfl dX12_many_45 ?_
      refine fr_iconst h dX12_many_46 ?_
      have r56 := (congrFun (f54 15 (by omega) (by omega)) 0)
      have r57 := r56.trans (fm_rd_k (a := 15) (b := 0) m34 (by omega))
      have r58 := (fm_rd_k (a := 15) (b := 0) m2 (by omega))
      have r59 := (congrFun (f54 13 (by omega) (by omega)) 0)
      have r60 := r59.trans (fm_rd_k (a := 13) (b := 0) m34 (by omega))
      have r61 := (fm_rd_k (a := 13) (b := 0) m2 (by omega))
      have r62 := (congrFun (f54 14 (by omega) (by omega)) 0)
      have r63 := r62.trans (fm_rd_k (a := 14) (b := 0) m34 (by omega))
      have r64 := (fm_rd_k (a := 14) (b := 0) m2 (by omega))
      refine fr_cvI h kX12 at_0M wX12_costAt lX12_333 (f_X12_costAt x49 1 (by omega) (by omega) (by omega) (by omega) (by omega)) rfl (by decide) (by decide) rfl (Nat.le_of_ble_eq_true rfl) dX12_many_47 (fun z66 x65 w67 p68 => ?_)
      obtain ⟨p69, y70⟩ := p68
      rw [y70]
      clear y70
      have r71 := (f55 26 (by decide))
      have r72 := r71.trans (fm_rd_i (a := 0) (b := 26) m34 (by decide))
      have r73 := (fm_rd_i (a := 0) (b := 26) m2 (by decide))
      refine fr_cvI h kX12 at_0M wX12_upTo lX12_336 (f_X12_upTo x49 z66 (by omega) (by omega) (by omega) (by omega) (by omega)) rfl (by decide) (by decide) rfl (Nat.le_of_ble_eq_true rfl) dX12_many_50 (fun z75 x74 w76 p77 => ?_)
      obtain ⟨p78, p79, p80, p81, y82⟩ := p77
      rw [y82]
      clear y82
      refine fr_i2l h (by omega) dX12_many_53 ?_
      have r83 := (fm_rd_s m34)
      refine fr_cvV h kX12 at_0M wX12_tell lX12_269 (c_X12_tell x49 z75 (by omega) (by omega)) rfl (by decide) (by decide) rfl (Nat.le_of_ble_eq_true rfl) dX12_many_54 (fun x84 p87 => ?_)
      obtain ⟨p88, f89, f90⟩ := p87
      refine fr_aload_n h rfl 0 rfl dX12_many_57 ?_
      refine fr_aload_n h rfl 0 rfl dX12_many_58 ?_
      refine fr_iload_n h rfl 2 rfl dX12_many_59 ?_
      have r91 := (congrFun (f89 15 (by omega) (by omega)) 0)
      have r92 := r91.trans (congrFun (f54 15 (by omega) (by omega)) 0)
      have r93 := r92.trans (fm_rd_k (a := 15) (b := 0) m34 (by omega))
      have r94 := (fm_rd_k (a := 15) (b := 0) m2 (by omega))
      have r95 := (congrFun (f89 13 (by omega) (by omega)) 0)
      have r96 := r95.trans (congrFun (f54 13 (by omega) (by omega)) 0)
      have r97 := r96.trans (fm_rd_k (a := 13) (b := 0) m34 (by omega))
      have r98 := (fm_rd_k (a := 13) (b := 0) m2 (by omega))
      have r99 := (congrFun (f89 14 (by omega) (by omega)) 0)
      have r100 := r99.trans (congrFun (f54 14 (by omega) (by omega)) 0)
      have r101 := r100.trans (fm_rd_k (a := 14) (b := 0) m34 (by omega))
      have r102 := (fm_rd_k (a := 14) (b := 0) m2 (by omega))
      refine fr_cvI h kX12 at_0M wX12_costAt lX12_333 (f_X12_costAt x84 z20 (by omega) (by omega) (by omega) (by omega) (by omega)) rfl (by decide) (by decide) rfl (Nat.le_of_ble_eq_true rfl) dX12_many_60 (fun z104 x103 w105 p106 => ?_)
      obtain ⟨p107, y108⟩ := p106
      rw [y108]
      clear y108
      refine fr_i2l h (by omega) dX12_many_63 ?_
      have r109 := (fm_rd_s m34)
      refine fr_cvV h kX12 at_0M wX12_tell lX12_269 (c_X12_tell x84 z104 (by omega) (by omega)) rfl (by decide) (by decide) rfl (Nat.le_of_ble_eq_true rfl) dX12_many_64 (fun x110 p113 => ?_)
      obtain ⟨p114, f115, f116⟩ := p113
      refine fr_iload_n h rfl 2 rfl dX12_many_67 ?_
      exact fr_iret h hq (by omega) ⟨(by omega), (by omega), (by omega), (fun a k0 k1 k2 k3 => ((f115 a (by omega) (by omega)).trans ((f89 a (by omega) (by omega)).trans ((f54 a (by omega) (by omega)).trans ((fm_up_row m34 (by omega)).trans ((f31 a (by omega) (by omega) (by omega)).trans (fm_up_row m2 (by omega)))))))), (fun i k0 k1 k2 k3 k4 k5 k6 k7 k8 => ((f116 i (by omega)).trans ((f90 i (by omega)).trans ((f55 i (by omega)).trans ((fm_rd_i (a := 0) (b := i) m34 (by omega)).trans ((f32 i (by omega) (by omega) (by omega) (by omega) (by omega) (by omega) (by omega)).trans (fm_rd_i (a := 0) (b := i) m2 (by omega))))))))⟩ dX12_many_68
  ·
    refine fr_iconst h dX12_many_12 ?_
    exact fr_iret h hq (by omega) ⟨(by omega), (by omega), (by omega), (fun a k0 k1 k2 k3 => (fm_up_row m2 (by omega))), (fun i k0 k1 k2 k3 k4 k5 k6 k7 k8 => (fm_rd_i (a := 0) (b := i) m2 (by omega)))⟩ dX12_many_13
set_option maxHeartbeats 2000000 in
theorem f_X12_below (x : Mm) (k : Int) (p : Int) (h_k : fm_r k) (h_p : fm_r p) (e0 : GI x) (e1 : FRM x) : CnI YM yX12_below cX12_below 4 .int 207 6248 (fun G => [vr G 0, vi k, vi p]) x (fun z y' => (¬ (0 ≤ k ∧ k < 5) → z = (-1)) ∧ ((0 ≤ k ∧ k < 5) → k ≠ 4 → (0 ≤ p → z = 1) ∧ (p < 0 → z = 0)) ∧ ((0 ≤ k ∧ k < 5) → k = 4 → z = 0) ∧ (∀ a : Int, (a < 0 ∨ 0 < a) → (a < 3 ∨ 3 < a) → (a < 7 ∨ 7 < a) → (a < 12 ∨ 18 < a) → y' a = x a) ∧ (∀ i : Int, i ≠ 4 → i ≠ 5 → i ≠ 6 → i ≠ 7 → i ≠ 8 → i ≠ 9 → i ≠ 10 → i ≠ 15 → i ≠ 26 → y' 0 i = x 0 i)) := by
  refine cn_I (by decide) (fun _ => Nat.le_of_ble_eq_true rfl) (fun G C h hq => ?_)
  have h : OK YM G C cX12_below RX12 4 (some .int) 207 6248 := h
  show FW YM G C 4 x 0 [(0, vr G 0), (1, vi k), (2, vi p)] []
  have e12 := e0.2.2.2
  obtain ⟨mZ, m103, m104, m105, m02, m04, m018, m037, m20, m27, m014, m15, m13, m14⟩ := e1
  have m102 := mZ 102 (by omega) (by omega)
  refine fr_aload_n h rfl 0 rfl dX12_below_0 ?_
  refine fr_iconst h dX12_below_1 ?_
  refine fr_puti (iz := 5) h kX12 fX12_94 at_0M rfl rfl (by decide) (by decide) rfl (by decide +kernel) rfM_5 (by omega) (by omega) dX12_below_2 ?_
  refine fr_mem (fun x1 m2 => ?_)
  refine fr_iload_n h rfl 1 rfl dX12_below_5 ?_
  refine fr_csI h wX12_isKind lX12_324 (c_X12_isKind x1 k (by omega)) rfl (by decide) (by decide) rfl (Nat.le_of_ble_eq_true rfl) dX12_below_6 (fun z4 x3 w5 p6 => ?_)
  obtain ⟨p7, p8, y9⟩ := p6
  rw [y9]
  clear y9
  refine fr_if_ne (tgt := 14) h dX12_below_9 (by decide) (by omega) (fun c10 => ?_) (fun c10 => ?_)
  ·
    refine fr_aload_n h rfl 0 rfl dX12_below_14 ?_
    refine fr_aload_n h rfl 0 rfl dX12_below_15 ?_
    refine fr_getc (z := 1) (iz := 0) h kX12 fX12_9 at_0M rfl rfl rfM_0 (by omega) dX12_below_16 ?_
    refine fr_iload_n h rfl 1 rfl dX12_below_19 ?_
    have r11 := (fm_rd_k (a := 1) (b := 102) m2 (by omega))
    have r12 := (fm_rd_k (a := 1) (b := 103) m2 (by omega))
    have r13 := (fm_rd_k (a := 1) (b := 104) m2 (by omega))
    have r14 := (fm_rd_k (a := 1) (b := 105) m2 (by omega))
    have r15 := (fm_rd_i (a := 0) (b := 14) m2 (by decide))
    have r16 := (fm_rd_k (a := 15) (b := 0) m2 (by omega))
    have r17 := (fm_rd_k (a := 13) (b := 0) m2 (by omega))
    have r18 := (fm_rd_k (a := 14) (b := 0) m2 (by omega))
    refine fr_cvI h kX12 at_0M wX12_layAll lX12_327 (f_X12_layAll x1 1 SA_1 k (by omega) (fun j a c => (congrFun (fm_up_row m2 (by omega)) j).trans (mZ j a c)) (by omega) (by omega) (by omega) (by omega) (by omega) (by omega) (by omega) (by omega) (by omega) (by omega)) rfl (by decide) (by decide) rfl (Nat.le_of_ble_eq_true rfl) dX12_below_20 (fun z20 x19 w21 p22 => ?_)
    obtain ⟨p23, p24, p25, p26, p27, p28, p29, p30, f31, f32⟩ := p22
    refine fr_pop h rfl dX12_below_23 ?_
    refine fr_aload_n h rfl 0 rfl dX12_below_24 ?_
    refine fr_iload_n h rfl 2 rfl dX12_below_25 ?_
    have r33 := (fm_rd_k (a := 15) (b := 0) m2 (by omega))
    have r34 := (fm_rd_k (a := 13) (b := 0) m2 (by omega))
    have r35 := (fm_rd_k (a := 14) (b := 0) m2 (by omega))
    have r36 := (fm_rd_i (a := 0) (b := 26) m2 (by decide))
    refine fr_cvI h kX12 at_0M wX12_upTo lX12_336 (f_X12_upTo x19 p (by omega) (by omega) (by omega) (by omega) (by omega)) rfl (by decide) (by decide) rfl (Nat.le_of_ble_eq_true rfl) dX12_below_26 (fun z38 x37 w39 p40 => ?_)
    obtain ⟨p41, p42, p43, p44, y45⟩ := p40
    rw [y45]
    clear y45
    refine fr_istore_n (L' := [(0, vr G 0), (1, vi k), (2, vi p), (3, vi z38)]) h rfl dX12_below_29 (by decide) [1, 2, 3, 0] rfl ?_
    refine fr_aload_n h rfl 0 rfl dX12_below_30 ?_
    refine fr_iconst h dX12_below_31 ?_
    refine fr_puti (iz := 4) h kX12 fX12_98 at_0M rfl rfl (by decide) (by decide) rfl (by decide +kernel) rfM_4 (by omega) (by omega) dX12_below_32 ?_
    refine fr_mem (fun x46 m47 => ?_)
    refine fr_iload_n h rfl 3 rfl dX12_below_35 ?_
    refine fr_if_le (tgt := 49) h dX12_below_36 (by decide) (by omega) (fun c48 => ?_) (fun c48 => ?_)
    ·
      refine fr_iload_n h rfl 3 rfl dX12_below_49 ?_
      exact fr_iret h hq (by omega) ⟨(by omega), (by omega), (by omega), (fun a k0 k1 k2 k3 => ((fm_up_row m47 (by omega)).trans ((f31 a (by omega) (by omega) (by omega)).trans (fm_up_row m2 (by omega))))), (fun i k0 k1 k2 k3 k4 k5 k6 k7 k8 => ((fm_rd_i (a := 0) (b := i) m47 (by omega)).trans ((f32 i (by omega) (by omega) (by omega) (by omega) (by omega) (by omega) (by omega)).trans (fm_rd_i (a := 0) (b := i) m2 (by omega)))))⟩ dX12_below_50
    ·
      refine fr_aload_n h rfl 0 rfl dX12_below_39 ?_
      refine fr_aload_n h rfl 0 rfl dX12_below_40 ?_
      refine fr_iload_n h rfl 3 rfl dX12_below_41 ?_
      have r49 := (fm_rd_k (a := 15) (b := 0) m47 (by omega))
      have r50 := (fm_rd_k (a := 15) (b := 0) m2 (by omega))
      have r51 := (fm_rd_k (a := 13) (b := 0) m47 (by omega))
      have r52 := (fm_rd_k (a := 13) (b := 0) m2 (by omega))
      have r53 := (fm_rd_k (a := 14) (b := 0) m47 (by omega))
      have r54 := (fm_rd_k (a := 14) (b := 0) m2 (by omega))
      refine fr_cvI h kX12 at_0M wX12_costAt lX12_333 (f_X12_costAt x46 z38 (by omega) (by omega) (by omega) (by omega) (by omega)) rfl (by decide) (by decide) rfl (Nat.le_of_ble_eq_true rfl) dX12_below_42 (fun z56 x55 w57 p58 => ?_)
      obtain ⟨p59, y60⟩ := p58
      rw [y60]
      clear y60
      refine fr_i2l h (by omega) dX12_below_45 ?_
      have r61 := (fm_rd_s m47)
      refine fr_cvV h kX12 at_0M wX12_tell lX12_269 (c_X12_tell x46 z56 (by omega) (by omega)) rfl (by decide) (by decide) rfl (Nat.le_of_ble_eq_true rfl) dX12_below_46 (fun x62 p65 => ?_)
      obtain ⟨p66, f67, f68⟩ := p65
      refine fr_iload_n h rfl 3 rfl dX12_below_49 ?_
      exact fr_iret h hq (by omega) ⟨(by omega), (by omega), (by omega), (fun a k0 k1 k2 k3 => ((f67 a (by omega) (by omega)).trans ((fm_up_row m47 (by omega)).trans ((f31 a (by omega) (by omega) (by omega)).trans (fm_up_row m2 (by omega)))))), (fun i k0 k1 k2 k3 k4 k5 k6 k7 k8 => ((f68 i (by omega)).trans ((fm_rd_i (a := 0) (b := i) m47 (by omega)).trans ((f32 i (by omega) (by omega) (by omega) (by omega) (by omega) (by omega) (by omega)).trans (fm_rd_i (a := 0) (b := i) m2 (by omega))))))⟩ dX12_below_50
  ·
    refine fr_iconst h dX12_below_12 ?_
    exact fr_iret h hq (by omega) ⟨(by omega), (by omega), (by omega), (fun a k0 k1 k2 k3 => (fm_up_row m2 (by omega))), (fun i k0 k1 k2 k3 k4 k5 k6 k7 k8 => (fm_rd_i (a := 0) (b := i) m2 (by omega)))⟩ dX12_below_13
set_option maxHeartbeats 2000000 in
theorem f_X12_rank (x : Mm) (k : Int) (h_k : fm_r k) (e0 : GI x) (e1 : FRM x) : CnI YM yX12_rank cX12_rank 6 .int 207 6248 (fun G => [vr G 0, vi k]) x (fun z y' => (¬ (0 ≤ k ∧ k < 5) → z = (-101)) ∧ ((0 ≤ k ∧ k < 5) → k ≠ 4 → z = 1) ∧ ((0 ≤ k ∧ k < 5) → k = 4 → z = (-100)) ∧ (∀ a : Int, (a < 0 ∨ 0 < a) → (a < 3 ∨ 3 < a) → (a < 7 ∨ 7 < a) → (a < 12 ∨ 18 < a) → y' a = x a) ∧ (∀ i : Int, i ≠ 2 → i ≠ 4 → i ≠ 5 → i ≠ 6 → i ≠ 7 → i ≠ 8 → i ≠ 9 → i ≠ 10 → i ≠ 15 → i ≠ 26 → y' 0 i = x 0 i)) := by
  refine cn_I (by decide) (fun _ => Nat.le_of_ble_eq_true rfl) (fun G C h hq => ?_)
  have h : OK YM G C cX12_rank RX12 6 (some .int) 207 6248 := h
  show FW YM G C 6 x 0 [(0, vr G 0), (1, vi k)] []
  have e12 := e0.2.2.2
  obtain ⟨mZ, m103, m104, m105, m02, m04, m018, m037, m20, m27, m014, m15, m13, m14⟩ := e1
  have m102 := mZ 102 (by omega) (by omega)
  refine fr_aload_n h rfl 0 rfl dX12_rank_0 ?_
  refine fr_iconst h dX12_rank_1 ?_
  refine fr_puti (iz := 5) h kX12 fX12_94 at_0M rfl rfl (by decide) (by decide) rfl (by decide +kernel) rfM_5 (by omega) (by omega) dX12_rank_2 ?_
  refine fr_mem (fun x1 m2 => ?_)
  refine fr_aload_n h rfl 0 rfl dX12_rank_5 ?_
  refine fr_bipush h rfl dX12_rank_6 ?_
  refine fr_cvV h kX12 at_0M wX12_beginText lX12_151 (c_X12_beginText x1 80 (by omega) (by omega) (by omega)) rfl (by decide) (by decide) rfl (Nat.le_of_ble_eq_true rfl) dX12_rank_8 (fun x3 p6 => ?_)
  obtain ⟨p7, p8, p9, p10, p11, p12, f13, f14⟩ := p6
  have r15 := (fm_rd_i (a := 0) (b := 2) m2 (by decide))
  skip
  refine fr_iconst h dX12_rank_11 ?_
  refine fr_istore_n (L' := [(0, vr G 0), (1, vi k), (2, vi 0)]) h rfl dX12_rank_12 (by decide) [1, 2, 0] rfl ?_
  refine fr_aload_n h rfl 0 rfl dX12_rank_13 ?_
  refine fr_getc (z := 19) (iz := 31) h kX12 fX12_66 at_0M rfl rfl rfM_31 (by omega) dX12_rank_14 ?_
  refine fr_astore_n (L' := [(0, vr G 0), (1, vi k), (2, vi 0), (3, vr G 19)]) h rfl dX12_rank_17 (by decide) [1, 2, 3, 0] rfl ?_
  refine fr_aload_n h rfl 0 rfl dX12_rank_18 ?_
  refine fr_cvI h kX12 at_0M wX12_fine lX12_131 (c_X12_fine x3) rfl (by decide) (by decide) rfl (Nat.le_of_ble_eq_true rfl) dX12_rank_19 (fun z17 x16 w18 p19 => ?_)
  obtain ⟨p20, p21, y22⟩ := p19
  rw [y22]
  clear y22
  refine fr_if_eq (tgt := 70) h dX12_rank_22 (by decide) (by omega) (fun c23 => ?_) (fun c23 => ?_)
  ·
    exfalso; omega
  ·
    refine fr_aload_n h rfl 0 rfl dX12_rank_25 ?_
    refine fr_geti (iz := 9) h kX12 fX12_121 at_0M rfl rfl (by decide) (by decide) rfM_9 dX12_rank_26 (fun z24 w25 w26 q27 => ?_)
    have r28 := (fm_rd_i (a := 0) (b := 9) m2 (by decide))
    refine fr_aload_n h rfl 0 rfl dX12_rank_29 ?_
    refine fr_geti (iz := 7) h kX12 fX12_115 at_0M rfl rfl (by decide) (by decide) rfM_7 dX12_rank_30 (fun z29 w30 w31 q32 => ?_)
    have r33 := (fm_rd_i (a := 0) (b := 7) m2 (by decide))
    refine fr_icmp_ge (tgt := 70) h dX12_rank_33 (by decide) (by omega) (by omega) (fun c34 => ?_) (fun c34 => ?_)
    ·
      refine fr_aload_n h rfl 0 rfl dX12_rank_70 ?_
      have r35 := (fm_rd_i (a := 0) (b := 9) m2 (by decide))
      refine fr_cvI h kX12 at_0M wX12_wasRight lX12_158 (d_X12_wasRight x3 (by omega)) rfl (by decide) (by decide) rfl (Nat.le_of_ble_eq_true rfl) dX12_rank_71 (fun z37 x36 w38 p39 => ?_)
      obtain ⟨p40, p41, p42, p43, p44, f45, f46⟩ := p39
      refine fr_if_ne (tgt := 84) h dX12_rank_74 (by decide) (by omega) (fun c47 => ?_) (fun c47 => ?_)
      ·
        refine fr_iload_n h rfl 1 rfl dX12_rank_84 ?_
        refine fr_csI h wX12_isKind lX12_324 (c_X12_isKind x36 k (by omega)) rfl (by decide) (by decide) rfl (Nat.le_of_ble_eq_true rfl) dX12_rank_85 (fun z49 x48 w50 p51 => ?_)
        obtain ⟨p52, p53, y54⟩ := p51
        rw [y54]
        clear y54
        refine fr_if_ne (tgt := 94) h dX12_rank_88 (by decide) (by omega) (fun c55 => ?_) (fun c55 => ?_)
        ·
          refine fr_aload_n h rfl 0 rfl dX12_rank_94 ?_
          refine fr_aload_n h rfl 0 rfl dX12_rank_95 ?_
          refine fr_getc (z := 1) (iz := 0) h kX12 fX12_9 at_0M rfl rfl rfM_0 (by omega) dX12_rank_96 ?_
          refine fr_iload_n h rfl 1 rfl dX12_rank_99 ?_
          have r56 := (congrFun (f45 1 (by omega)) 102)
          have r57 := r56.trans (congrFun (f13 1 (by omega)) 102)
          have r58 := r57.trans (fm_rd_k (a := 1) (b := 102) m2 (by omega))
          have r59 := (congrFun (f45 1 (by omega)) 103)
          have r60 := r59.trans (congrFun (f13 1 (by omega)) 103)
          have r61 := r60.trans (fm_rd_k (a := 1) (b := 103) m2 (by omega))
          have r62 := (congrFun (f45 1 (by omega)) 104)
          have r63 := r62.trans (congrFun (f13 1 (by omega)) 104)
          have r64 := r63.trans (fm_rd_k (a := 1) (b := 104) m2 (by omega))
          have r65 := (congrFun (f45 1 (by omega)) 105)
          have r66 := r65.trans (congrFun (f13 1 (by omega)) 105)
          have r67 := r66.trans (fm_rd_k (a := 1) (b := 105) m2 (by omega))
          have r68 := (f46 14 (by decide))
          have r69 := r68.trans (f14 14 (by decide) (by decide) (by decide) (by decide) (by decide) (by decide))
          have r70 := r69.trans (fm_rd_i (a := 0) (b := 14) m2 (by decide))
          have r71 := (congrFun (f45 15 (by omega)) 0)
          have r72 := r71.trans (congrFun (f13 15 (by omega)) 0)
          have r73 := r72.trans (fm_rd_k (a := 15) (b := 0) m2 (by omega))
          have r74 := (congrFun (f45 13 (by omega)) 0)
          have r75 := r74.trans (congrFun (f13 13 (by omega)) 0)
          have r76 := r75.trans (fm_rd_k (a := 13) (b := 0) m2 (by omega))
          have r77 := (congrFun (f45 14 (by omega)) 0)
          have r78 := r77.trans (congrFun (f13 14 (by omega)) 0)
          have r79 := r78.trans (fm_rd_k (a := 14) (b := 0) m2 (by omega))
          refine fr_cvI h kX12 at_0M wX12_layAll lX12_327 (f_X12_layAll x36 1 SA_1 k (by omega) (fun j a c => (congrFun ((f45 1 (by omega)).trans ((f13 1 (by omega)).trans (fm_up_row m2 (by omega)))) j).trans (mZ j a c)) (by omega) (by omega) (by omega) (by omega) (by omega) (by omega) (by omega) (by omega) (by omega) (by omega)) rfl (by decide) (by decide) rfl (Nat.le_of_ble_eq_true rfl) dX12_rank_100 (fun z81 x80 w82 p83 => ?_)
          obtain ⟨p84, p85, p86, p87, p88, p89, p90, p91, f92, f93⟩ := p83
          refine fr_istore (L' := [(0, vr G 0), (1, vi k), (2, vi 0), (3, vr G 19), (4, vi z81)]) h dX12_rank_103 (by decide) [1, 2, 3, 4, 0] rfl ?_
          refine fr_iconst h dX12_rank_105 ?_
          refine fr_istore (L' := [(0, vr G 0), (1, vi k), (2, vi 0), (3, vr G 19), (4, vi z81), (5, vi 0)]) h dX12_rank_106 (by decide) [1, 2, 3, 4, 5, 0] rfl ?_
          refine fr_iload h 5 rfl dX12_rank_108 ?_
          refine fr_iload_n h rfl 2 rfl dX12_rank_110 ?_
          refine fr_icmp_ge (tgt := 131) h dX12_rank_111 (by decide) (by omega) (by omega) (fun c94 => ?_) (fun c94 => by exfalso; omega)
          refine fr_iconst h dX12_rank_131 ?_
          refine fr_istore (L' := [(0, vr G 0), (1, vi k), (2, vi 0), (3, vr G 19), (4, vi z81), (5, vi 1)]) h dX12_rank_132 (by decide) [1, 2, 3, 4, 5, 0] rfl ?_
          refine fr_iload h 5 rfl dX12_rank_134 ?_
          refine fr_iload h 4 rfl dX12_rank_136 ?_
          refine fr_icmp_gt (tgt := 186) h dX12_rank_138 (by decide) (by omega) (by omega) (fun c95 => ?_) (fun c95 => ?_)
          ·
            refine fr_bipush h rfl dX12_rank_186 ?_
            exact fr_iret h hq (by omega) ⟨(by omega), (by omega), (by omega), (fun a k0 k1 k2 k3 => ((f92 a (by omega) (by omega) (by omega)).trans ((f45 a (by omega)).trans ((f13 a (by omega)).trans (fm_up_row m2 (by omega)))))), (fun i k0 k1 k2 k3 k4 k5 k6 k7 k8 k9 => ((f93 i (by omega) (by omega) (by omega) (by omega) (by omega) (by omega) (by omega)).trans ((f46 i (by omega)).trans ((f14 i (by omega) (by omega) (by omega) (by omega) (by omega) (by omega)).trans (fm_rd_i (a := 0) (b := i) m2 (by omega))))))⟩ dX12_rank_188
          ·
            refine fr_aload_n h rfl 0 rfl dX12_rank_141 ?_
            refine fr_aload_n h rfl 0 rfl dX12_rank_142 ?_
            refine fr_getc (z := 15) (iz := 27) h kX12 fX12_54 at_0M rfl rfl rfM_27 (by omega) dX12_rank_143 ?_
            refine fr_iload h 5 rfl dX12_rank_146 ?_
            refine fr_iconst h dX12_rank_148 ?_
            refine fr_isub h dX12_rank_149 ?_
            have kz15 : x80 15 (1 - 1) = x80 15 0 := by rw [show ((1 - 1) : Int) = 0 by omega]
            refine fr_iald h arM_15 (by omega) (by omega) (rrM_15 (1 - 1)) dX12_rank_150 (fun z96 w97 w98 q99 => ?_)
            have r100 := (congrFun (f45 15 (by omega)) (1 - 1))
            have r101 := r100.trans (congrFun (f13 15 (by omega)) (1 - 1))
            have r102 := r101.trans (fm_rd_k (a := 15) (b := (1 - 1)) m2 (by omega))
            refine fr_iload_n h rfl 2 rfl dX12_rank_151 ?_
            have r103 := (congrFun (f45 15 (by omega)) 0)
            have r104 := r103.trans (congrFun (f13 15 (by omega)) 0)
            have r105 := r104.trans (fm_rd_k (a := 15) (b := 0) m2 (by omega))
            have r106 := (congrFun (f45 13 (by omega)) 0)
            have r107 := r106.trans (congrFun (f13 13 (by omega)) 0)
            have r108 := r107.trans (fm_rd_k (a := 13) (b := 0) m2 (by omega))
            have r109 := (congrFun (f45 14 (by omega)) 0)
            have r110 := r109.trans (congrFun (f13 14 (by omega)) 0)
            have r111 := r110.trans (fm_rd_k (a := 14) (b := 0) m2 (by omega))
            refine fr_cvI h kX12 at_0M wX12_isLaid lX12_339 (f_X12_isLaid x80 z96 0 (by omega) (by omega) (by omega) (by omega) (by omega) (by omega) (by omega)) rfl (by decide) (by decide) rfl (Nat.le_of_ble_eq_true rfl) dX12_rank_152 (fun z113 x112 w114 p115 => ?_)
            obtain ⟨p116, y117⟩ := p115
            rw [y117]
            clear y117
            refine fr_if_ne (tgt := 161) h dX12_rank_155 (by decide) (by omega) (fun c118 => ?_) (fun c118 => ?_)
            ·
              refine fr_aload_n h rfl 0 rfl dX12_rank_161 ?_
              refine fr_iconst h dX12_rank_162 ?_
              refine fr_puti (iz := 4) h kX12 fX12_98 at_0M rfl rfl (by decide) (by decide) rfl (by decide +kernel) rfM_4 (by omega) (by omega) dX12_rank_163 ?_
              refine fr_mem (fun x119 m120 => ?_)
              refine fr_aload_n h rfl 0 rfl dX12_rank_166 ?_
              refine fr_aload_n h rfl 0 rfl dX12_rank_167 ?_
              refine fr_iload h 5 rfl dX12_rank_168 ?_
              have r121 := (fm_rd_k (a := 15) (b := 0) m120 (by omega))
              have r122 := (congrFun (f45 15 (by omega)) 0)
              have r123 := r122.trans (congrFun (f13 15 (by omega)) 0)
              have r124 := r123.trans (fm_rd_k (a := 15) (b := 0) m2 (by omega))
              have r125 := (fm_rd_k (a := 13) (b := 0) m120 (by omega))
              have r126 := (congrFun (f45 13 (by omega)) 0)
              have r127 := r126.trans (congrFun (f13 13 (by omega)) 0)
              have r128 := r127.trans (fm_rd_k (a := 13) (b := 0) m2 (by omega))
              have r129 := (fm_rd_k (a := 14) (b := 0) m120 (by omega))
              have r130 := (congrFun (f45 14 (by omega)) 0)
              have r131 := r130.trans (congrFun (f13 14 (by omega)) 0)
              have r132 := r131.trans (fm_rd_k (a := 14) (b := 0) m2 (by omega))
              refine fr_cvI h kX12 at_0M wX12_costAt lX12_333 (f_X12_costAt x119 1 (by omega) (by omega) (by omega) (by omega) (by omega)) rfl (by decide) (by decide) rfl (Nat.le_of_ble_eq_true rfl) dX12_rank_170 (fun z134 x133 w135 p136 => ?_)
              obtain ⟨p137, y138⟩ := p136
              rw [y138]
              clear y138
              refine fr_i2l h (by omega) dX12_rank_173 ?_
              have r139 := (fm_rd_s m120)
              refine fr_cvV h kX12 at_0M wX12_tell lX12_269 (c_X12_tell x119 z134 (by omega) (by omega)) rfl (by decide) (by decide) rfl (Nat.le_of_ble_eq_true rfl) dX12_rank_174 (fun x140 p143 => ?_)
              obtain ⟨p144, f145, f146⟩ := p143
              refine fr_iload h 5 rfl dX12_rank_177 ?_
              exact fr_iret h hq (by omega) ⟨(by omega), (by omega), (by omega), (fun a k0 k1 k2 k3 => ((f145 a (by omega) (by omega)).trans ((fm_up_row m120 (by omega)).trans ((f92 a (by omega) (by omega) (by omega)).trans ((f45 a (by omega)).trans ((f13 a (by omega)).trans (fm_up_row m2 (by omega)))))))), (fun i k0 k1 k2 k3 k4 k5 k6 k7 k8 k9 => ((f146 i (by omega)).trans ((fm_rd_i (a := 0) (b := i) m120 (by omega)).trans ((f93 i (by omega) (by omega) (by omega) (by omega) (by omega) (by omega) (by omega)).trans ((f46 i (by omega)).trans ((f14 i (by omega) (by omega) (by omega) (by omega) (by omega) (by omega)).trans (fm_rd_i (a := 0) (b := i) m2 (by omega))))))))⟩ dX12_rank_179
            ·
              exfalso; omega
        ·
          refine fr_bipush h rfl dX12_rank_91 ?_
          exact fr_iret h hq (by omega) ⟨(by omega), (by omega), (by omega), (fun a k0 k1 k2 k3 => ((f45 a (by omega)).trans ((f13 a (by omega)).trans (fm_up_row m2 (by omega))))), (fun i k0 k1 k2 k3 k4 k5 k6 k7 k8 k9 => ((f46 i (by omega)).trans ((f14 i (by omega) (by omega) (by omega) (by omega) (by omega) (by omega)).trans (fm_rd_i (a := 0) (b := i) m2 (by omega)))))⟩ dX12_rank_93
      ·
        exfalso; omega
    ·
      exfalso; omega
set_option maxHeartbeats 2000000 in
theorem f_X12_alike (x : Mm) (k : Int) (p : Int) (h_k : fm_r k) (h_p : fm_r p) (e0 : GI x) (e1 : FRM x) : CnI YM yX12_alike cX12_alike 5 .int 207 6248 (fun G => [vr G 0, vi k, vi p]) x (fun z y' => (¬ (0 ≤ k ∧ k < 5 ∧ 1 ≤ p ∧ p ≤ 400) → z = (-1)) ∧ ((0 ≤ k ∧ k < 5 ∧ 1 ≤ p ∧ p ≤ 400) → k ≠ 4 → (p = 1 → z = 1) ∧ (p ≠ 1 → z = (-2))) ∧ ((0 ≤ k ∧ k < 5 ∧ 1 ≤ p ∧ p ≤ 400) → k = 4 → z = (-2)) ∧ (∀ a : Int, (a < 0 ∨ 0 < a) → (a < 3 ∨ 3 < a) → (a < 7 ∨ 7 < a) → (a < 12 ∨ 18 < a) → y' a = x a) ∧ (∀ i : Int, i ≠ 4 → i ≠ 5 → i ≠ 6 → i ≠ 7 → i ≠ 8 → i ≠ 9 → i ≠ 10 → i ≠ 15 → i ≠ 26 → y' 0 i = x 0 i)) := by
  refine cn_I (by decide) (fun _ => Nat.le_of_ble_eq_true rfl) (fun G C h hq => ?_)
  have h : OK YM G C cX12_alike RX12 5 (some .int) 207 6248 := h
  show FW YM G C 5 x 0 [(0, vr G 0), (1, vi k), (2, vi p)] []
  have e12 := e0.2.2.2
  obtain ⟨mZ, m103, m104, m105, m02, m04, m018, m037, m20, m27, m014, m15, m13, m14⟩ := e1
  have m102 := mZ 102 (by omega) (by omega)
  refine fr_aload_n h rfl 0 rfl dX12_alike_0 ?_
  refine fr_iconst h dX12_alike_1 ?_
  refine fr_puti (iz := 5) h kX12 fX12_94 at_0M rfl rfl (by decide) (by decide) rfl (by decide +kernel) rfM_5 (by omega) (by omega) dX12_alike_2 ?_
  refine fr_mem (fun x1 m2 => ?_)
  refine fr_iload_n h rfl 1 rfl dX12_alike_5 ?_
  refine fr_csI h wX12_isKind lX12_324 (c_X12_isKind x1 k (by omega)) rfl (by decide) (by decide) rfl (Nat.le_of_ble_eq_true rfl) dX12_alike_6 (fun z4 x3 w5 p6 => ?_)
  obtain ⟨p7, p8, y9⟩ := p6
  rw [y9]
  clear y9
  refine fr_if_eq (tgt := 23) h dX12_alike_9 (by decide) (by omega) (fun c10 => ?_) (fun c10 => ?_)
  ·
    refine fr_iconst h dX12_alike_23 ?_
    exact fr_iret h hq (by omega) ⟨(by omega), (by omega), (by omega), (fun a k0 k1 k2 k3 => (fm_up_row m2 (by omega))), (fun i k0 k1 k2 k3 k4 k5 k6 k7 k8 => (fm_rd_i (a := 0) (b := i) m2 (by omega)))⟩ dX12_alike_24
  ·
    refine fr_iload_n h rfl 2 rfl dX12_alike_12 ?_
    refine fr_iconst h dX12_alike_13 ?_
    refine fr_sipush h rfl dX12_alike_14 ?_
    refine fr_csI h wX12_in lX12_101 (c_X12_in x1 p 1 400 (by omega) (by omega) (by omega)) rfl (by decide) (by decide) rfl (Nat.le_of_ble_eq_true rfl) dX12_alike_17 (fun z12 x11 w13 p14 => ?_)
    obtain ⟨p15, p16, y17⟩ := p14
    rw [y17]
    clear y17
    refine fr_if_ne (tgt := 25) h dX12_alike_20 (by decide) (by omega) (fun c18 => ?_) (fun c18 => ?_)
    ·
      refine fr_aload_n h rfl 0 rfl dX12_alike_25 ?_
      refine fr_aload_n h rfl 0 rfl dX12_alike_26 ?_
      refine fr_getc (z := 1) (iz := 0) h kX12 fX12_9 at_0M rfl rfl rfM_0 (by omega) dX12_alike_27 ?_
      refine fr_iload_n h rfl 1 rfl dX12_alike_30 ?_
      have r19 := (fm_rd_k (a := 1) (b := 102) m2 (by omega))
      have r20 := (fm_rd_k (a := 1) (b := 103) m2 (by omega))
      have r21 := (fm_rd_k (a := 1) (b := 104) m2 (by omega))
      have r22 := (fm_rd_k (a := 1) (b := 105) m2 (by omega))
      have r23 := (fm_rd_i (a := 0) (b := 14) m2 (by decide))
      have r24 := (fm_rd_k (a := 15) (b := 0) m2 (by omega))
      have r25 := (fm_rd_k (a := 13) (b := 0) m2 (by omega))
      have r26 := (fm_rd_k (a := 14) (b := 0) m2 (by omega))
      refine fr_cvI h kX12 at_0M wX12_layAll lX12_327 (f_X12_layAll x1 1 SA_1 k (by omega) (fun j a c => (congrFun (fm_up_row m2 (by omega)) j).trans (mZ j a c)) (by omega) (by omega) (by omega) (by omega) (by omega) (by omega) (by omega) (by omega) (by omega) (by omega)) rfl (by decide) (by decide) rfl (Nat.le_of_ble_eq_true rfl) dX12_alike_31 (fun z28 x27 w29 p30 => ?_)
      obtain ⟨p31, p32, p33, p34, p35, p36, p37, p38, f39, f40⟩ := p30
      refine fr_iload_n h rfl 2 rfl dX12_alike_34 ?_
      refine fr_icmp_ge (tgt := 41) h dX12_alike_35 (by decide) (by omega) (by omega) (fun c41 => ?_) (fun c41 => ?_)
      ·
        refine fr_aload_n h rfl 0 rfl dX12_alike_41 ?_
        refine fr_aload_n h rfl 0 rfl dX12_alike_42 ?_
        refine fr_iload_n h rfl 2 rfl dX12_alike_43 ?_
        have r42 := (fm_rd_k (a := 15) (b := 0) m2 (by omega))
        have r43 := (fm_rd_k (a := 13) (b := 0) m2 (by omega))
        have r44 := (fm_rd_k (a := 14) (b := 0) m2 (by omega))
        refine fr_cvI h kX12 at_0M wX12_costAt lX12_333 (f_X12_costAt x27 p (by omega) (by omega) (by omega) (by omega) (by omega)) rfl (by decide) (by decide) rfl (Nat.le_of_ble_eq_true rfl) dX12_alike_44 (fun z46 x45 w47 p48 => ?_)
        obtain ⟨p49, y50⟩ := p48
        rw [y50]
        clear y50
        have r51 := (fm_rd_i (a := 0) (b := 26) m2 (by decide))
        refine fr_cvI h kX12 at_0M wX12_upTo lX12_336 (f_X12_upTo x27 z46 (by omega) (by omega) (by omega) (by omega) (by omega)) rfl (by decide) (by decide) rfl (Nat.le_of_ble_eq_true rfl) dX12_alike_47 (fun z53 x52 w54 p55 => ?_)
        obtain ⟨p56, p57, p58, p59, y60⟩ := p55
        rw [y60]
        clear y60
        refine fr_istore_n (L' := [(0, vr G 0), (1, vi k), (2, vi p), (3, vi z53)]) h rfl dX12_alike_50 (by decide) [1, 2, 3, 0] rfl ?_
        refine fr_iload_n h rfl 2 rfl dX12_alike_51 ?_
        refine fr_istore (L' := [(0, vr G 0), (1, vi k), (2, vi p), (3, vi z53), (4, vi p)]) h dX12_alike_52 (by decide) [1, 2, 3, 4, 0] rfl ?_
        refine fr_iload h 4 rfl dX12_alike_54 ?_
        refine fr_iconst h dX12_alike_56 ?_
        refine fr_icmp_le (tgt := 82) h dX12_alike_57 (by decide) (by omega) (by omega) (fun c61 => ?_) (fun c61 => ?_)
        ·
          refine fr_aload_n h rfl 0 rfl dX12_alike_82 ?_
          refine fr_iconst h dX12_alike_83 ?_
          refine fr_puti (iz := 4) h kX12 fX12_98 at_0M rfl rfl (by decide) (by decide) rfl (by decide +kernel) rfM_4 (by omega) (by omega) dX12_alike_84 ?_
          refine fr_mem (fun x62 m63 => ?_)
          refine fr_aload_n h rfl 0 rfl dX12_alike_87 ?_
          refine fr_iload h 4 rfl dX12_alike_88 ?_
          refine fr_i2l h (by omega) dX12_alike_90 ?_
          have r64 := (fm_rd_s m63)
          refine fr_cvV h kX12 at_0M wX12_tell lX12_269 (c_X12_tell x62 p (by omega) (by omega)) rfl (by decide) (by decide) rfl (Nat.le_of_ble_eq_true rfl) dX12_alike_91 (fun x65 p68 => ?_)
          obtain ⟨p69, f70, f71⟩ := p68
          refine fr_aload_n h rfl 0 rfl dX12_alike_94 ?_
          refine fr_iload_n h rfl 3 rfl dX12_alike_95 ?_
          refine fr_i2l h (by omega) dX12_alike_96 ?_
          have r72 := (fm_rd_s m63)
          refine fr_cvV h kX12 at_0M wX12_tell lX12_269 (c_X12_tell x65 z53 (by omega) (by omega)) rfl (by decide) (by decide) rfl (Nat.le_of_ble_eq_true rfl) dX12_alike_97 (fun x73 p76 => ?_)
          obtain ⟨p77, f78, f79⟩ := p76
          refine fr_iload_n h rfl 3 rfl dX12_alike_100 ?_
          refine fr_iload h 4 rfl dX12_alike_101 ?_
          refine fr_isub h dX12_alike_103 ?_
          refine fr_normi (fun z80 w81 q82 => ?_)
          have w83 : fm_r ((z53 - p)) → z80 = (z53 - p) := fun q => (iI_inj q w81 q82).symm
          refine fr_iconst h dX12_alike_104 ?_
          refine fr_iadd h dX12_alike_105 ?_
          refine fr_normi (fun z84 w85 q86 => ?_)
          have w87 : fm_r ((z80 + 1)) → z84 = (z80 + 1) := fun q => (iI_inj q w85 q86).symm
          exact fr_iret h hq (by omega) ⟨(by omega), (by omega), (by omega), (fun a k0 k1 k2 k3 => ((f78 a (by omega) (by omega)).trans ((f70 a (by omega) (by omega)).trans ((fm_up_row m63 (by omega)).trans ((f39 a (by omega) (by omega) (by omega)).trans (fm_up_row m2 (by omega))))))), (fun i k0 k1 k2 k3 k4 k5 k6 k7 k8 => ((f79 i (by omega)).trans ((f71 i (by omega)).trans ((fm_rd_i (a := 0) (b := i) m63 (by omega)).trans ((f40 i (by omega) (by omega) (by omega) (by omega) (by omega) (by omega) (by omega)).trans (fm_rd_i (a := 0) (b := i) m2 (by omega)))))))⟩ dX12_alike_106
        ·
          exfalso; omega
      ·
        refine fr_bipush h rfl dX12_alike_38 ?_
        exact fr_iret h hq (by omega) ⟨(by omega), (by omega), (by omega), (fun a k0 k1 k2 k3 => ((f39 a (by omega) (by omega) (by omega)).trans (fm_up_row m2 (by omega)))), (fun i k0 k1 k2 k3 k4 k5 k6 k7 k8 => ((f40 i (by omega) (by omega) (by omega) (by omega) (by omega) (by omega) (by omega)).trans (fm_rd_i (a := 0) (b := i) m2 (by omega))))⟩ dX12_alike_40
    ·
      refine fr_iconst h dX12_alike_23 ?_
      exact fr_iret h hq (by omega) ⟨(by omega), (by omega), (by omega), (fun a k0 k1 k2 k3 => (fm_up_row m2 (by omega))), (fun i k0 k1 k2 k3 k4 k5 k6 k7 k8 => (fm_rd_i (a := 0) (b := i) m2 (by omega)))⟩ dX12_alike_24
set_option maxHeartbeats 2000000 in
theorem f_X12_surely (x : Mm) (k : Int) (h_k : fm_r k) (e0 : GI x) (e1 : FRM x) : CnI YM yX12_surely cX12_surely 7 .int 207 6248 (fun G => [vr G 0, vi k]) x (fun z y' => (¬ (0 ≤ k ∧ k < 5) → z = (-1)) ∧ ((0 ≤ k ∧ k < 5) → k ≠ 4 → z = 0) ∧ ((0 ≤ k ∧ k < 5) → k = 4 → z = (-2)) ∧ (∀ a : Int, (a < 0 ∨ 0 < a) → (a < 3 ∨ 3 < a) → (a < 7 ∨ 7 < a) → (a < 12 ∨ 18 < a) → y' a = x a) ∧ (∀ i : Int, i ≠ 4 → i ≠ 5 → i ≠ 6 → i ≠ 7 → i ≠ 8 → i ≠ 9 → i ≠ 10 → i ≠ 15 → i ≠ 26 → y' 0 i = x 0 i)) := by
  refine cn_I (by decide) (fun _ => Nat.le_of_ble_eq_true rfl) (fun G C h hq => ?_)
  have h : OK YM G C cX12_surely RX12 7 (some .int) 207 6248 := h
  show FW YM G C 7 x 0 [(0, vr G 0), (1, vi k)] []
  have e12 := e0.2.2.2
  obtain ⟨mZ, m103, m104, m105, m02, m04, m018, m037, m20, m27, m014, m15, m13, m14⟩ := e1
  have m102 := mZ 102 (by omega) (by omega)
  refine fr_aload_n h rfl 0 rfl dX12_surely_0 ?_
  refine fr_iconst h dX12_surely_1 ?_
  refine fr_puti (iz := 5) h kX12 fX12_94 at_0M rfl rfl (by decide) (by decide) rfl (by decide +kernel) rfM_5 (by omega) (by omega) dX12_surely_2 ?_
  refine fr_mem (fun x1 m2 => ?_)
  refine fr_iload_n h rfl 1 rfl dX12_surely_5 ?_
  refine fr_csI h wX12_isKind lX12_324 (c_X12_isKind x1 k (by omega)) rfl (by decide) (by decide) rfl (Nat.le_of_ble_eq_true rfl) dX12_surely_6 (fun z4 x3 w5 p6 => ?_)
  obtain ⟨p7, p8, y9⟩ := p6
  rw [y9]
  clear y9
  refine fr_if_ne (tgt := 14) h dX12_surely_9 (by decide) (by omega) (fun c10 => ?_) (fun c10 => ?_)
  ·
    refine fr_aload_n h rfl 0 rfl dX12_surely_14 ?_
    refine fr_aload_n h rfl 0 rfl dX12_surely_15 ?_
    refine fr_getc (z := 1) (iz := 0) h kX12 fX12_9 at_0M rfl rfl rfM_0 (by omega) dX12_surely_16 ?_
    refine fr_iload_n h rfl 1 rfl dX12_surely_19 ?_
    have r11 := (fm_rd_k (a := 1) (b := 102) m2 (by omega))
    have r12 := (fm_rd_k (a := 1) (b := 103) m2 (by omega))
    have r13 := (fm_rd_k (a := 1) (b := 104) m2 (by omega))
    have r14 := (fm_rd_k (a := 1) (b := 105) m2 (by omega))
    have r15 := (fm_rd_i (a := 0) (b := 14) m2 (by decide))
    have r16 := (fm_rd_k (a := 15) (b := 0) m2 (by omega))
    have r17 := (fm_rd_k (a := 13) (b := 0) m2 (by omega))
    have r18 := (fm_rd_k (a := 14) (b := 0) m2 (by omega))
    refine fr_cvI h kX12 at_0M wX12_layAll lX12_327 (f_X12_layAll x1 1 SA_1 k (by omega) (fun j a c => (congrFun (fm_up_row m2 (by omega)) j).trans (mZ j a c)) (by omega) (by omega) (by omega) (by omega) (by omega) (by omega) (by omega) (by omega) (by omega) (by omega)) rfl (by decide) (by decide) rfl (Nat.le_of_ble_eq_true rfl) dX12_surely_20 (fun z20 x19 w21 p22 => ?_)
    obtain ⟨p23, p24, p25, p26, p27, p28, p29, p30, f31, f32⟩ := p22
    refine fr_if_ne (tgt := 29) h dX12_surely_23 (by decide) (by omega) (fun c33 => ?_) (fun c33 => ?_)
    ·
      refine fr_aload_n h rfl 0 rfl dX12_surely_29 ?_
      refine fr_aload_n h rfl 0 rfl dX12_surely_30 ?_
      refine fr_iconst h dX12_surely_31 ?_
      have r34 := (fm_rd_k (a := 15) (b := 0) m2 (by omega))
      have r35 := (fm_rd_k (a := 13) (b := 0) m2 (by omega))
      have r36 := (fm_rd_k (a := 14) (b := 0) m2 (by omega))
      refine fr_cvI h kX12 at_0M wX12_costAt lX12_333 (f_X12_costAt x19 1 (by omega) (by omega) (by omega) (by omega) (by omega)) rfl (by decide) (by decide) rfl (Nat.le_of_ble_eq_true rfl) dX12_surely_32 (fun z38 x37 w39 p40 => ?_)
      obtain ⟨p41, y42⟩ := p40
      rw [y42]
      clear y42
      have r43 := (fm_rd_i (a := 0) (b := 26) m2 (by decide))
      refine fr_cvI h kX12 at_0M wX12_upTo lX12_336 (f_X12_upTo x19 z38 (by omega) (by omega) (by omega) (by omega) (by omega)) rfl (by decide) (by decide) rfl (Nat.le_of_ble_eq_true rfl) dX12_surely_35 (fun z45 x44 w46 p47 => ?_)
      obtain ⟨p48, p49, p50, p51, y52⟩ := p47
      rw [y52]
      clear y52
      refine fr_istore_n (L' := [(0, vr G 0), (1, vi k), (2, vi z45)]) h rfl dX12_surely_38 (by decide) [1, 2, 0] rfl ?_
      refine fr_iconst h dX12_surely_39 ?_
      refine fr_istore_n (L' := [(0, vr G 0), (1, vi k), (2, vi z45), (3, vi 0)]) h rfl dX12_surely_40 (by decide) [1, 2, 3, 0] rfl ?_
      refine fr_iconst h dX12_surely_41 ?_
      refine fr_istore (L' := [(0, vr G 0), (1, vi k), (2, vi z45), (3, vi 0), (4, vi 0)]) h dX12_surely_42 (by decide) [1, 2, 3, 4, 0] rfl ?_
      have HL53 : ∀ (n53 : Nat) (l3_53 l4_53 : Int), fm_r l3_53 → 0 ≤ l3_53 → l3_53 ≤ 0 → fm_r l4_53 → 0 ≤ l4_53 → l4_53 ≤ 8 → l3_53 = 0 → (8 - l4_53) < n53 → FW YM G C 7 x19 44 [(0, vr G 0), (1, vi k), (2, vi z45), (3, vi l3_53), (4, vi l4_53)] [] := by
        intro n53
        induction n53 with
        | zero =>
          intro l3_53 l4_53 g53_0 g53_1 g53_2 g53_3 g53_4 g53_5 g53_6 g53_7
          exfalso; omega
        | succ n53 ih53 =>
          intro l3_53 l4_53 g53_0 g53_1 g53_2 g53_3 g53_4 g53_5 g53_6 g53_7
          refine fr_iload h 4 rfl dX12_surely_44 ?_
          refine fr_bipush h rfl dX12_surely_46 ?_
          refine fr_icmp_ge (tgt := 178) h dX12_surely_48 (by decide) (by omega) (by omega) (fun c54 => ?_) (fun c54 => ?_)
          ·
            refine fr_aload_n h rfl 0 rfl dX12_surely_178 ?_
            refine fr_iconst h dX12_surely_179 ?_
            refine fr_puti (iz := 4) h kX12 fX12_98 at_0M rfl rfl (by decide) (by decide) rfl (by decide +kernel) rfM_4 (by omega) (by omega) dX12_surely_180 ?_
            refine fr_mem (fun x55 m56 => ?_)
            refine fr_aload_n h rfl 0 rfl dX12_surely_183 ?_
            refine fr_iload_n h rfl 3 rfl dX12_surely_184 ?_
            refine fr_csI h wJ6_bitCount_0f7a4 lX12_315 (f_bitCountM x55 l3_53 (by omega)) rfl (by decide) (by decide) rfl (Nat.le_of_ble_eq_true rfl) dX12_surely_185 (fun z58 x57 w59 p60 => ?_)
            obtain ⟨p61, y62⟩ := p60
            rw [y62]
            clear y62
            refine fr_i2l h (by omega) dX12_surely_188 ?_
            have r63 := (fm_rd_s m56)
            refine fr_cvV h kX12 at_0M wX12_tell lX12_269 (c_X12_tell x55 z58 (by omega) (by omega)) rfl (by decide) (by decide) rfl (Nat.le_of_ble_eq_true rfl) dX12_surely_189 (fun x64 p67 => ?_)
            obtain ⟨p68, f69, f70⟩ := p67
            refine fr_iload_n h rfl 3 rfl dX12_surely_192 ?_
            exact fr_iret h hq (by omega) ⟨(by omega), (by omega), (by omega), (fun a k0 k1 k2 k3 => ((f69 a (by omega) (by omega)).trans ((fm_up_row m56 (by omega)).trans ((f31 a (by omega) (by omega) (by omega)).trans (fm_up_row m2 (by omega)))))), (fun i k0 k1 k2 k3 k4 k5 k6 k7 k8 => ((f70 i (by omega)).trans ((fm_rd_i (a := 0) (b := i) m56 (by omega)).trans ((f32 i (by omega) (by omega) (by omega) (by omega) (by omega) (by omega) (by omega)).trans (fm_rd_i (a := 0) (b := i) m2 (by omega))))))⟩ dX12_surely_193
          ·
            refine fr_iload h 4 rfl dX12_surely_51 ?_
            refine fr_aload_n h rfl 0 rfl dX12_surely_53 ?_
            refine fr_getc (z := 13) (iz := 24) h kX12 fX12_48 at_0M rfl rfl rfM_24 (by omega) dX12_surely_54 ?_
            refine fr_aload_n h rfl 0 rfl dX12_surely_57 ?_
            refine fr_getc (z := 15) (iz := 27) h kX12 fX12_54 at_0M rfl rfl rfM_27 (by omega) dX12_surely_58 ?_
            refine fr_iconst h dX12_surely_61 ?_
            refine fr_iald h arM_15 (by omega) (by omega) (rrM_15 0) dX12_surely_62 (fun z71 w72 w73 q74 => ?_)
            have r75 := (fm_rd_k (a := 15) (b := 0) m2 (by omega))
            have kz13 : x19 13 z71 = x19 13 0 := by rw [show (z71 : Int) = 0 by omega]
            refine fr_iald h arM_13 (by omega) (by omega) (rrM_13 z71) dX12_surely_63 (fun z76 w77 w78 q79 => ?_)
            have r80 := (fm_rd_k (a := 13) (b := z71) m2 (by omega))
            refine fr_icmp_ge (tgt := 71) h dX12_surely_64 (by decide) (by omega) (by omega) (fun c81 => ?_) (fun c81 => ?_)
            ·
              refine fr_iconst h dX12_surely_71 ?_
              refine fr_istore (L' := [(0, vr G 0), (1, vi k), (2, vi z45), (3, vi l3_53), (4, vi l4_53), (5, vi 0)]) h dX12_surely_72 (by decide) [1, 2, 3, 4, 5, 0] rfl ?_
              refine fr_iconst h dX12_surely_74 ?_
              refine fr_istore (L' := [(0, vr G 0), (1, vi k), (2, vi z45), (3, vi l3_53), (4, vi l4_53), (5, vi 0), (6, vi 1)]) h dX12_surely_75 (by decide) [1, 2, 3, 4, 5, 6, 0] rfl ?_
              refine fr_iload h 6 rfl dX12_surely_77 ?_
              refine fr_iload_n h rfl 2 rfl dX12_surely_79 ?_
              refine fr_icmp_ge (tgt := 156) h dX12_surely_80 (by decide) (by omega) (by omega) (fun c82 => ?_) (fun c82 => ?_)
              ·
                refine fr_iload_n h rfl 3 rfl dX12_surely_156 ?_
                refine fr_iload h 5 rfl dX12_surely_157 ?_
                refine fr_if_eq (tgt := 169) h dX12_surely_159 (by decide) (by omega) (fun c83 => ?_) (fun c83 => by exfalso; omega)
                refine fr_iconst h dX12_surely_169 ?_
                refine fr_ior h dX12_surely_170 (fun z84 w85 q86 w87 => ?_)
                have w88 := or0 w85 (by omega) q86
                refine fr_istore_n (L' := [(0, vr G 0), (1, vi k), (2, vi z45), (3, vi z84), (4, vi l4_53), (5, vi 0), (6, vi 1)]) h rfl dX12_surely_171 (by decide) [1, 2, 3, 0, 4, 5, 6] rfl ?_
                refine fr_iinc (j := 4) (L' := [(0, vr G 0), (1, vi k), (2, vi z45), (3, vi z84), (4, vi (l4_53 + 1)), (5, vi 0), (6, vi 1)]) h dX12_surely_172 rfl (by decide) [1, 2, 3, 4, 0, 5, 6] rfl ?_
                refine fr_goto (tgt := 44) h dX12_surely_175 (by decide) ?_
                refine fr_sub (L' := [(0, vr G 0), (1, vi k), (2, vi z45), (3, vi z84), (4, vi (l4_53 + 1))]) [0, 1, 2, 3, 4] rfl ?_
                exact ih53 z84 (l4_53 + 1) (by omega) (by omega) (by omega) (by omega) (by omega) (by omega) (by omega) (by omega)
              ·
                exfalso; omega
            ·
              exfalso; omega
      exact HL53 ((8 - 0) + 1 : Int).toNat 0 0 (by omega) (by omega) (by omega) (by omega) (by omega) (by omega) (by omega) (by omega)
    ·
      refine fr_bipush h rfl dX12_surely_26 ?_
      exact fr_iret h hq (by omega) ⟨(by omega), (by omega), (by omega), (fun a k0 k1 k2 k3 => ((f31 a (by omega) (by omega) (by omega)).trans (fm_up_row m2 (by omega)))), (fun i k0 k1 k2 k3 k4 k5 k6 k7 k8 => ((f32 i (by omega) (by omega) (by omega) (by omega) (by omega) (by omega) (by omega)).trans (fm_rd_i (a := 0) (b := i) m2 (by omega))))⟩ dX12_surely_28
  ·
    refine fr_iconst h dX12_surely_12 ?_
    exact fr_iret h hq (by omega) ⟨(by omega), (by omega), (by omega), (fun a k0 k1 k2 k3 => (fm_up_row m2 (by omega))), (fun i k0 k1 k2 k3 k4 k5 k6 k7 k8 => (fm_rd_i (a := 0) (b := i) m2 (by omega)))⟩ dX12_surely_13
set_option maxHeartbeats 2000000 in
theorem f_X12_having (x : Mm) (k : Int) (p : Int) (v : Int) (w : Int) (h_k : fm_r k) (h_p : fm_r p) (h_v : fm_r v) (h_w : fm_r w) (e0 : GI x) (e1 : FRM x) : CnI YM yX12_having cX12_having 10 .int 207 6248 (fun G => [vr G 0, vi k, vi p, vi v, vi w]) x (fun z y' => (¬ (0 ≤ k ∧ k < 5 ∧ 0 ≤ p ∧ p < 8 ∧ 0 ≤ v ∧ v < 12 ∧ 0 ≤ w ∧ w ≤ 1) → z = (-1)) ∧ ((0 ≤ k ∧ k < 5 ∧ 0 ≤ p ∧ p < 8 ∧ 0 ≤ v ∧ v < 12 ∧ 0 ≤ w ∧ w ≤ 1) → k ≠ 4 → z = 1 - w) ∧ ((0 ≤ k ∧ k < 5 ∧ 0 ≤ p ∧ p < 8 ∧ 0 ≤ v ∧ v < 12 ∧ 0 ≤ w ∧ w ≤ 1) → k = 4 → z = 0) ∧ (∀ a : Int, (a < 0 ∨ 0 < a) → (a < 3 ∨ 3 < a) → (a < 7 ∨ 7 < a) → (a < 12 ∨ 18 < a) → y' a = x a) ∧ (∀ i : Int, i ≠ 4 → i ≠ 5 → i ≠ 6 → i ≠ 7 → i ≠ 8 → i ≠ 9 → i ≠ 10 → i ≠ 15 → i ≠ 26 → y' 0 i = x 0 i)) := by
  refine cn_I (by decide) (fun _ => Nat.le_of_ble_eq_true rfl) (fun G C h hq => ?_)
  have h : OK YM G C cX12_having RX12 10 (some .int) 207 6248 := h
  show FW YM G C 10 x 0 [(0, vr G 0), (1, vi k), (2, vi p), (3, vi v), (4, vi w)] []
  have e12 := e0.2.2.2
  obtain ⟨mZ, m103, m104, m105, m02, m04, m018, m037, m20, m27, m014, m15, m13, m14⟩ := e1
  have m102 := mZ 102 (by omega) (by omega)
  refine fr_aload_n h rfl 0 rfl dX12_having_0 ?_
  refine fr_iconst h dX12_having_1 ?_
  refine fr_puti (iz := 5) h kX12 fX12_94 at_0M rfl rfl (by decide) (by decide) rfl (by decide +kernel) rfM_5 (by omega) (by omega) dX12_having_2 ?_
  refine fr_mem (fun x1 m2 => ?_)
  refine fr_iload_n h rfl 1 rfl dX12_having_5 ?_
  refine fr_csI h wX12_isKind lX12_324 (c_X12_isKind x1 k (by omega)) rfl (by decide) (by decide) rfl (Nat.le_of_ble_eq_true rfl) dX12_having_6 (fun z4 x3 w5 p6 => ?_)
  obtain ⟨p7, p8, y9⟩ := p6
  rw [y9]
  clear y9
  refine fr_if_eq (tgt := 42) h dX12_having_9 (by decide) (by omega) (fun c10 => ?_) (fun c10 => ?_)
  ·
    refine fr_iconst h dX12_having_42 ?_
    exact fr_iret h hq (by omega) ⟨(by omega), (by omega), (by omega), (fun a k0 k1 k2 k3 => (fm_up_row m2 (by omega))), (fun i k0 k1 k2 k3 k4 k5 k6 k7 k8 => (fm_rd_i (a := 0) (b := i) m2 (by omega)))⟩ dX12_having_43
  ·
    refine fr_iload_n h rfl 2 rfl dX12_having_12 ?_
    refine fr_iconst h dX12_having_13 ?_
    refine fr_bipush h rfl dX12_having_14 ?_
    refine fr_csI h wX12_in lX12_101 (c_X12_in x1 p 0 7 (by omega) (by omega) (by omega)) rfl (by decide) (by decide) rfl (Nat.le_of_ble_eq_true rfl) dX12_having_16 (fun z12 x11 w13 p14 => ?_)
    obtain ⟨p15, p16, y17⟩ := p14
    rw [y17]
    clear y17
    refine fr_if_eq (tgt := 42) h dX12_having_19 (by decide) (by omega) (fun c18 => ?_) (fun c18 => ?_)
    ·
      refine fr_iconst h dX12_having_42 ?_
      exact fr_iret h hq (by omega) ⟨(by omega), (by omega), (by omega), (fun a k0 k1 k2 k3 => (fm_up_row m2 (by omega))), (fun i k0 k1 k2 k3 k4 k5 k6 k7 k8 => (fm_rd_i (a := 0) (b := i) m2 (by omega)))⟩ dX12_having_43
    ·
      refine fr_iload_n h rfl 3 rfl dX12_having_22 ?_
      refine fr_iconst h dX12_having_23 ?_
      refine fr_bipush h rfl dX12_having_24 ?_
      refine fr_csI h wX12_in lX12_101 (c_X12_in x1 v 0 11 (by omega) (by omega) (by omega)) rfl (by decide) (by decide) rfl (Nat.le_of_ble_eq_true rfl) dX12_having_26 (fun z20 x19 w21 p22 => ?_)
      obtain ⟨p23, p24, y25⟩ := p22
      rw [y25]
      clear y25
      refine fr_if_eq (tgt := 42) h dX12_having_29 (by decide) (by omega) (fun c26 => ?_) (fun c26 => ?_)
      ·
        refine fr_iconst h dX12_having_42 ?_
        exact fr_iret h hq (by omega) ⟨(by omega), (by omega), (by omega), (fun a k0 k1 k2 k3 => (fm_up_row m2 (by omega))), (fun i k0 k1 k2 k3 k4 k5 k6 k7 k8 => (fm_rd_i (a := 0) (b := i) m2 (by omega)))⟩ dX12_having_43
      ·
        refine fr_iload h 4 rfl dX12_having_32 ?_
        refine fr_iconst h dX12_having_34 ?_
        refine fr_iconst h dX12_having_35 ?_
        refine fr_csI h wX12_in lX12_101 (c_X12_in x1 w 0 1 (by omega) (by omega) (by omega)) rfl (by decide) (by decide) rfl (Nat.le_of_ble_eq_true rfl) dX12_having_36 (fun z28 x27 w29 p30 => ?_)
        obtain ⟨p31, p32, y33⟩ := p30
        rw [y33]
        clear y33
        refine fr_if_ne (tgt := 44) h dX12_having_39 (by decide) (by omega) (fun c34 => ?_) (fun c34 => ?_)
        ·
          refine fr_aload_n h rfl 0 rfl dX12_having_44 ?_
          refine fr_aload_n h rfl 0 rfl dX12_having_45 ?_
          refine fr_getc (z := 1) (iz := 0) h kX12 fX12_9 at_0M rfl rfl rfM_0 (by omega) dX12_having_46 ?_
          refine fr_iload_n h rfl 1 rfl dX12_having_49 ?_
          have r35 := (fm_rd_k (a := 1) (b := 102) m2 (by omega))
          have r36 := (fm_rd_k (a := 1) (b := 103) m2 (by omega))
          have r37 := (fm_rd_k (a := 1) (b := 104) m2 (by omega))
          have r38 := (fm_rd_k (a := 1) (b := 105) m2 (by omega))
          have r39 := (fm_rd_i (a := 0) (b := 14) m2 (by decide))
          have r40 := (fm_rd_k (a := 15) (b := 0) m2 (by omega))
          have r41 := (fm_rd_k (a := 13) (b := 0) m2 (by omega))
          have r42 := (fm_rd_k (a := 14) (b := 0) m2 (by omega))
          refine fr_cvI h kX12 at_0M wX12_layAll lX12_327 (f_X12_layAll x1 1 SA_1 k (by omega) (fun j a c => (congrFun (fm_up_row m2 (by omega)) j).trans (mZ j a c)) (by omega) (by omega) (by omega) (by omega) (by omega) (by omega) (by omega) (by omega) (by omega) (by omega)) rfl (by decide) (by decide) rfl (Nat.le_of_ble_eq_true rfl) dX12_having_50 (fun z44 x43 w45 p46 => ?_)
          obtain ⟨p47, p48, p49, p50, p51, p52, p53, p54, f55, f56⟩ := p46
          refine fr_istore (L' := [(0, vr G 0), (1, vi k), (2, vi p), (3, vi v), (4, vi w), (5, vi z44)]) h dX12_having_53 (by decide) [1, 2, 3, 4, 5, 0] rfl ?_
          refine fr_iconst h dX12_having_55 ?_
          refine fr_istore (L' := [(0, vr G 0), (1, vi k), (2, vi p), (3, vi v), (4, vi w), (5, vi z44), (6, vi 0)]) h dX12_having_56 (by decide) [1, 2, 3, 4, 5, 6, 0] rfl ?_
          refine fr_aload_n h rfl 0 rfl dX12_having_58 ?_
          refine fr_iconst h dX12_having_59 ?_
          refine fr_puti (iz := 4) h kX12 fX12_98 at_0M rfl rfl (by decide) (by decide) rfl (by decide +kernel) rfM_4 (by omega) (by omega) dX12_having_60 ?_
          refine fr_mem (fun x57 m58 => ?_)
          refine fr_iconst h dX12_having_63 ?_
          refine fr_istore (L' := [(0, vr G 0), (1, vi k), (2, vi p), (3, vi v), (4, vi w), (5, vi z44), (6, vi 0), (7, vi 1)]) h dX12_having_64 (by decide) [1, 2, 3, 4, 5, 6, 7, 0] rfl ?_
          refine fr_iload h 7 rfl dX12_having_66 ?_
          refine fr_iload h 5 rfl dX12_having_68 ?_
          refine fr_icmp_gt (tgt := 169) h dX12_having_70 (by decide) (by omega) (by omega) (fun c59 => ?_) (fun c59 => ?_)
          ·
            refine fr_iload h 6 rfl dX12_having_169 ?_
            exact fr_iret h hq (by omega) ⟨(by omega), (by omega), (by omega), (fun a k0 k1 k2 k3 => ((fm_up_row m58 (by omega)).trans ((f55 a (by omega) (by omega) (by omega)).trans (fm_up_row m2 (by omega))))), (fun i k0 k1 k2 k3 k4 k5 k6 k7 k8 => ((fm_rd_i (a := 0) (b := i) m58 (by omega)).trans ((f56 i (by omega) (by omega) (by omega) (by omega) (by omega) (by omega) (by omega)).trans (fm_rd_i (a := 0) (b := i) m2 (by omega)))))⟩ dX12_having_171
          ·
            refine fr_aload_n h rfl 0 rfl dX12_having_73 ?_
            refine fr_getc (z := 15) (iz := 27) h kX12 fX12_54 at_0M rfl rfl rfM_27 (by omega) dX12_having_74 ?_
            refine fr_iload h 7 rfl dX12_having_77 ?_
            refine fr_iconst h dX12_having_79 ?_
            refine fr_isub h dX12_having_80 ?_
            have kz15 : x43 15 (1 - 1) = x43 15 0 := by rw [show ((1 - 1) : Int) = 0 by omega]
            refine fr_iald h arM_15 (by omega) (by omega) (rrM_15 (1 - 1)) dX12_having_81 (fun z60 w61 w62 q63 => ?_)
            have r64 := q63.trans (fm_rd_k (a := 15) (b := (1 - 1)) m58 (by omega))
            have r65 := (fm_rd_k (a := 15) (b := (1 - 1)) m2 (by omega))
            refine fr_istore (L' := [(0, vr G 0), (1, vi k), (2, vi p), (3, vi v), (4, vi w), (5, vi z44), (6, vi 0), (7, vi 1), (8, vi z60)]) h dX12_having_82 (by decide) [1, 2, 3, 4, 5, 6, 7, 8, 0] rfl ?_
            refine fr_iload_n h rfl 2 rfl dX12_having_84 ?_
            refine fr_aload_n h rfl 0 rfl dX12_having_85 ?_
            refine fr_getc (z := 13) (iz := 24) h kX12 fX12_48 at_0M rfl rfl rfM_24 (by omega) dX12_having_86 ?_
            refine fr_iload h 8 rfl dX12_having_89 ?_
            have kz13 : x43 13 z60 = x43 13 0 := by rw [show (z60 : Int) = 0 by omega]
            refine fr_iald h arM_13 (by omega) (by omega) (rrM_13 z60) dX12_having_91 (fun z66 w67 w68 q69 => ?_)
            have r70 := q69.trans (fm_rd_k (a := 13) (b := z60) m58 (by omega))
            have r71 := (fm_rd_k (a := 13) (b := z60) m2 (by omega))
            refine fr_icmp_ge (tgt := 115) h dX12_having_92 (by decide) (by omega) (by omega) (fun c72 => ?_) (fun c72 => ?_)
            ·
              refine fr_iconst h dX12_having_115 ?_
              refine fr_istore (L' := [(0, vr G 0), (1, vi k), (2, vi p), (3, vi v), (4, vi w), (5, vi z44), (6, vi 0), (7, vi 1), (8, vi z60), (9, vi 0)]) h dX12_having_116 (by decide) [1, 2, 3, 4, 5, 6, 7, 8, 9, 0] rfl ?_
              refine fr_iload h 9 rfl dX12_having_118 ?_
              refine fr_iload h 4 rfl dX12_having_120 ?_
              refine fr_iconst h dX12_having_122 ?_
              refine fr_icmp_ne (tgt := 130) h dX12_having_123 (by decide) (by omega) (by omega) (fun c73 => ?_) (fun c73 => ?_)
              ·
                refine fr_iconst h dX12_having_130 ?_
                refine fr_icmp_eq (tgt := 137) h dX12_having_131 (by decide) (by omega) (by omega) (fun c74 => ?_) (fun c74 => by exfalso; omega)
                refine fr_iload h 6 rfl dX12_having_137 ?_
                refine fr_if_ne (tgt := 160) h dX12_having_139 (by decide) (by omega) (fun c75 => by exfalso; omega) (fun c75 => ?_)
                refine fr_aload_n h rfl 0 rfl dX12_having_142 ?_
                refine fr_iload h 7 rfl dX12_having_143 ?_
                refine fr_i2l h (by omega) dX12_having_145 ?_
                have r76 := (fm_rd_s m58)
                refine fr_cvV h kX12 at_0M wX12_tell lX12_269 (c_X12_tell x57 1 (by omega) (by omega)) rfl (by decide) (by decide) rfl (Nat.le_of_ble_eq_true rfl) dX12_having_146 (fun x77 p80 => ?_)
                obtain ⟨p81, f82, f83⟩ := p80
                refine fr_aload_n h rfl 0 rfl dX12_having_149 ?_
                refine fr_aload_n h rfl 0 rfl dX12_having_150 ?_
                refine fr_iload h 7 rfl dX12_having_151 ?_
                have r84 := (congrFun (f82 15 (by omega) (by omega)) 0)
                have r85 := r84.trans (fm_rd_k (a := 15) (b := 0) m58 (by omega))
                have r86 := (fm_rd_k (a := 15) (b := 0) m2 (by omega))
                have r87 := (congrFun (f82 13 (by omega) (by omega)) 0)
                have r88 := r87.trans (fm_rd_k (a := 13) (b := 0) m58 (by omega))
                have r89 := (fm_rd_k (a := 13) (b := 0) m2 (by omega))
                have r90 := (congrFun (f82 14 (by omega) (by omega)) 0)
                have r91 := r90.trans (fm_rd_k (a := 14) (b := 0) m58 (by omega))
                have r92 := (fm_rd_k (a := 14) (b := 0) m2 (by omega))
                refine fr_cvI h kX12 at_0M wX12_costAt lX12_333 (f_X12_costAt x77 1 (by omega) (by omega) (by omega) (by omega) (by omega)) rfl (by decide) (by decide) rfl (Nat.le_of_ble_eq_true rfl) dX12_having_153 (fun z94 x93 w95 p96 => ?_)
                obtain ⟨p97, y98⟩ := p96
                rw [y98]
                clear y98
                refine fr_i2l h (by omega) dX12_having_156 ?_
                have r99 := (fm_rd_s m58)
                refine fr_cvV h kX12 at_0M wX12_tell lX12_269 (c_X12_tell x77 z94 (by omega) (by omega)) rfl (by decide) (by decide) rfl (Nat.le_of_ble_eq_true rfl) dX12_having_157 (fun x100 p103 => ?_)
                obtain ⟨p104, f105, f106⟩ := p103
                refine fr_iinc (j := 6) (L' := [(0, vr G 0), (1, vi k), (2, vi p), (3, vi v), (4, vi w), (5, vi z44), (6, vi (0 + 1)), (7, vi 1), (8, vi z60), (9, vi 0)]) h dX12_having_160 rfl (by decide) [1, 2, 3, 4, 5, 6, 0, 7, 8, 9] rfl ?_
                refine fr_iinc (j := 7) (L' := [(0, vr G 0), (1, vi k), (2, vi p), (3, vi v), (4, vi w), (5, vi z44), (6, vi (0 + 1)), (7, vi (1 + 1)), (8, vi z60), (9, vi 0)]) h dX12_having_163 rfl (by decide) [1, 2, 3, 4, 5, 6, 7, 0, 8, 9] rfl ?_
                refine fr_goto (tgt := 66) h dX12_having_166 (by decide) ?_
                refine fr_iload h 7 rfl dX12_having_66 ?_
                refine fr_iload h 5 rfl dX12_having_68 ?_
                refine fr_icmp_gt (tgt := 169) h dX12_having_70 (by decide) (by omega) (by omega) (fun c107 => ?_) (fun c107 => ?_)
                ·
                  refine fr_iload h 6 rfl dX12_having_169 ?_
                  exact fr_iret h hq (by omega) ⟨(by omega), (by omega), (by omega), (fun a k0 k1 k2 k3 => ((f105 a (by omega) (by omega)).trans ((f82 a (by omega) (by omega)).trans ((fm_up_row m58 (by omega)).trans ((f55 a (by omega) (by omega) (by omega)).trans (fm_up_row m2 (by omega))))))), (fun i k0 k1 k2 k3 k4 k5 k6 k7 k8 => ((f106 i (by omega)).trans ((f83 i (by omega)).trans ((fm_rd_i (a := 0) (b := i) m58 (by omega)).trans ((f56 i (by omega) (by omega) (by omega) (by omega) (by omega) (by omega) (by omega)).trans (fm_rd_i (a := 0) (b := i) m2 (by omega)))))))⟩ dX12_having_171
                ·
                  exfalso; omega
              ·
                refine fr_iconst h dX12_having_126 ?_
                refine fr_goto (tgt := 131) h dX12_having_127 (by decide) ?_
                refine fr_icmp_eq (tgt := 137) h dX12_having_131 (by decide) (by omega) (by omega) (fun c108 => by exfalso; omega) (fun c108 => ?_)
                refine fr_goto (tgt := 163) h dX12_having_134 (by decide) ?_
                refine fr_iinc (j := 7) (L' := [(0, vr G 0), (1, vi k), (2, vi p), (3, vi v), (4, vi w), (5, vi z44), (6, vi 0), (7, vi (1 + 1)), (8, vi z60), (9, vi 0)]) h dX12_having_163 rfl (by decide) [1, 2, 3, 4, 5, 6, 7, 0, 8, 9] rfl ?_
                refine fr_goto (tgt := 66) h dX12_having_166 (by decide) ?_
                refine fr_iload h 7 rfl dX12_having_66 ?_
                refine fr_iload h 5 rfl dX12_having_68 ?_
                refine fr_icmp_gt (tgt := 169) h dX12_having_70 (by decide) (by omega) (by omega) (fun c109 => ?_) (fun c109 => ?_)
                ·
                  refine fr_iload h 6 rfl dX12_having_169 ?_
                  exact fr_iret h hq (by omega) ⟨(by omega), (by omega), (by omega), (fun a k0 k1 k2 k3 => ((fm_up_row m58 (by omega)).trans ((f55 a (by omega) (by omega) (by omega)).trans (fm_up_row m2 (by omega))))), (fun i k0 k1 k2 k3 k4 k5 k6 k7 k8 => ((fm_rd_i (a := 0) (b := i) m58 (by omega)).trans ((f56 i (by omega) (by omega) (by omega) (by omega) (by omega) (by omega) (by omega)).trans (fm_rd_i (a := 0) (b := i) m2 (by omega)))))⟩ dX12_having_171
                ·
                  exfalso; omega
            ·
              exfalso; omega
        ·
          refine fr_iconst h dX12_having_42 ?_
          exact fr_iret h hq (by omega) ⟨(by omega), (by omega), (by omega), (fun a k0 k1 k2 k3 => (fm_up_row m2 (by omega))), (fun i k0 k1 k2 k3 k4 k5 k6 k7 k8 => (fm_rd_i (a := 0) (b := i) m2 (by omega)))⟩ dX12_having_43
set_option maxHeartbeats 2000000 in
theorem f_X12_differ (x : Mm) (k : Int) (p : Int) (v : Int) (h_k : fm_r k) (h_p : fm_r p) (h_v : fm_r v) (e0 : GI x) (e1 : FRM x) : CnI YM yX12_differ cX12_differ 8 .int 207 6248 (fun G => [vr G 0, vi k, vi p, vi v]) x (fun z y' => (¬ (0 ≤ k ∧ k < 5 ∧ 1 ≤ p ∧ p ≤ 400 ∧ 1 ≤ v ∧ v ≤ 400) → z = (-1)) ∧ ((0 ≤ k ∧ k < 5 ∧ 1 ≤ p ∧ p ≤ 400 ∧ 1 ≤ v ∧ v ≤ 400) → k ≠ 4 → (p = 1 ∧ v = 1 → z = 0) ∧ (¬ (p = 1 ∧ v = 1) → z = (-2))) ∧ ((0 ≤ k ∧ k < 5 ∧ 1 ≤ p ∧ p ≤ 400 ∧ 1 ≤ v ∧ v ≤ 400) → k = 4 → z = (-2)) ∧ (∀ a : Int, (a < 0 ∨ 0 < a) → (a < 3 ∨ 3 < a) → (a < 7 ∨ 7 < a) → (a < 12 ∨ 18 < a) → y' a = x a) ∧ (∀ i : Int, i ≠ 4 → i ≠ 5 → i ≠ 6 → i ≠ 7 → i ≠ 8 → i ≠ 9 → i ≠ 10 → i ≠ 15 → i ≠ 26 → y' 0 i = x 0 i)) := by
  refine cn_I (by decide) (fun _ => Nat.le_of_ble_eq_true rfl) (fun G C h hq => ?_)
  have h : OK YM G C cX12_differ RX12 8 (some .int) 207 6248 := h
  show FW YM G C 8 x 0 [(0, vr G 0), (1, vi k), (2, vi p), (3, vi v)] []
  have e12 := e0.2.2.2
  obtain ⟨mZ, m103, m104, m105, m02, m04, m018, m037, m20, m27, m014, m15, m13, m14⟩ := e1
  have m102 := mZ 102 (by omega) (by omega)
  refine fr_aload_n h rfl 0 rfl dX12_differ_0 ?_
  refine fr_iconst h dX12_differ_1 ?_
  refine fr_puti (iz := 5) h kX12 fX12_94 at_0M rfl rfl (by decide) (by decide) rfl (by decide +kernel) rfM_5 (by omega) (by omega) dX12_differ_2 ?_
  refine fr_mem (fun x1 m2 => ?_)
  refine fr_iload_n h rfl 1 rfl dX12_differ_5 ?_
  refine fr_csI h wX12_isKind lX12_324 (c_X12_isKind x1 k (by omega)) rfl (by decide) (by decide) rfl (Nat.le_of_ble_eq_true rfl) dX12_differ_6 (fun z4 x3 w5 p6 => ?_)
  obtain ⟨p7, p8, y9⟩ := p6
  rw [y9]
  clear y9
  refine fr_if_eq (tgt := 34) h dX12_differ_9 (by decide) (by omega) (fun c10 => ?_) (fun c10 => ?_)
  ·
    refine fr_iconst h dX12_differ_34 ?_
    exact fr_iret h hq (by omega) ⟨(by omega), (by omega), (by omega), (fun a k0 k1 k2 k3 => (fm_up_row m2 (by omega))), (fun i k0 k1 k2 k3 k4 k5 k6 k7 k8 => (fm_rd_i (a := 0) (b := i) m2 (by omega)))⟩ dX12_differ_35
  ·
    refine fr_iload_n h rfl 2 rfl dX12_differ_12 ?_
    refine fr_iconst h dX12_differ_13 ?_
    refine fr_sipush h rfl dX12_differ_14 ?_
    refine fr_csI h wX12_in lX12_101 (c_X12_in x1 p 1 400 (by omega) (by omega) (by omega)) rfl (by decide) (by decide) rfl (Nat.le_of_ble_eq_true rfl) dX12_differ_17 (fun z12 x11 w13 p14 => ?_)
    obtain ⟨p15, p16, y17⟩ := p14
    rw [y17]
    clear y17
    refine fr_if_eq (tgt := 34) h dX12_differ_20 (by decide) (by omega) (fun c18 => ?_) (fun c18 => ?_)
    ·
      refine fr_iconst h dX12_differ_34 ?_
      exact fr_iret h hq (by omega) ⟨(by omega), (by omega), (by omega), (fun a k0 k1 k2 k3 => (fm_up_row m2 (by omega))), (fun i k0 k1 k2 k3 k4 k5 k6 k7 k8 => (fm_rd_i (a := 0) (b := i) m2 (by omega)))⟩ dX12_differ_35
    ·
      refine fr_iload_n h rfl 3 rfl dX12_differ_23 ?_
      refine fr_iconst h dX12_differ_24 ?_
      refine fr_sipush h rfl dX12_differ_25 ?_
      refine fr_csI h wX12_in lX12_101 (c_X12_in x1 v 1 400 (by omega) (by omega) (by omega)) rfl (by decide) (by decide) rfl (Nat.le_of_ble_eq_true rfl) dX12_differ_28 (fun z20 x19 w21 p22 => ?_)
      obtain ⟨p23, p24, y25⟩ := p22
      rw [y25]
      clear y25
      refine fr_if_ne (tgt := 36) h dX12_differ_31 (by decide) (by omega) (fun c26 => ?_) (fun c26 => ?_)
      ·
        refine fr_aload_n h rfl 0 rfl dX12_differ_36 ?_
        refine fr_aload_n h rfl 0 rfl dX12_differ_37 ?_
        refine fr_getc (z := 1) (iz := 0) h kX12 fX12_9 at_0M rfl rfl rfM_0 (by omega) dX12_differ_38 ?_
        refine fr_iload_n h rfl 1 rfl dX12_differ_41 ?_
        have r27 := (fm_rd_k (a := 1) (b := 102) m2 (by omega))
        have r28 := (fm_rd_k (a := 1) (b := 103) m2 (by omega))
        have r29 := (fm_rd_k (a := 1) (b := 104) m2 (by omega))
        have r30 := (fm_rd_k (a := 1) (b := 105) m2 (by omega))
        have r31 := (fm_rd_i (a := 0) (b := 14) m2 (by decide))
        have r32 := (fm_rd_k (a := 15) (b := 0) m2 (by omega))
        have r33 := (fm_rd_k (a := 13) (b := 0) m2 (by omega))
        have r34 := (fm_rd_k (a := 14) (b := 0) m2 (by omega))
        refine fr_cvI h kX12 at_0M wX12_layAll lX12_327 (f_X12_layAll x1 1 SA_1 k (by omega) (fun j a c => (congrFun (fm_up_row m2 (by omega)) j).trans (mZ j a c)) (by omega) (by omega) (by omega) (by omega) (by omega) (by omega) (by omega) (by omega) (by omega) (by omega)) rfl (by decide) (by decide) rfl (Nat.le_of_ble_eq_true rfl) dX12_differ_42 (fun z36 x35 w37 p38 => ?_)
        obtain ⟨p39, p40, p41, p42, p43, p44, p45, p46, f47, f48⟩ := p38
        refine fr_iload_n h rfl 2 rfl dX12_differ_45 ?_
        refine fr_iload_n h rfl 3 rfl dX12_differ_46 ?_
        refine fr_mmax h (by omega) (by omega) (tb_6 (i := 220) (by decide +kernel) (by decide +kernel)) w_mmax (by decide) (by decide) (Nat.le_of_ble_eq_true rfl) dX12_differ_47 (fun z49 w50 w51 w52 => ?_)
        refine fr_icmp_ge (tgt := 56) h dX12_differ_50 (by decide) (by omega) (by omega) (fun c53 => ?_) (fun c53 => ?_)
        ·
          refine fr_aload_n h rfl 0 rfl dX12_differ_56 ?_
          refine fr_getc (z := 15) (iz := 27) h kX12 fX12_54 at_0M rfl rfl rfM_27 (by omega) dX12_differ_57 ?_
          refine fr_iload_n h rfl 2 rfl dX12_differ_60 ?_
          refine fr_iconst h dX12_differ_61 ?_
          refine fr_isub h dX12_differ_62 ?_
          refine fr_normi (fun z54 w55 q56 => ?_)
          have w57 : fm_r ((p - 1)) → z54 = (p - 1) := fun q => (iI_inj q w55 q56).symm
          have kz15 : x35 15 z54 = x35 15 0 := by rw [show (z54 : Int) = 0 by omega]
          refine fr_iald h arM_15 (by omega) (by omega) (rrM_15 z54) dX12_differ_63 (fun z58 w59 w60 q61 => ?_)
          have r62 := (fm_rd_k (a := 15) (b := z54) m2 (by omega))
          refine fr_istore (L' := [(0, vr G 0), (1, vi k), (2, vi p), (3, vi v), (4, vi z58)]) h dX12_differ_64 (by decide) [1, 2, 3, 4, 0] rfl ?_
          refine fr_aload_n h rfl 0 rfl dX12_differ_66 ?_
          refine fr_getc (z := 15) (iz := 27) h kX12 fX12_54 at_0M rfl rfl rfM_27 (by omega) dX12_differ_67 ?_
          refine fr_iload_n h rfl 3 rfl dX12_differ_70 ?_
          refine fr_iconst h dX12_differ_71 ?_
          refine fr_isub h dX12_differ_72 ?_
          refine fr_normi (fun z63 w64 q65 => ?_)
          have w66 : fm_r ((v - 1)) → z63 = (v - 1) := fun q => (iI_inj q w64 q65).symm
          have kz15 : x35 15 z63 = x35 15 0 := by rw [show (z63 : Int) = 0 by omega]
          refine fr_iald h arM_15 (by omega) (by omega) (rrM_15 z63) dX12_differ_73 (fun z67 w68 w69 q70 => ?_)
          have r71 := (fm_rd_k (a := 15) (b := z63) m2 (by omega))
          refine fr_istore (L' := [(0, vr G 0), (1, vi k), (2, vi p), (3, vi v), (4, vi z58), (5, vi z67)]) h dX12_differ_74 (by decide) [1, 2, 3, 4, 5, 0] rfl ?_
          refine fr_iconst h dX12_differ_76 ?_
          refine fr_istore (L' := [(0, vr G 0), (1, vi k), (2, vi p), (3, vi v), (4, vi z58), (5, vi z67), (6, vi 0)]) h dX12_differ_77 (by decide) [1, 2, 3, 4, 5, 6, 0] rfl ?_
          refine fr_aload_n h rfl 0 rfl dX12_differ_79 ?_
          refine fr_iconst h dX12_differ_80 ?_
          refine fr_puti (iz := 4) h kX12 fX12_98 at_0M rfl rfl (by decide) (by decide) rfl (by decide +kernel) rfM_4 (by omega) (by omega) dX12_differ_81 ?_
          refine fr_mem (fun x72 m73 => ?_)
          refine fr_iconst h dX12_differ_84 ?_
          refine fr_istore (L' := [(0, vr G 0), (1, vi k), (2, vi p), (3, vi v), (4, vi z58), (5, vi z67), (6, vi 0), (7, vi 0)]) h dX12_differ_85 (by decide) [1, 2, 3, 4, 5, 6, 7, 0] rfl ?_
          refine fr_iload h 7 rfl dX12_differ_87 ?_
          refine fr_aload_n h rfl 0 rfl dX12_differ_89 ?_
          refine fr_getc (z := 13) (iz := 24) h kX12 fX12_48 at_0M rfl rfl rfM_24 (by omega) dX12_differ_90 ?_
          refine fr_iload h 4 rfl dX12_differ_93 ?_
          have kz13 : x35 13 z58 = x35 13 0 := by rw [show (z58 : Int) = 0 by omega]
          refine fr_iald h arM_13 (by omega) (by omega) (rrM_13 z58) dX12_differ_95 (fun z74 w75 w76 q77 => ?_)
          have r78 := q77.trans (fm_rd_k (a := 13) (b := z58) m73 (by omega))
          have r79 := (fm_rd_k (a := 13) (b := z58) m2 (by omega))
          refine fr_aload_n h rfl 0 rfl dX12_differ_96 ?_
          refine fr_getc (z := 13) (iz := 24) h kX12 fX12_48 at_0M rfl rfl rfM_24 (by omega) dX12_differ_97 ?_
          refine fr_iload h 5 rfl dX12_differ_100 ?_
          have kz13 : x35 13 z67 = x35 13 0 := by rw [show (z67 : Int) = 0 by omega]
          refine fr_iald h arM_13 (by omega) (by omega) (rrM_13 z67) dX12_differ_102 (fun z80 w81 w82 q83 => ?_)
          have r84 := q83.trans (fm_rd_k (a := 13) (b := z67) m73 (by omega))
          have r85 := (fm_rd_k (a := 13) (b := z67) m2 (by omega))
          refine fr_mmax h (by omega) (by omega) (tb_6 (i := 220) (by decide +kernel) (by decide +kernel)) w_mmax (by decide) (by decide) (Nat.le_of_ble_eq_true rfl) dX12_differ_103 (fun z86 w87 w88 w89 => ?_)
          refine fr_icmp_ge (tgt := 186) h dX12_differ_106 (by decide) (by omega) (by omega) (fun c90 => ?_) (fun c90 => ?_)
          ·
            refine fr_iload h 6 rfl dX12_differ_186 ?_
            exact fr_iret h hq (by omega) ⟨(by omega), (by omega), (by omega), (fun a k0 k1 k2 k3 => ((fm_up_row m73 (by omega)).trans ((f47 a (by omega) (by omega) (by omega)).trans (fm_up_row m2 (by omega))))), (fun i k0 k1 k2 k3 k4 k5 k6 k7 k8 => ((fm_rd_i (a := 0) (b := i) m73 (by omega)).trans ((f48 i (by omega) (by omega) (by omega) (by omega) (by omega) (by omega) (by omega)).trans (fm_rd_i (a := 0) (b := i) m2 (by omega)))))⟩ dX12_differ_188
          ·
            exfalso; omega
        ·
          refine fr_bipush h rfl dX12_differ_53 ?_
          exact fr_iret h hq (by omega) ⟨(by omega), (by omega), (by omega), (fun a k0 k1 k2 k3 => ((f47 a (by omega) (by omega) (by omega)).trans (fm_up_row m2 (by omega)))), (fun i k0 k1 k2 k3 k4 k5 k6 k7 k8 => ((f48 i (by omega) (by omega) (by omega) (by omega) (by omega) (by omega) (by omega)).trans (fm_rd_i (a := 0) (b := i) m2 (by omega))))⟩ dX12_differ_55
      ·
        refine fr_iconst h dX12_differ_34 ?_
        exact fr_iret h hq (by omega) ⟨(by omega), (by omega), (by omega), (fun a k0 k1 k2 k3 => (fm_up_row m2 (by omega))), (fun i k0 k1 k2 k3 k4 k5 k6 k7 k8 => (fm_rd_i (a := 0) (b := i) m2 (by omega)))⟩ dX12_differ_35
set_option maxHeartbeats 2000000 in
theorem f_X12_gap (x : Mm) (k : Int) (p : Int) (h_k : fm_r k) (h_p : fm_r p) (e0 : GI x) (e1 : FRM x) : CnI YM yX12_gap cX12_gap 3 .int 207 6248 (fun G => [vr G 0, vi k, vi p]) x (fun z y' => (¬ (0 ≤ k ∧ k < 5 ∧ 1 ≤ p ∧ p ≤ 399) → z = (-1)) ∧ ((0 ≤ k ∧ k < 5 ∧ 1 ≤ p ∧ p ≤ 399) → z = (-2)) ∧ (∀ a : Int, (a < 0 ∨ 0 < a) → (a < 3 ∨ 3 < a) → (a < 7 ∨ 7 < a) → (a < 12 ∨ 18 < a) → y' a = x a) ∧ (∀ i : Int, i ≠ 4 → i ≠ 5 → i ≠ 6 → i ≠ 7 → i ≠ 8 → i ≠ 9 → i ≠ 10 → i ≠ 15 → i ≠ 26 → y' 0 i = x 0 i)) := by
  refine cn_I (by decide) (fun _ => Nat.le_of_ble_eq_true rfl) (fun G C h hq => ?_)
  have h : OK YM G C cX12_gap RX12 3 (some .int) 207 6248 := h
  show FW YM G C 3 x 0 [(0, vr G 0), (1, vi k), (2, vi p)] []
  have e12 := e0.2.2.2
  obtain ⟨mZ, m103, m104, m105, m02, m04, m018, m037, m20, m27, m014, m15, m13, m14⟩ := e1
  have m102 := mZ 102 (by omega) (by omega)
  refine fr_aload_n h rfl 0 rfl dX12_gap_0 ?_
  refine fr_iconst h dX12_gap_1 ?_
  refine fr_puti (iz := 5) h kX12 fX12_94 at_0M rfl rfl (by decide) (by decide) rfl (by decide +kernel) rfM_5 (by omega) (by omega) dX12_gap_2 ?_
  refine fr_mem (fun x1 m2 => ?_)
  refine fr_iload_n h rfl 1 rfl dX12_gap_5 ?_
  refine fr_csI h wX12_isKind lX12_324 (c_X12_isKind x1 k (by omega)) rfl (by decide) (by decide) rfl (Nat.le_of_ble_eq_true rfl) dX12_gap_6 (fun z4 x3 w5 p6 => ?_)
  obtain ⟨p7, p8, y9⟩ := p6
  rw [y9]
  clear y9
  refine fr_if_eq (tgt := 23) h dX12_gap_9 (by decide) (by omega) (fun c10 => ?_) (fun c10 => ?_)
  ·
    refine fr_iconst h dX12_gap_23 ?_
    exact fr_iret h hq (by omega) ⟨(by omega), (by omega), (fun a k0 k1 k2 k3 => (fm_up_row m2 (by omega))), (fun i k0 k1 k2 k3 k4 k5 k6 k7 k8 => (fm_rd_i (a := 0) (b := i) m2 (by omega)))⟩ dX12_gap_24
  ·
    refine fr_iload_n h rfl 2 rfl dX12_gap_12 ?_
    refine fr_iconst h dX12_gap_13 ?_
    refine fr_sipush h rfl dX12_gap_14 ?_
    refine fr_csI h wX12_in lX12_101 (c_X12_in x1 p 1 399 (by omega) (by omega) (by omega)) rfl (by decide) (by decide) rfl (Nat.le_of_ble_eq_true rfl) dX12_gap_17 (fun z12 x11 w13 p14 => ?_)
    obtain ⟨p15, p16, y17⟩ := p14
    rw [y17]
    clear y17
    refine fr_if_ne (tgt := 25) h dX12_gap_20 (by decide) (by omega) (fun c18 => ?_) (fun c18 => ?_)
    ·
      refine fr_aload_n h rfl 0 rfl dX12_gap_25 ?_
      refine fr_aload_n h rfl 0 rfl dX12_gap_26 ?_
      refine fr_getc (z := 1) (iz := 0) h kX12 fX12_9 at_0M rfl rfl rfM_0 (by omega) dX12_gap_27 ?_
      refine fr_iload_n h rfl 1 rfl dX12_gap_30 ?_
      have r19 := (fm_rd_k (a := 1) (b := 102) m2 (by omega))
      have r20 := (fm_rd_k (a := 1) (b := 103) m2 (by omega))
      have r21 := (fm_rd_k (a := 1) (b := 104) m2 (by omega))
      have r22 := (fm_rd_k (a := 1) (b := 105) m2 (by omega))
      have r23 := (fm_rd_i (a := 0) (b := 14) m2 (by decide))
      have r24 := (fm_rd_k (a := 15) (b := 0) m2 (by omega))
      have r25 := (fm_rd_k (a := 13) (b := 0) m2 (by omega))
      have r26 := (fm_rd_k (a := 14) (b := 0) m2 (by omega))
      refine fr_cvI h kX12 at_0M wX12_layAll lX12_327 (f_X12_layAll x1 1 SA_1 k (by omega) (fun j a c => (congrFun (fm_up_row m2 (by omega)) j).trans (mZ j a c)) (by omega) (by omega) (by omega) (by omega) (by omega) (by omega) (by omega) (by omega) (by omega) (by omega)) rfl (by decide) (by decide) rfl (Nat.le_of_ble_eq_true rfl) dX12_gap_31 (fun z28 x27 w29 p30 => ?_)
      obtain ⟨p31, p32, p33, p34, p35, p36, p37, p38, f39, f40⟩ := p30
      refine fr_iload_n h rfl 2 rfl dX12_gap_34 ?_
      refine fr_iconst h dX12_gap_35 ?_
      refine fr_iadd h dX12_gap_36 ?_
      refine fr_icmp_ge (tgt := 43) h dX12_gap_37 (by decide) (by omega) (by omega) (fun c41 => ?_) (fun c41 => ?_)
      ·
        exfalso; omega
      ·
        refine fr_bipush h rfl dX12_gap_40 ?_
        exact fr_iret h hq (by omega) ⟨(by omega), (by omega), (fun a k0 k1 k2 k3 => ((f39 a (by omega) (by omega) (by omega)).trans (fm_up_row m2 (by omega)))), (fun i k0 k1 k2 k3 k4 k5 k6 k7 k8 => ((f40 i (by omega) (by omega) (by omega) (by omega) (by omega) (by omega) (by omega)).trans (fm_rd_i (a := 0) (b := i) m2 (by omega))))⟩ dX12_gap_42
    ·
      refine fr_iconst h dX12_gap_23 ?_
      exact fr_iret h hq (by omega) ⟨(by omega), (by omega), (fun a k0 k1 k2 k3 => (fm_up_row m2 (by omega))), (fun i k0 k1 k2 k3 k4 k5 k6 k7 k8 => (fm_rd_i (a := 0) (b := i) m2 (by omega)))⟩ dX12_gap_24
set_option maxHeartbeats 2000000 in
theorem f_X12_opens (x : Mm) (p : Int) (k : Int) (h_p : fm_r p) (h_k : fm_r k) (e0 : GI x) (e1 : FRM x) : CnI YM yX12_opens cX12_opens 3 .int 207 6248 (fun G => [vr G 0, vi p, vi k]) x (fun z y' => (¬ (0 ≤ p ∧ p < 3 ∧ 0 ≤ k ∧ k < 5) → z = (-1)) ∧ ((0 ≤ p ∧ p < 3 ∧ 0 ≤ k ∧ k < 5) → k ≠ 4 → z = 1) ∧ ((0 ≤ p ∧ p < 3 ∧ 0 ≤ k ∧ k < 5) → k = 4 → z = 0) ∧ (∀ a : Int, (a < 0 ∨ 0 < a) → (a < 20 ∨ 22 < a) → (a < 7 ∨ 7 < a) → (a < 12 ∨ 18 < a) → y' a = x a) ∧ (∀ i : Int, i ≠ 5 → i ≠ 6 → i ≠ 7 → i ≠ 8 → i ≠ 9 → i ≠ 10 → i ≠ 15 → i ≠ 26 → y' 0 i = x 0 i)) := by
  refine cn_I (by decide) (fun _ => Nat.le_of_ble_eq_true rfl) (fun G C h hq => ?_)
  have h : OK YM G C cX12_opens RX12 3 (some .int) 207 6248 := h
  show FW YM G C 3 x 0 [(0, vr G 0), (1, vi p), (2, vi k)] []
  have e12 := e0.2.2.2
  obtain ⟨mZ, m103, m104, m105, m02, m04, m018, m037, m20, m27, m014, m15, m13, m14⟩ := e1
  have m102 := mZ 102 (by omega) (by omega)
  refine fr_aload_n h rfl 0 rfl dX12_opens_0 ?_
  refine fr_iconst h dX12_opens_1 ?_
  refine fr_puti (iz := 5) h kX12 fX12_94 at_0M rfl rfl (by decide) (by decide) rfl (by decide +kernel) rfM_5 (by omega) (by omega) dX12_opens_2 ?_
  refine fr_mem (fun x1 m2 => ?_)
  refine fr_iload_n h rfl 1 rfl dX12_opens_5 ?_
  refine fr_iconst h dX12_opens_6 ?_
  refine fr_iconst h dX12_opens_7 ?_
  refine fr_csI h wX12_in lX12_101 (c_X12_in x1 p 0 2 (by omega) (by omega) (by omega)) rfl (by decide) (by decide) rfl (Nat.le_of_ble_eq_true rfl) dX12_opens_8 (fun z4 x3 w5 p6 => ?_)
  obtain ⟨p7, p8, y9⟩ := p6
  rw [y9]
  clear y9
  refine fr_if_eq (tgt := 21) h dX12_opens_11 (by decide) (by omega) (fun c10 => ?_) (fun c10 => ?_)
  ·
    refine fr_iconst h dX12_opens_21 ?_
    exact fr_iret h hq (by omega) ⟨(by omega), (by omega), (by omega), (fun a k0 k1 k2 k3 => (fm_up_row m2 (by omega))), (fun i k0 k1 k2 k3 k4 k5 k6 k7 => (fm_rd_i (a := 0) (b := i) m2 (by omega)))⟩ dX12_opens_22
  ·
    refine fr_iload_n h rfl 2 rfl dX12_opens_14 ?_
    refine fr_csI h wX12_isKind lX12_324 (c_X12_isKind x1 k (by omega)) rfl (by decide) (by decide) rfl (Nat.le_of_ble_eq_true rfl) dX12_opens_15 (fun z12 x11 w13 p14 => ?_)
    obtain ⟨p15, p16, y17⟩ := p14
    rw [y17]
    clear y17
    refine fr_if_ne (tgt := 23) h dX12_opens_18 (by decide) (by omega) (fun c18 => ?_) (fun c18 => ?_)
    ·
      refine fr_aload_n h rfl 0 rfl dX12_opens_23 ?_
      refine fr_getc (z := 20) (iz := 32) h kX12 fX12_69 at_0M rfl rfl rfM_32 (by omega) dX12_opens_24 ?_
      refine fr_iload_n h rfl 1 rfl dX12_opens_27 ?_
      refine fr_iload_n h rfl 2 rfl dX12_opens_28 ?_
      refine fr_iast h arM_20 (by omega) (by omega) (rrM_20 p) (by omega) (by omega) dX12_opens_29 ?_
      refine fr_mem (fun x19 m20 => ?_)
      refine fr_aload_n h rfl 0 rfl dX12_opens_30 ?_
      refine fr_getc (z := 21) (iz := 33) h kX12 fX12_72 at_0M rfl rfl rfM_33 (by omega) dX12_opens_31 ?_
      refine fr_iload_n h rfl 1 rfl dX12_opens_34 ?_
      refine fr_iconst h dX12_opens_35 ?_
      refine fr_iast h arM_21 (by omega) (by omega) (rrM_21 p) (by omega) (by omega) dX12_opens_36 ?_
      refine fr_mem (fun x21 m22 => ?_)
      refine fr_aload_n h rfl 0 rfl dX12_opens_37 ?_
      refine fr_getc (z := 22) (iz := 34) h kX12 fX12_75 at_0M rfl rfl rfM_34 (by omega) dX12_opens_38 ?_
      refine fr_iload_n h rfl 1 rfl dX12_opens_41 ?_
      refine fr_aload_n h rfl 0 rfl dX12_opens_42 ?_
      refine fr_geti (iz := 21) h kX12 fX12_201 at_0M rfl rfl (by decide) (by decide) rfM_21 dX12_opens_43 (fun z23 w24 w25 q26 => ?_)
      have r27 := q26.trans (fm_rd_k (a := 0) (b := 21) m22 (by omega))
      have r28 := r27.trans (fm_rd_k (a := 0) (b := 21) m20 (by omega))
      have r29 := r28.trans (fm_rd_i (a := 0) (b := 21) m2 (by decide))
      refine fr_iast h arM_22 (by omega) (by omega) (rrM_22 p) (by omega) (by omega) dX12_opens_46 ?_
      refine fr_mem (fun x30 m31 => ?_)
      refine fr_aload_n h rfl 0 rfl dX12_opens_47 ?_
      refine fr_aload_n h rfl 0 rfl dX12_opens_48 ?_
      refine fr_getc (z := 1) (iz := 0) h kX12 fX12_9 at_0M rfl rfl rfM_0 (by omega) dX12_opens_49 ?_
      refine fr_iload_n h rfl 2 rfl dX12_opens_52 ?_
      have r32 := (fm_rd_k (a := 1) (b := 102) m31 (by omega))
      have r33 := r32.trans (fm_rd_k (a := 1) (b := 102) m22 (by omega))
      have r34 := r33.trans (fm_rd_k (a := 1) (b := 102) m20 (by omega))
      have r35 := r34.trans (fm_rd_k (a := 1) (b := 102) m2 (by omega))
      have r36 := (fm_rd_k (a := 1) (b := 103) m31 (by omega))
      have r37 := r36.trans (fm_rd_k (a := 1) (b := 103) m22 (by omega))
      have r38 := r37.trans (fm_rd_k (a := 1) (b := 103) m20 (by omega))
      have r39 := r38.trans (fm_rd_k (a := 1) (b := 103) m2 (by omega))
      have r40 := (fm_rd_k (a := 1) (b := 104) m31 (by omega))
      have r41 := r40.trans (fm_rd_k (a := 1) (b := 104) m22 (by omega))
      have r42 := r41.trans (fm_rd_k (a := 1) (b := 104) m20 (by omega))
      have r43 := r42.trans (fm_rd_k (a := 1) (b := 104) m2 (by omega))
      have r44 := (fm_rd_k (a := 1) (b := 105) m31 (by omega))
      have r45 := r44.trans (fm_rd_k (a := 1) (b := 105) m22 (by omega))
      have r46 := r45.trans (fm_rd_k (a := 1) (b := 105) m20 (by omega))
      have r47 := r46.trans (fm_rd_k (a := 1) (b := 105) m2 (by omega))
      have r48 := (fm_rd_k (a := 0) (b := 14) m31 (by omega))
      have r49 := r48.trans (fm_rd_k (a := 0) (b := 14) m22 (by omega))
      have r50 := r49.trans (fm_rd_k (a := 0) (b := 14) m20 (by omega))
      have r51 := r50.trans (fm_rd_i (a := 0) (b := 14) m2 (by decide))
      have r52 := (fm_rd_k (a := 15) (b := 0) m31 (by omega))
      have r53 := r52.trans (fm_rd_k (a := 15) (b := 0) m22 (by omega))
      have r54 := r53.trans (fm_rd_k (a := 15) (b := 0) m20 (by omega))
      have r55 := r54.trans (fm_rd_k (a := 15) (b := 0) m2 (by omega))
      have r56 := (fm_rd_k (a := 13) (b := 0) m31 (by omega))
      have r57 := r56.trans (fm_rd_k (a := 13) (b := 0) m22 (by omega))
      have r58 := r57.trans (fm_rd_k (a := 13) (b := 0) m20 (by omega))
      have r59 := r58.trans (fm_rd_k (a := 13) (b := 0) m2 (by omega))
      have r60 := (fm_rd_k (a := 14) (b := 0) m31 (by omega))
      have r61 := r60.trans (fm_rd_k (a := 14) (b := 0) m22 (by omega))
      have r62 := r61.trans (fm_rd_k (a := 14) (b := 0) m20 (by omega))
      have r63 := r62.trans (fm_rd_k (a := 14) (b := 0) m2 (by omega))
      refine fr_cvI h kX12 at_0M wX12_layAll lX12_327 (f_X12_layAll x30 1 SA_1 k (by omega) (fun j a c => (congrFun ((fm_up_row m31 (by omega)).trans ((fm_up_row m22 (by omega)).trans ((fm_up_row m20 (by omega)).trans (fm_up_row m2 (by omega))))) j).trans (mZ j a c)) (by omega) (by omega) (by omega) (by omega) (by omega) (by omega) (by omega) (by omega) (by omega) (by omega)) rfl (by decide) (by decide) rfl (Nat.le_of_ble_eq_true rfl) dX12_opens_53 (fun z65 x64 w66 p67 => ?_)
      obtain ⟨p68, p69, p70, p71, p72, p73, p74, p75, f76, f77⟩ := p67
      exact fr_iret h hq (by omega) ⟨(by omega), (by omega), (by omega), (fun a k0 k1 k2 k3 => ((f76 a (by omega) (by omega) (by omega)).trans ((fm_up_row m31 (by omega)).trans ((fm_up_row m22 (by omega)).trans ((fm_up_row m20 (by omega)).trans (fm_up_row m2 (by omega))))))), (fun i k0 k1 k2 k3 k4 k5 k6 k7 => ((f77 i (by omega) (by omega) (by omega) (by omega) (by omega) (by omega) (by omega)).trans ((fm_rd_k (a := 0) (b := i) m31 (by omega)).trans ((fm_rd_k (a := 0) (b := i) m22 (by omega)).trans ((fm_rd_k (a := 0) (b := i) m20 (by omega)).trans (fm_rd_i (a := 0) (b := i) m2 (by omega)))))))⟩ dX12_opens_56
    ·
      refine fr_iconst h dX12_opens_21 ?_
      exact fr_iret h hq (by omega) ⟨(by omega), (by omega), (by omega), (fun a k0 k1 k2 k3 => (fm_up_row m2 (by omega))), (fun i k0 k1 k2 k3 k4 k5 k6 k7 => (fm_rd_i (a := 0) (b := i) m2 (by omega)))⟩ dX12_opens_22
set_option maxHeartbeats 200000 in
theorem f_X12_refusesCursor (x : Mm) (p : Int) (h_p : fm_r p) (e0 : 0 ≤ p) (e1 : p ≤ 2) (e2 : x 20 p = (-1)) : CnI YM yX12_refusesCursor cX12_refusesCursor 2 .int 0 0 (fun G => [vr G 0, vi p]) x (fun z y' => (z = (-3)) ∧ (y' = x)) := by
  refine cn_I (by decide) (fun _ => Nat.le_of_ble_eq_true rfl) (fun G C h hq => ?_)
  have h : OK YM G C cX12_refusesCursor RX12 2 (some .int) 0 0 := h
  show FW YM G C 2 x 0 [(0, vr G 0), (1, vi p)] []
  refine fr_aload_n h rfl 0 rfl dX12_refusesCursor_0 ?_
  refine fr_getc (z := 20) (iz := 32) h kX12 fX12_69 at_0M rfl rfl rfM_32 (by omega) dX12_refusesCursor_1 ?_
  refine fr_iload_n h rfl 1 rfl dX12_refusesCursor_4 ?_
  refine fr_iald h arM_20 (by omega) (by omega) (rrM_20 p) dX12_refusesCursor_5 (fun z1 w2 w3 q4 => ?_)
  refine fr_iconst h dX12_refusesCursor_6 ?_
  refine fr_icmp_ne (tgt := 15) h dX12_refusesCursor_7 (by decide) (by omega) (by omega) (fun c5 => ?_) (fun c5 => ?_)
  ·
    exfalso; omega
  ·
    refine fr_bipush h rfl dX12_refusesCursor_10 ?_
    refine fr_goto (tgt := 34) h dX12_refusesCursor_12 (by decide) ?_
    exact fr_iret h hq (by omega) ⟨(by omega), rfl⟩ dX12_refusesCursor_34
set_option maxHeartbeats 2000000 in
theorem f_X12_goes (x : Mm) (p : Int) (h_p : fm_r p) (e0 : GI x) (e1 : FRM x) : CnI YM yX12_goes cX12_goes 3 .int 1 22 (fun G => [vr G 0, vi p]) x (fun z y' => (¬ (0 ≤ p ∧ p < 3) → z = (-1)) ∧ (0 ≤ p ∧ p < 3 → z = (-3)) ∧ (∀ a : Int, (a < 0 ∨ 0 < a) → y' a = x a) ∧ (∀ i : Int, i ≠ 5 → y' 0 i = x 0 i)) := by
  refine cn_I (by decide) (fun _ => Nat.le_of_ble_eq_true rfl) (fun G C h hq => ?_)
  have h : OK YM G C cX12_goes RX12 3 (some .int) 1 22 := h
  show FW YM G C 3 x 0 [(0, vr G 0), (1, vi p)] []
  have e12 := e0.2.2.2
  obtain ⟨mZ, m103, m104, m105, m02, m04, m018, m037, m20, m27, m014, m15, m13, m14⟩ := e1
  have m102 := mZ 102 (by omega) (by omega)
  refine fr_aload_n h rfl 0 rfl dX12_goes_0 ?_
  refine fr_iconst h dX12_goes_1 ?_
  refine fr_puti (iz := 5) h kX12 fX12_94 at_0M rfl rfl (by decide) (by decide) rfl (by decide +kernel) rfM_5 (by omega) (by omega) dX12_goes_2 ?_
  refine fr_mem (fun x1 m2 => ?_)
  refine fr_iload_n h rfl 1 rfl dX12_goes_5 ?_
  refine fr_iconst h dX12_goes_6 ?_
  refine fr_iconst h dX12_goes_7 ?_
  refine fr_csI h wX12_in lX12_101 (c_X12_in x1 p 0 2 (by omega) (by omega) (by omega)) rfl (by decide) (by decide) rfl (Nat.le_of_ble_eq_true rfl) dX12_goes_8 (fun z4 x3 w5 p6 => ?_)
  obtain ⟨p7, p8, y9⟩ := p6
  rw [y9]
  clear y9
  refine fr_if_ne (tgt := 16) h dX12_goes_11 (by decide) (by omega) (fun c10 => ?_) (fun c10 => ?_)
  ·
    refine fr_aload_n h rfl 0 rfl dX12_goes_16 ?_
    refine fr_iload_n h rfl 1 rfl dX12_goes_17 ?_
    have hc20 := (congrFun (fm_up_row m2 (by omega)) p).trans (m20 p (by omega) (by omega))
    refine fr_cvI h kX12 at_0M wX12_refusesCursor lX12_342 (f_X12_refusesCursor x1 p (by omega) (by omega) (by omega) (by omega)) rfl (by decide) (by decide) rfl (Nat.le_of_ble_eq_true rfl) dX12_goes_18 (fun z12 x11 w13 p14 => ?_)
    obtain ⟨p15, y16⟩ := p14
    rw [y16]
    clear y16
    refine fr_istore_n (L' := [(0, vr G 0), (1, vi p), (2, vi z12)]) h rfl dX12_goes_21 (by decide) [1, 2, 0] rfl ?_
    refine fr_iload_n h rfl 2 rfl dX12_goes_22 ?_
    refine fr_if_ge (tgt := 28) h dX12_goes_23 (by decide) (by omega) (fun c17 => ?_) (fun c17 => ?_)
    ·
      exfalso; omega
    ·
      refine fr_iload_n h rfl 2 rfl dX12_goes_26 ?_
      exact fr_iret h hq (by omega) ⟨(by omega), (by omega), (fun a k0 => (fm_up_row m2 (by omega))), (fun i k0 => (fm_rd_i (a := 0) (b := i) m2 (by omega)))⟩ dX12_goes_27
  ·
    refine fr_iconst h dX12_goes_14 ?_
    exact fr_iret h hq (by omega) ⟨(by omega), (by omega), (fun a k0 => (fm_up_row m2 (by omega))), (fun i k0 => (fm_rd_i (a := 0) (b := i) m2 (by omega)))⟩ dX12_goes_15
set_option maxHeartbeats 2000000 in
theorem f_X12_skips (x : Mm) (p : Int) (n : Int) (h_p : fm_r p) (h_n : fm_r n) (e0 : GI x) (e1 : FRM x) : CnI YM yX12_skips cX12_skips 5 .int 1 22 (fun G => [vr G 0, vi p, vi n]) x (fun z y' => (¬ (0 ≤ p ∧ p < 3 ∧ 0 ≤ n ∧ n ≤ 400) → z = (-1)) ∧ (0 ≤ p ∧ p < 3 ∧ 0 ≤ n ∧ n ≤ 400 → z = (-3)) ∧ (∀ a : Int, (a < 0 ∨ 0 < a) → y' a = x a) ∧ (∀ i : Int, i ≠ 5 → y' 0 i = x 0 i)) := by
  refine cn_I (by decide) (fun _ => Nat.le_of_ble_eq_true rfl) (fun G C h hq => ?_)
  have h : OK YM G C cX12_skips RX12 5 (some .int) 1 22 := h
  show FW YM G C 5 x 0 [(0, vr G 0), (1, vi p), (2, vi n)] []
  have e12 := e0.2.2.2
  obtain ⟨mZ, m103, m104, m105, m02, m04, m018, m037, m20, m27, m014, m15, m13, m14⟩ := e1
  have m102 := mZ 102 (by omega) (by omega)
  refine fr_aload_n h rfl 0 rfl dX12_skips_0 ?_
  refine fr_iconst h dX12_skips_1 ?_
  refine fr_puti (iz := 5) h kX12 fX12_94 at_0M rfl rfl (by decide) (by decide) rfl (by decide +kernel) rfM_5 (by omega) (by omega) dX12_skips_2 ?_
  refine fr_mem (fun x1 m2 => ?_)
  refine fr_iload_n h rfl 1 rfl dX12_skips_5 ?_
  refine fr_iconst h dX12_skips_6 ?_
  refine fr_iconst h dX12_skips_7 ?_
  refine fr_csI h wX12_in lX12_101 (c_X12_in x1 p 0 2 (by omega) (by omega) (by omega)) rfl (by decide) (by decide) rfl (Nat.le_of_ble_eq_true rfl) dX12_skips_8 (fun z4 x3 w5 p6 => ?_)
  obtain ⟨p7, p8, y9⟩ := p6
  rw [y9]
  clear y9
  refine fr_if_eq (tgt := 25) h dX12_skips_11 (by decide) (by omega) (fun c10 => ?_) (fun c10 => ?_)
  ·
    refine fr_iconst h dX12_skips_25 ?_
    exact fr_iret h hq (by omega) ⟨(by omega), (by omega), (fun a k0 => (fm_up_row m2 (by omega))), (fun i k0 => (fm_rd_i (a := 0) (b := i) m2 (by omega)))⟩ dX12_skips_26
  ·
    refine fr_iload_n h rfl 2 rfl dX12_skips_14 ?_
    refine fr_iconst h dX12_skips_15 ?_
    refine fr_sipush h rfl dX12_skips_16 ?_
    refine fr_csI h wX12_in lX12_101 (c_X12_in x1 n 0 400 (by omega) (by omega) (by omega)) rfl (by decide) (by decide) rfl (Nat.le_of_ble_eq_true rfl) dX12_skips_19 (fun z12 x11 w13 p14 => ?_)
    obtain ⟨p15, p16, y17⟩ := p14
    rw [y17]
    clear y17
    refine fr_if_ne (tgt := 27) h dX12_skips_22 (by decide) (by omega) (fun c18 => ?_) (fun c18 => ?_)
    ·
      refine fr_aload_n h rfl 0 rfl dX12_skips_27 ?_
      refine fr_iload_n h rfl 1 rfl dX12_skips_28 ?_
      have hc20 := (congrFun (fm_up_row m2 (by omega)) p).trans (m20 p (by omega) (by omega))
      refine fr_cvI h kX12 at_0M wX12_refusesCursor lX12_342 (f_X12_refusesCursor x1 p (by omega) (by omega) (by omega) (by omega)) rfl (by decide) (by decide) rfl (Nat.le_of_ble_eq_true rfl) dX12_skips_29 (fun z20 x19 w21 p22 => ?_)
      obtain ⟨p23, y24⟩ := p22
      rw [y24]
      clear y24
      refine fr_istore_n (L' := [(0, vr G 0), (1, vi p), (2, vi n), (3, vi z20)]) h rfl dX12_skips_32 (by decide) [1, 2, 3, 0] rfl ?_
      refine fr_iload_n h rfl 3 rfl dX12_skips_33 ?_
      refine fr_if_ge (tgt := 39) h dX12_skips_34 (by decide) (by omega) (fun c25 => ?_) (fun c25 => ?_)
      ·
        exfalso; omega
      ·
        refine fr_iload_n h rfl 3 rfl dX12_skips_37 ?_
        exact fr_iret h hq (by omega) ⟨(by omega), (by omega), (fun a k0 => (fm_up_row m2 (by omega))), (fun i k0 => (fm_rd_i (a := 0) (b := i) m2 (by omega)))⟩ dX12_skips_38
    ·
      refine fr_iconst h dX12_skips_25 ?_
      exact fr_iret h hq (by omega) ⟨(by omega), (by omega), (fun a k0 => (fm_up_row m2 (by omega))), (fun i k0 => (fm_rd_i (a := 0) (b := i) m2 (by omega)))⟩ dX12_skips_26
set_option maxHeartbeats 200000 in
theorem f_X12_layFits (x : Mm) (k : Int) (h_k : fm_r k) (e0 : ∀ j : Int, 24 ≤ j → j ≤ 102 → x 1 j = 0) (e1 : x 1 103 = 0) (e2 : x 1 104 = 1) (e3 : x 1 105 = 0) (e4 : x 0 14 = 0) (e5 : 0 ≤ k) (e6 : k ≤ 4) (e7 : x 15 0 = 0) (e8 : x 13 0 = 0) (e9 : x 14 0 = 0) (e10 : x 0 37 = 0) : CnI YM yX12_layFits cX12_layFits 6 .int 207 6248 (fun G => [vr G 0, vi k]) x (fun z y' => (y' 0 26 = z) ∧ (k = 4 → z = 0) ∧ (k ≠ 4 → z = 1 ∧ y' 25 0 = 1) ∧ (y' 15 0 = 0) ∧ (y' 13 0 = 0) ∧ (y' 14 0 = 0) ∧ (∀ a : Int, (a < 0 ∨ 0 < a) → (a < 7 ∨ 7 < a) → (a < 12 ∨ 18 < a) → (a < 25 ∨ 25 < a) → y' a = x a) ∧ (∀ i : Int, i ≠ 6 → i ≠ 7 → i ≠ 8 → i ≠ 9 → i ≠ 10 → i ≠ 15 → i ≠ 26 → y' 0 i = x 0 i)) := by
  refine cn_I (by decide) (fun _ => Nat.le_of_ble_eq_true rfl) (fun G C h hq => ?_)
  have h : OK YM G C cX12_layFits RX12 6 (some .int) 207 6248 := h
  show FW YM G C 6 x 0 [(0, vr G 0), (1, vi k)] []
  have m102 := e0 102 (by omega) (by omega)
  refine fr_aload_n h rfl 0 rfl dX12_layFits_0 ?_
  refine fr_aload_n h rfl 0 rfl dX12_layFits_1 ?_
  refine fr_getc (z := 1) (iz := 0) h kX12 fX12_9 at_0M rfl rfl rfM_0 (by omega) dX12_layFits_2 ?_
  refine fr_iload_n h rfl 1 rfl dX12_layFits_5 ?_
  refine fr_cvI h kX12 at_0M wX12_layAll lX12_327 (f_X12_layAll x 1 SA_1 k (by omega) e0 (by omega) (by omega) (by omega) (by omega) (by omega) (by omega) (by omega) (by omega) (by omega) (by omega)) rfl (by decide) (by decide) rfl (Nat.le_of_ble_eq_true rfl) dX12_layFits_6 (fun z2 x1 w3 p4 => ?_)
  obtain ⟨p5, p6, p7, p8, p9, p10, p11, p12, f13, f14⟩ := p4
  refine fr_pop h rfl dX12_layFits_9 ?_
  refine fr_iconst h dX12_layFits_10 ?_
  refine fr_istore_n (L' := [(0, vr G 0), (1, vi k), (2, vi 0)]) h rfl dX12_layFits_11 (by decide) [1, 2, 0] rfl ?_
  refine fr_iconst h dX12_layFits_12 ?_
  refine fr_istore_n (L' := [(0, vr G 0), (1, vi k), (2, vi 0), (3, vi 0)]) h rfl dX12_layFits_13 (by decide) [1, 2, 3, 0] rfl ?_
  refine fr_iload_n h rfl 3 rfl dX12_layFits_14 ?_
  refine fr_aload_n h rfl 0 rfl dX12_layFits_15 ?_
  refine fr_geti (iz := 26) h kX12 fX12_276 at_0M rfl rfl (by decide) (by decide) rfM_26 dX12_layFits_16 (fun z15 w16 w17 q18 => ?_)
  refine fr_icmp_ge (tgt := 96) h dX12_layFits_19 (by decide) (by omega) (by omega) (fun c19 => ?_) (fun c19 => ?_)
  ·
    refine fr_iload_n h rfl 2 rfl dX12_layFits_96 ?_
    have r20 := (congrFun (f13 25 (by omega) (by omega) (by omega)) 0)
    exact fr_iret h hq (by omega) ⟨(by omega), (by omega), (by omega), (by omega), (by omega), (by omega), (fun a k0 k1 k2 k3 => (f13 a (by omega) (by omega) (by omega))), (fun i k0 k1 k2 k3 k4 k5 k6 => (f14 i (by omega) (by omega) (by omega) (by omega) (by omega) (by omega) (by omega)))⟩ dX12_layFits_97
  ·
    refine fr_iconst h dX12_layFits_22 ?_
    refine fr_istore (L' := [(0, vr G 0), (1, vi k), (2, vi 0), (3, vi 0), (4, vi 1)]) h dX12_layFits_23 (by decide) [1, 2, 3, 4, 0] rfl ?_
    refine fr_iconst h dX12_layFits_25 ?_
    refine fr_istore (L' := [(0, vr G 0), (1, vi k), (2, vi 0), (3, vi 0), (4, vi 1), (5, vi 0)]) h dX12_layFits_26 (by decide) [1, 2, 3, 4, 5, 0] rfl ?_
    refine fr_iload h 5 rfl dX12_layFits_28 ?_
    refine fr_aload_n h rfl 0 rfl dX12_layFits_30 ?_
    refine fr_geti (iz := 37) h kX12 fX12_348 at_0M rfl rfl (by decide) (by decide) rfM_37 dX12_layFits_31 (fun z21 w22 w23 q24 => ?_)
    have r25 := q24.trans (f14 37 (by decide) (by decide) (by decide) (by decide) (by decide) (by decide) (by decide))
    refine fr_icmp_ge (tgt := 69) h dX12_layFits_34 (by decide) (by omega) (by omega) (fun c26 => ?_) (fun c26 => ?_)
    ·
      refine fr_aload_n h rfl 0 rfl dX12_layFits_69 ?_
      refine fr_getc (z := 25) (iz := 38) h kX12 fX12_84 at_0M rfl rfl rfM_38 (by omega) dX12_layFits_70 ?_
      refine fr_iload_n h rfl 3 rfl dX12_layFits_73 ?_
      refine fr_iload h 4 rfl dX12_layFits_74 ?_
      refine fr_zast h arM_25 (by omega) (by omega) (rrM_25 0) (by omega) (by omega) (by omega) dX12_layFits_76 ?_
      refine fr_mem (fun x27 m28 => ?_)
      refine fr_iload_n h rfl 2 rfl dX12_layFits_77 ?_
      refine fr_iload h 4 rfl dX12_layFits_78 ?_
      refine fr_if_eq (tgt := 87) h dX12_layFits_80 (by decide) (by omega) (fun c29 => by exfalso; omega) (fun c29 => ?_)
      refine fr_iconst h dX12_layFits_83 ?_
      refine fr_goto (tgt := 88) h dX12_layFits_84 (by decide) ?_
      refine fr_iadd h dX12_layFits_88 ?_
      refine fr_istore_n (L' := [(0, vr G 0), (1, vi k), (2, vi (0 + 1)), (3, vi 0), (4, vi 1), (5, vi 0)]) h rfl dX12_layFits_89 (by decide) [1, 2, 0, 3, 4, 5] rfl ?_
      refine fr_iinc (j := 3) (L' := [(0, vr G 0), (1, vi k), (2, vi (0 + 1)), (3, vi (0 + 1)), (4, vi 1), (5, vi 0)]) h dX12_layFits_90 rfl (by decide) [1, 2, 3, 0, 4, 5] rfl ?_
      refine fr_goto (tgt := 14) h dX12_layFits_93 (by decide) ?_
      refine fr_iload_n h rfl 3 rfl dX12_layFits_14 ?_
      refine fr_aload_n h rfl 0 rfl dX12_layFits_15 ?_
      refine fr_geti (iz := 26) h kX12 fX12_276 at_0M rfl rfl (by decide) (by decide) rfM_26 dX12_layFits_16 (fun z30 w31 w32 q33 => ?_)
      have r34 := q33.trans (fm_rd_k (a := 0) (b := 26) m28 (by omega))
      refine fr_icmp_ge (tgt := 96) h dX12_layFits_19 (by decide) (by omega) (by omega) (fun c35 => ?_) (fun c35 => ?_)
      ·
        refine fr_iload_n h rfl 2 rfl dX12_layFits_96 ?_
        have r36 := (fm_rd_k (a := 0) (b := 26) m28 (by omega))
        have r37 := (fm_rd_s m28)
        have r38 := (fm_rd_k (a := 15) (b := 0) m28 (by omega))
        have r39 := (fm_rd_k (a := 13) (b := 0) m28 (by omega))
        have r40 := (fm_rd_k (a := 14) (b := 0) m28 (by omega))
        exact fr_iret h hq (by omega) ⟨(by omega), (by omega), (by omega), (by omega), (by omega), (by omega), (fun a k0 k1 k2 k3 => ((fm_up_row m28 (by omega)).trans (f13 a (by omega) (by omega) (by omega)))), (fun i k0 k1 k2 k3 k4 k5 k6 => ((fm_rd_k (a := 0) (b := i) m28 (by omega)).trans (f14 i (by omega) (by omega) (by omega) (by omega) (by omega) (by omega) (by omega))))⟩ dX12_layFits_97
      ·
        exfalso; omega
    ·
      exfalso; omega
set_option maxHeartbeats 2000000 in
theorem f_X12_fits (x : Mm) (k : Int) (h_k : fm_r k) (e0 : GI x) (e1 : FRM x) : CnI YM yX12_fits cX12_fits 4 .int 208 6273 (fun G => [vr G 0, vi k]) x (fun z y' => (¬ (0 ≤ k ∧ k < 5) → z = (-1)) ∧ ((0 ≤ k ∧ k < 5) → k ≠ 4 → z = 1) ∧ ((0 ≤ k ∧ k < 5) → k = 4 → z = 0) ∧ (∀ a : Int, (a < 0 ∨ 0 < a) → (a < 3 ∨ 3 < a) → (a < 25 ∨ 25 < a) → (a < 7 ∨ 7 < a) → (a < 12 ∨ 18 < a) → y' a = x a) ∧ (∀ i : Int, i ≠ 4 → i ≠ 5 → i ≠ 6 → i ≠ 7 → i ≠ 8 → i ≠ 9 → i ≠ 10 → i ≠ 15 → i ≠ 26 → y' 0 i = x 0 i)) := by
  refine cn_I (by decide) (fun _ => Nat.le_of_ble_eq_true rfl) (fun G C h hq => ?_)
  have h : OK YM G C cX12_fits RX12 4 (some .int) 208 6273 := h
  show FW YM G C 4 x 0 [(0, vr G 0), (1, vi k)] []
  have e12 := e0.2.2.2
  obtain ⟨mZ, m103, m104, m105, m02, m04, m018, m037, m20, m27, m014, m15, m13, m14⟩ := e1
  have m102 := mZ 102 (by omega) (by omega)
  refine fr_aload_n h rfl 0 rfl dX12_fits_0 ?_
  refine fr_iconst h dX12_fits_1 ?_
  refine fr_puti (iz := 5) h kX12 fX12_94 at_0M rfl rfl (by decide) (by decide) rfl (by decide +kernel) rfM_5 (by omega) (by omega) dX12_fits_2 ?_
  refine fr_mem (fun x1 m2 => ?_)
  refine fr_iload_n h rfl 1 rfl dX12_fits_5 ?_
  refine fr_csI h wX12_isKind lX12_324 (c_X12_isKind x1 k (by omega)) rfl (by decide) (by decide) rfl (Nat.le_of_ble_eq_true rfl) dX12_fits_6 (fun z4 x3 w5 p6 => ?_)
  obtain ⟨p7, p8, y9⟩ := p6
  rw [y9]
  clear y9
  refine fr_if_ne (tgt := 14) h dX12_fits_9 (by decide) (by omega) (fun c10 => ?_) (fun c10 => ?_)
  ·
    refine fr_aload_n h rfl 0 rfl dX12_fits_14 ?_
    refine fr_iload_n h rfl 1 rfl dX12_fits_15 ?_
    have r11 := (fm_rd_k (a := 1) (b := 103) m2 (by omega))
    have r12 := (fm_rd_k (a := 1) (b := 104) m2 (by omega))
    have r13 := (fm_rd_k (a := 1) (b := 105) m2 (by omega))
    have r14 := (fm_rd_i (a := 0) (b := 14) m2 (by decide))
    have r15 := (fm_rd_k (a := 15) (b := 0) m2 (by omega))
    have r16 := (fm_rd_k (a := 13) (b := 0) m2 (by omega))
    have r17 := (fm_rd_k (a := 14) (b := 0) m2 (by omega))
    have r18 := (fm_rd_i (a := 0) (b := 37) m2 (by decide))
    refine fr_cvI h kX12 at_0M wX12_layFits lX12_354 (f_X12_layFits x1 k (by omega) (fun j a c => (congrFun (fm_up_row m2 (by omega)) j).trans (mZ j a c)) (by omega) (by omega) (by omega) (by omega) (by omega) (by omega) (by omega) (by omega) (by omega) (by omega)) rfl (by decide) (by decide) rfl (Nat.le_of_ble_eq_true rfl) dX12_fits_16 (fun z20 x19 w21 p22 => ?_)
    obtain ⟨p23, p24, p25, p26, p27, p28, f29, f30⟩ := p22
    refine fr_istore_n (L' := [(0, vr G 0), (1, vi k), (2, vi z20)]) h rfl dX12_fits_19 (by decide) [1, 2, 0] rfl ?_
    refine fr_aload_n h rfl 0 rfl dX12_fits_20 ?_
    refine fr_iconst h dX12_fits_21 ?_
    refine fr_puti (iz := 4) h kX12 fX12_98 at_0M rfl rfl (by decide) (by decide) rfl (by decide +kernel) rfM_4 (by omega) (by omega) dX12_fits_22 ?_
    refine fr_mem (fun x31 m32 => ?_)
    refine fr_iconst h dX12_fits_25 ?_
    refine fr_istore_n (L' := [(0, vr G 0), (1, vi k), (2, vi z20), (3, vi 1)]) h rfl dX12_fits_26 (by decide) [1, 2, 3, 0] rfl ?_
    refine fr_iload_n h rfl 3 rfl dX12_fits_27 ?_
    refine fr_aload_n h rfl 0 rfl dX12_fits_28 ?_
    refine fr_geti (iz := 26) h kX12 fX12_276 at_0M rfl rfl (by decide) (by decide) rfM_26 dX12_fits_29 (fun z33 w34 w35 q36 => ?_)
    have r37 := q36.trans (fm_rd_i (a := 0) (b := 26) m32 (by decide))
    have r38 := (fm_rd_i (a := 0) (b := 26) m2 (by decide))
    refine fr_icmp_gt (tgt := 70) h dX12_fits_32 (by decide) (by omega) (by omega) (fun c39 => ?_) (fun c39 => ?_)
    ·
      refine fr_iload_n h rfl 2 rfl dX12_fits_70 ?_
      exact fr_iret h hq (by omega) ⟨(by omega), (by omega), (by omega), (fun a k0 k1 k2 k3 k4 => ((fm_up_row m32 (by omega)).trans ((f29 a (by omega) (by omega) (by omega) (by omega)).trans (fm_up_row m2 (by omega))))), (fun i k0 k1 k2 k3 k4 k5 k6 k7 k8 => ((fm_rd_i (a := 0) (b := i) m32 (by omega)).trans ((f30 i (by omega) (by omega) (by omega) (by omega) (by omega) (by omega) (by omega)).trans (fm_rd_i (a := 0) (b := i) m2 (by omega)))))⟩ dX12_fits_71
    ·
      refine fr_aload_n h rfl 0 rfl dX12_fits_35 ?_
      refine fr_geti (iz := 4) h kX12 fX12_98 at_0M rfl rfl (by decide) (by decide) rfM_4 dX12_fits_36 (fun z40 w41 w42 q43 => ?_)
      have r44 := q43.trans (fm_rd_s m32)
      refine fr_if_ne (tgt := 70) h dX12_fits_39 (by decide) (by omega) (fun c45 => ?_) (fun c45 => ?_)
      ·
        exfalso; omega
      ·
        refine fr_aload_n h rfl 0 rfl dX12_fits_42 ?_
        refine fr_getc (z := 25) (iz := 38) h kX12 fX12_84 at_0M rfl rfl rfM_38 (by omega) dX12_fits_43 ?_
        refine fr_aload_n h rfl 0 rfl dX12_fits_46 ?_
        refine fr_getc (z := 15) (iz := 27) h kX12 fX12_54 at_0M rfl rfl rfM_27 (by omega) dX12_fits_47 ?_
        refine fr_iload_n h rfl 3 rfl dX12_fits_50 ?_
        refine fr_iconst h dX12_fits_51 ?_
        refine fr_isub h dX12_fits_52 ?_
        have kz15 : x19 15 (1 - 1) = x19 15 0 := by rw [show ((1 - 1) : Int) = 0 by omega]
        refine fr_iald h arM_15 (by omega) (by omega) (rrM_15 (1 - 1)) dX12_fits_53 (fun z46 w47 w48 q49 => ?_)
        have r50 := q49.trans (fm_rd_k (a := 15) (b := (1 - 1)) m32 (by omega))
        have r51 := (fm_rd_k (a := 15) (b := (1 - 1)) m2 (by omega))
        have kz25 : x19 25 z46 = x19 25 0 := by rw [show (z46 : Int) = 0 by omega]
        refine fr_zald h arM_25 (by omega) (by omega) (rrM_25 z46) dX12_fits_54 (fun z52 w53 w54 q55 => ?_)
        have r56 := q55.trans (fm_rd_k (a := 25) (b := z46) m32 (by omega))
        have r57 := (fm_rd_k (a := 25) (b := z46) m2 (by omega))
        refine fr_if_eq (tgt := 64) h dX12_fits_55 (by decide) (by omega) (fun c58 => ?_) (fun c58 => ?_)
        ·
          exfalso; omega
        ·
          refine fr_aload_n h rfl 0 rfl dX12_fits_58 ?_
          refine fr_iload_n h rfl 3 rfl dX12_fits_59 ?_
          refine fr_i2l h (by omega) dX12_fits_60 ?_
          have r59 := (fm_rd_s m32)
          refine fr_cvV h kX12 at_0M wX12_tell lX12_269 (c_X12_tell x31 1 (by omega) (by omega)) rfl (by decide) (by decide) rfl (Nat.le_of_ble_eq_true rfl) dX12_fits_61 (fun x60 p63 => ?_)
          obtain ⟨p64, f65, f66⟩ := p63
          refine fr_iinc (j := 3) (L' := [(0, vr G 0), (1, vi k), (2, vi z20), (3, vi (1 + 1))]) h dX12_fits_64 rfl (by decide) [1, 2, 3, 0] rfl ?_
          refine fr_goto (tgt := 27) h dX12_fits_67 (by decide) ?_
          refine fr_iload_n h rfl 3 rfl dX12_fits_27 ?_
          refine fr_aload_n h rfl 0 rfl dX12_fits_28 ?_
          refine fr_geti (iz := 26) h kX12 fX12_276 at_0M rfl rfl (by decide) (by decide) rfM_26 dX12_fits_29 (fun z67 w68 w69 q70 => ?_)
          have r71 := q70.trans (f66 26 (by decide))
          have r72 := r71.trans (fm_rd_i (a := 0) (b := 26) m32 (by decide))
          have r73 := (fm_rd_i (a := 0) (b := 26) m2 (by decide))
          refine fr_icmp_gt (tgt := 70) h dX12_fits_32 (by decide) (by omega) (by omega) (fun c74 => ?_) (fun c74 => ?_)
          ·
            refine fr_iload_n h rfl 2 rfl dX12_fits_70 ?_
            exact fr_iret h hq (by omega) ⟨(by omega), (by omega), (by omega), (fun a k0 k1 k2 k3 k4 => ((f65 a (by omega) (by omega)).trans ((fm_up_row m32 (by omega)).trans ((f29 a (by omega) (by omega) (by omega) (by omega)).trans (fm_up_row m2 (by omega)))))), (fun i k0 k1 k2 k3 k4 k5 k6 k7 k8 => ((f66 i (by omega)).trans ((fm_rd_i (a := 0) (b := i) m32 (by omega)).trans ((f30 i (by omega) (by omega) (by omega) (by omega) (by omega) (by omega) (by omega)).trans (fm_rd_i (a := 0) (b := i) m2 (by omega))))))⟩ dX12_fits_71
          ·
            exfalso; omega
  ·
    refine fr_iconst h dX12_fits_12 ?_
    exact fr_iret h hq (by omega) ⟨(by omega), (by omega), (by omega), (fun a k0 k1 k2 k3 k4 => (fm_up_row m2 (by omega))), (fun i k0 k1 k2 k3 k4 k5 k6 k7 k8 => (fm_rd_i (a := 0) (b := i) m2 (by omega)))⟩ dX12_fits_13
set_option maxHeartbeats 4000000 in
theorem f_X12_asks (x : Mm) (k : Int) (h_k : fm_r k) (e0 : GI x) (e1 : FRM x) : CnI YM yX12_asks cX12_asks 9 .int 208 6273 (fun G => [vr G 0, vi k]) x (fun z y' => (¬ (0 ≤ k ∧ k < 5) → z = (-1)) ∧ ((0 ≤ k ∧ k < 5) → k ≠ 4 → z = 0) ∧ ((0 ≤ k ∧ k < 5) → k = 4 → z = (-2)) ∧ (∀ a : Int, (a < 0 ∨ 0 < a) → (a < 3 ∨ 3 < a) → (a < 25 ∨ 25 < a) → (a < 7 ∨ 7 < a) → (a < 12 ∨ 18 < a) → y' a = x a) ∧ (∀ i : Int, i ≠ 4 → i ≠ 5 → i ≠ 6 → i ≠ 7 → i ≠ 8 → i ≠ 9 → i ≠ 10 → i ≠ 15 → i ≠ 26 → y' 0 i = x 0 i)) := by
  refine cn_I (by decide) (fun _ => Nat.le_of_ble_eq_true rfl) (fun G C h hq => ?_)
  have h : OK YM G C cX12_asks RX12 9 (some .int) 208 6273 := h
  show FW YM G C 9 x 0 [(0, vr G 0), (1, vi k)] []
  have e12 := e0.2.2.2
  obtain ⟨mZ, m103, m104, m105, m02, m04, m018, m037, m20, m27, m014, m15, m13, m14⟩ := e1
  have m102 := mZ 102 (by omega) (by omega)
  refine fr_aload_n h rfl 0 rfl dX12_asks_0 ?_
  refine fr_iconst h dX12_asks_1 ?_
  refine fr_puti (iz := 5) h kX12 fX12_94 at_0M rfl rfl (by decide) (by decide) rfl (by decide +kernel) rfM_5 (by omega) (by omega) dX12_asks_2 ?_
  refine fr_mem (fun x1 m2 => ?_)
  refine fr_iload_n h rfl 1 rfl dX12_asks_5 ?_
  refine fr_csI h wX12_isKind lX12_324 (c_X12_isKind x1 k (by omega)) rfl (by decide) (by decide) rfl (Nat.le_of_ble_eq_true rfl) dX12_asks_6 (fun z4 x3 w5 p6 => ?_)
  obtain ⟨p7, p8, y9⟩ := p6
  rw [y9]
  clear y9
  refine fr_if_ne (tgt := 14) h dX12_asks_9 (by decide) (by omega) (fun c10 => ?_) (fun c10 => ?_)
  ·
    refine fr_aload_n h rfl 0 rfl dX12_asks_14 ?_
    refine fr_iload_n h rfl 1 rfl dX12_asks_15 ?_
    have r11 := (fm_rd_k (a := 1) (b := 103) m2 (by omega))
    have r12 := (fm_rd_k (a := 1) (b := 104) m2 (by omega))
    have r13 := (fm_rd_k (a := 1) (b := 105) m2 (by omega))
    have r14 := (fm_rd_i (a := 0) (b := 14) m2 (by decide))
    have r15 := (fm_rd_k (a := 15) (b := 0) m2 (by omega))
    have r16 := (fm_rd_k (a := 13) (b := 0) m2 (by omega))
    have r17 := (fm_rd_k (a := 14) (b := 0) m2 (by omega))
    have r18 := (fm_rd_i (a := 0) (b := 37) m2 (by decide))
    refine fr_cvI h kX12 at_0M wX12_layFits lX12_354 (f_X12_layFits x1 k (by omega) (fun j a c => (congrFun (fm_up_row m2 (by omega)) j).trans (mZ j a c)) (by omega) (by omega) (by omega) (by omega) (by omega) (by omega) (by omega) (by omega) (by omega) (by omega)) rfl (by decide) (by decide) rfl (Nat.le_of_ble_eq_true rfl) dX12_asks_16 (fun z20 x19 w21 p22 => ?_)
    obtain ⟨p23, p24, p25, p26, p27, p28, f29, f30⟩ := p22
    refine fr_istore_n (L' := [(0, vr G 0), (1, vi k), (2, vi z20)]) h rfl dX12_asks_19 (by decide) [1, 2, 0] rfl ?_
    refine fr_iload_n h rfl 2 rfl dX12_asks_20 ?_
    refine fr_if_ne (tgt := 27) h dX12_asks_21 (by decide) (by omega) (fun c31 => ?_) (fun c31 => ?_)
    ·
      refine fr_iconst h dX12_asks_27 ?_
      refine fr_istore_n (L' := [(0, vr G 0), (1, vi k), (2, vi z20), (3, vi (-1))]) h rfl dX12_asks_28 (by decide) [1, 2, 3, 0] rfl ?_
      refine fr_ldcw (z := 1000000) h (by exact tb_7 (i := 205) (by decide +kernel) (by decide +kernel)) rfl dX12_asks_29 ?_
      refine fr_istore (L' := [(0, vr G 0), (1, vi k), (2, vi z20), (3, vi (-1)), (4, vi 1000000)]) h dX12_asks_32 (by decide) [1, 2, 3, 4, 0] rfl ?_
      refine fr_iconst h dX12_asks_34 ?_
      refine fr_istore (L' := [(0, vr G 0), (1, vi k), (2, vi z20), (3, vi (-1)), (4, vi 1000000), (5, vi 0)]) h dX12_asks_35 (by decide) [1, 2, 3, 4, 5, 0] rfl ?_
      have HL32 : ∀ (n32 : Nat) (l3_32 l4_32 l5_32 : Int), fm_r l3_32 → (-1) ≤ l3_32 → l3_32 ≤ 430 → fm_r l4_32 → (-1300) ≤ l4_32 → l4_32 ≤ 1000000 → fm_r l5_32 → 0 ≤ l5_32 → l5_32 ≤ 5 → ((l5_32 = 0 ∧ l3_32 = (-1) ∧ l4_32 = 1000000) ∨ (l3_32 = 0 ∧ l4_32 = 1)) → (5 - l5_32) < n32 → FW YM G C 9 x19 37 [(0, vr G 0), (1, vi k), (2, vi z20), (3, vi l3_32), (4, vi l4_32), (5, vi l5_32)] [] := by
        intro n32
        induction n32 with
        | zero =>
          intro l3_32 l4_32 l5_32 g32_0 g32_1 g32_2 g32_3 g32_4 g32_5 g32_6 g32_7 g32_8 g32_9 g32_10
          exfalso; omega
        | succ n32 ih32 =>
          intro l3_32 l4_32 l5_32 g32_0 g32_1 g32_2 g32_3 g32_4 g32_5 g32_6 g32_7 g32_8 g32_9 g32_10
          refine fr_iload h 5 rfl dX12_asks_37 ?_
          refine fr_iconst h dX12_asks_39 ?_
          refine fr_icmp_ge (tgt := 156) h dX12_asks_40 (by decide) (by omega) (by omega) (fun c33 => ?_) (fun c33 => ?_)
          ·
            refine fr_aload_n h rfl 0 rfl dX12_asks_156 ?_
            refine fr_iconst h dX12_asks_157 ?_
            refine fr_puti (iz := 4) h kX12 fX12_98 at_0M rfl rfl (by decide) (by decide) rfl (by decide +kernel) rfM_4 (by omega) (by omega) dX12_asks_158 ?_
            refine fr_mem (fun x34 m35 => ?_)
            refine fr_aload_n h rfl 0 rfl dX12_asks_161 ?_
            refine fr_iload h 4 rfl dX12_asks_162 ?_
            refine fr_i2l h (by omega) dX12_asks_164 ?_
            have r36 := (fm_rd_s m35)
            refine fr_cvV h kX12 at_0M wX12_tell lX12_269 (c_X12_tell x34 l4_32 (by omega) (by omega)) rfl (by decide) (by decide) rfl (Nat.le_of_ble_eq_true rfl) dX12_asks_165 (fun x37 p40 => ?_)
            obtain ⟨p41, f42, f43⟩ := p40
            refine fr_iload_n h rfl 3 rfl dX12_asks_168 ?_
            exact fr_iret h hq (by omega) ⟨(by omega), (by omega), (by omega), (fun a k0 k1 k2 k3 k4 => ((f42 a (by omega) (by omega)).trans ((fm_up_row m35 (by omega)).trans ((f29 a (by omega) (by omega) (by omega) (by omega)).trans (fm_up_row m2 (by omega)))))), (fun i k0 k1 k2 k3 k4 k5 k6 k7 k8 => ((f43 i (by omega)).trans ((fm_rd_i (a := 0) (b := i) m35 (by omega)).trans ((f30 i (by omega) (by omega) (by omega) (by omega) (by omega) (by omega) (by omega)).trans (fm_rd_i (a := 0) (b := i) m2 (by omega))))))⟩ dX12_asks_169
          ·
            refine fr_iconst h dX12_asks_43 ?_
            refine fr_istore (L' := [(0, vr G 0), (1, vi k), (2, vi z20), (3, vi l3_32), (4, vi l4_32), (5, vi l5_32), (6, vi 0)]) h dX12_asks_44 (by decide) [1, 2, 3, 4, 5, 6, 0] rfl ?_
            have HL44 : ∀ (n44 : Nat) (l3_44 l4_44 l6_44 : Int), fm_r l3_44 → (-1) ≤ l3_44 → l3_44 ≤ 430 → fm_r l4_44 → (-1300) ≤ l4_44 → l4_44 ≤ 1000000 → fm_r l6_44 → 0 ≤ l6_44 → l6_44 ≤ 31 → ((l5_32 = 0 ∧ l6_44 = 0 ∧ l3_44 = (-1) ∧ l4_44 = 1000000) ∨ (l3_44 = 0 ∧ l4_44 = 1)) → (31 - l6_44) < n44 → FW YM G C 9 x19 46 [(0, vr G 0), (1, vi k), (2, vi z20), (3, vi l3_44), (4, vi l4_44), (5, vi l5_32), (6, vi l6_44)] [] := by
              intro n44
              induction n44 with
              | zero =>
                intro l3_44 l4_44 l6_44 g44_0 g44_1 g44_2 g44_3 g44_4 g44_5 g44_6 g44_7 g44_8 g44_9 g44_10
                exfalso; omega
              | succ n44 ih44 =>
                intro l3_44 l4_44 l6_44 g44_0 g44_1 g44_2 g44_3 g44_4 g44_5 g44_6 g44_7 g44_8 g44_9 g44_10
                refine fr_iload h 6 rfl dX12_asks_46 ?_
                refine fr_iload h 5 rfl dX12_asks_48 ?_
                refine fr_csI h wX12_highOf lX12_345 (c_X12_highOf x19 l5_32 (by omega)) rfl (by decide) (by decide) rfl (Nat.le_of_ble_eq_true rfl) dX12_asks_50 (fun z46 x45 w47 p48 => ?_)
                obtain ⟨p49, p50, p51, p52, p53, y54⟩ := p48
                rw [y54]
                clear y54
                refine fr_icmp_gt (tgt := 150) h dX12_asks_53 (by decide) (by omega) (by omega) (fun c55 => ?_) (fun c55 => ?_)
                ·
                  refine fr_iinc (j := 5) (L' := [(0, vr G 0), (1, vi k), (2, vi z20), (3, vi l3_44), (4, vi l4_44), (5, vi (l5_32 + 1)), (6, vi l6_44)]) h dX12_asks_150 rfl (by decide) [1, 2, 3, 4, 5, 0, 6] rfl ?_
                  refine fr_goto (tgt := 37) h dX12_asks_153 (by decide) ?_
                  refine fr_sub (L' := [(0, vr G 0), (1, vi k), (2, vi z20), (3, vi l3_44), (4, vi l4_44), (5, vi (l5_32 + 1))]) [0, 1, 2, 3, 4, 5] rfl ?_
                  exact ih32 l3_44 l4_44 (l5_32 + 1) (by omega) (by omega) (by omega) (by omega) (by omega) (by omega) (by omega) (by omega) (by omega) (by omega) (by omega)
                ·
                  refine fr_iconst h dX12_asks_56 ?_
                  refine fr_istore (L' := [(0, vr G 0), (1, vi k), (2, vi z20), (3, vi l3_44), (4, vi l4_44), (5, vi l5_32), (6, vi l6_44), (7, vi 0)]) h dX12_asks_57 (by decide) [1, 2, 3, 4, 5, 6, 7, 0] rfl ?_
                  refine fr_iconst h dX12_asks_59 ?_
                  refine fr_istore (L' := [(0, vr G 0), (1, vi k), (2, vi z20), (3, vi l3_44), (4, vi l4_44), (5, vi l5_32), (6, vi l6_44), (7, vi 0), (8, vi 0)]) h dX12_asks_60 (by decide) [1, 2, 3, 4, 5, 6, 7, 8, 0] rfl ?_
                  have HL56 : ∀ (n56 : Nat) (l7_56 l8_56 : Int), fm_r l7_56 → 0 ≤ l7_56 → l7_56 ≤ 1300 → fm_r l8_56 → 0 ≤ l8_56 → l8_56 ≤ 1300 → 0 ≤ l7_56 → l7_56 ≤ l8_56 → l8_56 ≤ 1 → (1300 - l8_56) < n56 → FW YM G C 9 x19 62 [(0, vr G 0), (1, vi k), (2, vi z20), (3, vi l3_44), (4, vi l4_44), (5, vi l5_32), (6, vi l6_44), (7, vi l7_56), (8, vi l8_56)] [] := by
                    intro n56
                    induction n56 with
                    | zero =>
                      intro l7_56 l8_56 g56_0 g56_1 g56_2 g56_3 g56_4 g56_5 g56_6 g56_7 g56_8 g56_9
                      exfalso; omega
                    | succ n56 ih56 =>
                      intro l7_56 l8_56 g56_0 g56_1 g56_2 g56_3 g56_4 g56_5 g56_6 g56_7 g56_8 g56_9
                      refine fr_iload h 8 rfl dX12_asks_62 ?_
                      refine fr_aload_n h rfl 0 rfl dX12_asks_64 ?_
                      refine fr_geti (iz := 26) h kX12 fX12_276 at_0M rfl rfl (by decide) (by decide) rfM_26 dX12_asks_65 (fun z57 w58 w59 q60 => ?_)
                      have r61 := (fm_rd_i (a := 0) (b := 26) m2 (by decide))
                      refine fr_icmp_ge (tgt := 110) h dX12_asks_68 (by decide) (by omega) (by omega) (fun c62 => ?_) (fun c62 => ?_)
                      ·
                        refine fr_iload h 7 rfl dX12_asks_110 ?_
                        refine fr_iload_n h rfl 2 rfl dX12_asks_112 ?_
                        refine fr_iload h 7 rfl dX12_asks_113 ?_
                        refine fr_isub h dX12_asks_115 ?_
                        refine fr_normi (fun z63 w64 q65 => ?_)
                        have w66 : fm_r ((z20 - l7_56)) → z63 = (z20 - l7_56) := fun q => (iI_inj q w64 q65).symm
                        refine fr_mmax h (by omega) (by omega) (tb_6 (i := 220) (by decide +kernel) (by decide +kernel)) w_mmax (by decide) (by decide) (Nat.le_of_ble_eq_true rfl) dX12_asks_116 (fun z67 w68 w69 w70 => ?_)
                        refine fr_istore (L' := [(0, vr G 0), (1, vi k), (2, vi z20), (3, vi l3_44), (4, vi l4_44), (5, vi l5_32), (6, vi l6_44), (7, vi l7_56), (8, vi z67)]) h dX12_asks_119 (by decide) [1, 2, 3, 4, 5, 6, 7, 8, 0] rfl ?_
                        refine fr_iload h 8 rfl dX12_asks_121 ?_
                        refine fr_iload h 4 rfl dX12_asks_123 ?_
                        refine fr_icmp_lt (tgt := 131) h dX12_asks_125 (by decide) (by omega) (by omega) (fun c71 => ?_) (fun c71 => ?_)
                        ·
                          refine fr_bipush h rfl dX12_asks_131 ?_
                          refine fr_iload h 5 rfl dX12_asks_133 ?_
                          refine fr_imul h dX12_asks_135 ?_
                          refine fr_iload h 6 rfl dX12_asks_136 ?_
                          refine fr_iadd h dX12_asks_138 ?_
                          refine fr_istore_n (L' := [(0, vr G 0), (1, vi k), (2, vi z20), (3, vi ((100 * l5_32) + l6_44)), (4, vi l4_44), (5, vi l5_32), (6, vi l6_44), (7, vi l7_56), (8, vi z67)]) h rfl dX12_asks_139 (by decide) [1, 2, 3, 0, 4, 5, 6, 7, 8] rfl ?_
                          refine fr_iload h 8 rfl dX12_asks_140 ?_
                          refine fr_istore (L' := [(0, vr G 0), (1, vi k), (2, vi z20), (3, vi ((100 * l5_32) + l6_44)), (4, vi z67), (5, vi l5_32), (6, vi l6_44), (7, vi l7_56), (8, vi z67)]) h dX12_asks_142 (by decide) [1, 2, 3, 4, 0, 5, 6, 7, 8] rfl ?_
                          refine fr_iinc (j := 6) (L' := [(0, vr G 0), (1, vi k), (2, vi z20), (3, vi ((100 * l5_32) + l6_44)), (4, vi z67), (5, vi l5_32), (6, vi (l6_44 + 1)), (7, vi l7_56), (8, vi z67)]) h dX12_asks_144 rfl (by decide) [1, 2, 3, 4, 5, 6, 0, 7, 8] rfl ?_
                          refine fr_goto (tgt := 46) h dX12_asks_147 (by decide) ?_
                          refine fr_sub (L' := [(0, vr G 0), (1, vi k), (2, vi z20), (3, vi ((100 * l5_32) + l6_44)), (4, vi z67), (5, vi l5_32), (6, vi (l6_44 + 1))]) [0, 1, 2, 3, 4, 5, 6] rfl ?_
                          exact ih44 ((100 * l5_32) + l6_44) z67 (l6_44 + 1) (by omega) (by omega) (by omega) (by omega) (by omega) (by omega) (by omega) (by omega) (by omega) (by omega) (by omega)
                        ·
                          refine fr_goto (tgt := 144) h dX12_asks_128 (by decide) ?_
                          refine fr_iinc (j := 6) (L' := [(0, vr G 0), (1, vi k), (2, vi z20), (3, vi l3_44), (4, vi l4_44), (5, vi l5_32), (6, vi (l6_44 + 1)), (7, vi l7_56), (8, vi z67)]) h dX12_asks_144 rfl (by decide) [1, 2, 3, 4, 5, 6, 0, 7, 8] rfl ?_
                          refine fr_goto (tgt := 46) h dX12_asks_147 (by decide) ?_
                          refine fr_sub (L' := [(0, vr G 0), (1, vi k), (2, vi z20), (3, vi l3_44), (4, vi l4_44), (5, vi l5_32), (6, vi (l6_44 + 1))]) [0, 1, 2, 3, 4, 5, 6] rfl ?_
                          exact ih44 l3_44 l4_44 (l6_44 + 1) (by omega) (by omega) (by omega) (by omega) (by omega) (by omega) (by omega) (by omega) (by omega) (by omega) (by omega)
                      ·
                        refine fr_iload h 7 rfl dX12_asks_71 ?_
                        refine fr_aload_n h rfl 0 rfl dX12_asks_73 ?_
                        refine fr_getc (z := 25) (iz := 38) h kX12 fX12_84 at_0M rfl rfl rfM_38 (by omega) dX12_asks_74 ?_
                        refine fr_iload h 8 rfl dX12_asks_77 ?_
                        refine fr_zald h arM_25 (by omega) (by omega) (rrM_25 l8_56) dX12_asks_79 (fun z72 w73 w74 q75 => ?_)
                        have r76 := (fm_rd_k (a := 25) (b := l8_56) m2 (by omega))
                        refine fr_if_eq (tgt := 100) h dX12_asks_80 (by decide) (by omega) (fun c77 => ?_) (fun c77 => ?_)
                        ·
                          refine fr_iconst h dX12_asks_100 ?_
                          refine fr_iadd h dX12_asks_101 ?_
                          refine fr_istore (L' := [(0, vr G 0), (1, vi k), (2, vi z20), (3, vi l3_44), (4, vi l4_44), (5, vi l5_32), (6, vi l6_44), (7, vi (l7_56 + 0)), (8, vi l8_56)]) h dX12_asks_102 (by decide) [1, 2, 3, 4, 5, 6, 7, 0, 8] rfl ?_
                          refine fr_iinc (j := 8) (L' := [(0, vr G 0), (1, vi k), (2, vi z20), (3, vi l3_44), (4, vi l4_44), (5, vi l5_32), (6, vi l6_44), (7, vi (l7_56 + 0)), (8, vi (l8_56 + 1))]) h dX12_asks_104 rfl (by decide) [1, 2, 3, 4, 5, 6, 7, 8, 0] rfl ?_
                          refine fr_goto (tgt := 62) h dX12_asks_107 (by decide) ?_
                          exact ih56 (l7_56 + 0) (l8_56 + 1) (by omega) (by omega) (by omega) (by omega) (by omega) (by omega) (by omega) (by omega) (by omega) (by omega)
                        ·
                          refine fr_aload_n h rfl 0 rfl dX12_asks_83 ?_
                          refine fr_iload h 8 rfl dX12_asks_84 ?_
                          refine fr_iload h 5 rfl dX12_asks_86 ?_
                          refine fr_iload h 6 rfl dX12_asks_88 ?_
                          refine fr_cvI h kX12 at_0M wX12_isSo lX12_351 (c_X12_isSo x19 l8_56 l5_32 l6_44 (by omega) (by omega) (by omega) (by omega) (by omega)) rfl (by decide) (by decide) rfl (Nat.le_of_ble_eq_true rfl) dX12_asks_90 (fun z79 x78 w80 p81 => ?_)
                          obtain ⟨p82, y83⟩ := p81
                          rw [y83]
                          clear y83
                          refine fr_if_eq (tgt := 100) h dX12_asks_93 (by decide) (by omega) (fun c84 => ?_) (fun c84 => ?_)
                          ·
                            refine fr_iconst h dX12_asks_100 ?_
                            refine fr_iadd h dX12_asks_101 ?_
                            refine fr_istore (L' := [(0, vr G 0), (1, vi k), (2, vi z20), (3, vi l3_44), (4, vi l4_44), (5, vi l5_32), (6, vi l6_44), (7, vi (l7_56 + 0)), (8, vi l8_56)]) h dX12_asks_102 (by decide) [1, 2, 3, 4, 5, 6, 7, 0, 8] rfl ?_
                            refine fr_iinc (j := 8) (L' := [(0, vr G 0), (1, vi k), (2, vi z20), (3, vi l3_44), (4, vi l4_44), (5, vi l5_32), (6, vi l6_44), (7, vi (l7_56 + 0)), (8, vi (l8_56 + 1))]) h dX12_asks_104 rfl (by decide) [1, 2, 3, 4, 5, 6, 7, 8, 0] rfl ?_
                            refine fr_goto (tgt := 62) h dX12_asks_107 (by decide) ?_
                            exact ih56 (l7_56 + 0) (l8_56 + 1) (by omega) (by omega) (by omega) (by omega) (by omega) (by omega) (by omega) (by omega) (by omega) (by omega)
                          ·
                            refine fr_iconst h dX12_asks_96 ?_
                            refine fr_goto (tgt := 101) h dX12_asks_97 (by decide) ?_
                            refine fr_iadd h dX12_asks_101 ?_
                            refine fr_istore (L' := [(0, vr G 0), (1, vi k), (2, vi z20), (3, vi l3_44), (4, vi l4_44), (5, vi l5_32), (6, vi l6_44), (7, vi (l7_56 + 1)), (8, vi l8_56)]) h dX12_asks_102 (by decide) [1, 2, 3, 4, 5, 6, 7, 0, 8] rfl ?_
                            refine fr_iinc (j := 8) (L' := [(0, vr G 0), (1, vi k), (2, vi z20), (3, vi l3_44), (4, vi l4_44), (5, vi l5_32), (6, vi l6_44), (7, vi (l7_56 + 1)), (8, vi (l8_56 + 1))]) h dX12_asks_104 rfl (by decide) [1, 2, 3, 4, 5, 6, 7, 8, 0] rfl ?_
                            refine fr_goto (tgt := 62) h dX12_asks_107 (by decide) ?_
                            exact ih56 (l7_56 + 1) (l8_56 + 1) (by omega) (by omega) (by omega) (by omega) (by omega) (by omega) (by omega) (by omega) (by omega) (by omega)
                  exact HL56 ((1300 - 0) + 1 : Int).toNat 0 0 (by omega) (by omega) (by omega) (by omega) (by omega) (by omega) (by omega) (by omega) (by omega) (by omega)
            exact HL44 ((31 - 0) + 1 : Int).toNat l3_32 l4_32 0 (by omega) (by omega) (by omega) (by omega) (by omega) (by omega) (by omega) (by omega) (by omega) (by omega) (by omega)
      exact HL32 ((5 - 0) + 1 : Int).toNat (-1) 1000000 0 (by omega) (by omega) (by omega) (by omega) (by omega) (by omega) (by omega) (by omega) (by omega) (by omega) (by omega)
    ·
      refine fr_bipush h rfl dX12_asks_24 ?_
      exact fr_iret h hq (by omega) ⟨(by omega), (by omega), (by omega), (fun a k0 k1 k2 k3 k4 => ((f29 a (by omega) (by omega) (by omega) (by omega)).trans (fm_up_row m2 (by omega)))), (fun i k0 k1 k2 k3 k4 k5 k6 k7 k8 => ((f30 i (by omega) (by omega) (by omega) (by omega) (by omega) (by omega) (by omega)).trans (fm_rd_i (a := 0) (b := i) m2 (by omega))))⟩ dX12_asks_26
  ·
    refine fr_iconst h dX12_asks_12 ?_
    exact fr_iret h hq (by omega) ⟨(by omega), (by omega), (by omega), (fun a k0 k1 k2 k3 k4 => (fm_up_row m2 (by omega))), (fun i k0 k1 k2 k3 k4 k5 k6 k7 k8 => (fm_rd_i (a := 0) (b := i) m2 (by omega)))⟩ dX12_asks_13
set_option maxHeartbeats 4000000 in
theorem f_X12_odds (x : Mm) (k : Int) (p : Int) (n : Int) (h_k : fm_r k) (h_p : fm_r p) (h_n : fm_r n) (e0 : GI x) (e1 : FRM x) : CnI YM yX12_odds cX12_odds 11 .int 207 6248 (fun G => [vr G 0, vi k, vi p, vi n]) x (fun z y' => (¬ (0 ≤ k ∧ k < 5 ∧ 1 ≤ n ∧ n ≤ 3) → z = (-1)) ∧ ((0 ≤ k ∧ k < 5 ∧ 1 ≤ n ∧ n ≤ 3) → k ≠ 4 → z = 0) ∧ ((0 ≤ k ∧ k < 5 ∧ 1 ≤ n ∧ n ≤ 3) → k = 4 → z = (-2)) ∧ (∀ a : Int, (a < 0 ∨ 0 < a) → (a < 3 ∨ 3 < a) → (a < 7 ∨ 7 < a) → (a < 12 ∨ 18 < a) → y' a = x a) ∧ (∀ i : Int, i ≠ 4 → i ≠ 5 → i ≠ 6 → i ≠ 7 → i ≠ 8 → i ≠ 9 → i ≠ 10 → i ≠ 15 → i ≠ 26 → y' 0 i = x 0 i)) := by
  refine cn_I (by decide) (fun _ => Nat.le_of_ble_eq_true rfl) (fun G C h hq => ?_)
  have h : OK YM G C cX12_odds RX12 11 (some .int) 207 6248 := h
  show FW YM G C 11 x 0 [(0, vr G 0), (1, vi k), (2, vi p), (3, vi n)] []
  have e12 := e0.2.2.2
  obtain ⟨mZ, m103, m104, m105, m02, m04, m018, m037, m20, m27, m014, m15, m13, m14⟩ := e1
  have m102 := mZ 102 (by omega) (by omega)
  refine fr_aload_n h rfl 0 rfl dX12_odds_0 ?_
  refine fr_iconst h dX12_odds_1 ?_
  refine fr_puti (iz := 5) h kX12 fX12_94 at_0M rfl rfl (by decide) (by decide) rfl (by decide +kernel) rfM_5 (by omega) (by omega) dX12_odds_2 ?_
  refine fr_mem (fun x1 m2 => ?_)
  refine fr_iload_n h rfl 1 rfl dX12_odds_5 ?_
  refine fr_csI h wX12_isKind lX12_324 (c_X12_isKind x1 k (by omega)) rfl (by decide) (by decide) rfl (Nat.le_of_ble_eq_true rfl) dX12_odds_6 (fun z4 x3 w5 p6 => ?_)
  obtain ⟨p7, p8, y9⟩ := p6
  rw [y9]
  clear y9
  refine fr_if_eq (tgt := 21) h dX12_odds_9 (by decide) (by omega) (fun c10 => ?_) (fun c10 => ?_)
  ·
    have d11 : z4 = 0 := by omega
    clear p7 c10
    have d12 := mt p8.2 (by omega)
    clear p8
    refine fr_iconst h dX12_odds_21 ?_
    exact fr_iret h hq (by omega) ⟨(by omega), (by omega), (by omega), (fun a k0 k1 k2 k3 => (fm_up_row m2 (by omega))), (fun i k0 k1 k2 k3 k4 k5 k6 k7 k8 => (fm_rd_i (a := 0) (b := i) m2 (by omega)))⟩ dX12_odds_22
  ·
    have d13 : z4 = 1 := by omega
    clear p7 c10
    have d14 := p8.1 (by omega)
    clear p8
    refine fr_iload_n h rfl 3 rfl dX12_odds_12 ?_
    refine fr_iconst h dX12_odds_13 ?_
    refine fr_iconst h dX12_odds_14 ?_
    refine fr_csI h wX12_in lX12_101 (c_X12_in x1 n 1 3 (by omega) (by omega) (by omega)) rfl (by decide) (by decide) rfl (Nat.le_of_ble_eq_true rfl) dX12_odds_15 (fun z16 x15 w17 p18 => ?_)
    obtain ⟨p19, p20, y21⟩ := p18
    rw [y21]
    clear y21
    refine fr_if_ne (tgt := 23) h dX12_odds_18 (by decide) (by omega) (fun c22 => ?_) (fun c22 => ?_)
    ·
      have d23 : z16 = 1 := by omega
      clear p19 c22
      have d24 := p20.1 (by omega)
      clear p20
      refine fr_aload_n h rfl 0 rfl dX12_odds_23 ?_
      refine fr_aload_n h rfl 0 rfl dX12_odds_24 ?_
      refine fr_getc (z := 1) (iz := 0) h kX12 fX12_9 at_0M rfl rfl rfM_0 (by omega) dX12_odds_25 ?_
      refine fr_iload_n h rfl 1 rfl dX12_odds_28 ?_
      have r25 := (fm_rd_k (a := 1) (b := 102) m2 (by omega))
      have r26 := (fm_rd_k (a := 1) (b := 103) m2 (by omega))
      have r27 := (fm_rd_k (a := 1) (b := 104) m2 (by omega))
      have r28 := (fm_rd_k (a := 1) (b := 105) m2 (by omega))
      have r29 := (fm_rd_i (a := 0) (b := 14) m2 (by decide))
      have r30 := (fm_rd_k (a := 15) (b := 0) m2 (by omega))
      have r31 := (fm_rd_k (a := 13) (b := 0) m2 (by omega))
      have r32 := (fm_rd_k (a := 14) (b := 0) m2 (by omega))
      refine fr_cvI h kX12 at_0M wX12_layAll lX12_327 (f_X12_layAll x1 1 SA_1 k (by omega) (fun j a c => (congrFun (fm_up_row m2 (by omega)) j).trans (mZ j a c)) (by omega) (by omega) (by omega) (by omega) (by omega) (by omega) (by omega) (by omega) (by omega) (by omega)) rfl (by decide) (by decide) rfl (Nat.le_of_ble_eq_true rfl) dX12_odds_29 (fun z34 x33 w35 p36 => ?_)
      obtain ⟨p37, p38, p39, p40, p41, p42, p43, p44, f45, f46⟩ := p36
      refine fr_istore (L' := [(0, vr G 0), (1, vi k), (2, vi p), (3, vi n), (4, vi z34)]) h dX12_odds_32 (by decide) [1, 2, 3, 4, 0] rfl ?_
      refine fr_iload h 4 rfl dX12_odds_34 ?_
      refine fr_if_ne (tgt := 42) h dX12_odds_36 (by decide) (by omega) (fun c47 => ?_) (fun c47 => ?_)
      ·
        have hk4 : k ≠ 4 := fun q => by have t := p40 q; omega
        have h41 : z34 = 1 := p41 hk4
        clear p40 p41
        refine fr_lconst (z := 1) h rfl dX12_odds_42 ?_
        refine fr_lstore (L' := [(0, vr G 0), (1, vi k), (2, vi p), (3, vi n), (4, vi z34), (5, vj 1)]) h dX12_odds_43 (by decide) [1, 2, 3, 4, 5, 0] rfl ?_
        refine fr_lconst (z := 1) h rfl dX12_odds_45 ?_
        refine fr_lstore (L' := [(0, vr G 0), (1, vi k), (2, vi p), (3, vi n), (4, vi z34), (5, vj 1), (7, vj 1)]) h dX12_odds_46 (by decide) [1, 2, 3, 4, 5, 6, 0] rfl ?_
        refine fr_iconst h dX12_odds_48 ?_
        refine fr_istore (L' := [(0, vr G 0), (1, vi k), (2, vi p), (3, vi n), (4, vi z34), (5, vj 1), (7, vj 1), (9, vi 0)]) h dX12_odds_49 (by decide) [1, 2, 3, 4, 5, 6, 7, 0] rfl ?_
        have HL48 : ∀ (n48 : Nat) (l5_48 l7_48 l9_48 : Int), fm_l l5_48 → fm_l l7_48 → fm_r l9_48 → 0 ≤ l9_48 → l9_48 ≤ 3 → l9_48 ≤ n → 1 ≤ l7_48 → 0 ≤ l5_48 → l5_48 ≤ l7_48 → ((l9_48 = 0 → l7_48 ≤ 1) ∧ (l9_48 = 1 → l7_48 ≤ 1300) ∧ (l9_48 = 2 → l7_48 ≤ 1690000) ∧ (l9_48 = 3 → l7_48 ≤ 2197000000)) → (3 - l9_48) < n48 → FW YM G C 11 x33 51 [(0, vr G 0), (1, vi k), (2, vi p), (3, vi n), (4, vi z34), (5, vj l5_48), (7, vj l7_48), (9, vi l9_48)] [] := by
          intro n48
          induction n48 with
          | zero =>
            intro l5_48 l7_48 l9_48 g48_0 g48_1 g48_2 g48_3 g48_4 g48_5 g48_6 g48_7 g48_8 g48_9 g48_10
            exfalso; omega
          | succ n48 ih48 =>
            intro l5_48 l7_48 l9_48 g48_0 g48_1 g48_2 g48_3 g48_4 g48_5 g48_6 g48_7 g48_8 g48_9 g48_10
            refine fr_iload h 7 rfl dX12_odds_51 ?_
            refine fr_iload_n h rfl 3 rfl dX12_odds_53 ?_
            refine fr_icmp_ge (tgt := 85) h dX12_odds_54 (by decide) (by omega) (by omega) (fun c49 => ?_) (fun c49 => ?_)
            ·
              refine fr_lload h 6 rfl dX12_odds_85 ?_
              refine fr_lload h 5 rfl dX12_odds_87 ?_
              refine fr_lsub h dX12_odds_89 ?_
              refine fr_norml (fun z50 w51 q52 => ?_)
              have w53 : fm_l (l7_48 - l5_48) → z50 = (l7_48 - l5_48) := fun q => (lI_inj q w51 q52).symm
              refine fr_lload h 6 rfl dX12_odds_90 ?_
              refine fr_csL h wX12_common lX12_358 (c_X12_common 65 x33 z50 l7_48 64 (by omega) (by omega) (GD_0 (by omega) (by omega) (by omega)) (by omega)) rfl (by decide) (by decide) rfl (Nat.le_of_ble_eq_true rfl) dX12_odds_92 (fun z55 x54 w56 p57 => ?_)
              obtain ⟨p58, y59⟩ := p57
              rw [y59]
              clear y59
              refine fr_lstore (L' := [(0, vr G 0), (1, vi k), (2, vi p), (3, vi n), (4, vi z34), (5, vj l5_48), (7, vj l7_48), (9, vj z55)]) h dX12_odds_95 (by decide) [1, 2, 3, 4, 5, 6, 7, 0] rfl ?_
              refine fr_aload_n h rfl 0 rfl dX12_odds_97 ?_
              refine fr_iconst h dX12_odds_98 ?_
              refine fr_puti (iz := 4) h kX12 fX12_98 at_0M rfl rfl (by decide) (by decide) rfl (by decide +kernel) rfM_4 (by omega) (by omega) dX12_odds_99 ?_
              refine fr_mem (fun x60 m61 => ?_)
              refine fr_aload_n h rfl 0 rfl dX12_odds_102 ?_
              refine fr_lload h 6 rfl dX12_odds_103 ?_
              refine fr_lload h 5 rfl dX12_odds_105 ?_
              refine fr_lsub h dX12_odds_107 ?_
              refine fr_norml (fun z62 w63 q64 => ?_)
              have w65 : fm_l (l7_48 - l5_48) → z62 = (l7_48 - l5_48) := fun q => (lI_inj q w63 q64).symm
              refine fr_lload h 7 rfl dX12_odds_108 ?_
              refine fr_ldiv h (by omega) (by omega) (by omega) dX12_odds_110 (fun z66 w67 q68 w69 => ?_)
              have r70 := (fm_rd_s m61)
              refine fr_cvV h kX12 at_0M wX12_tell lX12_269 (c_X12_tell x60 z66 (by omega) (by omega)) rfl (by decide) (by decide) rfl (Nat.le_of_ble_eq_true rfl) dX12_odds_111 (fun x71 p74 => ?_)
              obtain ⟨p75, f76, f77⟩ := p74
              refine fr_aload_n h rfl 0 rfl dX12_odds_114 ?_
              refine fr_lload h 6 rfl dX12_odds_115 ?_
              refine fr_lload h 7 rfl dX12_odds_117 ?_
              refine fr_ldiv h (by omega) (by omega) (by omega) dX12_odds_119 (fun z78 w79 q80 w81 => ?_)
              have r82 := (fm_rd_s m61)
              refine fr_cvV h kX12 at_0M wX12_tell lX12_269 (c_X12_tell x71 z78 (by omega) (by omega)) rfl (by decide) (by decide) rfl (Nat.le_of_ble_eq_true rfl) dX12_odds_120 (fun x83 p86 => ?_)
              obtain ⟨p87, f88, f89⟩ := p86
              refine fr_iconst h dX12_odds_123 ?_
              exact fr_iret h hq (by omega) ⟨(by omega), (by omega), (by omega), (fun a k0 k1 k2 k3 => ((f88 a (by omega) (by omega)).trans ((f76 a (by omega) (by omega)).trans ((fm_up_row m61 (by omega)).trans ((f45 a (by omega) (by omega) (by omega)).trans (fm_up_row m2 (by omega))))))), (fun i k0 k1 k2 k3 k4 k5 k6 k7 k8 => ((f89 i (by omega)).trans ((f77 i (by omega)).trans ((fm_rd_i (a := 0) (b := i) m61 (by omega)).trans ((f46 i (by omega) (by omega) (by omega) (by omega) (by omega) (by omega) (by omega)).trans (fm_rd_i (a := 0) (b := i) m2 (by omega)))))))⟩ dX12_odds_124
            ·
              refine fr_lload h 5 rfl dX12_odds_57 ?_
              refine fr_iload h 4 rfl dX12_odds_59 ?_
              refine fr_aload_n h rfl 0 rfl dX12_odds_61 ?_
              refine fr_iload_n h rfl 2 rfl dX12_odds_62 ?_
              have r90 := (fm_rd_k (a := 15) (b := 0) m2 (by omega))
              have r91 := (fm_rd_k (a := 13) (b := 0) m2 (by omega))
              have r92 := (fm_rd_k (a := 14) (b := 0) m2 (by omega))
              have r93 := (fm_rd_i (a := 0) (b := 26) m2 (by decide))
              refine fr_cvI h kX12 at_0M wX12_upTo lX12_336 (f_X12_upTo x33 p (by omega) (by omega) (by omega) (by omega) (by omega)) rfl (by decide) (by decide) rfl (Nat.le_of_ble_eq_true rfl) dX12_odds_63 (fun z95 x94 w96 p97 => ?_)
              obtain ⟨p98, p99, p100, p101, y102⟩ := p97
              rw [y102]
              clear y102
              refine fr_isub h dX12_odds_66 ?_
              refine fr_i2l h (by omega) dX12_odds_67 ?_
              have hm1 := mul_bb (a := l5_48) (b := (z34 - z95)) (A := l7_48) (B := z34) (by omega) (by omega) (by omega) (by omega)
              refine fr_lmul h dX12_odds_68 ?_
              refine fr_norml (fun z103 w104 q105 => ?_)
              have w106 : fm_l (l5_48 * (z34 - z95)) → z103 = (l5_48 * (z34 - z95)) := fun q => (lI_inj q w104 q105).symm
              refine fr_lstore (L' := [(0, vr G 0), (1, vi k), (2, vi p), (3, vi n), (4, vi z34), (5, vj z103), (7, vj l7_48), (9, vi l9_48)]) h dX12_odds_69 (by decide) [1, 2, 3, 4, 5, 0, 6, 7] rfl ?_
              refine fr_lload h 6 rfl dX12_odds_71 ?_
              refine fr_iload h 4 rfl dX12_odds_73 ?_
              refine fr_i2l h (by omega) dX12_odds_75 ?_
              have hm2 : 1 ≤ l7_48 * z34 ∧ (l9_48 = 0 → l7_48 * z34 ≤ 1300) ∧ (l9_48 = 1 → l7_48 * z34 ≤ 1690000) ∧ (l9_48 = 2 → l7_48 * z34 ≤ 2197000000) := ⟨(mul_lo (M := l7_48) (by omega) (by omega) (by omega) (Int.le_refl _)).1, fun q9 => by have := mul_lo (a := l7_48) (b := z34) (M := 1) (by omega) (by omega) (by omega) (by omega); omega, fun q9 => by have := mul_lo (a := l7_48) (b := z34) (M := 1300) (by omega) (by omega) (by omega) (by omega); omega, fun q9 => by have := mul_lo (a := l7_48) (b := z34) (M := 1690000) (by omega) (by omega) (by omega) (by omega); omega⟩
              refine fr_lmul h dX12_odds_76 ?_
              refine fr_norml (fun z107 w108 q109 => ?_)
              have w110 : fm_l (l7_48 * z34) → z107 = (l7_48 * z34) := fun q => (lI_inj q w108 q109).symm
              refine fr_lstore (L' := [(0, vr G 0), (1, vi k), (2, vi p), (3, vi n), (4, vi z34), (5, vj z103), (7, vj z107), (9, vi l9_48)]) h dX12_odds_77 (by decide) [1, 2, 3, 4, 5, 6, 0, 7] rfl ?_
              refine fr_iinc (j := 7) (L' := [(0, vr G 0), (1, vi k), (2, vi p), (3, vi n), (4, vi z34), (5, vj z103), (7, vj z107), (9, vi (l9_48 + 1))]) h dX12_odds_79 rfl (by decide) [1, 2, 3, 4, 5, 6, 7, 0] rfl ?_
              refine fr_goto (tgt := 51) h dX12_odds_82 (by decide) ?_
              exact ih48 z103 z107 (l9_48 + 1) (by omega) (by omega) (by omega) (by omega) (by omega) (by omega) (by omega) (by omega) (by omega) (by omega) (by omega)
        exact HL48 ((3 - 0) + 1 : Int).toNat 1 1 0 (by omega) (by omega) (by omega) (by omega) (by omega) (by omega) (by omega) (by omega) (by omega) (by omega) (by omega)
      ·
        refine fr_bipush h rfl dX12_odds_39 ?_
        exact fr_iret h hq (by omega) ⟨(by omega), (by omega), (by omega), (fun a k0 k1 k2 k3 => ((f45 a (by omega) (by omega) (by omega)).trans (fm_up_row m2 (by omega)))), (fun i k0 k1 k2 k3 k4 k5 k6 k7 k8 => ((f46 i (by omega) (by omega) (by omega) (by omega) (by omega) (by omega) (by omega)).trans (fm_rd_i (a := 0) (b := i) m2 (by omega))))⟩ dX12_odds_41
    ·
      have d111 : z16 = 0 := by omega
      clear p19 c22
      have d112 := mt p20.2 (by omega)
      clear p20
      refine fr_iconst h dX12_odds_21 ?_
      exact fr_iret h hq (by omega) ⟨(by omega), (by omega), (by omega), (fun a k0 k1 k2 k3 => (fm_up_row m2 (by omega))), (fun i k0 k1 k2 k3 k4 k5 k6 k7 k8 => (fm_rd_i (a := 0) (b := i) m2 (by omega)))⟩ dX12_odds_22
set_option maxHeartbeats 200000 in
theorem f_X12_duelOf (x : Mm) (p : Int) (u : Int) (v : Int) (h_p : fm_r p) (h_u : fm_r u) (h_v : fm_r v) (e0 : v < u) : CnI YM yX12_duelOf cX12_duelOf 4 .int 0 0 (fun G => [vr G 0, vi p, vi u, vi v]) x (fun z y' => (z = 0) ∧ (y' = x)) := by
  refine cn_I (by decide) (fun _ => Nat.le_of_ble_eq_true rfl) (fun G C h hq => ?_)
  have h : OK YM G C cX12_duelOf RX12 4 (some .int) 0 0 := h
  show FW YM G C 4 x 0 [(0, vr G 0), (1, vi p), (2, vi u), (3, vi v)] []
  refine fr_iload_n h rfl 2 rfl dX12_duelOf_0 ?_
  refine fr_iload_n h rfl 3 rfl dX12_duelOf_1 ?_
  refine fr_icmp_le (tgt := 7) h dX12_duelOf_2 (by decide) (by omega) (by omega) (fun c1 => ?_) (fun c1 => ?_)
  ·
    exfalso; omega
  ·
    refine fr_iconst h dX12_duelOf_5 ?_
    exact fr_iret h hq (by omega) ⟨(by omega), rfl⟩ dX12_duelOf_6
set_option maxHeartbeats 2000000 in
theorem f_X12_duel (x : Mm) (p : Int) (h_p : fm_r p) (e0 : GI x) (e1 : FRM x) : CnI YM yX12_duel cX12_duel 4 .int 2 42 (fun G => [vr G 0, vi p]) x (fun z y' => (¬ (0 ≤ p ∧ p < 4) → z = (-1)) ∧ (0 ≤ p ∧ p < 4 → z = 1000) ∧ (∀ a : Int, (a < 0 ∨ 0 < a) → (a < 3 ∨ 3 < a) → y' a = x a) ∧ (∀ i : Int, i ≠ 4 → i ≠ 5 → y' 0 i = x 0 i)) := by
  refine cn_I (by decide) (fun _ => Nat.le_of_ble_eq_true rfl) (fun G C h hq => ?_)
  have h : OK YM G C cX12_duel RX12 4 (some .int) 2 42 := h
  show FW YM G C 4 x 0 [(0, vr G 0), (1, vi p)] []
  have e12 := e0.2.2.2
  obtain ⟨mZ, m103, m104, m105, m02, m04, m018, m037, m20, m27, m014, m15, m13, m14⟩ := e1
  have m102 := mZ 102 (by omega) (by omega)
  refine fr_aload_n h rfl 0 rfl dX12_duel_0 ?_
  refine fr_iconst h dX12_duel_1 ?_
  refine fr_puti (iz := 5) h kX12 fX12_94 at_0M rfl rfl (by decide) (by decide) rfl (by decide +kernel) rfM_5 (by omega) (by omega) dX12_duel_2 ?_
  refine fr_mem (fun x1 m2 => ?_)
  refine fr_iload_n h rfl 1 rfl dX12_duel_5 ?_
  refine fr_csI h wX12_isList lX12_161 (c_X12_isList x1 p (by omega)) rfl (by decide) (by decide) rfl (Nat.le_of_ble_eq_true rfl) dX12_duel_6 (fun z4 x3 w5 p6 => ?_)
  obtain ⟨p7, p8, y9⟩ := p6
  rw [y9]
  clear y9
  refine fr_if_ne (tgt := 14) h dX12_duel_9 (by decide) (by omega) (fun c10 => ?_) (fun c10 => ?_)
  ·
    refine fr_aload_n h rfl 0 rfl dX12_duel_14 ?_
    refine fr_getc (z := 1) (iz := 0) h kX12 fX12_9 at_0M rfl rfl rfM_0 (by omega) dX12_duel_15 ?_
    refine fr_bipush h rfl dX12_duel_18 ?_
    refine fr_iload_n h rfl 1 rfl dX12_duel_20 ?_
    refine fr_iadd h dX12_duel_21 ?_
    have hz := (congrFun (fm_up_row m2 (by omega)) (24 + p)).trans (mZ (24 + p) (by omega) (by omega))
    refine fr_iald h (SA_a SA_1) (by omega) (by omega) ((SA_r SA_1 (24 + p)).trans (sg_len (by omega) (by omega))) dX12_duel_22 (fun z11 w12 w13 q14 => ?_)
    have r15 := q14.trans (fm_rd_k (a := 1) (b := (24 + p)) m2 (by omega))
    refine fr_istore_n (L' := [(0, vr G 0), (1, vi p), (2, vi z11)]) h rfl dX12_duel_23 (by decide) [1, 2, 0] rfl ?_
    refine fr_aload_n h rfl 0 rfl dX12_duel_24 ?_
    refine fr_iload_n h rfl 1 rfl dX12_duel_25 ?_
    refine fr_iconst h dX12_duel_26 ?_
    refine fr_iload_n h rfl 2 rfl dX12_duel_27 ?_
    refine fr_iconst h dX12_duel_28 ?_
    refine fr_isub h dX12_duel_29 ?_
    refine fr_cvI h kX12 at_0M wX12_duelOf lX12_362 (f_X12_duelOf x1 p 0 (z11 - 1) (by omega) (by omega) (by omega) (by omega)) rfl (by decide) (by decide) rfl (Nat.le_of_ble_eq_true rfl) dX12_duel_30 (fun z17 x16 w18 p19 => ?_)
    obtain ⟨p20, y21⟩ := p19
    rw [y21]
    clear y21
    refine fr_istore_n (L' := [(0, vr G 0), (1, vi p), (2, vi z11), (3, vi z17)]) h rfl dX12_duel_33 (by decide) [1, 2, 3, 0] rfl ?_
    refine fr_aload_n h rfl 0 rfl dX12_duel_34 ?_
    refine fr_iconst h dX12_duel_35 ?_
    refine fr_puti (iz := 4) h kX12 fX12_98 at_0M rfl rfl (by decide) (by decide) rfl (by decide +kernel) rfM_4 (by omega) (by omega) dX12_duel_36 ?_
    refine fr_mem (fun x22 m23 => ?_)
    refine fr_iload_n h rfl 2 rfl dX12_duel_39 ?_
    refine fr_if_le (tgt := 75) h dX12_duel_40 (by decide) (by omega) (fun c24 => ?_) (fun c24 => ?_)
    ·
      refine fr_sipush h rfl dX12_duel_75 ?_
      refine fr_iload_n h rfl 3 rfl dX12_duel_78 ?_
      refine fr_iadd h dX12_duel_79 ?_
      refine fr_normi (fun z25 w26 q27 => ?_)
      have w28 : fm_r ((1000 + z17)) → z25 = (1000 + z17) := fun q => (iI_inj q w26 q27).symm
      exact fr_iret h hq (by omega) ⟨(by omega), (by omega), (fun a k0 k1 => ((fm_up_row m23 (by omega)).trans (fm_up_row m2 (by omega)))), (fun i k0 k1 => ((fm_rd_i (a := 0) (b := i) m23 (by omega)).trans (fm_rd_i (a := 0) (b := i) m2 (by omega))))⟩ dX12_duel_80
    ·
      exfalso; omega
  ·
    refine fr_iconst h dX12_duel_12 ?_
    exact fr_iret h hq (by omega) ⟨(by omega), (by omega), (fun a k0 k1 => (fm_up_row m2 (by omega))), (fun i k0 k1 => (fm_rd_i (a := 0) (b := i) m2 (by omega)))⟩ dX12_duel_13
set_option maxHeartbeats 200000 in
theorem f_X12_readRule (x : Mm) (e0 : x 0 2 = 0) : CnI YM yX12_readRule cX12_readRule 1 .boolean 3 61 (fun G => [vr G 0]) x (fun z y' => (z = 1) ∧ (y' 0 2 = 0) ∧ (∀ a : Int, (a < 0 ∨ 0 < a) → y' a = x a) ∧ (∀ i : Int, i ≠ 2 → i ≠ 6 → i ≠ 7 → i ≠ 8 → i ≠ 9 → i ≠ 10 → i ≠ 15 → y' 0 i = x 0 i)) := by
  refine cn_I (by decide) (fun _ => Nat.le_of_ble_eq_true rfl) (fun G C h hq => ?_)
  have h : OK YM G C cX12_readRule RX12 1 (some .boolean) 3 61 := h
  show FW YM G C 1 x 0 [(0, vr G 0)] []
  refine fr_aload_n h rfl 0 rfl dX12_readRule_0 ?_
  refine fr_bipush h rfl dX12_readRule_1 ?_
  refine fr_cvV h kX12 at_0M wX12_beginText lX12_151 (c_X12_beginText x 40 (by omega) (by omega) (by omega)) rfl (by decide) (by decide) rfl (Nat.le_of_ble_eq_true rfl) dX12_readRule_3 (fun x1 p4 => ?_)
  obtain ⟨p5, p6, p7, p8, p9, p10, f11, f12⟩ := p4
  refine fr_aload_n h rfl 0 rfl dX12_readRule_6 ?_
  refine fr_iconst h dX12_readRule_7 ?_
  refine fr_putz (iz := 15) h kX12 fX12_191 at_0M rfl rfl (by decide) (by decide) rfl (by decide +kernel) rfM_15 (by omega) (by omega) (by omega) dX12_readRule_8 ?_
  refine fr_mem (fun x13 m14 => ?_)
  refine fr_aload_n h rfl 0 rfl dX12_readRule_11 ?_
  refine fr_geti (iz := 7) h kX12 fX12_115 at_0M rfl rfl (by decide) (by decide) rfM_7 dX12_readRule_12 (fun z15 w16 w17 q18 => ?_)
  have r19 := q18.trans (fm_rd_i (a := 0) (b := 7) m14 (by decide))
  refine fr_if_le (tgt := 24) h dX12_readRule_15 (by decide) (by omega) (fun c20 => ?_) (fun c20 => ?_)
  ·
    have r21 := (fm_rd_i (a := 0) (b := 7) m14 (by decide))
    have r22 := (fm_rd_i (a := 0) (b := 8) m14 (by decide))
    have r23 := (fm_rd_i (a := 0) (b := 9) m14 (by decide))
    have r24 := (fm_rd_i (a := 0) (b := 10) m14 (by decide))
    skip
    refine fr_aload_n h rfl 0 rfl dX12_readRule_24 ?_
    refine fr_cvI h kX12 at_0M wX12_wasRight lX12_158 (d_X12_wasRight x13 (by omega)) rfl (by decide) (by decide) rfl (Nat.le_of_ble_eq_true rfl) dX12_readRule_25 (fun z26 x25 w27 p28 => ?_)
    obtain ⟨p29, p30, p31, p32, p33, f34, f35⟩ := p28
    have r36 := (f35 2 (by decide))
    have r37 := r36.trans (fm_rd_i (a := 0) (b := 2) m14 (by decide))
    exact fr_zret h (nr_z (by omega) (by omega)) hq (by omega) ⟨(by omega), (by omega), (fun a k0 => ((f34 a (by omega)).trans ((fm_up_row m14 (by omega)).trans (f11 a (by omega))))), (fun i k0 k1 k2 k3 k4 k5 k6 => ((f35 i (by omega)).trans ((fm_rd_i (a := 0) (b := i) m14 (by omega)).trans (f12 i (by omega) (by omega) (by omega) (by omega) (by omega) (by omega)))))⟩ dX12_readRule_28
  ·
    exfalso; omega
set_option maxHeartbeats 4000000 in
theorem f_X12_law (x : Mm) (e0 : GI x) (e1 : FRM x) : CnI YM yX12_law cX12_law 8 .int 207 6248 (fun G => [vr G 0]) x (fun z y' => (z = 1) ∧ (∀ a : Int, (a < 0 ∨ 0 < a) → (a < 3 ∨ 3 < a) → (a < 5 ∨ 6 < a) → (a < 7 ∨ 7 < a) → (a < 12 ∨ 18 < a) → y' a = x a) ∧ (∀ i : Int, i ≠ 2 → i ≠ 4 → i ≠ 5 → i ≠ 6 → i ≠ 7 → i ≠ 8 → i ≠ 9 → i ≠ 10 → i ≠ 12 → i ≠ 14 → i ≠ 15 → i ≠ 26 → y' 0 i = x 0 i)) := by
  refine cn_I (by decide) (fun _ => Nat.le_of_ble_eq_true rfl) (fun G C h hq => ?_)
  have h : OK YM G C cX12_law RX12 8 (some .int) 207 6248 := h
  show FW YM G C 8 x 0 [(0, vr G 0)] []
  have e12 := e0.2.2.2
  obtain ⟨mZ, m103, m104, m105, m02, m04, m018, m037, m20, m27, m014, m15, m13, m14⟩ := e1
  have m102 := mZ 102 (by omega) (by omega)
  refine fr_aload_n h rfl 0 rfl dX12_law_0 ?_
  refine fr_iconst h dX12_law_1 ?_
  refine fr_puti (iz := 5) h kX12 fX12_94 at_0M rfl rfl (by decide) (by decide) rfl (by decide +kernel) rfM_5 (by omega) (by omega) dX12_law_2 ?_
  refine fr_mem (fun x1 m2 => ?_)
  refine fr_aload_n h rfl 0 rfl dX12_law_5 ?_
  refine fr_geti (iz := 2) h kX12 fX12_109 at_0M rfl rfl (by decide) (by decide) rfM_2 dX12_law_6 (fun z3 w4 w5 q6 => ?_)
  have r7 := q6.trans (fm_rd_i (a := 0) (b := 2) m2 (by decide))
  refine fr_istore_n (L' := [(0, vr G 0), (1, vi z3)]) h rfl dX12_law_9 (by decide) [1, 0] rfl ?_
  refine fr_aload_n h rfl 0 rfl dX12_law_10 ?_
  have r8 := (fm_rd_i (a := 0) (b := 2) m2 (by decide))
  refine fr_cvI h kX12 at_0M wX12_readRule lX12_195 (f_X12_readRule x1 (by omega)) rfl (by decide) (by decide) rfl (Nat.le_of_ble_eq_true rfl) dX12_law_11 (fun z10 x9 w11 p12 => ?_)
  obtain ⟨p13, p14, f15, f16⟩ := p12
  refine fr_if_ne (tgt := 26) h dX12_law_14 (by decide) (by omega) (fun c17 => ?_) (fun c17 => ?_)
  ·
    refine fr_aload_n h rfl 0 rfl dX12_law_26 ?_
    have r18 := (f16 12 (by decide) (by decide) (by decide) (by decide) (by decide) (by decide) (by decide))
    have r19 := r18.trans (fm_rd_i (a := 0) (b := 12) m2 (by decide))
    skip
    refine fr_rng (fun h20 => ?_)
    have w21 : 5 ≤ x9 0 12 ∧ x9 0 12 ≤ 6 := h20 0 12
    obtain ⟨u22, q23⟩ : ∃ z, x9 0 12 = z := ⟨_, rfl⟩
    rw [q23] at w21
    have i24 : RBN u22 40 := by unfold RBN; omega
    refine fr_getr (z := u22) (iz := 12) h kX12 fX12_24 at_0M rfl rfl q23 (by omega) dX12_law_27 ?_
    refine fr_astore_n (L' := [(0, vr G 0), (1, vi z3), (2, vr G u22)]) h rfl dX12_law_30 (by decide) [1, 2, 0] rfl ?_
    refine fr_aload_n h rfl 0 rfl dX12_law_31 ?_
    refine fr_geti (iz := 14) h kX12 fX12_198 at_0M rfl rfl (by decide) (by decide) rfM_14 dX12_law_32 (fun z25 w26 w27 q28 => ?_)
    have r29 := q28.trans (f16 14 (by decide) (by decide) (by decide) (by decide) (by decide) (by decide) (by decide))
    have r30 := r29.trans (fm_rd_i (a := 0) (b := 14) m2 (by decide))
    refine fr_istore_n (L' := [(0, vr G 0), (1, vi z3), (2, vr G u22), (3, vi z25)]) h rfl dX12_law_35 (by decide) [1, 2, 3, 0] rfl ?_
    refine fr_aload_n h rfl 0 rfl dX12_law_36 ?_
    refine fr_aload_n h rfl 0 rfl dX12_law_37 ?_
    refine fr_getc (z := 6) (iz := 13) h kX12 fX12_27 at_0M rfl rfl rfM_13 (by omega) dX12_law_38 ?_
    refine fr_putr (tf := (.array .byte)) (iz := 12) h kX12 fX12_24 at_0M rfl rfl rfl (by decide +kernel) (fun _ => rfl) (fun _ => rfl) rfM_12 (by omega) (by omega) (by omega) dX12_law_41 ?_
    refine fr_mem (fun x31 m32 => ?_)
    refine fr_aload_n h rfl 0 rfl dX12_law_44 ?_
    refine fr_iload_n h rfl 1 rfl dX12_law_45 ?_
    refine fr_puti (iz := 14) h kX12 fX12_198 at_0M rfl rfl (by decide) (by decide) rfl (by decide +kernel) rfM_14 (by omega) (by omega) dX12_law_46 ?_
    refine fr_mem (fun x33 m34 => ?_)
    refine fr_iconst h dX12_law_49 ?_
    refine fr_istore (L' := [(0, vr G 0), (1, vi z3), (2, vr G u22), (3, vi z25), (4, vi 0)]) h dX12_law_50 (by decide) [1, 2, 3, 4, 0] rfl ?_
    refine fr_iload h 4 rfl dX12_law_52 ?_
    refine fr_iload_n h rfl 1 rfl dX12_law_54 ?_
    refine fr_icmp_ge (tgt := 78) h dX12_law_55 (by decide) (by omega) (by omega) (fun c35 => ?_) (fun c35 => ?_)
    ·
      refine fr_aload_n h rfl 0 rfl dX12_law_78 ?_
      refine fr_aload_n h rfl 0 rfl dX12_law_79 ?_
      refine fr_getc (z := 1) (iz := 0) h kX12 fX12_9 at_0M rfl rfl rfM_0 (by omega) dX12_law_80 ?_
      refine fr_iconst h dX12_law_83 ?_
      have r36 := (fm_rd_k (a := 1) (b := 102) m34 (by omega))
      have r37 := r36.trans (fm_rd_k (a := 1) (b := 102) m32 (by omega))
      have r38 := r37.trans (congrFun (f15 1 (by omega)) 102)
      have r39 := r38.trans (fm_rd_k (a := 1) (b := 102) m2 (by omega))
      have r40 := (fm_rd_k (a := 1) (b := 103) m34 (by omega))
      have r41 := r40.trans (fm_rd_k (a := 1) (b := 103) m32 (by omega))
      have r42 := r41.trans (congrFun (f15 1 (by omega)) 103)
      have r43 := r42.trans (fm_rd_k (a := 1) (b := 103) m2 (by omega))
      have r44 := (fm_rd_k (a := 1) (b := 104) m34 (by omega))
      have r45 := r44.trans (fm_rd_k (a := 1) (b := 104) m32 (by omega))
      have r46 := r45.trans (congrFun (f15 1 (by omega)) 104)
      have r47 := r46.trans (fm_rd_k (a := 1) (b := 104) m2 (by omega))
      have r48 := (fm_rd_k (a := 1) (b := 105) m34 (by omega))
      have r49 := r48.trans (fm_rd_k (a := 1) (b := 105) m32 (by omega))
      have r50 := r49.trans (congrFun (f15 1 (by omega)) 105)
      have r51 := r50.trans (fm_rd_k (a := 1) (b := 105) m2 (by omega))
      have r52 := (fm_rd_s m34)
      have r53 := (fm_rd_k (a := 15) (b := 0) m34 (by omega))
      have r54 := r53.trans (fm_rd_k (a := 15) (b := 0) m32 (by omega))
      have r55 := r54.trans (congrFun (f15 15 (by omega)) 0)
      have r56 := r55.trans (fm_rd_k (a := 15) (b := 0) m2 (by omega))
      have r57 := (fm_rd_k (a := 13) (b := 0) m34 (by omega))
      have r58 := r57.trans (fm_rd_k (a := 13) (b := 0) m32 (by omega))
      have r59 := r58.trans (congrFun (f15 13 (by omega)) 0)
      have r60 := r59.trans (fm_rd_k (a := 13) (b := 0) m2 (by omega))
      have r61 := (fm_rd_k (a := 14) (b := 0) m34 (by omega))
      have r62 := r61.trans (fm_rd_k (a := 14) (b := 0) m32 (by omega))
      have r63 := r62.trans (congrFun (f15 14 (by omega)) 0)
      have r64 := r63.trans (fm_rd_k (a := 14) (b := 0) m2 (by omega))
      refine fr_cvI h kX12 at_0M wX12_layAll lX12_327 (f_X12_layAll x33 1 SA_1 0 (by omega) (fun j a c => (congrFun ((fm_up_row m34 (by omega)).trans ((fm_up_row m32 (by omega)).trans ((f15 1 (by omega)).trans (fm_up_row m2 (by omega))))) j).trans (mZ j a c)) (by omega) (by omega) (by omega) (by omega) (by omega) (by omega) (by omega) (by omega) (by omega) (by omega)) rfl (by decide) (by decide) rfl (Nat.le_of_ble_eq_true rfl) dX12_law_84 (fun z66 x65 w67 p68 => ?_)
      obtain ⟨p69, p70, p71, p72, p73, p74, p75, p76, f77, f78⟩ := p68
      refine fr_pop h rfl dX12_law_87 ?_
      refine fr_aload_n h rfl 0 rfl dX12_law_88 ?_
      refine fr_aload_n h rfl 2 rfl dX12_law_89 ?_
      refine fr_putr (tf := (.array .byte)) (iz := 12) h kX12 fX12_24 at_0M rfl rfl rfl (by decide +kernel) (fun _ => rfl) (fun _ => rfl) rfM_12 (by omega) (by omega) (by omega) dX12_law_90 ?_
      refine fr_mem (fun x79 m80 => ?_)
      refine fr_aload_n h rfl 0 rfl dX12_law_93 ?_
      refine fr_iload_n h rfl 3 rfl dX12_law_94 ?_
      refine fr_puti (iz := 14) h kX12 fX12_198 at_0M rfl rfl (by decide) (by decide) rfl (by decide +kernel) rfM_14 (by omega) (by omega) dX12_law_95 ?_
      refine fr_mem (fun x81 m82 => ?_)
      refine fr_aload_n h rfl 0 rfl dX12_law_98 ?_
      refine fr_getc (z := 15) (iz := 27) h kX12 fX12_54 at_0M rfl rfl rfM_27 (by omega) dX12_law_99 ?_
      refine fr_iconst h dX12_law_102 ?_
      refine fr_iald h arM_15 (by omega) (by omega) (rrM_15 0) dX12_law_103 (fun z83 w84 w85 q86 => ?_)
      have r87 := q86.trans (fm_rd_k (a := 15) (b := 0) m82 (by omega))
      have r88 := r87.trans (fm_rd_k (a := 15) (b := 0) m80 (by omega))
      have r89 := (fm_rd_k (a := 15) (b := 0) m34 (by omega))
      have r90 := r89.trans (fm_rd_k (a := 15) (b := 0) m32 (by omega))
      have r91 := r90.trans (congrFun (f15 15 (by omega)) 0)
      have r92 := r91.trans (fm_rd_k (a := 15) (b := 0) m2 (by omega))
      refine fr_istore (L' := [(0, vr G 0), (1, vi z3), (2, vr G u22), (3, vi z25), (4, vi z83)]) h dX12_law_104 (by decide) [1, 2, 3, 4, 0] rfl ?_
      refine fr_aload_n h rfl 0 rfl dX12_law_106 ?_
      refine fr_getc (z := 14) (iz := 25) h kX12 fX12_51 at_0M rfl rfl rfM_25 (by omega) dX12_law_107 ?_
      refine fr_iload h 4 rfl dX12_law_110 ?_
      have kz14 : x65 14 z83 = x65 14 0 := by rw [show (z83 : Int) = 0 by omega]
      refine fr_iald h arM_14 (by omega) (by omega) (rrM_14 z83) dX12_law_112 (fun z93 w94 w95 q96 => ?_)
      have r97 := q96.trans (fm_rd_k (a := 14) (b := z83) m82 (by omega))
      have r98 := r97.trans (fm_rd_k (a := 14) (b := z83) m80 (by omega))
      have r99 := (fm_rd_k (a := 14) (b := z83) m34 (by omega))
      have r100 := r99.trans (fm_rd_k (a := 14) (b := z83) m32 (by omega))
      have r101 := r100.trans (congrFun (f15 14 (by omega)) z83)
      have r102 := r101.trans (fm_rd_k (a := 14) (b := z83) m2 (by omega))
      refine fr_istore (L' := [(0, vr G 0), (1, vi z3), (2, vr G u22), (3, vi z25), (4, vi z83), (5, vi z93)]) h dX12_law_113 (by decide) [1, 2, 3, 4, 5, 0] rfl ?_
      refine fr_aload_n h rfl 0 rfl dX12_law_115 ?_
      refine fr_aload_n h rfl 0 rfl dX12_law_116 ?_
      refine fr_getc (z := 1) (iz := 0) h kX12 fX12_9 at_0M rfl rfl rfM_0 (by omega) dX12_law_117 ?_
      refine fr_iconst h dX12_law_120 ?_
      have r103 := (fm_rd_k (a := 1) (b := 102) m82 (by omega))
      have r104 := r103.trans (fm_rd_k (a := 1) (b := 102) m80 (by omega))
      have r105 := r104.trans (congrFun (f77 1 (by omega) (by omega) (by omega)) 102)
      have r106 := r105.trans (fm_rd_k (a := 1) (b := 102) m34 (by omega))
      have r107 := r106.trans (fm_rd_k (a := 1) (b := 102) m32 (by omega))
      have r108 := r107.trans (congrFun (f15 1 (by omega)) 102)
      have r109 := r108.trans (fm_rd_k (a := 1) (b := 102) m2 (by omega))
      have r110 := (fm_rd_k (a := 1) (b := 103) m82 (by omega))
      have r111 := r110.trans (fm_rd_k (a := 1) (b := 103) m80 (by omega))
      have r112 := r111.trans (congrFun (f77 1 (by omega) (by omega) (by omega)) 103)
      have r113 := r112.trans (fm_rd_k (a := 1) (b := 103) m34 (by omega))
      have r114 := r113.trans (fm_rd_k (a := 1) (b := 103) m32 (by omega))
      have r115 := r114.trans (congrFun (f15 1 (by omega)) 103)
      have r116 := r115.trans (fm_rd_k (a := 1) (b := 103) m2 (by omega))
      have r117 := (fm_rd_k (a := 1) (b := 104) m82 (by omega))
      have r118 := r117.trans (fm_rd_k (a := 1) (b := 104) m80 (by omega))
      have r119 := r118.trans (congrFun (f77 1 (by omega) (by omega) (by omega)) 104)
      have r120 := r119.trans (fm_rd_k (a := 1) (b := 104) m34 (by omega))
      have r121 := r120.trans (fm_rd_k (a := 1) (b := 104) m32 (by omega))
      have r122 := r121.trans (congrFun (f15 1 (by omega)) 104)
      have r123 := r122.trans (fm_rd_k (a := 1) (b := 104) m2 (by omega))
      have r124 := (fm_rd_k (a := 1) (b := 105) m82 (by omega))
      have r125 := r124.trans (fm_rd_k (a := 1) (b := 105) m80 (by omega))
      have r126 := r125.trans (congrFun (f77 1 (by omega) (by omega) (by omega)) 105)
      have r127 := r126.trans (fm_rd_k (a := 1) (b := 105) m34 (by omega))
      have r128 := r127.trans (fm_rd_k (a := 1) (b := 105) m32 (by omega))
      have r129 := r128.trans (congrFun (f15 1 (by omega)) 105)
      have r130 := r129.trans (fm_rd_k (a := 1) (b := 105) m2 (by omega))
      have r131 := (fm_rd_s m82)
      have r132 := (fm_rd_k (a := 15) (b := 0) m82 (by omega))
      have r133 := r132.trans (fm_rd_k (a := 15) (b := 0) m80 (by omega))
      have r134 := (fm_rd_k (a := 15) (b := 0) m34 (by omega))
      have r135 := r134.trans (fm_rd_k (a := 15) (b := 0) m32 (by omega))
      have r136 := r135.trans (congrFun (f15 15 (by omega)) 0)
      have r137 := r136.trans (fm_rd_k (a := 15) (b := 0) m2 (by omega))
      have r138 := (fm_rd_k (a := 13) (b := 0) m82 (by omega))
      have r139 := r138.trans (fm_rd_k (a := 13) (b := 0) m80 (by omega))
      have r140 := (fm_rd_k (a := 13) (b := 0) m34 (by omega))
      have r141 := r140.trans (fm_rd_k (a := 13) (b := 0) m32 (by omega))
      have r142 := r141.trans (congrFun (f15 13 (by omega)) 0)
      have r143 := r142.trans (fm_rd_k (a := 13) (b := 0) m2 (by omega))
      have r144 := (fm_rd_k (a := 14) (b := 0) m82 (by omega))
      have r145 := r144.trans (fm_rd_k (a := 14) (b := 0) m80 (by omega))
      have r146 := (fm_rd_k (a := 14) (b := 0) m34 (by omega))
      have r147 := r146.trans (fm_rd_k (a := 14) (b := 0) m32 (by omega))
      have r148 := r147.trans (congrFun (f15 14 (by omega)) 0)
      have r149 := r148.trans (fm_rd_k (a := 14) (b := 0) m2 (by omega))
      refine fr_cvI h kX12 at_0M wX12_layAll lX12_327 (f_X12_layAll x81 1 SA_1 0 (by omega) (fun j a c => (congrFun ((fm_up_row m82 (by omega)).trans ((fm_up_row m80 (by omega)).trans ((f77 1 (by omega) (by omega) (by omega)).trans ((fm_up_row m34 (by omega)).trans ((fm_up_row m32 (by omega)).trans ((f15 1 (by omega)).trans (fm_up_row m2 (by omega)))))))) j).trans (mZ j a c)) (by omega) (by omega) (by omega) (by omega) (by omega) (by omega) (by omega) (by omega) (by omega) (by omega)) rfl (by decide) (by decide) rfl (Nat.le_of_ble_eq_true rfl) dX12_law_121 (fun z151 x150 w152 p153 => ?_)
      obtain ⟨p154, p155, p156, p157, p158, p159, p160, p161, f162, f163⟩ := p153
      refine fr_istore (L' := [(0, vr G 0), (1, vi z3), (2, vr G u22), (3, vi z25), (4, vi z83), (5, vi z93), (6, vi z151)]) h dX12_law_124 (by decide) [1, 2, 3, 4, 5, 6, 0] rfl ?_
      refine fr_iconst h dX12_law_126 ?_
      refine fr_istore (L' := [(0, vr G 0), (1, vi z3), (2, vr G u22), (3, vi z25), (4, vi z83), (5, vi z93), (6, vi z151), (7, vi 1)]) h dX12_law_127 (by decide) [1, 2, 3, 4, 5, 6, 7, 0] rfl ?_
      refine fr_iload h 7 rfl dX12_law_129 ?_
      refine fr_iload h 6 rfl dX12_law_131 ?_
      refine fr_icmp_gt (tgt := 186) h dX12_law_133 (by decide) (by omega) (by omega) (fun c164 => ?_) (fun c164 => ?_)
      ·
        exfalso; omega
      ·
        refine fr_aload_n h rfl 0 rfl dX12_law_136 ?_
        refine fr_getc (z := 15) (iz := 27) h kX12 fX12_54 at_0M rfl rfl rfM_27 (by omega) dX12_law_137 ?_
        refine fr_iload h 7 rfl dX12_law_140 ?_
        refine fr_iconst h dX12_law_142 ?_
        refine fr_isub h dX12_law_143 ?_
        have kz15 : x150 15 (1 - 1) = x150 15 0 := by rw [show ((1 - 1) : Int) = 0 by omega]
        refine fr_iald h arM_15 (by omega) (by omega) (rrM_15 (1 - 1)) dX12_law_144 (fun z165 w166 w167 q168 => ?_)
        have r169 := (fm_rd_k (a := 15) (b := (1 - 1)) m82 (by omega))
        have r170 := r169.trans (fm_rd_k (a := 15) (b := (1 - 1)) m80 (by omega))
        have r171 := (fm_rd_k (a := 15) (b := (1 - 1)) m34 (by omega))
        have r172 := r171.trans (fm_rd_k (a := 15) (b := (1 - 1)) m32 (by omega))
        have r173 := r172.trans (congrFun (f15 15 (by omega)) (1 - 1))
        have r174 := r173.trans (fm_rd_k (a := 15) (b := (1 - 1)) m2 (by omega))
        refine fr_iload h 4 rfl dX12_law_145 ?_
        refine fr_icmp_eq (tgt := 153) h dX12_law_147 (by decide) (by omega) (by omega) (fun c175 => ?_) (fun c175 => ?_)
        ·
          refine fr_aload_n h rfl 0 rfl dX12_law_153 ?_
          refine fr_iconst h dX12_law_154 ?_
          refine fr_puti (iz := 4) h kX12 fX12_98 at_0M rfl rfl (by decide) (by decide) rfl (by decide +kernel) rfM_4 (by omega) (by omega) dX12_law_155 ?_
          refine fr_mem (fun x176 m177 => ?_)
          refine fr_aload_n h rfl 0 rfl dX12_law_158 ?_
          refine fr_iload h 5 rfl dX12_law_159 ?_
          refine fr_i2l h (by omega) dX12_law_161 ?_
          have r178 := (fm_rd_s m177)
          refine fr_cvV h kX12 at_0M wX12_tell lX12_269 (c_X12_tell x176 z93 (by omega) (by omega)) rfl (by decide) (by decide) rfl (Nat.le_of_ble_eq_true rfl) dX12_law_162 (fun x179 p182 => ?_)
          obtain ⟨p183, f184, f185⟩ := p182
          refine fr_aload_n h rfl 0 rfl dX12_law_165 ?_
          refine fr_aload_n h rfl 0 rfl dX12_law_166 ?_
          refine fr_getc (z := 14) (iz := 25) h kX12 fX12_51 at_0M rfl rfl rfM_25 (by omega) dX12_law_167 ?_
          refine fr_iload h 4 rfl dX12_law_170 ?_
          refine fr_iald h arM_14 (by omega) (by omega) (rrM_14 z83) dX12_law_172 (fun z186 w187 w188 q189 => ?_)
          have r190 := q189.trans (congrFun (f184 14 (by omega) (by omega)) z83)
          have r191 := r190.trans (fm_rd_k (a := 14) (b := z83) m177 (by omega))
          have r192 := (fm_rd_k (a := 14) (b := z83) m82 (by omega))
          have r193 := r192.trans (fm_rd_k (a := 14) (b := z83) m80 (by omega))
          have r194 := (fm_rd_k (a := 14) (b := z83) m34 (by omega))
          have r195 := r194.trans (fm_rd_k (a := 14) (b := z83) m32 (by omega))
          have r196 := r195.trans (congrFun (f15 14 (by omega)) z83)
          have r197 := r196.trans (fm_rd_k (a := 14) (b := z83) m2 (by omega))
          refine fr_i2l h (by omega) dX12_law_173 ?_
          have r198 := (fm_rd_s m177)
          refine fr_cvV h kX12 at_0M wX12_tell lX12_269 (c_X12_tell x179 z186 (by omega) (by omega)) rfl (by decide) (by decide) rfl (Nat.le_of_ble_eq_true rfl) dX12_law_174 (fun x199 p202 => ?_)
          obtain ⟨p203, f204, f205⟩ := p202
          refine fr_iload h 7 rfl dX12_law_177 ?_
          exact fr_iret h hq (by omega) ⟨(by omega), (fun a k0 k1 k2 k3 k4 => ((f204 a (by omega) (by omega)).trans ((f184 a (by omega) (by omega)).trans ((fm_up_row m177 (by omega)).trans ((f162 a (by omega) (by omega) (by omega)).trans ((fm_up_row m82 (by omega)).trans ((fm_up_row m80 (by omega)).trans ((f77 a (by omega) (by omega) (by omega)).trans ((fm_up_row m34 (by omega)).trans ((fm_up_row m32 (by omega)).trans ((f15 a (by omega)).trans (fm_up_row m2 (by omega))))))))))))), (fun i k0 k1 k2 k3 k4 k5 k6 k7 k8 k9 k10 k11 => ((f205 i (by omega)).trans ((f185 i (by omega)).trans ((fm_rd_i (a := 0) (b := i) m177 (by omega)).trans ((f163 i (by omega) (by omega) (by omega) (by omega) (by omega) (by omega) (by omega)).trans ((fm_rd_i (a := 0) (b := i) m82 (by omega)).trans ((fm_rd_i (a := 0) (b := i) m80 (by omega)).trans ((f78 i (by omega) (by omega) (by omega) (by omega) (by omega) (by omega) (by omega)).trans ((fm_rd_i (a := 0) (b := i) m34 (by omega)).trans ((fm_rd_i (a := 0) (b := i) m32 (by omega)).trans ((f16 i (by omega) (by omega) (by omega) (by omega) (by omega) (by omega) (by omega)).trans (fm_rd_i (a := 0) (b := i) m2 (by omega)))))))))))))⟩ dX12_law_179
        ·
          exfalso; omega
    ·
      exfalso; omega
  ·
    exfalso; omega
set_option maxHeartbeats 2000000 in
theorem f_X12_rule (x : Mm) (e0 : GI x) (e1 : FRM x) : CnI YM yX12_rule cX12_rule 3 .int 4 81 (fun G => [vr G 0]) x (fun z y' => (z = 0) ∧ (∀ a : Int, (a < 0 ∨ 0 < a) → (a < 5 ∨ 6 < a) → y' a = x a) ∧ (∀ i : Int, i ≠ 2 → i ≠ 6 → i ≠ 7 → i ≠ 8 → i ≠ 9 → i ≠ 10 → i ≠ 5 → i ≠ 14 → i ≠ 15 → i ≠ 21 → y' 0 i = x 0 i)) := by
  refine cn_I (by decide) (fun _ => Nat.le_of_ble_eq_true rfl) (fun G C h hq => ?_)
  have h : OK YM G C cX12_rule RX12 3 (some .int) 4 81 := h
  show FW YM G C 3 x 0 [(0, vr G 0)] []
  have e12 := e0.2.2.2
  obtain ⟨mZ, m103, m104, m105, m02, m04, m018, m037, m20, m27, m014, m15, m13, m14⟩ := e1
  have m102 := mZ 102 (by omega) (by omega)
  refine fr_aload_n h rfl 0 rfl dX12_rule_0 ?_
  refine fr_iconst h dX12_rule_1 ?_
  refine fr_puti (iz := 5) h kX12 fX12_94 at_0M rfl rfl (by decide) (by decide) rfl (by decide +kernel) rfM_5 (by omega) (by omega) dX12_rule_2 ?_
  refine fr_mem (fun x1 m2 => ?_)
  refine fr_aload_n h rfl 0 rfl dX12_rule_5 ?_
  refine fr_geti (iz := 2) h kX12 fX12_109 at_0M rfl rfl (by decide) (by decide) rfM_2 dX12_rule_6 (fun z3 w4 w5 q6 => ?_)
  have r7 := q6.trans (fm_rd_i (a := 0) (b := 2) m2 (by decide))
  refine fr_istore_n (L' := [(0, vr G 0), (1, vi z3)]) h rfl dX12_rule_9 (by decide) [1, 0] rfl ?_
  refine fr_aload_n h rfl 0 rfl dX12_rule_10 ?_
  have r8 := (fm_rd_i (a := 0) (b := 2) m2 (by decide))
  refine fr_cvI h kX12 at_0M wX12_readRule lX12_195 (f_X12_readRule x1 (by omega)) rfl (by decide) (by decide) rfl (Nat.le_of_ble_eq_true rfl) dX12_rule_11 (fun z10 x9 w11 p12 => ?_)
  obtain ⟨p13, p14, f15, f16⟩ := p12
  refine fr_if_ne (tgt := 24) h dX12_rule_14 (by decide) (by omega) (fun c17 => ?_) (fun c17 => ?_)
  ·
    refine fr_iconst h dX12_rule_24 ?_
    refine fr_istore_n (L' := [(0, vr G 0), (1, vi z3), (2, vi 0)]) h rfl dX12_rule_25 (by decide) [1, 2, 0] rfl ?_
    refine fr_iload_n h rfl 2 rfl dX12_rule_26 ?_
    refine fr_iload_n h rfl 1 rfl dX12_rule_27 ?_
    refine fr_icmp_ge (tgt := 49) h dX12_rule_28 (by decide) (by omega) (by omega) (fun c18 => ?_) (fun c18 => ?_)
    ·
      refine fr_aload_n h rfl 0 rfl dX12_rule_49 ?_
      refine fr_iload_n h rfl 1 rfl dX12_rule_50 ?_
      refine fr_puti (iz := 14) h kX12 fX12_198 at_0M rfl rfl (by decide) (by decide) rfl (by decide +kernel) rfM_14 (by omega) (by omega) dX12_rule_51 ?_
      refine fr_mem (fun x19 m20 => ?_)
      refine fr_aload_n h rfl 0 rfl dX12_rule_54 ?_
      refine fr_dup h rfl dX12_rule_55 ?_
      refine fr_geti (iz := 21) h kX12 fX12_201 at_0M rfl rfl (by decide) (by decide) rfM_21 dX12_rule_56 (fun z21 w22 w23 q24 => ?_)
      have r25 := q24.trans (fm_rd_i (a := 0) (b := 21) m20 (by decide))
      have r26 := r25.trans (f16 21 (by decide) (by decide) (by decide) (by decide) (by decide) (by decide) (by decide))
      have r27 := r26.trans (fm_rd_i (a := 0) (b := 21) m2 (by decide))
      refine fr_iconst h dX12_rule_59 ?_
      refine fr_iadd h dX12_rule_60 ?_
      refine fr_normi (fun z28 w29 q30 => ?_)
      have w31 : fm_r ((z21 + 1)) → z28 = (z21 + 1) := fun q => (iI_inj q w29 q30).symm
      refine fr_puti (iz := 21) h kX12 fX12_201 at_0M rfl rfl (by decide) (by decide) rfl (by decide +kernel) rfM_21 (by omega) (by omega) dX12_rule_61 ?_
      refine fr_mem (fun x32 m33 => ?_)
      refine fr_iconst h dX12_rule_64 ?_
      exact fr_iret h hq (by omega) ⟨(by omega), (fun a k0 k1 => ((fm_up_row m33 (by omega)).trans ((fm_up_row m20 (by omega)).trans ((f15 a (by omega)).trans (fm_up_row m2 (by omega)))))), (fun i k0 k1 k2 k3 k4 k5 k6 k7 k8 k9 => ((fm_rd_i (a := 0) (b := i) m33 (by omega)).trans ((fm_rd_i (a := 0) (b := i) m20 (by omega)).trans ((f16 i (by omega) (by omega) (by omega) (by omega) (by omega) (by omega) (by omega)).trans (fm_rd_i (a := 0) (b := i) m2 (by omega))))))⟩ dX12_rule_65
    ·
      exfalso; omega
  ·
    exfalso; omega
set_option maxHeartbeats 2000000 in
theorem f_X12_number_ (x : Mm) (p : Int) (w : Int) (h_p : fm_r p) (h_w : fm_r w) (e0 : GI x) (e1 : FRM x) : CnI YM yX12_number_ cX12_number_ 3 .int 2 42 (fun G => [vr G 0, vi p, vi w]) x (fun z y' => (y' 0 5 = 1) ∧ (∀ a : Int, (a < 0 ∨ 0 < a) → y' a = x a) ∧ (∀ i : Int, i ≠ 5 → y' 0 i = x 0 i)) := by
  refine cn_I (by decide) (fun _ => Nat.le_of_ble_eq_true rfl) (fun G C h hq => ?_)
  have h : OK YM G C cX12_number_ RX12 3 (some .int) 2 42 := h
  show FW YM G C 3 x 0 [(0, vr G 0), (1, vi p), (2, vi w)] []
  have e12 := e0.2.2.2
  obtain ⟨mZ, m103, m104, m105, m02, m04, m018, m037, m20, m27, m014, m15, m13, m14⟩ := e1
  have m102 := mZ 102 (by omega) (by omega)
  refine fr_aload_n h rfl 0 rfl dX12_number__0 ?_
  refine fr_iconst h dX12_number__1 ?_
  refine fr_puti (iz := 5) h kX12 fX12_94 at_0M rfl rfl (by decide) (by decide) rfl (by decide +kernel) rfM_5 (by omega) (by omega) dX12_number__2 ?_
  refine fr_mem (fun x1 m2 => ?_)
  refine fr_iload_n h rfl 1 rfl dX12_number__5 ?_
  refine fr_csI h wX12_isList lX12_161 (c_X12_isList x1 p (by omega)) rfl (by decide) (by decide) rfl (Nat.le_of_ble_eq_true rfl) dX12_number__6 (fun z4 x3 w5 p6 => ?_)
  obtain ⟨p7, p8, y9⟩ := p6
  rw [y9]
  clear y9
  refine fr_if_eq (tgt := 45) h dX12_number__9 (by decide) (by omega) (fun c10 => ?_) (fun c10 => ?_)
  ·
    refine fr_aload_n h rfl 0 rfl dX12_number__45 ?_
    refine fr_cvI h kX12 at_0M wX12_lost lX12_213 (c_X12_lost x1) rfl (by decide) (by decide) rfl (Nat.le_of_ble_eq_true rfl) dX12_number__46 (fun z12 x11 w13 p14 => ?_)
    obtain ⟨p15, p16, f17, f18⟩ := p14
    have r19 := (fm_rd_s m2)
    exact fr_iret h hq (by omega) ⟨(by omega), (fun a k0 => ((f17 a (by omega)).trans (fm_up_row m2 (by omega)))), (fun i k0 => ((f18 i (by omega)).trans (fm_rd_i (a := 0) (b := i) m2 (by omega))))⟩ dX12_number__49
  ·
    refine fr_iload_n h rfl 2 rfl dX12_number__12 ?_
    refine fr_iconst h dX12_number__13 ?_
    refine fr_aload_n h rfl 0 rfl dX12_number__14 ?_
    refine fr_getc (z := 1) (iz := 0) h kX12 fX12_9 at_0M rfl rfl rfM_0 (by omega) dX12_number__15 ?_
    refine fr_bipush h rfl dX12_number__18 ?_
    refine fr_iload_n h rfl 1 rfl dX12_number__20 ?_
    refine fr_iadd h dX12_number__21 ?_
    have hz := (congrFun (fm_up_row m2 (by omega)) (24 + p)).trans (mZ (24 + p) (by omega) (by omega))
    refine fr_iald h (SA_a SA_1) (by omega) (by omega) ((SA_r SA_1 (24 + p)).trans (sg_len (by omega) (by omega))) dX12_number__22 (fun z20 w21 w22 q23 => ?_)
    have r24 := q23.trans (fm_rd_k (a := 1) (b := (24 + p)) m2 (by omega))
    refine fr_iconst h dX12_number__23 ?_
    refine fr_isub h dX12_number__24 ?_
    refine fr_csI h wX12_in lX12_101 (c_X12_in x1 w 0 (z20 - 1) (by omega) (by omega) (by omega)) rfl (by decide) (by decide) rfl (Nat.le_of_ble_eq_true rfl) dX12_number__25 (fun z26 x25 w27 p28 => ?_)
    obtain ⟨p29, p30, y31⟩ := p28
    rw [y31]
    clear y31
    refine fr_if_eq (tgt := 45) h dX12_number__28 (by decide) (by omega) (fun c32 => ?_) (fun c32 => ?_)
    ·
      refine fr_aload_n h rfl 0 rfl dX12_number__45 ?_
      refine fr_cvI h kX12 at_0M wX12_lost lX12_213 (c_X12_lost x1) rfl (by decide) (by decide) rfl (Nat.le_of_ble_eq_true rfl) dX12_number__46 (fun z34 x33 w35 p36 => ?_)
      obtain ⟨p37, p38, f39, f40⟩ := p36
      have r41 := (fm_rd_s m2)
      exact fr_iret h hq (by omega) ⟨(by omega), (fun a k0 => ((f39 a (by omega)).trans (fm_up_row m2 (by omega)))), (fun i k0 => ((f40 i (by omega)).trans (fm_rd_i (a := 0) (b := i) m2 (by omega))))⟩ dX12_number__49
    ·
      exfalso; omega
set_option maxHeartbeats 2000000 in
theorem f_X12_edge (x : Mm) (k : Int) (w : Int) (h_k : fm_r k) (h_w : fm_r w) (e0 : GI x) (e1 : FRM x) : CnI YM yX12_edge cX12_edge 4 .int 2 45 (fun G => [vr G 0, vi k, vi w]) x (fun z y' => (y' 0 5 = 1) ∧ (∀ a : Int, (a < 0 ∨ 0 < a) → y' a = x a) ∧ (∀ i : Int, i ≠ 5 → y' 0 i = x 0 i)) := by
  refine cn_I (by decide) (fun _ => Nat.le_of_ble_eq_true rfl) (fun G C h hq => ?_)
  have h : OK YM G C cX12_edge RX12 4 (some .int) 2 45 := h
  show FW YM G C 4 x 0 [(0, vr G 0), (1, vi k), (2, vi w)] []
  have e12 := e0.2.2.2
  obtain ⟨mZ, m103, m104, m105, m02, m04, m018, m037, m20, m27, m014, m15, m13, m14⟩ := e1
  have m102 := mZ 102 (by omega) (by omega)
  refine fr_aload_n h rfl 0 rfl dX12_edge_0 ?_
  refine fr_iconst h dX12_edge_1 ?_
  refine fr_puti (iz := 5) h kX12 fX12_94 at_0M rfl rfl (by decide) (by decide) rfl (by decide +kernel) rfM_5 (by omega) (by omega) dX12_edge_2 ?_
  refine fr_mem (fun x1 m2 => ?_)
  refine fr_iload_n h rfl 1 rfl dX12_edge_5 ?_
  refine fr_iconst h dX12_edge_6 ?_
  refine fr_aload_n h rfl 0 rfl dX12_edge_7 ?_
  refine fr_getc (z := 1) (iz := 0) h kX12 fX12_9 at_0M rfl rfl rfM_0 (by omega) dX12_edge_8 ?_
  refine fr_csI h wX12_edgesOf lX12_216 (f_X12_edgesOf x1 1 SA_1 7 0 (fun i j a c d _ => (congrFun (fm_up_row m2 (by omega)) _).trans (mZ (28 + 7 * i + j) (by omega) (by omega))) (Or.inl rfl)) rfl (by decide) (by decide) rfl (Nat.le_of_ble_eq_true rfl) dX12_edge_11 (fun z4 x3 w5 p6 => ?_)
  obtain ⟨p7, p8, y9⟩ := p6
  rw [y9]
  clear y9
  refine fr_iconst h dX12_edge_14 ?_
  refine fr_isub h dX12_edge_15 ?_
  refine fr_normi (fun z10 w11 q12 => ?_)
  have w13 : fm_r ((z4 - 1)) → z10 = (z4 - 1) := fun q => (iI_inj q w11 q12).symm
  refine fr_csI h wX12_in lX12_101 (c_X12_in x1 k 0 z10 (by omega) (by omega) (by omega)) rfl (by decide) (by decide) rfl (Nat.le_of_ble_eq_true rfl) dX12_edge_16 (fun z15 x14 w16 p17 => ?_)
  obtain ⟨p18, p19, y20⟩ := p17
  rw [y20]
  clear y20
  refine fr_if_eq (tgt := 31) h dX12_edge_19 (by decide) (by omega) (fun c21 => ?_) (fun c21 => ?_)
  ·
    refine fr_aload_n h rfl 0 rfl dX12_edge_31 ?_
    refine fr_cvI h kX12 at_0M wX12_lost lX12_213 (c_X12_lost x1) rfl (by decide) (by decide) rfl (Nat.le_of_ble_eq_true rfl) dX12_edge_32 (fun z23 x22 w24 p25 => ?_)
    obtain ⟨p26, p27, f28, f29⟩ := p25
    have r30 := (fm_rd_s m2)
    exact fr_iret h hq (by omega) ⟨(by omega), (fun a k0 => ((f28 a (by omega)).trans (fm_up_row m2 (by omega)))), (fun i k0 => ((f29 i (by omega)).trans (fm_rd_i (a := 0) (b := i) m2 (by omega))))⟩ dX12_edge_35
  ·
    exfalso; omega
set_option maxHeartbeats 2000000 in
theorem f_X12_row (x : Mm) (k : Int) (h_k : fm_r k) (e0 : GI x) (e1 : FRM x) : CnL YM yX12_row cX12_row 2 1 22 (fun G => [vr G 0, vi k]) x (fun z y' => (y' 0 5 = 1) ∧ (∀ a : Int, (a < 0 ∨ 0 < a) → y' a = x a) ∧ (∀ i : Int, i ≠ 5 → y' 0 i = x 0 i)) := by
  refine cn_L (by decide) (fun _ => Nat.le_of_ble_eq_true rfl) (fun G C h hq => ?_)
  have h : OK YM G C cX12_row RX12 2 (some .long) 1 22 := h
  show FW YM G C 2 x 0 [(0, vr G 0), (1, vi k)] []
  have e12 := e0.2.2.2
  obtain ⟨mZ, m103, m104, m105, m02, m04, m018, m037, m20, m27, m014, m15, m13, m14⟩ := e1
  have m102 := mZ 102 (by omega) (by omega)
  refine fr_aload_n h rfl 0 rfl dX12_row_0 ?_
  refine fr_iconst h dX12_row_1 ?_
  refine fr_puti (iz := 5) h kX12 fX12_94 at_0M rfl rfl (by decide) (by decide) rfl (by decide +kernel) rfM_5 (by omega) (by omega) dX12_row_2 ?_
  refine fr_mem (fun x1 m2 => ?_)
  refine fr_iload_n h rfl 1 rfl dX12_row_5 ?_
  refine fr_iconst h dX12_row_6 ?_
  refine fr_aload_n h rfl 0 rfl dX12_row_7 ?_
  refine fr_geti (iz := 4) h kX12 fX12_98 at_0M rfl rfl (by decide) (by decide) rfM_4 dX12_row_8 (fun z3 w4 w5 q6 => ?_)
  have r7 := q6.trans (fm_rd_i (a := 0) (b := 4) m2 (by decide))
  refine fr_iconst h dX12_row_11 ?_
  refine fr_isub h dX12_row_12 ?_
  refine fr_csI h wX12_in lX12_101 (c_X12_in x1 k 0 (z3 - 1) (by omega) (by omega) (by omega)) rfl (by decide) (by decide) rfl (Nat.le_of_ble_eq_true rfl) dX12_row_13 (fun z9 x8 w10 p11 => ?_)
  obtain ⟨p12, p13, y14⟩ := p11
  rw [y14]
  clear y14
  refine fr_if_eq (tgt := 28) h dX12_row_16 (by decide) (by omega) (fun c15 => ?_) (fun c15 => ?_)
  ·
    refine fr_aload_n h rfl 0 rfl dX12_row_28 ?_
    refine fr_cvI h kX12 at_0M wX12_lost lX12_213 (c_X12_lost x1) rfl (by decide) (by decide) rfl (Nat.le_of_ble_eq_true rfl) dX12_row_29 (fun z17 x16 w18 p19 => ?_)
    obtain ⟨p20, p21, f22, f23⟩ := p19
    refine fr_i2l h (by omega) dX12_row_32 ?_
    have r24 := (fm_rd_s m2)
    exact fr_lret h hq (by omega) ⟨(by omega), (fun a k0 => ((f22 a (by omega)).trans (fm_up_row m2 (by omega)))), (fun i k0 => ((f23 i (by omega)).trans (fm_rd_i (a := 0) (b := i) m2 (by omega))))⟩ dX12_row_33
  ·
    exfalso; omega
set_option maxHeartbeats 2000000 in
theorem f_X12_sheet (x : Mm) (k : Int) (n : Int) (u : Int) (v : Int) (h_k : fm_r k) (h_n : fm_r n) (h_u : fm_r u) (h_v : fm_r v) (e0 : GI x) (e1 : FRM x) : CnI YM yX12_sheet cX12_sheet 12 .int 2 45 (fun G => [vr G 0, vi k, vi n, vi u, vi v]) x (fun z y' => (k < 0 ∨ 3 < k ∨ 12 < n → z = (-1)) ∧ (0 ≤ k ∧ k < 3 ∧ n < 0 → z = (-2)) ∧ (k = 3 ∧ n ≤ 12 → z = (-3)) ∧ (0 ≤ k ∧ k < 3 ∧ 0 ≤ n ∧ n ≤ 12 → z = 0) ∧ (∀ a : Int, (a < 0 ∨ 0 < a) → y' a = x a) ∧ (∀ i : Int, i ≠ 5 → i ≠ 21 → y' 0 i = x 0 i)) := by
  refine cn_I (by decide) (fun _ => Nat.le_of_ble_eq_true rfl) (fun G C h hq => ?_)
  have h : OK YM G C cX12_sheet RX12 12 (some .int) 2 45 := h
  show FW YM G C 12 x 0 [(0, vr G 0), (1, vi k), (2, vi n), (3, vi u), (4, vi v)] []
  have e12 := e0.2.2.2
  obtain ⟨mZ, m103, m104, m105, m02, m04, m018, m037, m20, m27, m014, m15, m13, m14⟩ := e1
  have m102 := mZ 102 (by omega) (by omega)
  refine fr_aload_n h rfl 0 rfl dX12_sheet_0 ?_
  refine fr_iconst h dX12_sheet_1 ?_
  refine fr_puti (iz := 5) h kX12 fX12_94 at_0M rfl rfl (by decide) (by decide) rfl (by decide +kernel) rfM_5 (by omega) (by omega) dX12_sheet_2 ?_
  refine fr_mem (fun x1 m2 => ?_)
  refine fr_iload_n h rfl 1 rfl dX12_sheet_5 ?_
  refine fr_iconst h dX12_sheet_6 ?_
  refine fr_iconst h dX12_sheet_7 ?_
  refine fr_csI h wX12_in lX12_101 (c_X12_in x1 k 0 3 (by omega) (by omega) (by omega)) rfl (by decide) (by decide) rfl (Nat.le_of_ble_eq_true rfl) dX12_sheet_8 (fun z4 x3 w5 p6 => ?_)
  obtain ⟨p7, p8, y9⟩ := p6
  rw [y9]
  clear y9
  refine fr_if_eq (tgt := 20) h dX12_sheet_11 (by decide) (by omega) (fun c10 => ?_) (fun c10 => ?_)
  ·
    refine fr_iconst h dX12_sheet_20 ?_
    exact fr_iret h hq (by omega) ⟨(by omega), (by omega), (by omega), (by omega), (fun a k0 => (fm_up_row m2 (by omega))), (fun i k0 k1 => (fm_rd_i (a := 0) (b := i) m2 (by omega)))⟩ dX12_sheet_21
  ·
    refine fr_iload_n h rfl 2 rfl dX12_sheet_14 ?_
    refine fr_bipush h rfl dX12_sheet_15 ?_
    refine fr_icmp_le (tgt := 22) h dX12_sheet_17 (by decide) (by omega) (by omega) (fun c11 => ?_) (fun c11 => ?_)
    ·
      refine fr_iload_n h rfl 1 rfl dX12_sheet_22 ?_
      refine fr_iconst h dX12_sheet_23 ?_
      refine fr_icmp_ge (tgt := 34) h dX12_sheet_24 (by decide) (by omega) (by omega) (fun c12 => ?_) (fun c12 => ?_)
      ·
        refine fr_iload_n h rfl 3 rfl dX12_sheet_34 ?_
        refine fr_istore (L' := [(0, vr G 0), (1, vi k), (2, vi n), (3, vi u), (4, vi v), (5, vi u)]) h dX12_sheet_35 (by decide) [1, 2, 3, 4, 5, 0] rfl ?_
        refine fr_iconst h dX12_sheet_37 ?_
        refine fr_istore (L' := [(0, vr G 0), (1, vi k), (2, vi n), (3, vi u), (4, vi v), (5, vi u), (6, vi 0)]) h dX12_sheet_38 (by decide) [1, 2, 3, 4, 5, 6, 0] rfl ?_
        refine fr_aload_n h rfl 0 rfl dX12_sheet_40 ?_
        refine fr_getc (z := 1) (iz := 0) h kX12 fX12_9 at_0M rfl rfl rfM_0 (by omega) dX12_sheet_41 ?_
        refine fr_csI h wX12_edgesOf lX12_216 (f_X12_edgesOf x1 1 SA_1 7 0 (fun i j a c d _ => (congrFun (fm_up_row m2 (by omega)) _).trans (mZ (28 + 7 * i + j) (by omega) (by omega))) (Or.inl rfl)) rfl (by decide) (by decide) rfl (Nat.le_of_ble_eq_true rfl) dX12_sheet_44 (fun z14 x13 w15 p16 => ?_)
        obtain ⟨p17, p18, y19⟩ := p16
        rw [y19]
        clear y19
        refine fr_istore (L' := [(0, vr G 0), (1, vi k), (2, vi n), (3, vi u), (4, vi v), (5, vi u), (6, vi 0), (7, vi z14)]) h dX12_sheet_47 (by decide) [1, 2, 3, 4, 5, 6, 7, 0] rfl ?_
        refine fr_iconst h dX12_sheet_49 ?_
        refine fr_istore (L' := [(0, vr G 0), (1, vi k), (2, vi n), (3, vi u), (4, vi v), (5, vi u), (6, vi 0), (7, vi z14), (8, vi 0)]) h dX12_sheet_50 (by decide) [1, 2, 3, 4, 5, 6, 7, 8, 0] rfl ?_
        refine fr_iload h 8 rfl dX12_sheet_52 ?_
        refine fr_iload h 7 rfl dX12_sheet_54 ?_
        refine fr_icmp_ge (tgt := 162) h dX12_sheet_56 (by decide) (by omega) (by omega) (fun c20 => ?_) (fun c20 => ?_)
        ·
          refine fr_aload_n h rfl 0 rfl dX12_sheet_162 ?_
          refine fr_dup h rfl dX12_sheet_163 ?_
          refine fr_geti (iz := 21) h kX12 fX12_201 at_0M rfl rfl (by decide) (by decide) rfM_21 dX12_sheet_164 (fun z21 w22 w23 q24 => ?_)
          have r25 := q24.trans (fm_rd_i (a := 0) (b := 21) m2 (by decide))
          refine fr_iconst h dX12_sheet_167 ?_
          refine fr_iadd h dX12_sheet_168 ?_
          refine fr_normi (fun z26 w27 q28 => ?_)
          have w29 : fm_r ((z21 + 1)) → z26 = (z21 + 1) := fun q => (iI_inj q w27 q28).symm
          refine fr_puti (iz := 21) h kX12 fX12_201 at_0M rfl rfl (by decide) (by decide) rfl (by decide +kernel) rfM_21 (by omega) (by omega) dX12_sheet_169 ?_
          refine fr_mem (fun x30 m31 => ?_)
          refine fr_iload_n h rfl 1 rfl dX12_sheet_172 ?_
          refine fr_iconst h dX12_sheet_173 ?_
          refine fr_icmp_ne (tgt := 182) h dX12_sheet_174 (by decide) (by omega) (by omega) (fun c32 => ?_) (fun c32 => ?_)
          ·
            refine fr_iload h 6 rfl dX12_sheet_182 ?_
            exact fr_iret h hq (by omega) ⟨(by omega), (by omega), (by omega), (by omega), (fun a k0 => ((fm_up_row m31 (by omega)).trans (fm_up_row m2 (by omega)))), (fun i k0 k1 => ((fm_rd_i (a := 0) (b := i) m31 (by omega)).trans (fm_rd_i (a := 0) (b := i) m2 (by omega))))⟩ dX12_sheet_184
          ·
            refine fr_bipush h rfl dX12_sheet_177 ?_
            refine fr_goto (tgt := 184) h dX12_sheet_179 (by decide) ?_
            exact fr_iret h hq (by omega) ⟨(by omega), (by omega), (by omega), (by omega), (fun a k0 => ((fm_up_row m31 (by omega)).trans (fm_up_row m2 (by omega)))), (fun i k0 k1 => ((fm_rd_i (a := 0) (b := i) m31 (by omega)).trans (fm_rd_i (a := 0) (b := i) m2 (by omega))))⟩ dX12_sheet_184
        ·
          exfalso; omega
      ·
        refine fr_iload_n h rfl 2 rfl dX12_sheet_27 ?_
        refine fr_if_ge (tgt := 34) h dX12_sheet_28 (by decide) (by omega) (fun c33 => ?_) (fun c33 => ?_)
        ·
          refine fr_iload_n h rfl 3 rfl dX12_sheet_34 ?_
          refine fr_istore (L' := [(0, vr G 0), (1, vi k), (2, vi n), (3, vi u), (4, vi v), (5, vi u)]) h dX12_sheet_35 (by decide) [1, 2, 3, 4, 5, 0] rfl ?_
          refine fr_iconst h dX12_sheet_37 ?_
          refine fr_istore (L' := [(0, vr G 0), (1, vi k), (2, vi n), (3, vi u), (4, vi v), (5, vi u), (6, vi 0)]) h dX12_sheet_38 (by decide) [1, 2, 3, 4, 5, 6, 0] rfl ?_
          refine fr_aload_n h rfl 0 rfl dX12_sheet_40 ?_
          refine fr_getc (z := 1) (iz := 0) h kX12 fX12_9 at_0M rfl rfl rfM_0 (by omega) dX12_sheet_41 ?_
          refine fr_csI h wX12_edgesOf lX12_216 (f_X12_edgesOf x1 1 SA_1 7 0 (fun i j a c d _ => (congrFun (fm_up_row m2 (by omega)) _).trans (mZ (28 + 7 * i + j) (by omega) (by omega))) (Or.inl rfl)) rfl (by decide) (by decide) rfl (Nat.le_of_ble_eq_true rfl) dX12_sheet_44 (fun z35 x34 w36 p37 => ?_)
          obtain ⟨p38, p39, y40⟩ := p37
          rw [y40]
          clear y40
          refine fr_istore (L' := [(0, vr G 0), (1, vi k), (2, vi n), (3, vi u), (4, vi v), (5, vi u), (6, vi 0), (7, vi z35)]) h dX12_sheet_47 (by decide) [1, 2, 3, 4, 5, 6, 7, 0] rfl ?_
          refine fr_iconst h dX12_sheet_49 ?_
          refine fr_istore (L' := [(0, vr G 0), (1, vi k), (2, vi n), (3, vi u), (4, vi v), (5, vi u), (6, vi 0), (7, vi z35), (8, vi 0)]) h dX12_sheet_50 (by decide) [1, 2, 3, 4, 5, 6, 7, 8, 0] rfl ?_
          refine fr_iload h 8 rfl dX12_sheet_52 ?_
          refine fr_iload h 7 rfl dX12_sheet_54 ?_
          refine fr_icmp_ge (tgt := 162) h dX12_sheet_56 (by decide) (by omega) (by omega) (fun c41 => ?_) (fun c41 => ?_)
          ·
            refine fr_aload_n h rfl 0 rfl dX12_sheet_162 ?_
            refine fr_dup h rfl dX12_sheet_163 ?_
            refine fr_geti (iz := 21) h kX12 fX12_201 at_0M rfl rfl (by decide) (by decide) rfM_21 dX12_sheet_164 (fun z42 w43 w44 q45 => ?_)
            have r46 := q45.trans (fm_rd_i (a := 0) (b := 21) m2 (by decide))
            refine fr_iconst h dX12_sheet_167 ?_
            refine fr_iadd h dX12_sheet_168 ?_
            refine fr_normi (fun z47 w48 q49 => ?_)
            have w50 : fm_r ((z42 + 1)) → z47 = (z42 + 1) := fun q => (iI_inj q w48 q49).symm
            refine fr_puti (iz := 21) h kX12 fX12_201 at_0M rfl rfl (by decide) (by decide) rfl (by decide +kernel) rfM_21 (by omega) (by omega) dX12_sheet_169 ?_
            refine fr_mem (fun x51 m52 => ?_)
            refine fr_iload_n h rfl 1 rfl dX12_sheet_172 ?_
            refine fr_iconst h dX12_sheet_173 ?_
            refine fr_icmp_ne (tgt := 182) h dX12_sheet_174 (by decide) (by omega) (by omega) (fun c53 => ?_) (fun c53 => by exfalso; omega)
            refine fr_iload h 6 rfl dX12_sheet_182 ?_
            exact fr_iret h hq (by omega) ⟨(by omega), (by omega), (by omega), (by omega), (fun a k0 => ((fm_up_row m52 (by omega)).trans (fm_up_row m2 (by omega)))), (fun i k0 k1 => ((fm_rd_i (a := 0) (b := i) m52 (by omega)).trans (fm_rd_i (a := 0) (b := i) m2 (by omega))))⟩ dX12_sheet_184
          ·
            exfalso; omega
        ·
          refine fr_bipush h rfl dX12_sheet_31 ?_
          exact fr_iret h hq (by omega) ⟨(by omega), (by omega), (by omega), (by omega), (fun a k0 => (fm_up_row m2 (by omega))), (fun i k0 k1 => (fm_rd_i (a := 0) (b := i) m2 (by omega)))⟩ dX12_sheet_33
    ·
      refine fr_iconst h dX12_sheet_20 ?_
      exact fr_iret h hq (by omega) ⟨(by omega), (by omega), (by omega), (by omega), (fun a k0 => (fm_up_row m2 (by omega))), (fun i k0 k1 => (fm_rd_i (a := 0) (b := i) m2 (by omega)))⟩ dX12_sheet_21
set_option maxHeartbeats 2000000 in
theorem f_X12_puts (x : Mm) (p : Int) (v : Int) (h_p : fm_r p) (h_v : fm_r v) (e0 : GI x) (e1 : FRM x) : CnI YM yX12_puts cX12_puts 4 .int 3 64 (fun G => [vr G 0, vi p, vi v]) x (fun z y' => ((0 ≤ p ∧ p < 4 ∧ 0 ≤ v ∧ v ≤ 99) → z = 0) ∧ (¬ (0 ≤ p ∧ p < 4 ∧ 0 ≤ v ∧ v ≤ 99) → z = (-1)) ∧ (∀ a : Int, (a < 0 ∨ 0 < a) → (a < 1 ∨ 1 < a) → (a < 8 ∨ 8 < a) → y' a = x a) ∧ (∀ i : Int, i ≠ 5 → i ≠ 18 → i ≠ 21 → y' 0 i = x 0 i)) := by
  refine cn_I (by decide) (fun _ => Nat.le_of_ble_eq_true rfl) (fun G C h hq => ?_)
  have h : OK YM G C cX12_puts RX12 4 (some .int) 3 64 := h
  show FW YM G C 4 x 0 [(0, vr G 0), (1, vi p), (2, vi v)] []
  have e12 := e0.2.2.2
  obtain ⟨mZ, m103, m104, m105, m02, m04, m018, m037, m20, m27, m014, m15, m13, m14⟩ := e1
  have m102 := mZ 102 (by omega) (by omega)
  refine fr_aload_n h rfl 0 rfl dX12_puts_0 ?_
  refine fr_iconst h dX12_puts_1 ?_
  refine fr_puti (iz := 5) h kX12 fX12_94 at_0M rfl rfl (by decide) (by decide) rfl (by decide +kernel) rfM_5 (by omega) (by omega) dX12_puts_2 ?_
  refine fr_mem (fun x1 m2 => ?_)
  refine fr_aload_n h rfl 0 rfl dX12_puts_5 ?_
  refine fr_getc (z := 1) (iz := 0) h kX12 fX12_9 at_0M rfl rfl rfM_0 (by omega) dX12_puts_6 ?_
  refine fr_iload_n h rfl 1 rfl dX12_puts_9 ?_
  refine fr_iload_n h rfl 2 rfl dX12_puts_10 ?_
  refine fr_csI h wX12_refusesPut lX12_235 (f_X12_refusesPut x1 1 SA_1 p v (by omega) (by omega) (fun j a c => (congrFun (fm_up_row m2 (by omega)) j).trans (mZ j a c))) rfl (by decide) (by decide) rfl (Nat.le_of_ble_eq_true rfl) dX12_puts_11 (fun z4 x3 w5 p6 => ?_)
  obtain ⟨p7, p8, y9⟩ := p6
  rw [y9]
  clear y9
  refine fr_istore_n (L' := [(0, vr G 0), (1, vi p), (2, vi v), (3, vi z4)]) h rfl dX12_puts_14 (by decide) [1, 2, 3, 0] rfl ?_
  refine fr_iload_n h rfl 3 rfl dX12_puts_15 ?_
  refine fr_if_ge (tgt := 21) h dX12_puts_16 (by decide) (by omega) (fun c10 => ?_) (fun c10 => ?_)
  ·
    refine fr_aload_n h rfl 0 rfl dX12_puts_21 ?_
    refine fr_aload_n h rfl 0 rfl dX12_puts_22 ?_
    refine fr_getc (z := 1) (iz := 0) h kX12 fX12_9 at_0M rfl rfl rfM_0 (by omega) dX12_puts_23 ?_
    refine fr_cvV h kX12 at_0M wX12_change lX12_165 (c_X12_change x1 1 SA_1 (by rw [show x1 8 = x 8 from (fm_up_row m2 (by omega))]; exact e0.2.1) (by rw [show x1 1 = x 1 from (fm_up_row m2 (by omega))]; exact e0.1)) rfl (by decide) (by decide) rfl (Nat.le_of_ble_eq_true rfl) dX12_puts_26 (fun x11 p14 => ?_)
    obtain ⟨p15, p16, f17, f18⟩ := p14
    refine fr_aload_n h rfl 0 rfl dX12_puts_29 ?_
    refine fr_getc (z := 1) (iz := 0) h kX12 fX12_9 at_0M rfl rfl rfM_0 (by omega) dX12_puts_30 ?_
    refine fr_iload_n h rfl 1 rfl dX12_puts_33 ?_
    refine fr_iload_n h rfl 2 rfl dX12_puts_34 ?_
    have hgp := (congrFun ((f17 1 (by omega) (by omega)).trans (fm_up_row m2 (by omega))) (24 + p)).trans (mZ (24 + p) (by omega) (by omega))
    have r19 := (congrFun (f17 1 (by omega) (by omega)) (24 + p))
    have r20 := r19.trans (fm_rd_k (a := 1) (b := (24 + p)) m2 (by omega))
    refine fr_csI h wX12_goPut lX12_169 (f_X12_goPut x11 1 SA_1 p v (by omega) (by omega) (by omega) (by omega) (by omega) (by omega) (by omega)) rfl (by decide) (by decide) rfl (Nat.le_of_ble_eq_true rfl) dX12_puts_35 (fun z22 x21 w23 p24 => ?_)
    obtain ⟨p25, f26⟩ := p24
    exact fr_iret h hq (by omega) ⟨(by omega), (by omega), (fun a k0 k1 k2 => ((f26 a (by omega)).trans ((f17 a (by omega) (by omega)).trans (fm_up_row m2 (by omega))))), (fun i k0 k1 k2 => ((congrFun (f26 0 (by omega)) i).trans ((f18 i (by omega) (by omega)).trans (fm_rd_i (a := 0) (b := i) m2 (by omega)))))⟩ dX12_puts_38
  ·
    refine fr_iload_n h rfl 3 rfl dX12_puts_19 ?_
    exact fr_iret h hq (by omega) ⟨(by omega), (by omega), (fun a k0 k1 k2 => (fm_up_row m2 (by omega))), (fun i k0 k1 k2 => (fm_rd_i (a := 0) (b := i) m2 (by omega)))⟩ dX12_puts_20
set_option maxHeartbeats 2000000 in
theorem f_X12_takes (x : Mm) (p : Int) (w : Int) (h_p : fm_r p) (h_w : fm_r w) (e0 : GI x) (e1 : FRM x) : CnI YM yX12_takes cX12_takes 3 .int 3 64 (fun G => [vr G 0, vi p, vi w]) x (fun z y' => (z = (-1)) ∧ (∀ a : Int, (a < 0 ∨ 0 < a) → y' a = x a) ∧ (∀ i : Int, i ≠ 5 → y' 0 i = x 0 i)) := by
  refine cn_I (by decide) (fun _ => Nat.le_of_ble_eq_true rfl) (fun G C h hq => ?_)
  have h : OK YM G C cX12_takes RX12 3 (some .int) 3 64 := h
  show FW YM G C 3 x 0 [(0, vr G 0), (1, vi p), (2, vi w)] []
  have e12 := e0.2.2.2
  obtain ⟨mZ, m103, m104, m105, m02, m04, m018, m037, m20, m27, m014, m15, m13, m14⟩ := e1
  have m102 := mZ 102 (by omega) (by omega)
  refine fr_aload_n h rfl 0 rfl dX12_takes_0 ?_
  refine fr_iconst h dX12_takes_1 ?_
  refine fr_puti (iz := 5) h kX12 fX12_94 at_0M rfl rfl (by decide) (by decide) rfl (by decide +kernel) rfM_5 (by omega) (by omega) dX12_takes_2 ?_
  refine fr_mem (fun x1 m2 => ?_)
  refine fr_aload_n h rfl 0 rfl dX12_takes_5 ?_
  refine fr_getc (z := 1) (iz := 0) h kX12 fX12_9 at_0M rfl rfl rfM_0 (by omega) dX12_takes_6 ?_
  refine fr_iload_n h rfl 1 rfl dX12_takes_9 ?_
  refine fr_iload_n h rfl 2 rfl dX12_takes_10 ?_
  refine fr_csI h wX12_canTake lX12_238 (f_X12_canTake x1 1 SA_1 p w (by omega) (by omega) (fun j a c => (congrFun (fm_up_row m2 (by omega)) j).trans (mZ j a c))) rfl (by decide) (by decide) rfl (Nat.le_of_ble_eq_true rfl) dX12_takes_11 (fun z4 x3 w5 p6 => ?_)
  obtain ⟨p7, y8⟩ := p6
  rw [y8]
  clear y8
  refine fr_if_ne (tgt := 19) h dX12_takes_14 (by decide) (by omega) (fun c9 => ?_) (fun c9 => ?_)
  ·
    exfalso; omega
  ·
    refine fr_iconst h dX12_takes_17 ?_
    exact fr_iret h hq (by omega) ⟨(by omega), (fun a k0 => (fm_up_row m2 (by omega))), (fun i k0 => (fm_rd_i (a := 0) (b := i) m2 (by omega)))⟩ dX12_takes_18
set_option maxHeartbeats 2000000 in
theorem f_X12_joins (x : Mm) (p : Int) (w : Int) (v : Int) (h_p : fm_r p) (h_w : fm_r w) (h_v : fm_r v) (e0 : GI x) (e1 : FRM x) : CnI YM yX12_joins cX12_joins 5 .int 3 68 (fun G => [vr G 0, vi p, vi w, vi v]) x (fun z y' => (¬ (0 ≤ p ∧ p < 7 ∧ 0 ≤ w ∧ w < 7 ∧ p ≠ w ∧ 0 ≤ v ∧ v ≤ 99) → z = (-1)) ∧ ((0 ≤ p ∧ p < 7 ∧ 0 ≤ w ∧ w < 7 ∧ p ≠ w ∧ 0 ≤ v ∧ v ≤ 99) → v = 0 → z = (-2)) ∧ ((0 ≤ p ∧ p < 7 ∧ 0 ≤ w ∧ w < 7 ∧ p ≠ w ∧ 0 ≤ v ∧ v ≤ 99) → 1 ≤ v → z = 1) ∧ (∀ a : Int, (a < 0 ∨ 0 < a) → (a < 1 ∨ 1 < a) → (a < 8 ∨ 8 < a) → y' a = x a) ∧ (∀ i : Int, i ≠ 5 → i ≠ 18 → i ≠ 21 → y' 0 i = x 0 i)) := by
  refine cn_I (by decide) (fun _ => Nat.le_of_ble_eq_true rfl) (fun G C h hq => ?_)
  have h : OK YM G C cX12_joins RX12 5 (some .int) 3 68 := h
  show FW YM G C 5 x 0 [(0, vr G 0), (1, vi p), (2, vi w), (3, vi v)] []
  have e12 := e0.2.2.2
  obtain ⟨mZ, m103, m104, m105, m02, m04, m018, m037, m20, m27, m014, m15, m13, m14⟩ := e1
  have m102 := mZ 102 (by omega) (by omega)
  refine fr_aload_n h rfl 0 rfl dX12_joins_0 ?_
  refine fr_iconst h dX12_joins_1 ?_
  refine fr_puti (iz := 5) h kX12 fX12_94 at_0M rfl rfl (by decide) (by decide) rfl (by decide +kernel) rfM_5 (by omega) (by omega) dX12_joins_2 ?_
  refine fr_mem (fun x1 m2 => ?_)
  refine fr_aload_n h rfl 0 rfl dX12_joins_5 ?_
  refine fr_getc (z := 1) (iz := 0) h kX12 fX12_9 at_0M rfl rfl rfM_0 (by omega) dX12_joins_6 ?_
  refine fr_iload_n h rfl 1 rfl dX12_joins_9 ?_
  refine fr_iload_n h rfl 2 rfl dX12_joins_10 ?_
  refine fr_iload_n h rfl 3 rfl dX12_joins_11 ?_
  refine fr_csI h wX12_refusesJoin lX12_245 (f_X12_refusesJoin x1 1 SA_1 p w v (by omega) (by omega) (by omega) (fun j a c => (congrFun (fm_up_row m2 (by omega)) j).trans (mZ j a c))) rfl (by decide) (by decide) rfl (Nat.le_of_ble_eq_true rfl) dX12_joins_12 (fun z4 x3 w5 p6 => ?_)
  obtain ⟨p7, p8, p9, y10⟩ := p6
  rw [y10]
  clear y10
  refine fr_istore (L' := [(0, vr G 0), (1, vi p), (2, vi w), (3, vi v), (4, vi z4)]) h dX12_joins_15 (by decide) [1, 2, 3, 4, 0] rfl ?_
  refine fr_iload h 4 rfl dX12_joins_17 ?_
  refine fr_if_ge (tgt := 25) h dX12_joins_19 (by decide) (by omega) (fun c11 => ?_) (fun c11 => ?_)
  ·
    have hJ : (0 ≤ p ∧ p < 7 ∧ 0 ≤ w ∧ w < 7 ∧ p ≠ w ∧ 0 ≤ v ∧ v ≤ 99) := Classical.byContradiction (fun q => by have t := p7 q; clear p7 p8 p9; omega)
    have hv : 1 ≤ v := Classical.byContradiction (fun q => by have t := p8 hJ (by omega); omega)
    clear p7 p8 p9
    refine fr_aload_n h rfl 0 rfl dX12_joins_25 ?_
    refine fr_aload_n h rfl 0 rfl dX12_joins_26 ?_
    refine fr_getc (z := 1) (iz := 0) h kX12 fX12_9 at_0M rfl rfl rfM_0 (by omega) dX12_joins_27 ?_
    refine fr_cvV h kX12 at_0M wX12_change lX12_165 (c_X12_change x1 1 SA_1 (by rw [show x1 8 = x 8 from (fm_up_row m2 (by omega))]; exact e0.2.1) (by rw [show x1 1 = x 1 from (fm_up_row m2 (by omega))]; exact e0.1)) rfl (by decide) (by decide) rfl (Nat.le_of_ble_eq_true rfl) dX12_joins_30 (fun x12 p15 => ?_)
    obtain ⟨p16, p17, f18, f19⟩ := p15
    refine fr_aload_n h rfl 0 rfl dX12_joins_33 ?_
    refine fr_getc (z := 1) (iz := 0) h kX12 fX12_9 at_0M rfl rfl rfM_0 (by omega) dX12_joins_34 ?_
    refine fr_iload_n h rfl 1 rfl dX12_joins_37 ?_
    refine fr_iload_n h rfl 2 rfl dX12_joins_38 ?_
    refine fr_iload_n h rfl 3 rfl dX12_joins_39 ?_
    refine fr_csV h wX12_weigh lX12_224 (c_X12_weigh x12 1 SA_1 p w v (by omega) (by omega) (by omega) (by omega) (by omega) (by omega) (by omega) (by omega) (by omega)) rfl (by decide) (by decide) rfl (Nat.le_of_ble_eq_true rfl) dX12_joins_40 (fun x20 p23 => ?_)
    obtain ⟨p24, p25, p26, f27⟩ := p23
    refine fr_aload_n h rfl 0 rfl dX12_joins_43 ?_
    refine fr_getc (z := 1) (iz := 0) h kX12 fX12_9 at_0M rfl rfl rfM_0 (by omega) dX12_joins_44 ?_
    obtain ⟨lo, hi, hlh⟩ : ∃ lo hi : Int, (lo = p ∧ hi = w ∧ p < w) ∨ (lo = w ∧ hi = p ∧ w < p) := by by_cases q : p < w; (exact ⟨p, w, Or.inl ⟨rfl, rfl, q⟩⟩); (exact ⟨w, p, Or.inr ⟨rfl, rfl, by omega⟩⟩)
    refine fr_csI h wX12_edgesOf lX12_216 (f_X12_edgesOf x20 1 SA_1 lo hi (fun i j a c d k => (p26 (28 + 7 * i + j) (by omega) (by omega)).trans ((congrFun ((f18 1 (by omega) (by omega)).trans (fm_up_row m2 (by omega))) _).trans (mZ (28 + 7 * i + j) (by omega) (by omega)))) (Or.inr ⟨by omega, by omega, by omega, by rcases hlh with ⟨k1, k2, k3⟩ | ⟨k1, k2, k3⟩ <;> rw [k1, k2] <;> omega⟩)) rfl (by decide) (by decide) rfl (Nat.le_of_ble_eq_true rfl) dX12_joins_47 (fun z29 x28 w30 p31 => ?_)
    obtain ⟨p32, p33, y34⟩ := p31
    rw [y34]
    clear y34
    have ho := p33 (by omega)
    clear p32 p33
    exact fr_iret h hq (by omega) ⟨(fun q => absurd hJ q), (fun _ q => by exfalso; omega), (fun _ _ => by omega), (fun a k0 k1 k2 => ((f27 a (by omega)).trans ((f18 a (by omega) (by omega)).trans (fm_up_row m2 (by omega))))), (fun i k0 k1 k2 => ((congrFun (f27 0 (by omega)) i).trans ((f19 i (by omega) (by omega)).trans (fm_rd_i (a := 0) (b := i) m2 (by omega)))))⟩ dX12_joins_50
  ·
    refine fr_iload h 4 rfl dX12_joins_22 ?_
    exact fr_iret h hq (by omega) ⟨p7, p8, (fun a b => by have t := p9 a b; exfalso; omega), (fun a k0 k1 k2 => (fm_up_row m2 (by omega))), (fun i k0 k1 k2 => (fm_rd_i (a := 0) (b := i) m2 (by omega)))⟩ dX12_joins_24
set_option maxHeartbeats 2000000 in
theorem f_X12_costs (x : Mm) (p : Int) (w : Int) (v : Int) (h_p : fm_r p) (h_w : fm_r w) (h_v : fm_r v) (e0 : GI x) (e1 : FRM x) : CnI YM yX12_costs cX12_costs 5 .int 2 45 (fun G => [vr G 0, vi p, vi w, vi v]) x (fun z y' => ((0 ≤ p ∧ p < 5 ∧ 0 ≤ w ∧ w < 5 ∧ 0 ≤ v ∧ v ≤ 99) → z = 0) ∧ (¬ (0 ≤ p ∧ p < 5 ∧ 0 ≤ w ∧ w < 5 ∧ 0 ≤ v ∧ v ≤ 99) → z = (-1)) ∧ (∀ a : Int, (a < 0 ∨ 0 < a) → (a < 1 ∨ 1 < a) → (a < 8 ∨ 8 < a) → y' a = x a) ∧ (∀ i : Int, i ≠ 5 → i ≠ 18 → i ≠ 21 → y' 0 i = x 0 i)) := by
  refine cn_I (by decide) (fun _ => Nat.le_of_ble_eq_true rfl) (fun G C h hq => ?_)
  have h : OK YM G C cX12_costs RX12 5 (some .int) 2 45 := h
  show FW YM G C 5 x 0 [(0, vr G 0), (1, vi p), (2, vi w), (3, vi v)] []
  have e12 := e0.2.2.2
  obtain ⟨mZ, m103, m104, m105, m02, m04, m018, m037, m20, m27, m014, m15, m13, m14⟩ := e1
  have m102 := mZ 102 (by omega) (by omega)
  refine fr_aload_n h rfl 0 rfl dX12_costs_0 ?_
  refine fr_iconst h dX12_costs_1 ?_
  refine fr_puti (iz := 5) h kX12 fX12_94 at_0M rfl rfl (by decide) (by decide) rfl (by decide +kernel) rfM_5 (by omega) (by omega) dX12_costs_2 ?_
  refine fr_mem (fun x1 m2 => ?_)
  refine fr_iload_n h rfl 1 rfl dX12_costs_5 ?_
  refine fr_iload_n h rfl 2 rfl dX12_costs_6 ?_
  refine fr_iload_n h rfl 3 rfl dX12_costs_7 ?_
  refine fr_csI h wX12_canCost lX12_249 (c_X12_canCost x1 p w v (by omega) (by omega) (by omega)) rfl (by decide) (by decide) rfl (Nat.le_of_ble_eq_true rfl) dX12_costs_8 (fun z4 x3 w5 p6 => ?_)
  obtain ⟨p7, p8, y9⟩ := p6
  rw [y9]
  clear y9
  refine fr_if_ne (tgt := 16) h dX12_costs_11 (by decide) (by omega) (fun c10 => ?_) (fun c10 => ?_)
  ·
    refine fr_aload_n h rfl 0 rfl dX12_costs_16 ?_
    refine fr_aload_n h rfl 0 rfl dX12_costs_17 ?_
    refine fr_getc (z := 1) (iz := 0) h kX12 fX12_9 at_0M rfl rfl rfM_0 (by omega) dX12_costs_18 ?_
    refine fr_cvV h kX12 at_0M wX12_change lX12_165 (c_X12_change x1 1 SA_1 (by rw [show x1 8 = x 8 from (fm_up_row m2 (by omega))]; exact e0.2.1) (by rw [show x1 1 = x 1 from (fm_up_row m2 (by omega))]; exact e0.1)) rfl (by decide) (by decide) rfl (Nat.le_of_ble_eq_true rfl) dX12_costs_21 (fun x11 p14 => ?_)
    obtain ⟨p15, p16, f17, f18⟩ := p14
    refine fr_aload_n h rfl 0 rfl dX12_costs_24 ?_
    refine fr_getc (z := 1) (iz := 0) h kX12 fX12_9 at_0M rfl rfl rfM_0 (by omega) dX12_costs_25 ?_
    refine fr_bipush h rfl dX12_costs_28 ?_
    refine fr_iconst h dX12_costs_30 ?_
    refine fr_iload_n h rfl 1 rfl dX12_costs_31 ?_
    refine fr_imul h dX12_costs_32 ?_
    refine fr_iadd h dX12_costs_33 ?_
    refine fr_iload_n h rfl 2 rfl dX12_costs_34 ?_
    refine fr_iadd h dX12_costs_35 ?_
    have hz := (congrFun ((f17 1 (by omega) (by omega)).trans (fm_up_row m2 (by omega))) ((77 + (5 * p)) + w)).trans (mZ ((77 + (5 * p)) + w) (by omega) (by omega))
    refine fr_iald h (SA_a SA_1) (by omega) (by omega) ((SA_r SA_1 ((77 + (5 * p)) + w)).trans (sg_wt (by omega) (by omega))) dX12_costs_36 (fun z19 w20 w21 q22 => ?_)
    have r23 := q22.trans (congrFun (f17 1 (by omega) (by omega)) ((77 + (5 * p)) + w))
    have r24 := r23.trans (fm_rd_k (a := 1) (b := ((77 + (5 * p)) + w)) m2 (by omega))
    refine fr_istore (L' := [(0, vr G 0), (1, vi p), (2, vi w), (3, vi v), (4, vi z19)]) h dX12_costs_37 (by decide) [1, 2, 3, 4, 0] rfl ?_
    refine fr_aload_n h rfl 0 rfl dX12_costs_39 ?_
    refine fr_getc (z := 1) (iz := 0) h kX12 fX12_9 at_0M rfl rfl rfM_0 (by omega) dX12_costs_40 ?_
    refine fr_bipush h rfl dX12_costs_43 ?_
    refine fr_iconst h dX12_costs_45 ?_
    refine fr_iload_n h rfl 1 rfl dX12_costs_46 ?_
    refine fr_imul h dX12_costs_47 ?_
    refine fr_iadd h dX12_costs_48 ?_
    refine fr_iload_n h rfl 2 rfl dX12_costs_49 ?_
    refine fr_iadd h dX12_costs_50 ?_
    refine fr_iload_n h rfl 3 rfl dX12_costs_51 ?_
    refine fr_iast h (SA_a SA_1) (by omega) (by omega) ((SA_r SA_1 ((77 + (5 * p)) + w)).trans (sg_wt (by omega) (by omega))) (by omega) (by omega) dX12_costs_52 ?_
    refine fr_mem (fun x25 m26 => ?_)
    refine fr_iload h 4 rfl dX12_costs_53 ?_
    exact fr_iret h hq (by omega) ⟨(by omega), (by omega), (fun a k0 k1 k2 => ((fm_up_row m26 (by omega)).trans ((f17 a (by omega) (by omega)).trans (fm_up_row m2 (by omega))))), (fun i k0 k1 k2 => ((fm_rd_k (a := 0) (b := i) m26 (by omega)).trans ((f18 i (by omega) (by omega)).trans (fm_rd_i (a := 0) (b := i) m2 (by omega)))))⟩ dX12_costs_55
  ·
    refine fr_iconst h dX12_costs_14 ?_
    exact fr_iret h hq (by omega) ⟨(by omega), (by omega), (fun a k0 k1 k2 => (fm_up_row m2 (by omega))), (fun i k0 k1 k2 => (fm_rd_i (a := 0) (b := i) m2 (by omega)))⟩ dX12_costs_15
set_option maxHeartbeats 2000000 in
theorem f_X12_sets (x : Mm) (p : Int) (v : Int) (h_p : fm_r p) (h_v : fm_r v) (e0 : GI x) (e1 : FRM x) : CnI YM yX12_sets cX12_sets 6 .int 2 45 (fun G => [vr G 0, vi p, vi v]) x (fun z y' => (¬ ((p = 0 ∧ 0 ≤ v ∧ v ≤ 5) ∨ (p = 1 ∧ 0 ≤ v ∧ v ≤ 3)) → z = (-1)) ∧ (((p = 0 ∧ 0 ≤ v ∧ v ≤ 5) ∨ (p = 1 ∧ 0 ≤ v ∧ v ≤ 3)) → v = 0 → z = (-2)) ∧ (((p = 0 ∧ 0 ≤ v ∧ v ≤ 5) ∨ (p = 1 ∧ 0 ≤ v ∧ v ≤ 3)) → v ≠ 0 → z = 10) ∧ (∀ a : Int, (a < 0 ∨ 0 < a) → (a < 1 ∨ 1 < a) → (a < 8 ∨ 8 < a) → y' a = x a) ∧ (∀ i : Int, i ≠ 5 → i ≠ 18 → i ≠ 21 → y' 0 i = x 0 i)) := by
  refine cn_I (by decide) (fun _ => Nat.le_of_ble_eq_true rfl) (fun G C h hq => ?_)
  have h : OK YM G C cX12_sets RX12 6 (some .int) 2 45 := h
  show FW YM G C 6 x 0 [(0, vr G 0), (1, vi p), (2, vi v)] []
  have e12 := e0.2.2.2
  obtain ⟨mZ, m103, m104, m105, m02, m04, m018, m037, m20, m27, m014, m15, m13, m14⟩ := e1
  have m102 := mZ 102 (by omega) (by omega)
  have m102 := mZ 102 (by omega) (by omega)
  refine fr_aload_n h rfl 0 rfl dX12_sets_0 ?_
  refine fr_iconst h dX12_sets_1 ?_
  refine fr_puti (iz := 5) h kX12 fX12_94 at_0M rfl rfl (by decide) (by decide) rfl (by decide +kernel) rfM_5 (by omega) (by omega) dX12_sets_2 ?_
  refine fr_mem (fun x1 m2 => ?_)
  refine fr_aload_n h rfl 0 rfl dX12_sets_5 ?_
  refine fr_getc (z := 1) (iz := 0) h kX12 fX12_9 at_0M rfl rfl rfM_0 (by omega) dX12_sets_6 ?_
  refine fr_iload_n h rfl 1 rfl dX12_sets_9 ?_
  refine fr_iload_n h rfl 2 rfl dX12_sets_10 ?_
  have r3 := (fm_rd_k (a := 1) (b := 102) m2 (by omega))
  have r4 := (fm_rd_k (a := 1) (b := 105) m2 (by omega))
  refine fr_csI h wX12_refusesSet lX12_252 (f_X12_refusesSet x1 1 SA_1 p v (by omega) (by omega) (by omega) (by omega)) rfl (by decide) (by decide) rfl (Nat.le_of_ble_eq_true rfl) dX12_sets_11 (fun z6 x5 w7 p8 => ?_)
  obtain ⟨p9, p10, p11, y12⟩ := p8
  rw [y12]
  clear y12
  refine fr_istore_n (L' := [(0, vr G 0), (1, vi p), (2, vi v), (3, vi z6)]) h rfl dX12_sets_14 (by decide) [1, 2, 3, 0] rfl ?_
  refine fr_iload_n h rfl 3 rfl dX12_sets_15 ?_
  refine fr_if_ge (tgt := 21) h dX12_sets_16 (by decide) (by omega) (fun c13 => ?_) (fun c13 => ?_)
  ·
    refine fr_aload_n h rfl 0 rfl dX12_sets_21 ?_
    refine fr_aload_n h rfl 0 rfl dX12_sets_22 ?_
    refine fr_getc (z := 1) (iz := 0) h kX12 fX12_9 at_0M rfl rfl rfM_0 (by omega) dX12_sets_23 ?_
    refine fr_cvV h kX12 at_0M wX12_change lX12_165 (c_X12_change x1 1 SA_1 (by rw [show x1 8 = x 8 from (fm_up_row m2 (by omega))]; exact e0.2.1) (by rw [show x1 1 = x 1 from (fm_up_row m2 (by omega))]; exact e0.1)) rfl (by decide) (by decide) rfl (Nat.le_of_ble_eq_true rfl) dX12_sets_26 (fun x14 p17 => ?_)
    obtain ⟨p18, p19, f20, f21⟩ := p17
    refine fr_iload_n h rfl 1 rfl dX12_sets_29 ?_
    refine fr_if_ne (tgt := 38) h dX12_sets_30 (by decide) (by omega) (fun c22 => ?_) (fun c22 => ?_)
    ·
      refine fr_bipush h rfl dX12_sets_38 ?_
      refine fr_istore (L' := [(0, vr G 0), (1, vi p), (2, vi v), (3, vi z6), (4, vi 105)]) h dX12_sets_40 (by decide) [1, 2, 3, 4, 0] rfl ?_
      refine fr_aload_n h rfl 0 rfl dX12_sets_42 ?_
      refine fr_getc (z := 1) (iz := 0) h kX12 fX12_9 at_0M rfl rfl rfM_0 (by omega) dX12_sets_43 ?_
      refine fr_iload h 4 rfl dX12_sets_46 ?_
      refine fr_iald h (SA_a SA_1) (by omega) (by omega) ((SA_r SA_1 105).trans sg_pick) dX12_sets_48 (fun z23 w24 w25 q26 => ?_)
      have r27 := q26.trans (congrFun (f20 1 (by omega) (by omega)) 105)
      have r28 := r27.trans (fm_rd_k (a := 1) (b := 105) m2 (by omega))
      refine fr_istore (L' := [(0, vr G 0), (1, vi p), (2, vi v), (3, vi z6), (4, vi 105), (5, vi z23)]) h dX12_sets_49 (by decide) [1, 2, 3, 4, 5, 0] rfl ?_
      refine fr_aload_n h rfl 0 rfl dX12_sets_51 ?_
      refine fr_getc (z := 1) (iz := 0) h kX12 fX12_9 at_0M rfl rfl rfM_0 (by omega) dX12_sets_52 ?_
      refine fr_iload h 4 rfl dX12_sets_55 ?_
      refine fr_iload_n h rfl 2 rfl dX12_sets_57 ?_
      refine fr_iast h (SA_a SA_1) (by omega) (by omega) ((SA_r SA_1 105).trans sg_pick) (by omega) (by omega) dX12_sets_58 ?_
      refine fr_mem (fun x29 m30 => ?_)
      refine fr_bipush h rfl dX12_sets_59 ?_
      refine fr_iload h 5 rfl dX12_sets_61 ?_
      refine fr_iadd h dX12_sets_63 ?_
      exact fr_iret h hq (by omega) ⟨(by omega), (by omega), (by omega), (fun a k0 k1 k2 => ((fm_up_row m30 (by omega)).trans ((f20 a (by omega) (by omega)).trans (fm_up_row m2 (by omega))))), (fun i k0 k1 k2 => ((fm_rd_k (a := 0) (b := i) m30 (by omega)).trans ((f21 i (by omega) (by omega)).trans (fm_rd_i (a := 0) (b := i) m2 (by omega)))))⟩ dX12_sets_64
    ·
      refine fr_bipush h rfl dX12_sets_33 ?_
      refine fr_goto (tgt := 40) h dX12_sets_35 (by decide) ?_
      refine fr_istore (L' := [(0, vr G 0), (1, vi p), (2, vi v), (3, vi z6), (4, vi 102)]) h dX12_sets_40 (by decide) [1, 2, 3, 4, 0] rfl ?_
      refine fr_aload_n h rfl 0 rfl dX12_sets_42 ?_
      refine fr_getc (z := 1) (iz := 0) h kX12 fX12_9 at_0M rfl rfl rfM_0 (by omega) dX12_sets_43 ?_
      refine fr_iload h 4 rfl dX12_sets_46 ?_
      refine fr_iald h (SA_a SA_1) (by omega) (by omega) ((SA_r SA_1 102).trans sg_size) dX12_sets_48 (fun z31 w32 w33 q34 => ?_)
      have r35 := q34.trans (congrFun (f20 1 (by omega) (by omega)) 102)
      have r36 := r35.trans (fm_rd_k (a := 1) (b := 102) m2 (by omega))
      refine fr_istore (L' := [(0, vr G 0), (1, vi p), (2, vi v), (3, vi z6), (4, vi 102), (5, vi z31)]) h dX12_sets_49 (by decide) [1, 2, 3, 4, 5, 0] rfl ?_
      refine fr_aload_n h rfl 0 rfl dX12_sets_51 ?_
      refine fr_getc (z := 1) (iz := 0) h kX12 fX12_9 at_0M rfl rfl rfM_0 (by omega) dX12_sets_52 ?_
      refine fr_iload h 4 rfl dX12_sets_55 ?_
      refine fr_iload_n h rfl 2 rfl dX12_sets_57 ?_
      refine fr_iast h (SA_a SA_1) (by omega) (by omega) ((SA_r SA_1 102).trans sg_size) (by omega) (by omega) dX12_sets_58 ?_
      refine fr_mem (fun x37 m38 => ?_)
      refine fr_bipush h rfl dX12_sets_59 ?_
      refine fr_iload h 5 rfl dX12_sets_61 ?_
      refine fr_iadd h dX12_sets_63 ?_
      exact fr_iret h hq (by omega) ⟨(by omega), (by omega), (by omega), (fun a k0 k1 k2 => ((fm_up_row m38 (by omega)).trans ((f20 a (by omega) (by omega)).trans (fm_up_row m2 (by omega))))), (fun i k0 k1 k2 => ((fm_rd_k (a := 0) (b := i) m38 (by omega)).trans ((f21 i (by omega) (by omega)).trans (fm_rd_i (a := 0) (b := i) m2 (by omega)))))⟩ dX12_sets_64
  ·
    refine fr_iload_n h rfl 3 rfl dX12_sets_19 ?_
    exact fr_iret h hq (by omega) ⟨(by omega), (by omega), (by omega), (fun a k0 k1 k2 => (fm_up_row m2 (by omega))), (fun i k0 k1 k2 => (fm_rd_i (a := 0) (b := i) m2 (by omega)))⟩ dX12_sets_20
set_option maxHeartbeats 2000000 in
theorem f_X12_ends (x : Mm) (p : Int) (w : Int) (h_p : fm_r p) (h_w : fm_r w) (e0 : GI x) (e1 : FRM x) : CnI YM yX12_ends cX12_ends 4 .int 2 45 (fun G => [vr G 0, vi p, vi w]) x (fun z y' => ((0 ≤ p ∧ p < 7 ∧ 0 ≤ w ∧ w < 7 ∧ p ≠ w) → z = 1) ∧ (¬ (0 ≤ p ∧ p < 7 ∧ 0 ≤ w ∧ w < 7 ∧ p ≠ w) → z = (-1)) ∧ (∀ a : Int, (a < 0 ∨ 0 < a) → (a < 1 ∨ 1 < a) → (a < 8 ∨ 8 < a) → y' a = x a) ∧ (∀ i : Int, i ≠ 5 → i ≠ 18 → i ≠ 21 → y' 0 i = x 0 i)) := by
  refine cn_I (by decide) (fun _ => Nat.le_of_ble_eq_true rfl) (fun G C h hq => ?_)
  have h : OK YM G C cX12_ends RX12 4 (some .int) 2 45 := h
  show FW YM G C 4 x 0 [(0, vr G 0), (1, vi p), (2, vi w)] []
  have e12 := e0.2.2.2
  obtain ⟨mZ, m103, m104, m105, m02, m04, m018, m037, m20, m27, m014, m15, m13, m14⟩ := e1
  have m102 := mZ 102 (by omega) (by omega)
  refine fr_aload_n h rfl 0 rfl dX12_ends_0 ?_
  refine fr_iconst h dX12_ends_1 ?_
  refine fr_puti (iz := 5) h kX12 fX12_94 at_0M rfl rfl (by decide) (by decide) rfl (by decide +kernel) rfM_5 (by omega) (by omega) dX12_ends_2 ?_
  refine fr_mem (fun x1 m2 => ?_)
  refine fr_iload_n h rfl 1 rfl dX12_ends_5 ?_
  refine fr_iload_n h rfl 2 rfl dX12_ends_6 ?_
  refine fr_csI h wX12_canEnd lX12_255 (c_X12_canEnd x1 p w (by omega) (by omega)) rfl (by decide) (by decide) rfl (Nat.le_of_ble_eq_true rfl) dX12_ends_7 (fun z4 x3 w5 p6 => ?_)
  obtain ⟨p7, p8, y9⟩ := p6
  rw [y9]
  clear y9
  refine fr_if_ne (tgt := 15) h dX12_ends_10 (by decide) (by omega) (fun c10 => ?_) (fun c10 => ?_)
  ·
    refine fr_aload_n h rfl 0 rfl dX12_ends_15 ?_
    refine fr_aload_n h rfl 0 rfl dX12_ends_16 ?_
    refine fr_getc (z := 1) (iz := 0) h kX12 fX12_9 at_0M rfl rfl rfM_0 (by omega) dX12_ends_17 ?_
    refine fr_cvV h kX12 at_0M wX12_change lX12_165 (c_X12_change x1 1 SA_1 (by rw [show x1 8 = x 8 from (fm_up_row m2 (by omega))]; exact e0.2.1) (by rw [show x1 1 = x 1 from (fm_up_row m2 (by omega))]; exact e0.1)) rfl (by decide) (by decide) rfl (Nat.le_of_ble_eq_true rfl) dX12_ends_20 (fun x11 p14 => ?_)
    obtain ⟨p15, p16, f17, f18⟩ := p14
    refine fr_aload_n h rfl 0 rfl dX12_ends_23 ?_
    refine fr_getc (z := 1) (iz := 0) h kX12 fX12_9 at_0M rfl rfl rfM_0 (by omega) dX12_ends_24 ?_
    have r19 := (congrFun (f17 1 (by omega) (by omega)) 103)
    have r20 := r19.trans (fm_rd_k (a := 1) (b := 103) m2 (by omega))
    have r21 := (congrFun (f17 1 (by omega) (by omega)) 104)
    have r22 := r21.trans (fm_rd_k (a := 1) (b := 104) m2 (by omega))
    refine fr_csI h wX12_endsOf lX12_259 (f_X12_endsOf x11 1 SA_1 (by omega) (by omega)) rfl (by decide) (by decide) rfl (Nat.le_of_ble_eq_true rfl) dX12_ends_27 (fun z24 x23 w25 p26 => ?_)
    obtain ⟨p27, y28⟩ := p26
    rw [y28]
    clear y28
    refine fr_istore_n (L' := [(0, vr G 0), (1, vi p), (2, vi w), (3, vi z24)]) h rfl dX12_ends_30 (by decide) [1, 2, 3, 0] rfl ?_
    refine fr_aload_n h rfl 0 rfl dX12_ends_31 ?_
    refine fr_getc (z := 1) (iz := 0) h kX12 fX12_9 at_0M rfl rfl rfM_0 (by omega) dX12_ends_32 ?_
    refine fr_bipush h rfl dX12_ends_35 ?_
    refine fr_iload_n h rfl 1 rfl dX12_ends_37 ?_
    refine fr_iast h (SA_a SA_1) (by omega) (by omega) ((SA_r SA_1 103).trans sg_e1) (by omega) (by omega) dX12_ends_38 ?_
    refine fr_mem (fun x29 m30 => ?_)
    refine fr_aload_n h rfl 0 rfl dX12_ends_39 ?_
    refine fr_getc (z := 1) (iz := 0) h kX12 fX12_9 at_0M rfl rfl rfM_0 (by omega) dX12_ends_40 ?_
    refine fr_bipush h rfl dX12_ends_43 ?_
    refine fr_iload_n h rfl 2 rfl dX12_ends_45 ?_
    refine fr_iast h (SA_a SA_1) (by omega) (by omega) ((SA_r SA_1 104).trans sg_e2) (by omega) (by omega) dX12_ends_46 ?_
    refine fr_mem (fun x31 m32 => ?_)
    refine fr_iload_n h rfl 3 rfl dX12_ends_47 ?_
    exact fr_iret h hq (by omega) ⟨(by omega), (by omega), (fun a k0 k1 k2 => ((fm_up_row m32 (by omega)).trans ((fm_up_row m30 (by omega)).trans ((f17 a (by omega) (by omega)).trans (fm_up_row m2 (by omega)))))), (fun i k0 k1 k2 => ((fm_rd_k (a := 0) (b := i) m32 (by omega)).trans ((fm_rd_k (a := 0) (b := i) m30 (by omega)).trans ((f18 i (by omega) (by omega)).trans (fm_rd_i (a := 0) (b := i) m2 (by omega))))))⟩ dX12_ends_48
  ·
    refine fr_iconst h dX12_ends_13 ?_
    exact fr_iret h hq (by omega) ⟨(by omega), (by omega), (fun a k0 k1 k2 => (fm_up_row m2 (by omega))), (fun i k0 k1 k2 => (fm_rd_i (a := 0) (b := i) m2 (by omega)))⟩ dX12_ends_14
set_option maxHeartbeats 2000000 in
theorem f_X12_undo (x : Mm) (e0 : GI x) (e1 : FRM x) : CnI YM yX12_undo cX12_undo 2 .int 0 0 (fun G => [vr G 0]) x (fun z y' => (z = (-1)) ∧ (∀ a : Int, (a < 0 ∨ 0 < a) → y' a = x a) ∧ (∀ i : Int, i ≠ 5 → y' 0 i = x 0 i)) := by
  refine cn_I (by decide) (fun _ => Nat.le_of_ble_eq_true rfl) (fun G C h hq => ?_)
  have h : OK YM G C cX12_undo RX12 2 (some .int) 0 0 := h
  show FW YM G C 2 x 0 [(0, vr G 0)] []
  have e12 := e0.2.2.2
  obtain ⟨mZ, m103, m104, m105, m02, m04, m018, m037, m20, m27, m014, m15, m13, m14⟩ := e1
  have m102 := mZ 102 (by omega) (by omega)
  refine fr_aload_n h rfl 0 rfl dX12_undo_0 ?_
  refine fr_iconst h dX12_undo_1 ?_
  refine fr_puti (iz := 5) h kX12 fX12_94 at_0M rfl rfl (by decide) (by decide) rfl (by decide +kernel) rfM_5 (by omega) (by omega) dX12_undo_2 ?_
  refine fr_mem (fun x1 m2 => ?_)
  refine fr_aload_n h rfl 0 rfl dX12_undo_5 ?_
  refine fr_geti (iz := 18) h kX12 fX12_228 at_0M rfl rfl (by decide) (by decide) rfM_18 dX12_undo_6 (fun z3 w4 w5 q6 => ?_)
  have r7 := q6.trans (fm_rd_i (a := 0) (b := 18) m2 (by decide))
  refine fr_if_ne (tgt := 14) h dX12_undo_9 (by decide) (by omega) (fun c8 => ?_) (fun c8 => ?_)
  ·
    exfalso; omega
  ·
    refine fr_iconst h dX12_undo_12 ?_
    exact fr_iret h hq (by omega) ⟨(by omega), (fun a k0 => (fm_up_row m2 (by omega))), (fun i k0 => (fm_rd_i (a := 0) (b := i) m2 (by omega)))⟩ dX12_undo_13
set_option maxHeartbeats 2000000 in
theorem f_X12_day (x : Mm) (e0 : GI x) (e1 : FRM x) : CnI YM yX12_day cX12_day 3 .int 3 61 (fun G => [vr G 0]) x (fun z y' => (z = 0) ∧ (∀ a : Int, (a < 0 ∨ 0 < a) → (a < 3 ∨ 3 < a) → (a < 9 ∨ 9 < a) → y' a = x a) ∧ (∀ i : Int, i ≠ 2 → i ≠ 6 → i ≠ 7 → i ≠ 8 → i ≠ 9 → i ≠ 10 → i ≠ 4 → i ≠ 5 → y' 0 i = x 0 i)) := by
  refine cn_I (by decide) (fun _ => Nat.le_of_ble_eq_true rfl) (fun G C h hq => ?_)
  have h : OK YM G C cX12_day RX12 3 (some .int) 3 61 := h
  show FW YM G C 3 x 0 [(0, vr G 0)] []
  have e12 := e0.2.2.2
  obtain ⟨mZ, m103, m104, m105, m02, m04, m018, m037, m20, m27, m014, m15, m13, m14⟩ := e1
  have m102 := mZ 102 (by omega) (by omega)
  refine fr_aload_n h rfl 0 rfl dX12_day_0 ?_
  refine fr_iconst h dX12_day_1 ?_
  refine fr_puti (iz := 5) h kX12 fX12_94 at_0M rfl rfl (by decide) (by decide) rfl (by decide +kernel) rfM_5 (by omega) (by omega) dX12_day_2 ?_
  refine fr_mem (fun x1 m2 => ?_)
  refine fr_aload_n h rfl 0 rfl dX12_day_5 ?_
  refine fr_bipush h rfl dX12_day_6 ?_
  refine fr_cvV h kX12 at_0M wX12_beginText lX12_151 (c_X12_beginText x1 60 (by omega) (by omega) (by omega)) rfl (by decide) (by decide) rfl (Nat.le_of_ble_eq_true rfl) dX12_day_8 (fun x3 p6 => ?_)
  obtain ⟨p7, p8, p9, p10, p11, p12, f13, f14⟩ := p6
  have r15 := (fm_rd_i (a := 0) (b := 2) m2 (by decide))
  skip
  refine fr_iconst h dX12_day_11 ?_
  refine fr_istore_n (L' := [(0, vr G 0), (1, vi 0)]) h rfl dX12_day_12 (by decide) [1, 0] rfl ?_
  refine fr_aload_n h rfl 0 rfl dX12_day_13 ?_
  refine fr_cvI h kX12 at_0M wX12_fine lX12_131 (c_X12_fine x3) rfl (by decide) (by decide) rfl (Nat.le_of_ble_eq_true rfl) dX12_day_14 (fun z17 x16 w18 p19 => ?_)
  obtain ⟨p20, p21, y22⟩ := p19
  rw [y22]
  clear y22
  refine fr_if_eq (tgt := 44) h dX12_day_17 (by decide) (by omega) (fun c23 => ?_) (fun c23 => ?_)
  ·
    exfalso; omega
  ·
    refine fr_aload_n h rfl 0 rfl dX12_day_20 ?_
    refine fr_geti (iz := 9) h kX12 fX12_121 at_0M rfl rfl (by decide) (by decide) rfM_9 dX12_day_21 (fun z24 w25 w26 q27 => ?_)
    have r28 := (fm_rd_i (a := 0) (b := 9) m2 (by decide))
    refine fr_aload_n h rfl 0 rfl dX12_day_24 ?_
    refine fr_geti (iz := 7) h kX12 fX12_115 at_0M rfl rfl (by decide) (by decide) rfM_7 dX12_day_25 (fun z29 w30 w31 q32 => ?_)
    have r33 := (fm_rd_i (a := 0) (b := 7) m2 (by decide))
    refine fr_icmp_ge (tgt := 44) h dX12_day_28 (by decide) (by omega) (by omega) (fun c34 => ?_) (fun c34 => ?_)
    ·
      refine fr_aload_n h rfl 0 rfl dX12_day_44 ?_
      have r35 := (fm_rd_i (a := 0) (b := 9) m2 (by decide))
      refine fr_cvI h kX12 at_0M wX12_wasRight lX12_158 (d_X12_wasRight x3 (by omega)) rfl (by decide) (by decide) rfl (Nat.le_of_ble_eq_true rfl) dX12_day_45 (fun z37 x36 w38 p39 => ?_)
      obtain ⟨p40, p41, p42, p43, p44, f45, f46⟩ := p39
      refine fr_if_ne (tgt := 58) h dX12_day_48 (by decide) (by omega) (fun c47 => ?_) (fun c47 => ?_)
      ·
        refine fr_aload_n h rfl 0 rfl dX12_day_58 ?_
        refine fr_getc (z := 1) (iz := 0) h kX12 fX12_9 at_0M rfl rfl rfM_0 (by omega) dX12_day_59 ?_
        refine fr_aload_n h rfl 0 rfl dX12_day_62 ?_
        refine fr_getc (z := 9) (iz := 19) h kX12 fX12_36 at_0M rfl rfl rfM_19 (by omega) dX12_day_63 ?_
        refine fr_iconst h dX12_day_66 ?_
        refine fr_csV h wX12_lay lX12_231 (c_X12_lay x36 1 SA_1 9 106 (by unfold LTN; omega) 0 (by omega) (by omega) (by omega) (by omega) (by omega)) rfl (by decide) (by decide) rfl (Nat.le_of_ble_eq_true rfl) dX12_day_67 (fun x48 p51 => ?_)
        obtain ⟨p52, p53, f54⟩ := p51
        refine fr_iconst h dX12_day_70 ?_
        refine fr_istore_n (L' := [(0, vr G 0), (1, vi 0), (2, vi 0)]) h rfl dX12_day_71 (by decide) [1, 2, 0] rfl ?_
        refine fr_iload_n h rfl 2 rfl dX12_day_72 ?_
        refine fr_iload_n h rfl 1 rfl dX12_day_73 ?_
        refine fr_icmp_ge (tgt := 128) h dX12_day_74 (by decide) (by omega) (by omega) (fun c55 => ?_) (fun c55 => by exfalso; omega)
        refine fr_iload_n h rfl 2 rfl dX12_day_128 ?_
        refine fr_if_le (tgt := 140) h dX12_day_129 (by decide) (by omega) (fun c56 => ?_) (fun c56 => by exfalso; omega)
        refine fr_aload_n h rfl 0 rfl dX12_day_140 ?_
        refine fr_iconst h dX12_day_141 ?_
        refine fr_puti (iz := 4) h kX12 fX12_98 at_0M rfl rfl (by decide) (by decide) rfl (by decide +kernel) rfM_4 (by omega) (by omega) dX12_day_142 ?_
        refine fr_mem (fun x57 m58 => ?_)
        refine fr_aload_n h rfl 0 rfl dX12_day_145 ?_
        refine fr_iload_n h rfl 2 rfl dX12_day_146 ?_
        refine fr_iload_n h rfl 1 rfl dX12_day_147 ?_
        refine fr_icmp_ge (tgt := 155) h dX12_day_148 (by decide) (by omega) (by omega) (fun c59 => ?_) (fun c59 => by exfalso; omega)
        refine fr_lconst (z := 0) h rfl dX12_day_155 ?_
        have r60 := (fm_rd_s m58)
        refine fr_cvV h kX12 at_0M wX12_tell lX12_269 (c_X12_tell x57 0 (by omega) (by omega)) rfl (by decide) (by decide) rfl (Nat.le_of_ble_eq_true rfl) dX12_day_156 (fun x61 p64 => ?_)
        obtain ⟨p65, f66, f67⟩ := p64
        refine fr_iload_n h rfl 2 rfl dX12_day_159 ?_
        exact fr_iret h hq (by omega) ⟨(by omega), (fun a k0 k1 k2 => ((f66 a (by omega) (by omega)).trans ((fm_up_row m58 (by omega)).trans ((f54 a (by omega)).trans ((f45 a (by omega)).trans ((f13 a (by omega)).trans (fm_up_row m2 (by omega)))))))), (fun i k0 k1 k2 k3 k4 k5 k6 k7 => ((f67 i (by omega)).trans ((fm_rd_i (a := 0) (b := i) m58 (by omega)).trans ((congrFun (f54 0 (by omega)) i).trans ((f46 i (by omega)).trans ((f14 i (by omega) (by omega) (by omega) (by omega) (by omega) (by omega)).trans (fm_rd_i (a := 0) (b := i) m2 (by omega))))))))⟩ dX12_day_160
      ·
        exfalso; omega
    ·
      exfalso; omega
set_option maxHeartbeats 200000 in
theorem f_X12_numbersOf (x : Mm) (e0 : ∀ j : Int, 24 ≤ j → j ≤ 102 → x 1 j = 0) : CnI YM yX12_numbersOf cX12_numbersOf 3 .int 0 0 (fun G => [vr G 0]) x (fun z y' => (z = 0) ∧ (y' = x)) := by
  refine cn_I (by decide) (fun _ => Nat.le_of_ble_eq_true rfl) (fun G C h hq => ?_)
  have h : OK YM G C cX12_numbersOf RX12 3 (some .int) 0 0 := h
  show FW YM G C 3 x 0 [(0, vr G 0)] []
  refine fr_iconst h dX12_numbersOf_0 ?_
  refine fr_istore_n (L' := [(0, vr G 0), (1, vi 0)]) h rfl dX12_numbersOf_1 (by decide) [1, 0] rfl ?_
  refine fr_iconst h dX12_numbersOf_2 ?_
  refine fr_istore_n (L' := [(0, vr G 0), (1, vi 0), (2, vi 0)]) h rfl dX12_numbersOf_3 (by decide) [1, 2, 0] rfl ?_
  have HL1 : ∀ (n1 : Nat) (l1_1 l2_1 : Int), fm_r l1_1 → 0 ≤ l1_1 → l1_1 ≤ 24 → fm_r l2_1 → 0 ≤ l2_1 → l2_1 ≤ 4 → l1_1 = 0 → (4 - l2_1) < n1 → FW YM G C 3 x 4 [(0, vr G 0), (1, vi l1_1), (2, vi l2_1)] [] := by
    intro n1
    induction n1 with
    | zero =>
      intro l1_1 l2_1 g1_0 g1_1 g1_2 g1_3 g1_4 g1_5 g1_6 g1_7
      exfalso; omega
    | succ n1 ih1 =>
      intro l1_1 l2_1 g1_0 g1_1 g1_2 g1_3 g1_4 g1_5 g1_6 g1_7
      refine fr_iload_n h rfl 2 rfl dX12_numbersOf_4 ?_
      refine fr_iconst h dX12_numbersOf_5 ?_
      refine fr_icmp_ge (tgt := 27) h dX12_numbersOf_6 (by decide) (by omega) (by omega) (fun c2 => ?_) (fun c2 => ?_)
      ·
        refine fr_iload_n h rfl 1 rfl dX12_numbersOf_27 ?_
        exact fr_iret h hq (by omega) ⟨(by omega), rfl⟩ dX12_numbersOf_28
      ·
        refine fr_iload_n h rfl 1 rfl dX12_numbersOf_9 ?_
        refine fr_aload_n h rfl 0 rfl dX12_numbersOf_10 ?_
        refine fr_getc (z := 1) (iz := 0) h kX12 fX12_9 at_0M rfl rfl rfM_0 (by omega) dX12_numbersOf_11 ?_
        refine fr_bipush h rfl dX12_numbersOf_14 ?_
        refine fr_iload_n h rfl 2 rfl dX12_numbersOf_16 ?_
        refine fr_iadd h dX12_numbersOf_17 ?_
        have hz := e0 (24 + l2_1) (by omega) (by omega)
        refine fr_iald h (SA_a SA_1) (by omega) (by omega) ((SA_r SA_1 (24 + l2_1)).trans (sg_len (by omega) (by omega))) dX12_numbersOf_18 (fun z3 w4 w5 q6 => ?_)
        refine fr_iadd h dX12_numbersOf_19 ?_
        refine fr_istore_n (L' := [(0, vr G 0), (1, vi (l1_1 + z3)), (2, vi l2_1)]) h rfl dX12_numbersOf_20 (by decide) [1, 0, 2] rfl ?_
        refine fr_iinc (j := 2) (L' := [(0, vr G 0), (1, vi (l1_1 + z3)), (2, vi (l2_1 + 1))]) h dX12_numbersOf_21 rfl (by decide) [1, 2, 0] rfl ?_
        refine fr_goto (tgt := 4) h dX12_numbersOf_24 (by decide) ?_
        exact ih1 (l1_1 + z3) (l2_1 + 1) (by omega) (by omega) (by omega) (by omega) (by omega) (by omega) (by omega) (by omega)
  exact HL1 ((4 - 0) + 1 : Int).toNat 0 0 (by omega) (by omega) (by omega) (by omega) (by omega) (by omega) (by omega) (by omega)
set_option maxHeartbeats 2000000 in
theorem f_X12_count (x : Mm) (k : Int) (h_k : fm_r k) (e0 : GI x) (e1 : FRM x) : CnI YM yX12_count cX12_count 2 .int 2 45 (fun G => [vr G 0, vi k]) x (fun z y' => (k = 4 → z = 1) ∧ (0 ≤ k ∧ k ≤ 9 ∧ k ≠ 4 → z = 0) ∧ (¬ (0 ≤ k ∧ k ≤ 9) → z = (-1)) ∧ (∀ a : Int, (a < 0 ∨ 0 < a) → y' a = x a) ∧ (∀ i : Int, i ≠ 5 → y' 0 i = x 0 i)) := by
  refine cn_I (by decide) (fun _ => Nat.le_of_ble_eq_true rfl) (fun G C h hq => ?_)
  have h : OK YM G C cX12_count RX12 2 (some .int) 2 45 := h
  show FW YM G C 2 x 0 [(0, vr G 0), (1, vi k)] []
  have e12 := e0.2.2.2
  obtain ⟨mZ, m103, m104, m105, m02, m04, m018, m037, m20, m27, m014, m15, m13, m14⟩ := e1
  have m102 := mZ 102 (by omega) (by omega)
  have m102 := mZ 102 (by omega) (by omega)
  refine fr_aload_n h rfl 0 rfl dX12_count_0 ?_
  refine fr_iconst h dX12_count_1 ?_
  refine fr_puti (iz := 5) h kX12 fX12_94 at_0M rfl rfl (by decide) (by decide) rfl (by decide +kernel) rfM_5 (by omega) (by omega) dX12_count_2 ?_
  refine fr_mem (fun x1 m2 => ?_)
  refine fr_iload_n h rfl 1 rfl dX12_count_5 ?_
  by_cases c4 : k = 0
  ·
    refine fr_tab_in (off := 54) (tgt := 60) h dX12_count_6 (by omega) (by omega) (by omega) (by rw [c4]; rfl) (by decide) ?_
    refine fr_aload_n h rfl 0 rfl dX12_count_60 ?_
    refine fr_cvI h kX12 at_0M wX12_numbersOf lX12_376 (f_X12_numbersOf x1 (fun j a c => (congrFun (fm_up_row m2 (by omega)) j).trans (mZ j a c))) rfl (by decide) (by decide) rfl (Nat.le_of_ble_eq_true rfl) dX12_count_61 (fun z6 x5 w7 p8 => ?_)
    obtain ⟨p9, y10⟩ := p8
    rw [y10]
    clear y10
    exact fr_iret h hq (by omega) ⟨(by omega), (by omega), (by omega), (fun a k0 => (fm_up_row m2 (by omega))), (fun i k0 => (fm_rd_i (a := 0) (b := i) m2 (by omega)))⟩ dX12_count_64
  ·
    by_cases c11 : k = 1
    ·
      refine fr_tab_in (off := 59) (tgt := 65) h dX12_count_6 (by omega) (by omega) (by omega) (by rw [c11]; rfl) (by decide) ?_
      refine fr_aload_n h rfl 0 rfl dX12_count_65 ?_
      refine fr_getc (z := 1) (iz := 0) h kX12 fX12_9 at_0M rfl rfl rfM_0 (by omega) dX12_count_66 ?_
      refine fr_csI h wX12_edgesOf lX12_216 (f_X12_edgesOf x1 1 SA_1 7 0 (fun i j a c d _ => (congrFun (fm_up_row m2 (by omega)) _).trans (mZ (28 + 7 * i + j) (by omega) (by omega))) (Or.inl rfl)) rfl (by decide) (by decide) rfl (Nat.le_of_ble_eq_true rfl) dX12_count_69 (fun z13 x12 w14 p15 => ?_)
      obtain ⟨p16, p17, y18⟩ := p15
      rw [y18]
      clear y18
      exact fr_iret h hq (by omega) ⟨(by omega), (by omega), (by omega), (fun a k0 => (fm_up_row m2 (by omega))), (fun i k0 => (fm_rd_i (a := 0) (b := i) m2 (by omega)))⟩ dX12_count_72
    ·
      by_cases c19 : k = 2
      ·
        refine fr_tab_in (off := 67) (tgt := 73) h dX12_count_6 (by omega) (by omega) (by omega) (by rw [c19]; rfl) (by decide) ?_
        refine fr_aload_n h rfl 0 rfl dX12_count_73 ?_
        refine fr_getc (z := 1) (iz := 0) h kX12 fX12_9 at_0M rfl rfl rfM_0 (by omega) dX12_count_74 ?_
        refine fr_bipush h rfl dX12_count_77 ?_
        refine fr_iald h (SA_a SA_1) (by omega) (by omega) ((SA_r SA_1 102).trans sg_size) dX12_count_79 (fun z20 w21 w22 q23 => ?_)
        have r24 := q23.trans (fm_rd_k (a := 1) (b := 102) m2 (by omega))
        exact fr_iret h hq (by omega) ⟨(by omega), (by omega), (by omega), (fun a k0 => (fm_up_row m2 (by omega))), (fun i k0 => (fm_rd_i (a := 0) (b := i) m2 (by omega)))⟩ dX12_count_80
      ·
        by_cases c25 : k = 3
        ·
          refine fr_tab_in (off := 75) (tgt := 81) h dX12_count_6 (by omega) (by omega) (by omega) (by rw [c25]; rfl) (by decide) ?_
          refine fr_aload_n h rfl 0 rfl dX12_count_81 ?_
          refine fr_getc (z := 1) (iz := 0) h kX12 fX12_9 at_0M rfl rfl rfM_0 (by omega) dX12_count_82 ?_
          refine fr_bipush h rfl dX12_count_85 ?_
          refine fr_iald h (SA_a SA_1) (by omega) (by omega) ((SA_r SA_1 105).trans sg_pick) dX12_count_87 (fun z26 w27 w28 q29 => ?_)
          have r30 := q29.trans (fm_rd_k (a := 1) (b := 105) m2 (by omega))
          exact fr_iret h hq (by omega) ⟨(by omega), (by omega), (by omega), (fun a k0 => (fm_up_row m2 (by omega))), (fun i k0 => (fm_rd_i (a := 0) (b := i) m2 (by omega)))⟩ dX12_count_88
        ·
          by_cases c31 : k = 4
          ·
            refine fr_tab_in (off := 83) (tgt := 89) h dX12_count_6 (by omega) (by omega) (by omega) (by rw [c31]; rfl) (by decide) ?_
            refine fr_aload_n h rfl 0 rfl dX12_count_89 ?_
            refine fr_getc (z := 1) (iz := 0) h kX12 fX12_9 at_0M rfl rfl rfM_0 (by omega) dX12_count_90 ?_
            have r32 := (fm_rd_k (a := 1) (b := 103) m2 (by omega))
            have r33 := (fm_rd_k (a := 1) (b := 104) m2 (by omega))
            refine fr_csI h wX12_endsOf lX12_259 (f_X12_endsOf x1 1 SA_1 (by omega) (by omega)) rfl (by decide) (by decide) rfl (Nat.le_of_ble_eq_true rfl) dX12_count_93 (fun z35 x34 w36 p37 => ?_)
            obtain ⟨p38, y39⟩ := p37
            rw [y39]
            clear y39
            exact fr_iret h hq (by omega) ⟨(by omega), (by omega), (by omega), (fun a k0 => (fm_up_row m2 (by omega))), (fun i k0 => (fm_rd_i (a := 0) (b := i) m2 (by omega)))⟩ dX12_count_96
          ·
            by_cases c40 : k = 5
            ·
              refine fr_tab_in (off := 91) (tgt := 97) h dX12_count_6 (by omega) (by omega) (by omega) (by rw [c40]; rfl) (by decide) ?_
              refine fr_aload_n h rfl 0 rfl dX12_count_97 ?_
              refine fr_geti (iz := 37) h kX12 fX12_348 at_0M rfl rfl (by decide) (by decide) rfM_37 dX12_count_98 (fun z41 w42 w43 q44 => ?_)
              have r45 := q44.trans (fm_rd_i (a := 0) (b := 37) m2 (by decide))
              exact fr_iret h hq (by omega) ⟨(by omega), (by omega), (by omega), (fun a k0 => (fm_up_row m2 (by omega))), (fun i k0 => (fm_rd_i (a := 0) (b := i) m2 (by omega)))⟩ dX12_count_101
            ·
              by_cases c46 : k = 6
              ·
                refine fr_tab_in (off := 96) (tgt := 102) h dX12_count_6 (by omega) (by omega) (by omega) (by rw [c46]; rfl) (by decide) ?_
                refine fr_aload_n h rfl 0 rfl dX12_count_102 ?_
                refine fr_geti (iz := 18) h kX12 fX12_228 at_0M rfl rfl (by decide) (by decide) rfM_18 dX12_count_103 (fun z47 w48 w49 q50 => ?_)
                have r51 := q50.trans (fm_rd_i (a := 0) (b := 18) m2 (by decide))
                exact fr_iret h hq (by omega) ⟨(by omega), (by omega), (by omega), (fun a k0 => (fm_up_row m2 (by omega))), (fun i k0 => (fm_rd_i (a := 0) (b := i) m2 (by omega)))⟩ dX12_count_106
              ·
                by_cases c52 : k = 7
                ·
                  refine fr_tab_in (off := 101) (tgt := 107) h dX12_count_6 (by omega) (by omega) (by omega) (by rw [c52]; rfl) (by decide) ?_
                  refine fr_aload_n h rfl 0 rfl dX12_count_107 ?_
                  refine fr_geti (iz := 4) h kX12 fX12_98 at_0M rfl rfl (by decide) (by decide) rfM_4 dX12_count_108 (fun z53 w54 w55 q56 => ?_)
                  have r57 := q56.trans (fm_rd_i (a := 0) (b := 4) m2 (by decide))
                  exact fr_iret h hq (by omega) ⟨(by omega), (by omega), (by omega), (fun a k0 => (fm_up_row m2 (by omega))), (fun i k0 => (fm_rd_i (a := 0) (b := i) m2 (by omega)))⟩ dX12_count_111
                ·
                  by_cases c58 : k = 8
                  ·
                    refine fr_tab_in (off := 106) (tgt := 112) h dX12_count_6 (by omega) (by omega) (by omega) (by rw [c58]; rfl) (by decide) ?_
                    refine fr_aload_n h rfl 0 rfl dX12_count_112 ?_
                    refine fr_geti (iz := 2) h kX12 fX12_109 at_0M rfl rfl (by decide) (by decide) rfM_2 dX12_count_113 (fun z59 w60 w61 q62 => ?_)
                    have r63 := q62.trans (fm_rd_i (a := 0) (b := 2) m2 (by decide))
                    exact fr_iret h hq (by omega) ⟨(by omega), (by omega), (by omega), (fun a k0 => (fm_up_row m2 (by omega))), (fun i k0 => (fm_rd_i (a := 0) (b := i) m2 (by omega)))⟩ dX12_count_116
                  ·
                    by_cases c64 : k = 9
                    ·
                      refine fr_tab_in (off := 111) (tgt := 117) h dX12_count_6 (by omega) (by omega) (by omega) (by rw [c64]; rfl) (by decide) ?_
                      refine fr_aload_n h rfl 0 rfl dX12_count_117 ?_
                      refine fr_getc (z := 1) (iz := 0) h kX12 fX12_9 at_0M rfl rfl rfM_0 (by omega) dX12_count_118 ?_
                      refine fr_csI h wX12_joinedOf lX12_312 (f_X12_joinedOf x1 1 SA_1 (fun j a c => (congrFun (fm_up_row m2 (by omega)) j).trans (mZ j a c))) rfl (by decide) (by decide) rfl (Nat.le_of_ble_eq_true rfl) dX12_count_121 (fun z66 x65 w67 p68 => ?_)
                      obtain ⟨p69, y70⟩ := p68
                      rw [y70]
                      clear y70
                      exact fr_iret h hq (by omega) ⟨(by omega), (by omega), (by omega), (fun a k0 => (fm_up_row m2 (by omega))), (fun i k0 => (fm_rd_i (a := 0) (b := i) m2 (by omega)))⟩ dX12_count_124
                    ·
                      refine fr_tab_out (tgt := 125) h dX12_count_6 (by omega) (by omega) (by decide) ?_
                      refine fr_iconst h dX12_count_125 ?_
                      exact fr_iret h hq (by omega) ⟨(by omega), (by omega), (by omega), (fun a k0 => (fm_up_row m2 (by omega))), (fun i k0 => (fm_rd_i (a := 0) (b := i) m2 (by omega)))⟩ dX12_count_126
