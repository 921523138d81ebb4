set_option maxHeartbeats 200000 in
theorem c_X12_best (x : Mm) (k : Int) (p : Int) (h_k : fm_r k) (h_p : fm_r p) (e0 : GI x) : CnI YM yX12_best cX12_best 3 .int 207 6248 (fun G => [vr G 0, vi k, vi p]) x (fun z y' => (y' 0 5 = 0) ∧ (GI y') ∧ (∀ a : Int, (a < 0 ∨ 0 < a) → (a < 3 ∨ 3 < a) → (a < 7 ∨ 7 < a) → (a < 12 ∨ 18 < a) → y' a = x a) ∧ (∀ i : Int, i ≠ 4 → i ≠ 5 → i ≠ 6 → i ≠ 7 → i ≠ 8 → i ≠ 9 → i ≠ 10 → i ≠ 15 → i ≠ 26 → y' 0 i = x 0 i)) := by
  refine cn_I (by decide) (fun _ => Nat.le_of_ble_eq_true rfl) (fun G C h hq => ?_)
  have h : OK YM G C cX12_best RX12 3 (some .int) 207 6248 := h
  show FW YM G C 3 x 0 [(0, vr G 0), (1, vi k), (2, vi p)] []
  have e12 := e0.2.2.2
  refine fr_aload_n h rfl 0 rfl dX12_best_0 ?_
  refine fr_iconst h dX12_best_1 ?_
  refine fr_puti (iz := 5) h kX12 fX12_94 at_0M rfl rfl (by decide) (by decide) rfl (by decide +kernel) rfM_5 (by omega) (by omega) dX12_best_2 ?_
  refine fr_mem (fun x1 m2 => ?_)
  refine fr_iload_n h rfl 1 rfl dX12_best_5 ?_
  refine fr_csI h wX12_isKind lX12_324 (c_X12_isKind x1 k (by omega)) rfl (by decide) (by decide) rfl (Nat.le_of_ble_eq_true rfl) dX12_best_6 (fun z4 x3 w5 p6 => ?_)
  obtain ⟨p7, p8, y9⟩ := p6
  rw [y9]
  clear y9
  refine fr_if_eq (tgt := 23) h dX12_best_9 (by decide) (by omega) (fun c10 => ?_) (fun c10 => ?_)
  ·
    refine fr_iconst h dX12_best_23 ?_
    have r11 := (fm_rd_s m2)
    have r12 := (fm_rd_i (a := 0) (b := 12) m2 (by decide))
    exact fr_iret h hq (by omega) ⟨(by omega), ⟨(by rw [show x1 1 = x 1 from (fm_up_row m2 (by omega))]; exact e0.1), (by rw [show x1 8 = x 8 from (fm_up_row m2 (by omega))]; exact e0.2.1), (by rw [show x1 26 = x 26 from (fm_up_row m2 (by omega))]; exact e0.2.2.1), (by have := e0.2.2.2; omega)⟩, (fun a k0 k1 k2 k3 => (fm_up_row m2 (by omega))), (fun i k0 k1 k2 k3 k4 k5 k6 k7 k8 => (fm_rd_i (a := 0) (b := i) m2 (by omega)))⟩ dX12_best_24
  ·
    refine fr_iload_n h rfl 2 rfl dX12_best_12 ?_
    refine fr_iconst h dX12_best_13 ?_
    refine fr_sipush h rfl dX12_best_14 ?_
    refine fr_csI h wX12_in lX12_101 (c_X12_in x1 p 1 400 (by omega) (by omega) (by omega)) rfl (by decide) (by decide) rfl (Nat.le_of_ble_eq_true rfl) dX12_best_17 (fun z14 x13 w15 p16 => ?_)
    obtain ⟨p17, p18, y19⟩ := p16
    rw [y19]
    clear y19
    refine fr_if_ne (tgt := 25) h dX12_best_20 (by decide) (by omega) (fun c20 => ?_) (fun c20 => ?_)
    ·
      refine fr_aload_n h rfl 0 rfl dX12_best_25 ?_
      refine fr_aload_n h rfl 0 rfl dX12_best_26 ?_
      refine fr_getc (z := 1) (iz := 0) h kX12 fX12_9 at_0M rfl rfl rfM_0 (by omega) dX12_best_27 ?_
      refine fr_iload_n h rfl 1 rfl dX12_best_30 ?_
      refine fr_cvI h kX12 at_0M wX12_layAll lX12_327 (c_X12_layAll x1 1 SA_1 k (by omega) (by rw [show x1 1 = x 1 from (fm_up_row m2 (by omega))]; exact e0.1)) rfl (by decide) (by decide) rfl (Nat.le_of_ble_eq_true rfl) dX12_best_31 (fun z22 x21 w23 p24 => ?_)
      obtain ⟨p25, p26, p27, p28, p29, p30, f31, f32⟩ := p24
      refine fr_iload_n h rfl 2 rfl dX12_best_34 ?_
      refine fr_icmp_ge (tgt := 43) h dX12_best_35 (by decide) (by omega) (by omega) (fun c33 => ?_) (fun c33 => ?_)
      ·
        refine fr_aload_n h rfl 0 rfl dX12_best_43 ?_
        refine fr_iload_n h rfl 2 rfl dX12_best_44 ?_
        refine fr_cvI h kX12 at_0M wX12_tellItem lX12_330 (c_X12_tellItem x21 p (by omega) (by omega) (by omega)) rfl (by decide) (by decide) rfl (Nat.le_of_ble_eq_true rfl) dX12_best_45 (fun z35 x34 w36 p37 => ?_)
        obtain ⟨p38, p39, f40, f41⟩ := p37
        have r42 := (f41 5 (by decide))
        have r43 := r42.trans (f32 5 (by decide) (by decide) (by decide) (by decide) (by decide) (by decide) (by decide))
        have r44 := r43.trans (fm_rd_s m2)
        have r45 := (f41 12 (by decide))
        have r46 := r45.trans (f32 12 (by decide) (by decide) (by decide) (by decide) (by decide) (by decide) (by decide))
        have r47 := r46.trans (fm_rd_i (a := 0) (b := 12) m2 (by decide))
        exact fr_iret h hq (by omega) ⟨(by omega), ⟨(by rw [show x34 1 = x21 1 from (f40 1 (by omega) (by omega))]; exact (by rw [show x21 1 = x1 1 from (f31 1 (by omega) (by omega) (by omega))]; exact (by rw [show x1 1 = x 1 from (fm_up_row m2 (by omega))]; exact e0.1))), (by rw [show x34 8 = x 8 from ((f40 8 (by omega) (by omega)).trans ((f31 8 (by omega) (by omega) (by omega)).trans (fm_up_row m2 (by omega))))]; exact e0.2.1), (by rw [show x34 26 = x 26 from ((f40 26 (by omega) (by omega)).trans ((f31 26 (by omega) (by omega) (by omega)).trans (fm_up_row m2 (by omega))))]; exact e0.2.2.1), (by have := e0.2.2.2; omega)⟩, (fun a k0 k1 k2 k3 => ((f40 a (by omega) (by omega)).trans ((f31 a (by omega) (by omega) (by omega)).trans (fm_up_row m2 (by omega))))), (fun i k0 k1 k2 k3 k4 k5 k6 k7 k8 => ((f41 i (by omega)).trans ((f32 i (by omega) (by omega) (by omega) (by omega) (by omega) (by omega) (by omega)).trans (fm_rd_i (a := 0) (b := i) m2 (by omega)))))⟩ dX12_best_48
      ·
        refine fr_bipush h rfl dX12_best_38 ?_
        refine fr_goto (tgt := 48) h dX12_best_40 (by decide) ?_
        have r48 := (f32 5 (by decide) (by decide) (by decide) (by decide) (by decide) (by decide) (by decide))
        have r49 := r48.trans (fm_rd_s m2)
        have r50 := (f32 12 (by decide) (by decide) (by decide) (by decide) (by decide) (by decide) (by decide))
        have r51 := r50.trans (fm_rd_i (a := 0) (b := 12) m2 (by decide))
        exact fr_iret h hq (by omega) ⟨(by omega), ⟨(by rw [show x21 1 = x1 1 from (f31 1 (by omega) (by omega) (by omega))]; exact (by rw [show x1 1 = x 1 from (fm_up_row m2 (by omega))]; exact e0.1)), (by rw [show x21 8 = x 8 from ((f31 8 (by omega) (by omega) (by omega)).trans (fm_up_row m2 (by omega)))]; exact e0.2.1), (by rw [show x21 26 = x 26 from ((f31 26 (by omega) (by omega) (by omega)).trans (fm_up_row m2 (by omega)))]; exact e0.2.2.1), (by have := e0.2.2.2; omega)⟩, (fun a k0 k1 k2 k3 => ((f31 a (by omega) (by omega) (by omega)).trans (fm_up_row m2 (by omega)))), (fun i k0 k1 k2 k3 k4 k5 k6 k7 k8 => ((f32 i (by omega) (by omega) (by omega) (by omega) (by omega) (by omega) (by omega)).trans (fm_rd_i (a := 0) (b := i) m2 (by omega))))⟩ dX12_best_48
    ·
      refine fr_iconst h dX12_best_23 ?_
      have r52 := (fm_rd_s m2)
      have r53 := (fm_rd_i (a := 0) (b := 12) m2 (by decide))
      exact fr_iret h hq (by omega) ⟨(by omega), ⟨(by rw [show x1 1 = x 1 from (fm_up_row m2 (by omega))]; exact e0.1), (by rw [show x1 8 = x 8 from (fm_up_row m2 (by omega))]; exact e0.2.1), (by rw [show x1 26 = x 26 from (fm_up_row m2 (by omega))]; exact e0.2.2.1), (by have := e0.2.2.2; omega)⟩, (fun a k0 k1 k2 k3 => (fm_up_row m2 (by omega))), (fun i k0 k1 k2 k3 k4 k5 k6 k7 k8 => (fm_rd_i (a := 0) (b := i) m2 (by omega)))⟩ dX12_best_24
set_option maxHeartbeats 200000 in
theorem c_X12_many (x : Mm) (k : Int) (h_k : fm_r k) (e0 : GI x) : CnI YM yX12_many cX12_many 3 .int 207 6248 (fun G => [vr G 0, vi k]) x (fun z y' => (y' 0 5 = 0) ∧ (GI y') ∧ (∀ a : Int, (a < 0 ∨ 0 < a) → (a < 3 ∨ 3 < a) → (a < 7 ∨ 7 < a) → (a < 12 ∨ 18 < a) → y' a = x a) ∧ (∀ i : Int, i ≠ 4 → i ≠ 5 → i ≠ 6 → i ≠ 7 → i ≠ 8 → i ≠ 9 → i ≠ 10 → i ≠ 15 → i ≠ 26 → y' 0 i = x 0 i)) := by
  refine cn_I (by decide) (fun _ => Nat.le_of_ble_eq_true rfl) (fun G C h hq => ?_)
  have h : OK YM G C cX12_many RX12 3 (some .int) 207 6248 := h
  show FW YM G C 3 x 0 [(0, vr G 0), (1, vi k)] []
  have e12 := e0.2.2.2
  refine fr_aload_n h rfl 0 rfl dX12_many_0 ?_
  refine fr_iconst h dX12_many_1 ?_
  refine fr_puti (iz := 5) h kX12 fX12_94 at_0M rfl rfl (by decide) (by decide) rfl (by decide +kernel) rfM_5 (by omega) (by omega) dX12_many_2 ?_
  refine fr_mem (fun x1 m2 => ?_)
  refine fr_iload_n h rfl 1 rfl dX12_many_5 ?_
  refine fr_csI h wX12_isKind lX12_324 (c_X12_isKind x1 k (by omega)) rfl (by decide) (by decide) rfl (Nat.le_of_ble_eq_true rfl) dX12_many_6 (fun z4 x3 w5 p6 => ?_)
  obtain ⟨p7, p8, y9⟩ := p6
  rw [y9]
  clear y9
  refine fr_if_ne (tgt := 14) h dX12_many_9 (by decide) (by omega) (fun c10 => ?_) (fun c10 => ?_)
  ·
    refine fr_aload_n h rfl 0 rfl dX12_many_14 ?_
    refine fr_aload_n h rfl 0 rfl dX12_many_15 ?_
    refine fr_getc (z := 1) (iz := 0) h kX12 fX12_9 at_0M rfl rfl rfM_0 (by omega) dX12_many_16 ?_
    refine fr_iload_n h rfl 1 rfl dX12_many_19 ?_
    refine fr_cvI h kX12 at_0M wX12_layAll lX12_327 (c_X12_layAll x1 1 SA_1 k (by omega) (by rw [show x1 1 = x 1 from (fm_up_row m2 (by omega))]; exact e0.1)) rfl (by decide) (by decide) rfl (Nat.le_of_ble_eq_true rfl) dX12_many_20 (fun z12 x11 w13 p14 => ?_)
    obtain ⟨p15, p16, p17, p18, p19, p20, f21, f22⟩ := p14
    refine fr_istore_n (L' := [(0, vr G 0), (1, vi k), (2, vi z12)]) h rfl dX12_many_23 (by decide) [1, 2, 0] rfl ?_
    refine fr_aload_n h rfl 0 rfl dX12_many_24 ?_
    refine fr_iconst h dX12_many_25 ?_
    refine fr_puti (iz := 4) h kX12 fX12_98 at_0M rfl rfl (by decide) (by decide) rfl (by decide +kernel) rfM_4 (by omega) (by omega) dX12_many_26 ?_
    refine fr_mem (fun x23 m24 => ?_)
    refine fr_iload_n h rfl 2 rfl dX12_many_29 ?_
    refine fr_if_le (tgt := 67) h dX12_many_30 (by decide) (by omega) (fun c25 => ?_) (fun c25 => ?_)
    ·
      refine fr_iload_n h rfl 2 rfl dX12_many_67 ?_
      have r26 := (fm_rd_i (a := 0) (b := 5) m24 (by decide))
      have r27 := r26.trans (f22 5 (by decide) (by decide) (by decide) (by decide) (by decide) (by decide) (by decide))
      have r28 := r27.trans (fm_rd_s m2)
      have r29 := (fm_rd_i (a := 0) (b := 12) m24 (by decide))
      have r30 := r29.trans (f22 12 (by decide) (by decide) (by decide) (by decide) (by decide) (by decide) (by decide))
      have r31 := r30.trans (fm_rd_i (a := 0) (b := 12) m2 (by decide))
      exact fr_iret h hq (by omega) ⟨(by omega), ⟨(by rw [show x23 1 = x11 1 from (fm_up_row m24 (by omega))]; exact (by rw [show x11 1 = x1 1 from (f21 1 (by omega) (by omega) (by omega))]; exact (by rw [show x1 1 = x 1 from (fm_up_row m2 (by omega))]; exact e0.1))), (by rw [show x23 8 = x 8 from ((fm_up_row m24 (by omega)).trans ((f21 8 (by omega) (by omega) (by omega)).trans (fm_up_row m2 (by omega))))]; exact e0.2.1), (by rw [show x23 26 = x 26 from ((fm_up_row m24 (by omega)).trans ((f21 26 (by omega) (by omega) (by omega)).trans (fm_up_row m2 (by omega))))]; exact e0.2.2.1), (by have := e0.2.2.2; omega)⟩, (fun a k0 k1 k2 k3 => ((fm_up_row m24 (by omega)).trans ((f21 a (by omega) (by omega) (by omega)).trans (fm_up_row m2 (by omega))))), (fun i k0 k1 k2 k3 k4 k5 k6 k7 k8 => ((fm_rd_i (a := 0) (b := i) m24 (by omega)).trans ((f22 i (by omega) (by omega) (by omega) (by omega) (by omega) (by omega) (by omega)).trans (fm_rd_i (a := 0) (b := i) m2 (by omega)))))⟩ dX12_many_68
    ·
      refine fr_aload_n h rfl 0 rfl dX12_many_33 ?_
      refine fr_aload_n h rfl 0 rfl dX12_many_34 ?_
      refine fr_iconst h dX12_many_35 ?_
      refine fr_cvI h kX12 at_0M wX12_costAt lX12_333 (c_X12_costAt x23 1 (by omega) (by omega) (by omega)) rfl (by decide) (by decide) rfl (Nat.le_of_ble_eq_true rfl) dX12_many_36 (fun z33 x32 w34 p35 => ?_)
      have y36 := p35
      rw [y36]
      clear y36
      refine fr_i2l h (by omega) dX12_many_39 ?_
      have r37 := (fm_rd_s m24)
      refine fr_cvV h kX12 at_0M wX12_tell lX12_269 (c_X12_tell x23 z33 (by omega) (by omega)) rfl (by decide) (by decide) rfl (Nat.le_of_ble_eq_true rfl) dX12_many_40 (fun x38 p41 => ?_)
      obtain ⟨p42, f43, f44⟩ := p41
      refine fr_aload_n h rfl 0 rfl dX12_many_43 ?_
      refine fr_aload_n h rfl 0 rfl dX12_many_44 ?_
      refine fr_aload_n h rfl 0 rfl dX12_many_45 ?_
      refine fr_iconst h dX12_many_46 ?_
      refine fr_cvI h kX12 at_0M wX12_costAt lX12_333 (c_X12_costAt x38 1 (by omega) (by omega) (by omega)) rfl (by decide) (by decide) rfl (Nat.le_of_ble_eq_true rfl) dX12_many_47 (fun z46 x45 w47 p48 => ?_)
      have y49 := p48
      rw [y49]
      clear y49
      refine fr_cvI h kX12 at_0M wX12_upTo lX12_336 (c_X12_upTo x38 z46 (by omega)) rfl (by decide) (by decide) rfl (Nat.le_of_ble_eq_true rfl) dX12_many_50 (fun z51 x50 w52 p53 => ?_)
      obtain ⟨p54, p55, y56⟩ := p53
      rw [y56]
      clear y56
      refine fr_i2l h (by omega) dX12_many_53 ?_
      have r57 := (fm_rd_s m24)
      refine fr_cvV h kX12 at_0M wX12_tell lX12_269 (c_X12_tell x38 z51 (by omega) (by omega)) rfl (by decide) (by decide) rfl (Nat.le_of_ble_eq_true rfl) dX12_many_54 (fun x58 p61 => ?_)
      obtain ⟨p62, f63, f64⟩ := p61
      refine fr_aload_n h rfl 0 rfl dX12_many_57 ?_
      refine fr_aload_n h rfl 0 rfl dX12_many_58 ?_
      refine fr_iload_n h rfl 2 rfl dX12_many_59 ?_
      refine fr_cvI h kX12 at_0M wX12_costAt lX12_333 (c_X12_costAt x58 z12 (by omega) (by omega) (by omega)) rfl (by decide) (by decide) rfl (Nat.le_of_ble_eq_true rfl) dX12_many_60 (fun z66 x65 w67 p68 => ?_)
      have y69 := p68
      rw [y69]
      clear y69
      refine fr_i2l h (by omega) dX12_many_63 ?_
      have r70 := (fm_rd_s m24)
      refine fr_cvV h kX12 at_0M wX12_tell lX12_269 (c_X12_tell x58 z66 (by omega) (by omega)) rfl (by decide) (by decide) rfl (Nat.le_of_ble_eq_true rfl) dX12_many_64 (fun x71 p74 => ?_)
      obtain ⟨p75, f76, f77⟩ := p74
      refine fr_iload_n h rfl 2 rfl dX12_many_67 ?_
      have r78 := (f77 5 (by decide))
      have r79 := r78.trans (f64 5 (by decide))
      have r80 := r79.trans (f44 5 (by decide))
      have r81 := r80.trans (fm_rd_i (a := 0) (b := 5) m24 (by decide))
      have r82 := r81.trans (f22 5 (by decide) (by decide) (by decide) (by decide) (by decide) (by decide) (by decide))
      have r83 := r82.trans (fm_rd_s m2)
      have r84 := (f77 12 (by decide))
      have r85 := r84.trans (f64 12 (by decide))
      have r86 := r85.trans (f44 12 (by decide))
      have r87 := r86.trans (fm_rd_i (a := 0) (b := 12) m24 (by decide))
      have r88 := r87.trans (f22 12 (by decide) (by decide) (by decide) (by decide) (by decide) (by decide) (by decide))
      have r89 := r88.trans (fm_rd_i (a := 0) (b := 12) m2 (by decide))
      exact fr_iret h hq (by omega) ⟨(by omega), ⟨(by rw [show x71 1 = x58 1 from (f76 1 (by omega) (by omega))]; exact (by rw [show x58 1 = x38 1 from (f63 1 (by omega) (by omega))]; exact (by rw [show x38 1 = x23 1 from (f43 1 (by omega) (by omega))]; exact (by rw [show x23 1 = x11 1 from (fm_up_row m24 (by omega))]; exact (by rw [show x11 1 = x1 1 from (f21 1 (by omega) (by omega) (by omega))]; exact (by rw [show x1 1 = x 1 from (fm_up_row m2 (by omega))]; exact e0.1)))))), (by rw [show x71 8 = x 8 from ((f76 8 (by omega) (by omega)).trans ((f63 8 (by omega) (by omega)).trans ((f43 8 (by omega) (by omega)).trans ((fm_up_row m24 (by omega)).trans ((f21 8 (by omega) (by omega) (by omega)).trans (fm_up_row m2 (by omega)))))))]; exact e0.2.1), (by rw [show x71 26 = x 26 from ((f76 26 (by omega) (by omega)).trans ((f63 26 (by omega) (by omega)).trans ((f43 26 (by omega) (by omega)).trans ((fm_up_row m24 (by omega)).trans ((f21 26 (by omega) (by omega) (by omega)).trans (fm_up_row m2 (by omega)))))))]; exact e0.2.2.1), (by have := e0.2.2.2; omega)⟩, (fun a k0 k1 k2 k3 => ((f76 a (by omega) (by omega)).trans ((f63 a (by omega) (by omega)).trans ((f43 a (by omega) (by omega)).trans ((fm_up_row m24 (by omega)).trans ((f21 a (by omega) (by omega) (by omega)).trans (fm_up_row m2 (by omega)))))))), (fun i k0 k1 k2 k3 k4 k5 k6 k7 k8 => ((f77 i (by omega)).trans ((f64 i (by omega)).trans ((f44 i (by omega)).trans ((fm_rd_i (a := 0) (b := i) m24 (by omega)).trans ((f22 i (by omega) (by omega) (by omega) (by omega) (by omega) (by omega) (by omega)).trans (fm_rd_i (a := 0) (b := i) m2 (by omega))))))))⟩ dX12_many_68
  ·
    refine fr_iconst h dX12_many_12 ?_
    have r90 := (fm_rd_s m2)
    have r91 := (fm_rd_i (a := 0) (b := 12) m2 (by decide))
    exact fr_iret h hq (by omega) ⟨(by omega), ⟨(by rw [show x1 1 = x 1 from (fm_up_row m2 (by omega))]; exact e0.1), (by rw [show x1 8 = x 8 from (fm_up_row m2 (by omega))]; exact e0.2.1), (by rw [show x1 26 = x 26 from (fm_up_row m2 (by omega))]; exact e0.2.2.1), (by have := e0.2.2.2; omega)⟩, (fun a k0 k1 k2 k3 => (fm_up_row m2 (by omega))), (fun i k0 k1 k2 k3 k4 k5 k6 k7 k8 => (fm_rd_i (a := 0) (b := i) m2 (by omega)))⟩ dX12_many_13
set_option maxHeartbeats 200000 in
theorem c_X12_below (x : Mm) (k : Int) (p : Int) (h_k : fm_r k) (h_p : fm_r p) (e0 : GI x) : CnI YM yX12_below cX12_below 4 .int 207 6248 (fun G => [vr G 0, vi k, vi p]) x (fun z y' => (y' 0 5 = 0) ∧ (GI y') ∧ (∀ a : Int, (a < 0 ∨ 0 < a) → (a < 3 ∨ 3 < a) → (a < 7 ∨ 7 < a) → (a < 12 ∨ 18 < a) → y' a = x a) ∧ (∀ i : Int, i ≠ 4 → i ≠ 5 → i ≠ 6 → i ≠ 7 → i ≠ 8 → i ≠ 9 → i ≠ 10 → i ≠ 15 → i ≠ 26 → y' 0 i = x 0 i)) := by
  refine cn_I (by decide) (fun _ => Nat.le_of_ble_eq_true rfl) (fun G C h hq => ?_)
  have h : OK YM G C cX12_below RX12 4 (some .int) 207 6248 := h
  show FW YM G C 4 x 0 [(0, vr G 0), (1, vi k), (2, vi p)] []
  have e12 := e0.2.2.2
  refine fr_aload_n h rfl 0 rfl dX12_below_0 ?_
  refine fr_iconst h dX12_below_1 ?_
  refine fr_puti (iz := 5) h kX12 fX12_94 at_0M rfl rfl (by decide) (by decide) rfl (by decide +kernel) rfM_5 (by omega) (by omega) dX12_below_2 ?_
  refine fr_mem (fun x1 m2 => ?_)
  refine fr_iload_n h rfl 1 rfl dX12_below_5 ?_
  refine fr_csI h wX12_isKind lX12_324 (c_X12_isKind x1 k (by omega)) rfl (by decide) (by decide) rfl (Nat.le_of_ble_eq_true rfl) dX12_below_6 (fun z4 x3 w5 p6 => ?_)
  obtain ⟨p7, p8, y9⟩ := p6
  rw [y9]
  clear y9
  refine fr_if_ne (tgt := 14) h dX12_below_9 (by decide) (by omega) (fun c10 => ?_) (fun c10 => ?_)
  ·
    refine fr_aload_n h rfl 0 rfl dX12_below_14 ?_
    refine fr_aload_n h rfl 0 rfl dX12_below_15 ?_
    refine fr_getc (z := 1) (iz := 0) h kX12 fX12_9 at_0M rfl rfl rfM_0 (by omega) dX12_below_16 ?_
    refine fr_iload_n h rfl 1 rfl dX12_below_19 ?_
    refine fr_cvI h kX12 at_0M wX12_layAll lX12_327 (c_X12_layAll x1 1 SA_1 k (by omega) (by rw [show x1 1 = x 1 from (fm_up_row m2 (by omega))]; exact e0.1)) rfl (by decide) (by decide) rfl (Nat.le_of_ble_eq_true rfl) dX12_below_20 (fun z12 x11 w13 p14 => ?_)
    obtain ⟨p15, p16, p17, p18, p19, p20, f21, f22⟩ := p14
    refine fr_pop h rfl dX12_below_23 ?_
    refine fr_aload_n h rfl 0 rfl dX12_below_24 ?_
    refine fr_iload_n h rfl 2 rfl dX12_below_25 ?_
    refine fr_cvI h kX12 at_0M wX12_upTo lX12_336 (c_X12_upTo x11 p (by omega)) rfl (by decide) (by decide) rfl (Nat.le_of_ble_eq_true rfl) dX12_below_26 (fun z24 x23 w25 p26 => ?_)
    obtain ⟨p27, p28, y29⟩ := p26
    rw [y29]
    clear y29
    refine fr_istore_n (L' := [(0, vr G 0), (1, vi k), (2, vi p), (3, vi z24)]) h rfl dX12_below_29 (by decide) [1, 2, 3, 0] rfl ?_
    refine fr_aload_n h rfl 0 rfl dX12_below_30 ?_
    refine fr_iconst h dX12_below_31 ?_
    refine fr_puti (iz := 4) h kX12 fX12_98 at_0M rfl rfl (by decide) (by decide) rfl (by decide +kernel) rfM_4 (by omega) (by omega) dX12_below_32 ?_
    refine fr_mem (fun x30 m31 => ?_)
    refine fr_iload_n h rfl 3 rfl dX12_below_35 ?_
    refine fr_if_le (tgt := 49) h dX12_below_36 (by decide) (by omega) (fun c32 => ?_) (fun c32 => ?_)
    ·
      refine fr_iload_n h rfl 3 rfl dX12_below_49 ?_
      have r33 := (fm_rd_i (a := 0) (b := 5) m31 (by decide))
      have r34 := r33.trans (f22 5 (by decide) (by decide) (by decide) (by decide) (by decide) (by decide) (by decide))
      have r35 := r34.trans (fm_rd_s m2)
      have r36 := (fm_rd_i (a := 0) (b := 12) m31 (by decide))
      have r37 := r36.trans (f22 12 (by decide) (by decide) (by decide) (by decide) (by decide) (by decide) (by decide))
      have r38 := r37.trans (fm_rd_i (a := 0) (b := 12) m2 (by decide))
      exact fr_iret h hq (by omega) ⟨(by omega), ⟨(by rw [show x30 1 = x11 1 from (fm_up_row m31 (by omega))]; exact (by rw [show x11 1 = x1 1 from (f21 1 (by omega) (by omega) (by omega))]; exact (by rw [show x1 1 = x 1 from (fm_up_row m2 (by omega))]; exact e0.1))), (by rw [show x30 8 = x 8 from ((fm_up_row m31 (by omega)).trans ((f21 8 (by omega) (by omega) (by omega)).trans (fm_up_row m2 (by omega))))]; exact e0.2.1), (by rw [show x30 26 = x 26 from ((fm_up_row m31 (by omega)).trans ((f21 26 (by omega) (by omega) (by omega)).trans (fm_up_row m2 (by omega))))]; exact e0.2.2.1), (by have := e0.2.2.2; omega)⟩, (fun a k0 k1 k2 k3 => ((fm_up_row m31 (by omega)).trans ((f21 a (by omega) (by omega) (by omega)).trans (fm_up_row m2 (by omega))))), (fun i k0 k1 k2 k3 k4 k5 k6 k7 k8 => ((fm_rd_i (a := 0) (b := i) m31 (by omega)).trans ((f22 i (by omega) (by omega) (by omega) (by omega) (by omega) (by omega) (by omega)).trans (fm_rd_i (a := 0) (b := i) m2 (by omega)))))⟩ dX12_below_50
    ·
      refine fr_aload_n h rfl 0 rfl dX12_below_39 ?_
      refine fr_aload_n h rfl 0 rfl dX12_below_40 ?_
      refine fr_iload_n h rfl 3 rfl dX12_below_41 ?_
      refine fr_cvI h kX12 at_0M wX12_costAt lX12_333 (c_X12_costAt x30 z24 (by omega) (by omega) (by omega)) rfl (by decide) (by decide) rfl (Nat.le_of_ble_eq_true rfl) dX12_below_42 (fun z40 x39 w41 p42 => ?_)
      have y43 := p42
      rw [y43]
      clear y43
      refine fr_i2l h (by omega) dX12_below_45 ?_
      have r44 := (fm_rd_s m31)
      refine fr_cvV h kX12 at_0M wX12_tell lX12_269 (c_X12_tell x30 z40 (by omega) (by omega)) rfl (by decide) (by decide) rfl (Nat.le_of_ble_eq_true rfl) dX12_below_46 (fun x45 p48 => ?_)
      obtain ⟨p49, f50, f51⟩ := p48
      refine fr_iload_n h rfl 3 rfl dX12_below_49 ?_
      have r52 := (f51 5 (by decide))
      have r53 := r52.trans (fm_rd_i (a := 0) (b := 5) m31 (by decide))
      have r54 := r53.trans (f22 5 (by decide) (by decide) (by decide) (by decide) (by decide) (by decide) (by decide))
      have r55 := r54.trans (fm_rd_s m2)
      have r56 := (f51 12 (by decide))
      have r57 := r56.trans (fm_rd_i (a := 0) (b := 12) m31 (by decide))
      have r58 := r57.trans (f22 12 (by decide) (by decide) (by decide) (by decide) (by decide) (by decide) (by decide))
      have r59 := r58.trans (fm_rd_i (a := 0) (b := 12) m2 (by decide))
      exact fr_iret h hq (by omega) ⟨(by omega), ⟨(by rw [show x45 1 = x30 1 from (f50 1 (by omega) (by omega))]; exact (by rw [show x30 1 = x11 1 from (fm_up_row m31 (by omega))]; exact (by rw [show x11 1 = x1 1 from (f21 1 (by omega) (by omega) (by omega))]; exact (by rw [show x1 1 = x 1 from (fm_up_row m2 (by omega))]; exact e0.1)))), (by rw [show x45 8 = x 8 from ((f50 8 (by omega) (by omega)).trans ((fm_up_row m31 (by omega)).trans ((f21 8 (by omega) (by omega) (by omega)).trans (fm_up_row m2 (by omega)))))]; exact e0.2.1), (by rw [show x45 26 = x 26 from ((f50 26 (by omega) (by omega)).trans ((fm_up_row m31 (by omega)).trans ((f21 26 (by omega) (by omega) (by omega)).trans (fm_up_row m2 (by omega)))))]; exact e0.2.2.1), (by have := e0.2.2.2; omega)⟩, (fun a k0 k1 k2 k3 => ((f50 a (by omega) (by omega)).trans ((fm_up_row m31 (by omega)).trans ((f21 a (by omega) (by omega) (by omega)).trans (fm_up_row m2 (by omega)))))), (fun i k0 k1 k2 k3 k4 k5 k6 k7 k8 => ((f51 i (by omega)).trans ((fm_rd_i (a := 0) (b := i) m31 (by omega)).trans ((f22 i (by omega) (by omega) (by omega) (by omega) (by omega) (by omega) (by omega)).trans (fm_rd_i (a := 0) (b := i) m2 (by omega))))))⟩ dX12_below_50
  ·
    refine fr_iconst h dX12_below_12 ?_
    have r60 := (fm_rd_s m2)
    have r61 := (fm_rd_i (a := 0) (b := 12) m2 (by decide))
    exact fr_iret h hq (by omega) ⟨(by omega), ⟨(by rw [show x1 1 = x 1 from (fm_up_row m2 (by omega))]; exact e0.1), (by rw [show x1 8 = x 8 from (fm_up_row m2 (by omega))]; exact e0.2.1), (by rw [show x1 26 = x 26 from (fm_up_row m2 (by omega))]; exact e0.2.2.1), (by have := e0.2.2.2; omega)⟩, (fun a k0 k1 k2 k3 => (fm_up_row m2 (by omega))), (fun i k0 k1 k2 k3 k4 k5 k6 k7 k8 => (fm_rd_i (a := 0) (b := i) m2 (by omega)))⟩ dX12_below_13
set_option maxHeartbeats 200000 in
theorem c_X12_isLaid (x : Mm) (k : Int) (n : Int) (h_k : fm_r k) (h_n : fm_r n) (e0 : 0 ≤ k) (e1 : k ≤ 1299) : CnI YM yX12_isLaid cX12_isLaid 4 .boolean 0 0 (fun G => [vr G 0, vi k, vi n]) x (fun z y' => (z = 0 ∨ z = 1) ∧ (y' = x)) := by
  refine cn_I (by decide) (fun _ => Nat.le_of_ble_eq_true rfl) (fun G C h hq => ?_)
  have h : OK YM G C cX12_isLaid RX12 4 (some .boolean) 0 0 := h
  show FW YM G C 4 x 0 [(0, vr G 0), (1, vi k), (2, vi n)] []
  refine fr_aload_n h rfl 0 rfl dX12_isLaid_0 ?_
  refine fr_getc (z := 13) (iz := 24) h kX12 fX12_48 at_0M rfl rfl rfM_24 (by omega) dX12_isLaid_1 ?_
  refine fr_iload_n h rfl 1 rfl dX12_isLaid_4 ?_
  refine fr_iald h arM_13 (by omega) (by omega) (rrM_13 k) dX12_isLaid_5 (fun z1 w2 w3 q4 => ?_)
  refine fr_iload_n h rfl 2 rfl dX12_isLaid_6 ?_
  refine fr_icmp_eq (tgt := 12) h dX12_isLaid_7 (by decide) (by omega) (by omega) (fun c5 => ?_) (fun c5 => ?_)
  ·
    refine fr_iconst h dX12_isLaid_12 ?_
    refine fr_istore_n (L' := [(0, vr G 0), (1, vi k), (2, vi n), (3, vi 0)]) h rfl dX12_isLaid_13 (by decide) [1, 2, 3, 0] rfl ?_
    have HL6 : ∀ (n6 : Nat) (l3_6 : Int), fm_r l3_6 → 0 ≤ l3_6 → l3_6 ≤ 8 → n ≤ 8 → (8 - l3_6) < n6 → FW YM G C 4 x 14 [(0, vr G 0), (1, vi k), (2, vi n), (3, vi l3_6)] [] := by
      intro n6
      induction n6 with
      | zero =>
        intro l3_6 g6_0 g6_1 g6_2 g6_3 g6_4
        exfalso; omega
      | succ n6 ih6 =>
        intro l3_6 g6_0 g6_1 g6_2 g6_3 g6_4
        refine fr_iload_n h rfl 3 rfl dX12_isLaid_14 ?_
        refine fr_iload_n h rfl 2 rfl dX12_isLaid_15 ?_
        refine fr_icmp_ge (tgt := 47) h dX12_isLaid_16 (by decide) (by omega) (by omega) (fun c7 => ?_) (fun c7 => ?_)
        ·
          refine fr_iconst h dX12_isLaid_47 ?_
          exact fr_zret h rfl hq (by omega) ⟨(by omega), rfl⟩ dX12_isLaid_48
        ·
          refine fr_aload_n h rfl 0 rfl dX12_isLaid_19 ?_
          refine fr_getc (z := 12) (iz := 23) h kX12 fX12_45 at_0M rfl rfl rfM_23 (by omega) dX12_isLaid_20 ?_
          refine fr_bipush h rfl dX12_isLaid_23 ?_
          refine fr_iload_n h rfl 1 rfl dX12_isLaid_25 ?_
          refine fr_imul h dX12_isLaid_26 ?_
          refine fr_iload_n h rfl 3 rfl dX12_isLaid_27 ?_
          refine fr_iadd h dX12_isLaid_28 ?_
          refine fr_iald h arM_12 (by omega) (by omega) (rrM_12 ((8 * k) + l3_6)) dX12_isLaid_29 (fun z8 w9 w10 q11 => ?_)
          refine fr_aload_n h rfl 0 rfl dX12_isLaid_30 ?_
          refine fr_getc (z := 17) (iz := 29) h kX12 fX12_60 at_0M rfl rfl rfM_29 (by omega) dX12_isLaid_31 ?_
          refine fr_iload_n h rfl 3 rfl dX12_isLaid_34 ?_
          refine fr_iald h arM_17 (by omega) (by omega) (rrM_17 l3_6) dX12_isLaid_35 (fun z12 w13 w14 q15 => ?_)
          refine fr_icmp_eq (tgt := 41) h dX12_isLaid_36 (by decide) (by omega) (by omega) (fun c16 => ?_) (fun c16 => ?_)
          ·
            refine fr_iinc (j := 3) (L' := [(0, vr G 0), (1, vi k), (2, vi n), (3, vi (l3_6 + 1))]) h dX12_isLaid_41 rfl (by decide) [1, 2, 3, 0] rfl ?_
            refine fr_goto (tgt := 14) h dX12_isLaid_44 (by decide) ?_
            exact ih6 (l3_6 + 1) (by omega) (by omega) (by omega) (by omega) (by omega)
          ·
            refine fr_iconst h dX12_isLaid_39 ?_
            exact fr_zret h rfl hq (by omega) ⟨(by omega), rfl⟩ dX12_isLaid_40
    exact HL6 ((8 - 0) + 1 : Int).toNat 0 (by omega) (by omega) (by omega) (by omega) (by omega)
  ·
    refine fr_iconst h dX12_isLaid_10 ?_
    exact fr_zret h rfl hq (by omega) ⟨(by omega), rfl⟩ dX12_isLaid_11
set_option maxHeartbeats 2000000 in
theorem c_X12_rank (x : Mm) (k : Int) (h_k : fm_r k) (e0 : GI x) : CnI YM yX12_rank cX12_rank 6 .int 207 6248 (fun G => [vr G 0, vi k]) x (fun z y' => (y' 0 5 = 0) ∧ (y' 0 2 = 0) ∧ (GI y') ∧ (∀ a : Int, (a < 0 ∨ 0 < a) → (a < 3 ∨ 3 < a) → (a < 19 ∨ 19 < a) → (a < 7 ∨ 7 < a) → (a < 12 ∨ 18 < a) → y' a = x a) ∧ (∀ i : Int, i ≠ 2 → i ≠ 4 → i ≠ 5 → i ≠ 6 → i ≠ 7 → i ≠ 8 → i ≠ 9 → i ≠ 10 → i ≠ 15 → i ≠ 26 → y' 0 i = x 0 i)) := by
  refine cn_I (by decide) (fun _ => Nat.le_of_ble_eq_true rfl) (fun G C h hq => ?_)
  have h : OK YM G C cX12_rank RX12 6 (some .int) 207 6248 := h
  show FW YM G C 6 x 0 [(0, vr G 0), (1, vi k)] []
  have e12 := e0.2.2.2
  refine fr_aload_n h rfl 0 rfl dX12_rank_0 ?_
  refine fr_iconst h dX12_rank_1 ?_
  refine fr_puti (iz := 5) h kX12 fX12_94 at_0M rfl rfl (by decide) (by decide) rfl (by decide +kernel) rfM_5 (by omega) (by omega) dX12_rank_2 ?_
  refine fr_mem (fun x1 m2 => ?_)
  refine fr_aload_n h rfl 0 rfl dX12_rank_5 ?_
  refine fr_bipush h rfl dX12_rank_6 ?_
  refine fr_cvV h kX12 at_0M wX12_beginText lX12_151 (c_X12_beginText x1 80 (by omega) (by omega) (by omega)) rfl (by decide) (by decide) rfl (Nat.le_of_ble_eq_true rfl) dX12_rank_8 (fun x3 p6 => ?_)
  obtain ⟨p7, p8, p9, p10, p11, p12, f13, f14⟩ := p6
  refine fr_iconst h dX12_rank_11 ?_
  refine fr_istore_n (L' := [(0, vr G 0), (1, vi k), (2, vi 0)]) h rfl dX12_rank_12 (by decide) [1, 2, 0] rfl ?_
  refine fr_aload_n h rfl 0 rfl dX12_rank_13 ?_
  refine fr_getc (z := 19) (iz := 31) h kX12 fX12_66 at_0M rfl rfl rfM_31 (by omega) dX12_rank_14 ?_
  refine fr_astore_n (L' := [(0, vr G 0), (1, vi k), (2, vi 0), (3, vr G 19)]) h rfl dX12_rank_17 (by decide) [1, 2, 3, 0] rfl ?_
  have HL15 : ∀ (n15 : Nat) (l2_15 : Int) (x_15 : Mm), fm_r l2_15 → 0 ≤ l2_15 → l2_15 ≤ 9 → (l2_15 ≤ 8 ∨ x_15 0 10 ≠ (-1)) → x_15 0 9 ≤ x_15 0 8 → (∀ a : Int, (a < 0 ∨ 0 < a) → (a < 19 ∨ 19 < a) → x_15 a = x3 a) → (∀ i : Int, i ≠ 9 → i ≠ 10 → x_15 0 i = x3 0 i) → (9 - l2_15) < n15 → FW YM G C 6 x_15 18 [(0, vr G 0), (1, vi k), (2, vi l2_15), (3, vr G 19)] [] := by
    intro n15
    induction n15 with
    | zero =>
      intro l2_15 x_15 g15_0 g15_1 g15_2 g15_3 g15_4 g15_5 g15_6 g15_7
      exfalso; omega
    | succ n15 ih15 =>
      intro l2_15 x_15 g15_0 g15_1 g15_2 g15_3 g15_4 g15_5 g15_6 g15_7
      refine fr_aload_n h rfl 0 rfl dX12_rank_18 ?_
      refine fr_cvI h kX12 at_0M wX12_fine lX12_131 (c_X12_fine x_15) rfl (by decide) (by decide) rfl (Nat.le_of_ble_eq_true rfl) dX12_rank_19 (fun z17 x16 w18 p19 => ?_)
      obtain ⟨p20, p21, y22⟩ := p19
      rw [y22]
      clear y22
      refine fr_if_eq (tgt := 70) h dX12_rank_22 (by decide) (by omega) (fun c23 => ?_) (fun c23 => ?_)
      ·
        refine fr_aload_n h rfl 0 rfl dX12_rank_70 ?_
        refine fr_cvI h kX12 at_0M wX12_wasRight lX12_158 (c_X12_wasRight x_15) rfl (by decide) (by decide) rfl (Nat.le_of_ble_eq_true rfl) dX12_rank_71 (fun z25 x24 w26 p27 => ?_)
        obtain ⟨p28, p29, p30, f31, f32⟩ := p27
        refine fr_if_ne (tgt := 84) h dX12_rank_74 (by decide) (by omega) (fun c33 => ?_) (fun c33 => ?_)
        ·
          refine fr_iload_n h rfl 1 rfl dX12_rank_84 ?_
          refine fr_csI h wX12_isKind lX12_324 (c_X12_isKind x24 k (by omega)) rfl (by decide) (by decide) rfl (Nat.le_of_ble_eq_true rfl) dX12_rank_85 (fun z35 x34 w36 p37 => ?_)
          obtain ⟨p38, p39, y40⟩ := p37
          rw [y40]
          clear y40
          refine fr_if_ne (tgt := 94) h dX12_rank_88 (by decide) (by omega) (fun c41 => ?_) (fun c41 => ?_)
          ·
            refine fr_aload_n h rfl 0 rfl dX12_rank_94 ?_
            refine fr_aload_n h rfl 0 rfl dX12_rank_95 ?_
            refine fr_getc (z := 1) (iz := 0) h kX12 fX12_9 at_0M rfl rfl rfM_0 (by omega) dX12_rank_96 ?_
            refine fr_iload_n h rfl 1 rfl dX12_rank_99 ?_
            refine fr_cvI h kX12 at_0M wX12_layAll lX12_327 (c_X12_layAll x24 1 SA_1 k (by omega) (by rw [show x24 1 = x_15 1 from (f31 1 (by omega))]; exact (by rw [show x_15 1 = x3 1 from (g15_5 1 (by omega) (by omega))]; exact (by rw [show x3 1 = x1 1 from (f13 1 (by omega))]; exact (by rw [show x1 1 = x 1 from (fm_up_row m2 (by omega))]; exact e0.1))))) rfl (by decide) (by decide) rfl (Nat.le_of_ble_eq_true rfl) dX12_rank_100 (fun z43 x42 w44 p45 => ?_)
            obtain ⟨p46, p47, p48, p49, p50, p51, f52, f53⟩ := p45
            refine fr_istore (L' := [(0, vr G 0), (1, vi k), (2, vi l2_15), (3, vr G 19), (4, vi z43)]) h dX12_rank_103 (by decide) [1, 2, 3, 4, 0] rfl ?_
            refine fr_iconst h dX12_rank_105 ?_
            refine fr_istore (L' := [(0, vr G 0), (1, vi k), (2, vi l2_15), (3, vr G 19), (4, vi z43), (5, vi 0)]) h dX12_rank_106 (by decide) [1, 2, 3, 4, 5, 0] rfl ?_
            have HL54 : ∀ (n54 : Nat) (l5_54 : Int) (x_54 : Mm), fm_r l5_54 → 0 ≤ l5_54 → l5_54 ≤ 8 → l2_15 ≤ 8 → (∀ a : Int, (a < 17 ∨ 17 < a) → x_54 a = x42 a) → (8 - l5_54) < n54 → FW YM G C 6 x_54 108 [(0, vr G 0), (1, vi k), (2, vi l2_15), (3, vr G 19), (4, vi z43), (5, vi l5_54)] [] := by
              intro n54
              induction n54 with
              | zero =>
                intro l5_54 x_54 g54_0 g54_1 g54_2 g54_3 g54_4 g54_5
                exfalso; omega
              | succ n54 ih54 =>
                intro l5_54 x_54 g54_0 g54_1 g54_2 g54_3 g54_4 g54_5
                refine fr_iload h 5 rfl dX12_rank_108 ?_
                refine fr_iload_n h rfl 2 rfl dX12_rank_110 ?_
                refine fr_icmp_ge (tgt := 131) h dX12_rank_111 (by decide) (by omega) (by omega) (fun c55 => ?_) (fun c55 => ?_)
                ·
                  refine fr_iconst h dX12_rank_131 ?_
                  refine fr_istore (L' := [(0, vr G 0), (1, vi k), (2, vi l2_15), (3, vr G 19), (4, vi z43), (5, vi 1)]) h dX12_rank_132 (by decide) [1, 2, 3, 4, 5, 0] rfl ?_
                  have HL56 : ∀ (n56 : Nat) (l5_56 : Int), fm_r l5_56 → 1 ≤ l5_56 → l5_56 ≤ 1301 → (1301 - l5_56) < n56 → FW YM G C 6 x_54 134 [(0, vr G 0), (1, vi k), (2, vi l2_15), (3, vr G 19), (4, vi z43), (5, vi l5_56)] [] := by
                    intro n56
                    induction n56 with
                    | zero =>
                      intro l5_56 g56_0 g56_1 g56_2 g56_3
                      exfalso; omega
                    | succ n56 ih56 =>
                      intro l5_56 g56_0 g56_1 g56_2 g56_3
                      refine fr_iload h 5 rfl dX12_rank_134 ?_
                      refine fr_iload h 4 rfl dX12_rank_136 ?_
                      refine fr_icmp_gt (tgt := 186) h dX12_rank_138 (by decide) (by omega) (by omega) (fun c57 => ?_) (fun c57 => ?_)
                      ·
                        refine fr_bipush h rfl dX12_rank_186 ?_
                        have r58 := (congrFun (g54_4 0 (by omega)) 5)
                        have r59 := r58.trans (f53 5 (by decide) (by decide) (by decide) (by decide) (by decide) (by decide) (by decide))
                        have r60 := r59.trans (f32 5 (by decide))
                        have r61 := r60.trans (g15_6 5 (by decide) (by decide))
                        have r62 := r61.trans (f14 5 (by decide) (by decide) (by decide) (by decide) (by decide) (by decide))
                        have r63 := r62.trans (fm_rd_s m2)
                        have r64 := (congrFun (g54_4 0 (by omega)) 2)
                        have r65 := r64.trans (f53 2 (by decide) (by decide) (by decide) (by decide) (by decide) (by decide) (by decide))
                        have r66 := r65.trans (f32 2 (by decide))
                        have r67 := r66.trans (g15_6 2 (by decide) (by decide))
                        have r68 := (fm_rd_i (a := 0) (b := 2) m2 (by decide))
                        have r69 := (congrFun (g54_4 0 (by omega)) 12)
                        have r70 := r69.trans (f53 12 (by decide) (by decide) (by decide) (by decide) (by decide) (by decide) (by decide))
                        have r71 := r70.trans (f32 12 (by decide))
                        have r72 := r71.trans (g15_6 12 (by decide) (by decide))
                        have r73 := r72.trans (f14 12 (by decide) (by decide) (by decide) (by decide) (by decide) (by decide))
                        have r74 := r73.trans (fm_rd_i (a := 0) (b := 12) m2 (by decide))
                        exact fr_iret h hq (by omega) ⟨(by omega), (by omega), ⟨(by rw [show x_54 1 = x42 1 from (g54_4 1 (by omega))]; exact (by rw [show x42 1 = x24 1 from (f52 1 (by omega) (by omega) (by omega))]; exact (by rw [show x24 1 = x_15 1 from (f31 1 (by omega))]; exact (by rw [show x_15 1 = x3 1 from (g15_5 1 (by omega) (by omega))]; exact (by rw [show x3 1 = x1 1 from (f13 1 (by omega))]; exact (by rw [show x1 1 = x 1 from (fm_up_row m2 (by omega))]; exact e0.1)))))), (by rw [show x_54 8 = x 8 from ((g54_4 8 (by omega)).trans ((f52 8 (by omega) (by omega) (by omega)).trans ((f31 8 (by omega)).trans ((g15_5 8 (by omega) (by omega)).trans ((f13 8 (by omega)).trans (fm_up_row m2 (by omega)))))))]; exact e0.2.1), (by rw [show x_54 26 = x 26 from ((g54_4 26 (by omega)).trans ((f52 26 (by omega) (by omega) (by omega)).trans ((f31 26 (by omega)).trans ((g15_5 26 (by omega) (by omega)).trans ((f13 26 (by omega)).trans (fm_up_row m2 (by omega)))))))]; exact e0.2.2.1), (by have := e0.2.2.2; omega)⟩, (fun a k0 k1 k2 k3 k4 => ((g54_4 a (by omega)).trans ((f52 a (by omega) (by omega) (by omega)).trans ((f31 a (by omega)).trans ((g15_5 a (by omega) (by omega)).trans ((f13 a (by omega)).trans (fm_up_row m2 (by omega)))))))), (fun i k0 k1 k2 k3 k4 k5 k6 k7 k8 k9 => ((congrFun (g54_4 0 (by omega)) i).trans ((f53 i (by omega) (by omega) (by omega) (by omega) (by omega) (by omega) (by omega)).trans ((f32 i (by omega)).trans ((g15_6 i (by omega) (by omega)).trans ((f14 i (by omega) (by omega) (by omega) (by omega) (by omega) (by omega)).trans (fm_rd_i (a := 0) (b := i) m2 (by omega))))))))⟩ dX12_rank_188
                      ·
                        refine fr_aload_n h rfl 0 rfl dX12_rank_141 ?_
                        refine fr_aload_n h rfl 0 rfl dX12_rank_142 ?_
                        refine fr_getc (z := 15) (iz := 27) h kX12 fX12_54 at_0M rfl rfl rfM_27 (by omega) dX12_rank_143 ?_
                        refine fr_iload h 5 rfl dX12_rank_146 ?_
                        refine fr_iconst h dX12_rank_148 ?_
                        refine fr_isub h dX12_rank_149 ?_
                        refine fr_iald h arM_15 (by omega) (by omega) (rrM_15 (l5_56 - 1)) dX12_rank_150 (fun z75 w76 w77 q78 => ?_)
                        have r79 := q78.trans (congrFun (g54_4 15 (by omega)) (l5_56 - 1))
                        have r80 := (congrFun (f31 15 (by omega)) (l5_56 - 1))
                        have r81 := r80.trans (congrFun (g15_5 15 (by omega) (by omega)) (l5_56 - 1))
                        have r82 := r81.trans (congrFun (f13 15 (by omega)) (l5_56 - 1))
                        have r83 := r82.trans (fm_rd_k (a := 15) (b := (l5_56 - 1)) m2 (by omega))
                        refine fr_iload_n h rfl 2 rfl dX12_rank_151 ?_
                        refine fr_cvI h kX12 at_0M wX12_isLaid lX12_339 (c_X12_isLaid x_54 z75 l2_15 (by omega) (by omega) (by omega) (by omega)) rfl (by decide) (by decide) rfl (Nat.le_of_ble_eq_true rfl) dX12_rank_152 (fun z85 x84 w86 p87 => ?_)
                        obtain ⟨p88, y89⟩ := p87
                        rw [y89]
                        clear y89
                        refine fr_if_ne (tgt := 161) h dX12_rank_155 (by decide) (by omega) (fun c90 => ?_) (fun c90 => ?_)
                        ·
                          refine fr_aload_n h rfl 0 rfl dX12_rank_161 ?_
                          refine fr_iconst h dX12_rank_162 ?_
                          refine fr_puti (iz := 4) h kX12 fX12_98 at_0M rfl rfl (by decide) (by decide) rfl (by decide +kernel) rfM_4 (by omega) (by omega) dX12_rank_163 ?_
                          refine fr_mem (fun x91 m92 => ?_)
                          refine fr_aload_n h rfl 0 rfl dX12_rank_166 ?_
                          refine fr_aload_n h rfl 0 rfl dX12_rank_167 ?_
                          refine fr_iload h 5 rfl dX12_rank_168 ?_
                          refine fr_cvI h kX12 at_0M wX12_costAt lX12_333 (c_X12_costAt x91 l5_56 (by omega) (by omega) (by omega)) rfl (by decide) (by decide) rfl (Nat.le_of_ble_eq_true rfl) dX12_rank_170 (fun z94 x93 w95 p96 => ?_)
                          have y97 := p96
                          rw [y97]
                          clear y97
                          refine fr_i2l h (by omega) dX12_rank_173 ?_
                          have r98 := (fm_rd_s m92)
                          refine fr_cvV h kX12 at_0M wX12_tell lX12_269 (c_X12_tell x91 z94 (by omega) (by omega)) rfl (by decide) (by decide) rfl (Nat.le_of_ble_eq_true rfl) dX12_rank_174 (fun x99 p102 => ?_)
                          obtain ⟨p103, f104, f105⟩ := p102
                          refine fr_iload h 5 rfl dX12_rank_177 ?_
                          have r106 := (f105 5 (by decide))
                          have r107 := r106.trans (fm_rd_i (a := 0) (b := 5) m92 (by decide))
                          have r108 := r107.trans (congrFun (g54_4 0 (by omega)) 5)
                          have r109 := r108.trans (f53 5 (by decide) (by decide) (by decide) (by decide) (by decide) (by decide) (by decide))
                          have r110 := r109.trans (f32 5 (by decide))
                          have r111 := r110.trans (g15_6 5 (by decide) (by decide))
                          have r112 := r111.trans (f14 5 (by decide) (by decide) (by decide) (by decide) (by decide) (by decide))
                          have r113 := r112.trans (fm_rd_s m2)
                          have r114 := (f105 2 (by decide))
                          have r115 := r114.trans (fm_rd_i (a := 0) (b := 2) m92 (by decide))
                          have r116 := r115.trans (congrFun (g54_4 0 (by omega)) 2)
                          have r117 := r116.trans (f53 2 (by decide) (by decide) (by decide) (by decide) (by decide) (by decide) (by decide))
                          have r118 := r117.trans (f32 2 (by decide))
                          have r119 := r118.trans (g15_6 2 (by decide) (by decide))
                          have r120 := (fm_rd_i (a := 0) (b := 2) m2 (by decide))
                          have r121 := (f105 12 (by decide))
                          have r122 := r121.trans (fm_rd_i (a := 0) (b := 12) m92 (by decide))
                          have r123 := r122.trans (congrFun (g54_4 0 (by omega)) 12)
                          have r124 := r123.trans (f53 12 (by decide) (by decide) (by decide) (by decide) (by decide) (by decide) (by decide))
                          have r125 := r124.trans (f32 12 (by decide))
                          have r126 := r125.trans (g15_6 12 (by decide) (by decide))
                          have r127 := r126.trans (f14 12 (by decide) (by decide) (by decide) (by decide) (by decide) (by decide))
                          have r128 := r127.trans (fm_rd_i (a := 0) (b := 12) m2 (by decide))
                          exact fr_iret h hq (by omega) ⟨(by omega), (by omega), ⟨(by rw [show x99 1 = x91 1 from (f104 1 (by omega) (by omega))]; exact (by rw [show x91 1 = x_54 1 from (fm_up_row m92 (by omega))]; exact (by rw [show x_54 1 = x42 1 from (g54_4 1 (by omega))]; exact (by rw [show x42 1 = x24 1 from (f52 1 (by omega) (by omega) (by omega))]; exact (by rw [show x24 1 = x_15 1 from (f31 1 (by omega))]; exact (by rw [show x_15 1 = x3 1 from (g15_5 1 (by omega) (by omega))]; exact (by rw [show x3 1 = x1 1 from (f13 1 (by omega))]; exact (by rw [show x1 1 = x 1 from (fm_up_row m2 (by omega))]; exact e0.1)))))))), (by rw [show x99 8 = x 8 from ((f104 8 (by omega) (by omega)).trans ((fm_up_row m92 (by omega)).trans ((g54_4 8 (by omega)).trans ((f52 8 (by omega) (by omega) (by omega)).trans ((f31 8 (by omega)).trans ((g15_5 8 (by omega) (by omega)).trans ((f13 8 (by omega)).trans (fm_up_row m2 (by omega)))))))))]; exact e0.2.1), (by rw [show x99 26 = x 26 from ((f104 26 (by omega) (by omega)).trans ((fm_up_row m92 (by omega)).trans ((g54_4 26 (by omega)).trans ((f52 26 (by omega) (by omega) (by omega)).trans ((f31 26 (by omega)).trans ((g15_5 26 (by omega) (by omega)).trans ((f13 26 (by omega)).trans (fm_up_row m2 (by omega)))))))))]; exact e0.2.2.1), (by have := e0.2.2.2; omega)⟩, (fun a k0 k1 k2 k3 k4 => ((f104 a (by omega) (by omega)).trans ((fm_up_row m92 (by omega)).trans ((g54_4 a (by omega)).trans ((f52 a (by omega) (by omega) (by omega)).trans ((f31 a (by omega)).trans ((g15_5 a (by omega) (by omega)).trans ((f13 a (by omega)).trans (fm_up_row m2 (by omega)))))))))), (fun i k0 k1 k2 k3 k4 k5 k6 k7 k8 k9 => ((f105 i (by omega)).trans ((fm_rd_i (a := 0) (b := i) m92 (by omega)).trans ((congrFun (g54_4 0 (by omega)) i).trans ((f53 i (by omega) (by omega) (by omega) (by omega) (by omega) (by omega) (by omega)).trans ((f32 i (by omega)).trans ((g15_6 i (by omega) (by omega)).trans ((f14 i (by omega) (by omega) (by omega) (by omega) (by omega) (by omega)).trans (fm_rd_i (a := 0) (b := i) m2 (by omega))))))))))⟩ dX12_rank_179
                        ·
                          refine fr_goto (tgt := 180) h dX12_rank_158 (by decide) ?_
                          refine fr_iinc (j := 5) (L' := [(0, vr G 0), (1, vi k), (2, vi l2_15), (3, vr G 19), (4, vi z43), (5, vi (l5_56 + 1))]) h dX12_rank_180 rfl (by decide) [1, 2, 3, 4, 5, 0] rfl ?_
                          refine fr_goto (tgt := 134) h dX12_rank_183 (by decide) ?_
                          exact ih56 (l5_56 + 1) (by omega) (by omega) (by omega) (by omega)
                  exact HL56 ((1301 - 1) + 1 : Int).toNat 1 (by omega) (by omega) (by omega) (by omega)
                ·
                  refine fr_aload_n h rfl 0 rfl dX12_rank_114 ?_
                  refine fr_getc (z := 17) (iz := 29) h kX12 fX12_60 at_0M rfl rfl rfM_29 (by omega) dX12_rank_115 ?_
                  refine fr_iload h 5 rfl dX12_rank_118 ?_
                  refine fr_aload_n h rfl 3 rfl dX12_rank_120 ?_
                  refine fr_iload h 5 rfl dX12_rank_121 ?_
                  refine fr_iald h arM_19 (by omega) (by omega) (rrM_19 l5_54) dX12_rank_123 (fun z129 w130 w131 q132 => ?_)
                  have r133 := q132.trans (congrFun (g54_4 19 (by omega)) l5_54)
                  have r134 := r133.trans (congrFun (f52 19 (by omega) (by omega) (by omega)) l5_54)
                  have r135 := r134.trans (congrFun (f31 19 (by omega)) l5_54)
                  have r136 := (congrFun (f13 19 (by omega)) l5_54)
                  have r137 := r136.trans (fm_rd_k (a := 19) (b := l5_54) m2 (by omega))
                  refine fr_iast h arM_17 (by omega) (by omega) (rrM_17 l5_54) (by omega) (by omega) dX12_rank_124 ?_
                  refine fr_mem (fun x138 m139 => ?_)
                  refine fr_iinc (j := 5) (L' := [(0, vr G 0), (1, vi k), (2, vi l2_15), (3, vr G 19), (4, vi z43), (5, vi (l5_54 + 1))]) h dX12_rank_125 rfl (by decide) [1, 2, 3, 4, 5, 0] rfl ?_
                  refine fr_goto (tgt := 108) h dX12_rank_128 (by decide) ?_
                  exact ih54 (l5_54 + 1) x138 (by omega) (by omega) (by omega) (by omega) (fun a k0 => ((fm_up_row m139 (by omega)).trans (g54_4 a (by omega)))) (by omega)
            exact HL54 ((8 - 0) + 1 : Int).toNat 0 x42 (by omega) (by omega) (by omega) (by omega) (fun a _ => rfl) (by omega)
          ·
            refine fr_bipush h rfl dX12_rank_91 ?_
            have r140 := (f32 5 (by decide))
            have r141 := r140.trans (g15_6 5 (by decide) (by decide))
            have r142 := r141.trans (f14 5 (by decide) (by decide) (by decide) (by decide) (by decide) (by decide))
            have r143 := r142.trans (fm_rd_s m2)
            have r144 := (f32 2 (by decide))
            have r145 := r144.trans (g15_6 2 (by decide) (by decide))
            have r146 := (fm_rd_i (a := 0) (b := 2) m2 (by decide))
            have r147 := (f32 12 (by decide))
            have r148 := r147.trans (g15_6 12 (by decide) (by decide))
            have r149 := r148.trans (f14 12 (by decide) (by decide) (by decide) (by decide) (by decide) (by decide))
            have r150 := r149.trans (fm_rd_i (a := 0) (b := 12) m2 (by decide))
            exact fr_iret h hq (by omega) ⟨(by omega), (by omega), ⟨(by rw [show x24 1 = x_15 1 from (f31 1 (by omega))]; exact (by rw [show x_15 1 = x3 1 from (g15_5 1 (by omega) (by omega))]; exact (by rw [show x3 1 = x1 1 from (f13 1 (by omega))]; exact (by rw [show x1 1 = x 1 from (fm_up_row m2 (by omega))]; exact e0.1)))), (by rw [show x24 8 = x 8 from ((f31 8 (by omega)).trans ((g15_5 8 (by omega) (by omega)).trans ((f13 8 (by omega)).trans (fm_up_row m2 (by omega)))))]; exact e0.2.1), (by rw [show x24 26 = x 26 from ((f31 26 (by omega)).trans ((g15_5 26 (by omega) (by omega)).trans ((f13 26 (by omega)).trans (fm_up_row m2 (by omega)))))]; exact e0.2.2.1), (by have := e0.2.2.2; omega)⟩, (fun a k0 k1 k2 k3 k4 => ((f31 a (by omega)).trans ((g15_5 a (by omega) (by omega)).trans ((f13 a (by omega)).trans (fm_up_row m2 (by omega)))))), (fun i k0 k1 k2 k3 k4 k5 k6 k7 k8 k9 => ((f32 i (by omega)).trans ((g15_6 i (by omega) (by omega)).trans ((f14 i (by omega) (by omega) (by omega) (by omega) (by omega) (by omega)).trans (fm_rd_i (a := 0) (b := i) m2 (by omega))))))⟩ dX12_rank_93
        ·
          refine fr_iconst h dX12_rank_77 ?_
          refine fr_aload_n h rfl 0 rfl dX12_rank_78 ?_
          refine fr_geti (iz := 10) h kX12 fX12_124 at_0M rfl rfl (by decide) (by decide) rfM_10 dX12_rank_79 (fun z151 w152 w153 q154 => ?_)
          have r155 := (fm_rd_i (a := 0) (b := 10) m2 (by decide))
          refine fr_isub h dX12_rank_82 ?_
          have r156 := (f32 5 (by decide))
          have r157 := r156.trans (g15_6 5 (by decide) (by decide))
          have r158 := r157.trans (f14 5 (by decide) (by decide) (by decide) (by decide) (by decide) (by decide))
          have r159 := r158.trans (fm_rd_s m2)
          have r160 := (f32 2 (by decide))
          have r161 := r160.trans (g15_6 2 (by decide) (by decide))
          have r162 := (fm_rd_i (a := 0) (b := 2) m2 (by decide))
          have r163 := (f32 12 (by decide))
          have r164 := r163.trans (g15_6 12 (by decide) (by decide))
          have r165 := r164.trans (f14 12 (by decide) (by decide) (by decide) (by decide) (by decide) (by decide))
          have r166 := r165.trans (fm_rd_i (a := 0) (b := 12) m2 (by decide))
          exact fr_iret h hq (by omega) ⟨(by omega), (by omega), ⟨(by rw [show x24 1 = x_15 1 from (f31 1 (by omega))]; exact (by rw [show x_15 1 = x3 1 from (g15_5 1 (by omega) (by omega))]; exact (by rw [show x3 1 = x1 1 from (f13 1 (by omega))]; exact (by rw [show x1 1 = x 1 from (fm_up_row m2 (by omega))]; exact e0.1)))), (by rw [show x24 8 = x 8 from ((f31 8 (by omega)).trans ((g15_5 8 (by omega) (by omega)).trans ((f13 8 (by omega)).trans (fm_up_row m2 (by omega)))))]; exact e0.2.1), (by rw [show x24 26 = x 26 from ((f31 26 (by omega)).trans ((g15_5 26 (by omega) (by omega)).trans ((f13 26 (by omega)).trans (fm_up_row m2 (by omega)))))]; exact e0.2.2.1), (by have := e0.2.2.2; omega)⟩, (fun a k0 k1 k2 k3 k4 => ((f31 a (by omega)).trans ((g15_5 a (by omega) (by omega)).trans ((f13 a (by omega)).trans (fm_up_row m2 (by omega)))))), (fun i k0 k1 k2 k3 k4 k5 k6 k7 k8 k9 => ((f32 i (by omega)).trans ((g15_6 i (by omega) (by omega)).trans ((f14 i (by omega) (by omega) (by omega) (by omega) (by omega) (by omega)).trans (fm_rd_i (a := 0) (b := i) m2 (by omega))))))⟩ dX12_rank_83
      ·
        refine fr_aload_n h rfl 0 rfl dX12_rank_25 ?_
        refine fr_geti (iz := 9) h kX12 fX12_121 at_0M rfl rfl (by decide) (by decide) rfM_9 dX12_rank_26 (fun z167 w168 w169 q170 => ?_)
        have r171 := (fm_rd_i (a := 0) (b := 9) m2 (by decide))
        refine fr_aload_n h rfl 0 rfl dX12_rank_29 ?_
        refine fr_geti (iz := 7) h kX12 fX12_115 at_0M rfl rfl (by decide) (by decide) rfM_7 dX12_rank_30 (fun z172 w173 w174 q175 => ?_)
        have r176 := q175.trans (g15_6 7 (by decide) (by decide))
        have r177 := (fm_rd_i (a := 0) (b := 7) m2 (by decide))
        refine fr_icmp_ge (tgt := 70) h dX12_rank_33 (by decide) (by omega) (by omega) (fun c178 => ?_) (fun c178 => ?_)
        ·
          refine fr_aload_n h rfl 0 rfl dX12_rank_70 ?_
          refine fr_cvI h kX12 at_0M wX12_wasRight lX12_158 (c_X12_wasRight x_15) rfl (by decide) (by decide) rfl (Nat.le_of_ble_eq_true rfl) dX12_rank_71 (fun z180 x179 w181 p182 => ?_)
          obtain ⟨p183, p184, p185, f186, f187⟩ := p182
          refine fr_if_ne (tgt := 84) h dX12_rank_74 (by decide) (by omega) (fun c188 => ?_) (fun c188 => ?_)
          ·
            refine fr_iload_n h rfl 1 rfl dX12_rank_84 ?_
            refine fr_csI h wX12_isKind lX12_324 (c_X12_isKind x179 k (by omega)) rfl (by decide) (by decide) rfl (Nat.le_of_ble_eq_true rfl) dX12_rank_85 (fun z190 x189 w191 p192 => ?_)
            obtain ⟨p193, p194, y195⟩ := p192
            rw [y195]
            clear y195
            refine fr_if_ne (tgt := 94) h dX12_rank_88 (by decide) (by omega) (fun c196 => ?_) (fun c196 => ?_)
            ·
              refine fr_aload_n h rfl 0 rfl dX12_rank_94 ?_
              refine fr_aload_n h rfl 0 rfl dX12_rank_95 ?_
              refine fr_getc (z := 1) (iz := 0) h kX12 fX12_9 at_0M rfl rfl rfM_0 (by omega) dX12_rank_96 ?_
              refine fr_iload_n h rfl 1 rfl dX12_rank_99 ?_
              refine fr_cvI h kX12 at_0M wX12_layAll lX12_327 (c_X12_layAll x179 1 SA_1 k (by omega) (by rw [show x179 1 = x_15 1 from (f186 1 (by omega))]; exact (by rw [show x_15 1 = x3 1 from (g15_5 1 (by omega) (by omega))]; exact (by rw [show x3 1 = x1 1 from (f13 1 (by omega))]; exact (by rw [show x1 1 = x 1 from (fm_up_row m2 (by omega))]; exact e0.1))))) rfl (by decide) (by decide) rfl (Nat.le_of_ble_eq_true rfl) dX12_rank_100 (fun z198 x197 w199 p200 => ?_)
              obtain ⟨p201, p202, p203, p204, p205, p206, f207, f208⟩ := p200
              refine fr_istore (L' := [(0, vr G 0), (1, vi k), (2, vi l2_15), (3, vr G 19), (4, vi z198)]) h dX12_rank_103 (by decide) [1, 2, 3, 4, 0] rfl ?_
              refine fr_iconst h dX12_rank_105 ?_
              refine fr_istore (L' := [(0, vr G 0), (1, vi k), (2, vi l2_15), (3, vr G 19), (4, vi z198), (5, vi 0)]) h dX12_rank_106 (by decide) [1, 2, 3, 4, 5, 0] rfl ?_
              have HL209 : ∀ (n209 : Nat) (l5_209 : Int) (x_209 : Mm), fm_r l5_209 → 0 ≤ l5_209 → l5_209 ≤ 8 → l2_15 ≤ 8 → (∀ a : Int, (a < 17 ∨ 17 < a) → x_209 a = x197 a) → (8 - l5_209) < n209 → FW YM G C 6 x_209 108 [(0, vr G 0), (1, vi k), (2, vi l2_15), (3, vr G 19), (4, vi z198), (5, vi l5_209)] [] := by
                intro n209
                induction n209 with
                | zero =>
                  intro l5_209 x_209 g209_0 g209_1 g209_2 g209_3 g209_4 g209_5
                  exfalso; omega
                | succ n209 ih209 =>
                  intro l5_209 x_209 g209_0 g209_1 g209_2 g209_3 g209_4 g209_5
                  refine fr_iload h 5 rfl dX12_rank_108 ?_
                  refine fr_iload_n h rfl 2 rfl dX12_rank_110 ?_
                  refine fr_icmp_ge (tgt := 131) h dX12_rank_111 (by decide) (by omega) (by omega) (fun c210 => ?_) (fun c210 => ?_)
                  ·
                    refine fr_iconst h dX12_rank_131 ?_
                    refine fr_istore (L' := [(0, vr G 0), (1, vi k), (2, vi l2_15), (3, vr G 19), (4, vi z198), (5, vi 1)]) h dX12_rank_132 (by decide) [1, 2, 3, 4, 5, 0] rfl ?_
                    have HL211 : ∀ (n211 : Nat) (l5_211 : Int), fm_r l5_211 → 1 ≤ l5_211 → l5_211 ≤ 1301 → (1301 - l5_211) < n211 → FW YM G C 6 x_209 134 [(0, vr G 0), (1, vi k), (2, vi l2_15), (3, vr G 19), (4, vi z198), (5, vi l5_211)] [] := by
                      intro n211
                      induction n211 with
                      | zero =>
                        intro l5_211 g211_0 g211_1 g211_2 g211_3
                        exfalso; omega
                      | succ n211 ih211 =>
                        intro l5_211 g211_0 g211_1 g211_2 g211_3
                        refine fr_iload h 5 rfl dX12_rank_134 ?_
                        refine fr_iload h 4 rfl dX12_rank_136 ?_
                        refine fr_icmp_gt (tgt := 186) h dX12_rank_138 (by decide) (by omega) (by omega) (fun c212 => ?_) (fun c212 => ?_)
                        ·
                          refine fr_bipush h rfl dX12_rank_186 ?_
                          have r213 := (congrFun (g209_4 0 (by omega)) 5)
                          have r214 := r213.trans (f208 5 (by decide) (by decide) (by decide) (by decide) (by decide) (by decide) (by decide))
                          have r215 := r214.trans (f187 5 (by decide))
                          have r216 := r215.trans (g15_6 5 (by decide) (by decide))
                          have r217 := r216.trans (f14 5 (by decide) (by decide) (by decide) (by decide) (by decide) (by decide))
                          have r218 := r217.trans (fm_rd_s m2)
                          have r219 := (congrFun (g209_4 0 (by omega)) 2)
                          have r220 := r219.trans (f208 2 (by decide) (by decide) (by decide) (by decide) (by decide) (by decide) (by decide))
                          have r221 := r220.trans (f187 2 (by decide))
                          have r222 := r221.trans (g15_6 2 (by decide) (by decide))
                          have r223 := (fm_rd_i (a := 0) (b := 2) m2 (by decide))
                          have r224 := (congrFun (g209_4 0 (by omega)) 12)
                          have r225 := r224.trans (f208 12 (by decide) (by decide) (by decide) (by decide) (by decide) (by decide) (by decide))
                          have r226 := r225.trans (f187 12 (by decide))
                          have r227 := r226.trans (g15_6 12 (by decide) (by decide))
                          have r228 := r227.trans (f14 12 (by decide) (by decide) (by decide) (by decide) (by decide) (by decide))
                          have r229 := r228.trans (fm_rd_i (a := 0) (b := 12) m2 (by decide))
                          exact fr_iret h hq (by omega) ⟨(by omega), (by omega), ⟨(by rw [show x_209 1 = x197 1 from (g209_4 1 (by omega))]; exact (by rw [show x197 1 = x179 1 from (f207 1 (by omega) (by omega) (by omega))]; exact (by rw [show x179 1 = x_15 1 from (f186 1 (by omega))]; exact (by rw [show x_15 1 = x3 1 from (g15_5 1 (by omega) (by omega))]; exact (by rw [show x3 1 = x1 1 from (f13 1 (by omega))]; exact (by rw [show x1 1 = x 1 from (fm_up_row m2 (by omega))]; exact e0.1)))))), (by rw [show x_209 8 = x 8 from ((g209_4 8 (by omega)).trans ((f207 8 (by omega) (by omega) (by omega)).trans ((f186 8 (by omega)).trans ((g15_5 8 (by omega) (by omega)).trans ((f13 8 (by omega)).trans (fm_up_row m2 (by omega)))))))]; exact e0.2.1), (by rw [show x_209 26 = x 26 from ((g209_4 26 (by omega)).trans ((f207 26 (by omega) (by omega) (by omega)).trans ((f186 26 (by omega)).trans ((g15_5 26 (by omega) (by omega)).trans ((f13 26 (by omega)).trans (fm_up_row m2 (by omega)))))))]; exact e0.2.2.1), (by have := e0.2.2.2; omega)⟩, (fun a k0 k1 k2 k3 k4 => ((g209_4 a (by omega)).trans ((f207 a (by omega) (by omega) (by omega)).trans ((f186 a (by omega)).trans ((g15_5 a (by omega) (by omega)).trans ((f13 a (by omega)).trans (fm_up_row m2 (by omega)))))))), (fun i k0 k1 k2 k3 k4 k5 k6 k7 k8 k9 => ((congrFun (g209_4 0 (by omega)) i).trans ((f208 i (by omega) (by omega) (by omega) (by omega) (by omega) (by omega) (by omega)).trans ((f187 i (by omega)).trans ((g15_6 i (by omega) (by omega)).trans ((f14 i (by omega) (by omega) (by omega) (by omega) (by omega) (by omega)).trans (fm_rd_i (a := 0) (b := i) m2 (by omega))))))))⟩ dX12_rank_188
                        ·
                          refine fr_aload_n h rfl 0 rfl dX12_rank_141 ?_
                          refine fr_aload_n h rfl 0 rfl dX12_rank_142 ?_
                          refine fr_getc (z := 15) (iz := 27) h kX12 fX12_54 at_0M rfl rfl rfM_27 (by omega) dX12_rank_143 ?_
                          refine fr_iload h 5 rfl dX12_rank_146 ?_
                          refine fr_iconst h dX12_rank_148 ?_
                          refine fr_isub h dX12_rank_149 ?_
                          refine fr_iald h arM_15 (by omega) (by omega) (rrM_15 (l5_211 - 1)) dX12_rank_150 (fun z230 w231 w232 q233 => ?_)
                          have r234 := q233.trans (congrFun (g209_4 15 (by omega)) (l5_211 - 1))
                          have r235 := (congrFun (f186 15 (by omega)) (l5_211 - 1))
                          have r236 := r235.trans (congrFun (g15_5 15 (by omega) (by omega)) (l5_211 - 1))
                          have r237 := r236.trans (congrFun (f13 15 (by omega)) (l5_211 - 1))
                          have r238 := r237.trans (fm_rd_k (a := 15) (b := (l5_211 - 1)) m2 (by omega))
                          refine fr_iload_n h rfl 2 rfl dX12_rank_151 ?_
                          refine fr_cvI h kX12 at_0M wX12_isLaid lX12_339 (c_X12_isLaid x_209 z230 l2_15 (by omega) (by omega) (by omega) (by omega)) rfl (by decide) (by decide) rfl (Nat.le_of_ble_eq_true rfl) dX12_rank_152 (fun z240 x239 w241 p242 => ?_)
                          obtain ⟨p243, y244⟩ := p242
                          rw [y244]
                          clear y244
                          refine fr_if_ne (tgt := 161) h dX12_rank_155 (by decide) (by omega) (fun c245 => ?_) (fun c245 => ?_)
                          ·
                            refine fr_aload_n h rfl 0 rfl dX12_rank_161 ?_
                            refine fr_iconst h dX12_rank_162 ?_
                            refine fr_puti (iz := 4) h kX12 fX12_98 at_0M rfl rfl (by decide) (by decide) rfl (by decide +kernel) rfM_4 (by omega) (by omega) dX12_rank_163 ?_
                            refine fr_mem (fun x246 m247 => ?_)
                            refine fr_aload_n h rfl 0 rfl dX12_rank_166 ?_
                            refine fr_aload_n h rfl 0 rfl dX12_rank_167 ?_
                            refine fr_iload h 5 rfl dX12_rank_168 ?_
                            refine fr_cvI h kX12 at_0M wX12_costAt lX12_333 (c_X12_costAt x246 l5_211 (by omega) (by omega) (by omega)) rfl (by decide) (by decide) rfl (Nat.le_of_ble_eq_true rfl) dX12_rank_170 (fun z249 x248 w250 p251 => ?_)
                            have y252 := p251
                            rw [y252]
                            clear y252
                            refine fr_i2l h (by omega) dX12_rank_173 ?_
                            have r253 := (fm_rd_s m247)
                            refine fr_cvV h kX12 at_0M wX12_tell lX12_269 (c_X12_tell x246 z249 (by omega) (by omega)) rfl (by decide) (by decide) rfl (Nat.le_of_ble_eq_true rfl) dX12_rank_174 (fun x254 p257 => ?_)
                            obtain ⟨p258, f259, f260⟩ := p257
                            refine fr_iload h 5 rfl dX12_rank_177 ?_
                            have r261 := (f260 5 (by decide))
                            have r262 := r261.trans (fm_rd_i (a := 0) (b := 5) m247 (by decide))
                            have r263 := r262.trans (congrFun (g209_4 0 (by omega)) 5)
                            have r264 := r263.trans (f208 5 (by decide) (by decide) (by decide) (by decide) (by decide) (by decide) (by decide))
                            have r265 := r264.trans (f187 5 (by decide))
                            have r266 := r265.trans (g15_6 5 (by decide) (by decide))
                            have r267 := r266.trans (f14 5 (by decide) (by decide) (by decide) (by decide) (by decide) (by decide))
                            have r268 := r267.trans (fm_rd_s m2)
                            have r269 := (f260 2 (by decide))
                            have r270 := r269.trans (fm_rd_i (a := 0) (b := 2) m247 (by decide))
                            have r271 := r270.trans (congrFun (g209_4 0 (by omega)) 2)
                            have r272 := r271.trans (f208 2 (by decide) (by decide) (by decide) (by decide) (by decide) (by decide) (by decide))
                            have r273 := r272.trans (f187 2 (by decide))
                            have r274 := r273.trans (g15_6 2 (by decide) (by decide))
                            have r275 := (fm_rd_i (a := 0) (b := 2) m2 (by decide))
                            have r276 := (f260 12 (by decide))
                            have r277 := r276.trans (fm_rd_i (a := 0) (b := 12) m247 (by decide))
                            have r278 := r277.trans (congrFun (g209_4 0 (by omega)) 12)
                            have r279 := r278.trans (f208 12 (by decide) (by decide) (by decide) (by decide) (by decide) (by decide) (by decide))
                            have r280 := r279.trans (f187 12 (by decide))
                            have r281 := r280.trans (g15_6 12 (by decide) (by decide))
                            have r282 := r281.trans (f14 12 (by decide) (by decide) (by decide) (by decide) (by decide) (by decide))
                            have r283 := r282.trans (fm_rd_i (a := 0) (b := 12) m2 (by decide))
                            exact fr_iret h hq (by omega) ⟨(by omega), (by omega), ⟨(by rw [show x254 1 = x246 1 from (f259 1 (by omega) (by omega))]; exact (by rw [show x246 1 = x_209 1 from (fm_up_row m247 (by omega))]; exact (by rw [show x_209 1 = x197 1 from (g209_4 1 (by omega))]; exact (by rw [show x197 1 = x179 1 from (f207 1 (by omega) (by omega) (by omega))]; exact (by rw [show x179 1 = x_15 1 from (f186 1 (by omega))]; exact (by rw [show x_15 1 = x3 1 from (g15_5 1 (by omega) (by omega))]; exact (by rw [show x3 1 = x1 1 from (f13 1 (by omega))]; exact (by rw [show x1 1 = x 1 from (fm_up_row m2 (by omega))]; exact e0.1)))))))), (by rw [show x254 8 = x 8 from ((f259 8 (by omega) (by omega)).trans ((fm_up_row m247 (by omega)).trans ((g209_4 8 (by omega)).trans ((f207 8 (by omega) (by omega) (by omega)).trans ((f186 8 (by omega)).trans ((g15_5 8 (by omega) (by omega)).trans ((f13 8 (by omega)).trans (fm_up_row m2 (by omega)))))))))]; exact e0.2.1), (by rw [show x254 26 = x 26 from ((f259 26 (by omega) (by omega)).trans ((fm_up_row m247 (by omega)).trans ((g209_4 26 (by omega)).trans ((f207 26 (by omega) (by omega) (by omega)).trans ((f186 26 (by omega)).trans ((g15_5 26 (by omega) (by omega)).trans ((f13 26 (by omega)).trans (fm_up_row m2 (by omega)))))))))]; exact e0.2.2.1), (by have := e0.2.2.2; omega)⟩, (fun a k0 k1 k2 k3 k4 => ((f259 a (by omega) (by omega)).trans ((fm_up_row m247 (by omega)).trans ((g209_4 a (by omega)).trans ((f207 a (by omega) (by omega) (by omega)).trans ((f186 a (by omega)).trans ((g15_5 a (by omega) (by omega)).trans ((f13 a (by omega)).trans (fm_up_row m2 (by omega)))))))))), (fun i k0 k1 k2 k3 k4 k5 k6 k7 k8 k9 => ((f260 i (by omega)).trans ((fm_rd_i (a := 0) (b := i) m247 (by omega)).trans ((congrFun (g209_4 0 (by omega)) i).trans ((f208 i (by omega) (by omega) (by omega) (by omega) (by omega) (by omega) (by omega)).trans ((f187 i (by omega)).trans ((g15_6 i (by omega) (by omega)).trans ((f14 i (by omega) (by omega) (by omega) (by omega) (by omega) (by omega)).trans (fm_rd_i (a := 0) (b := i) m2 (by omega))))))))))⟩ dX12_rank_179
                          ·
                            refine fr_goto (tgt := 180) h dX12_rank_158 (by decide) ?_
                            refine fr_iinc (j := 5) (L' := [(0, vr G 0), (1, vi k), (2, vi l2_15), (3, vr G 19), (4, vi z198), (5, vi (l5_211 + 1))]) h dX12_rank_180 rfl (by decide) [1, 2, 3, 4, 5, 0] rfl ?_
                            refine fr_goto (tgt := 134) h dX12_rank_183 (by decide) ?_
                            exact ih211 (l5_211 + 1) (by omega) (by omega) (by omega) (by omega)
                    exact HL211 ((1301 - 1) + 1 : Int).toNat 1 (by omega) (by omega) (by omega) (by omega)
                  ·
                    refine fr_aload_n h rfl 0 rfl dX12_rank_114 ?_
                    refine fr_getc (z := 17) (iz := 29) h kX12 fX12_60 at_0M rfl rfl rfM_29 (by omega) dX12_rank_115 ?_
                    refine fr_iload h 5 rfl dX12_rank_118 ?_
                    refine fr_aload_n h rfl 3 rfl dX12_rank_120 ?_
                    refine fr_iload h 5 rfl dX12_rank_121 ?_
                    refine fr_iald h arM_19 (by omega) (by omega) (rrM_19 l5_209) dX12_rank_123 (fun z284 w285 w286 q287 => ?_)
                    have r288 := q287.trans (congrFun (g209_4 19 (by omega)) l5_209)
                    have r289 := r288.trans (congrFun (f207 19 (by omega) (by omega) (by omega)) l5_209)
                    have r290 := r289.trans (congrFun (f186 19 (by omega)) l5_209)
                    have r291 := (congrFun (f13 19 (by omega)) l5_209)
                    have r292 := r291.trans (fm_rd_k (a := 19) (b := l5_209) m2 (by omega))
                    refine fr_iast h arM_17 (by omega) (by omega) (rrM_17 l5_209) (by omega) (by omega) dX12_rank_124 ?_
                    refine fr_mem (fun x293 m294 => ?_)
                    refine fr_iinc (j := 5) (L' := [(0, vr G 0), (1, vi k), (2, vi l2_15), (3, vr G 19), (4, vi z198), (5, vi (l5_209 + 1))]) h dX12_rank_125 rfl (by decide) [1, 2, 3, 4, 5, 0] rfl ?_
                    refine fr_goto (tgt := 108) h dX12_rank_128 (by decide) ?_
                    exact ih209 (l5_209 + 1) x293 (by omega) (by omega) (by omega) (by omega) (fun a k0 => ((fm_up_row m294 (by omega)).trans (g209_4 a (by omega)))) (by omega)
              exact HL209 ((8 - 0) + 1 : Int).toNat 0 x197 (by omega) (by omega) (by omega) (by omega) (fun a _ => rfl) (by omega)
            ·
              refine fr_bipush h rfl dX12_rank_91 ?_
              have r295 := (f187 5 (by decide))
              have r296 := r295.trans (g15_6 5 (by decide) (by decide))
              have r297 := r296.trans (f14 5 (by decide) (by decide) (by decide) (by decide) (by decide) (by decide))
              have r298 := r297.trans (fm_rd_s m2)
              have r299 := (f187 2 (by decide))
              have r300 := r299.trans (g15_6 2 (by decide) (by decide))
              have r301 := (fm_rd_i (a := 0) (b := 2) m2 (by decide))
              have r302 := (f187 12 (by decide))
              have r303 := r302.trans (g15_6 12 (by decide) (by decide))
              have r304 := r303.trans (f14 12 (by decide) (by decide) (by decide) (by decide) (by decide) (by decide))
              have r305 := r304.trans (fm_rd_i (a := 0) (b := 12) m2 (by decide))
              exact fr_iret h hq (by omega) ⟨(by omega), (by omega), ⟨(by rw [show x179 1 = x_15 1 from (f186 1 (by omega))]; exact (by rw [show x_15 1 = x3 1 from (g15_5 1 (by omega) (by omega))]; exact (by rw [show x3 1 = x1 1 from (f13 1 (by omega))]; exact (by rw [show x1 1 = x 1 from (fm_up_row m2 (by omega))]; exact e0.1)))), (by rw [show x179 8 = x 8 from ((f186 8 (by omega)).trans ((g15_5 8 (by omega) (by omega)).trans ((f13 8 (by omega)).trans (fm_up_row m2 (by omega)))))]; exact e0.2.1), (by rw [show x179 26 = x 26 from ((f186 26 (by omega)).trans ((g15_5 26 (by omega) (by omega)).trans ((f13 26 (by omega)).trans (fm_up_row m2 (by omega)))))]; exact e0.2.2.1), (by have := e0.2.2.2; omega)⟩, (fun a k0 k1 k2 k3 k4 => ((f186 a (by omega)).trans ((g15_5 a (by omega) (by omega)).trans ((f13 a (by omega)).trans (fm_up_row m2 (by omega)))))), (fun i k0 k1 k2 k3 k4 k5 k6 k7 k8 k9 => ((f187 i (by omega)).trans ((g15_6 i (by omega) (by omega)).trans ((f14 i (by omega) (by omega) (by omega) (by omega) (by omega) (by omega)).trans (fm_rd_i (a := 0) (b := i) m2 (by omega))))))⟩ dX12_rank_93
          ·
            refine fr_iconst h dX12_rank_77 ?_
            refine fr_aload_n h rfl 0 rfl dX12_rank_78 ?_
            refine fr_geti (iz := 10) h kX12 fX12_124 at_0M rfl rfl (by decide) (by decide) rfM_10 dX12_rank_79 (fun z306 w307 w308 q309 => ?_)
            have r310 := (fm_rd_i (a := 0) (b := 10) m2 (by decide))
            refine fr_isub h dX12_rank_82 ?_
            have r311 := (f187 5 (by decide))
            have r312 := r311.trans (g15_6 5 (by decide) (by decide))
            have r313 := r312.trans (f14 5 (by decide) (by decide) (by decide) (by decide) (by decide) (by decide))
            have r314 := r313.trans (fm_rd_s m2)
            have r315 := (f187 2 (by decide))
            have r316 := r315.trans (g15_6 2 (by decide) (by decide))
            have r317 := (fm_rd_i (a := 0) (b := 2) m2 (by decide))
            have r318 := (f187 12 (by decide))
            have r319 := r318.trans (g15_6 12 (by decide) (by decide))
            have r320 := r319.trans (f14 12 (by decide) (by decide) (by decide) (by decide) (by decide) (by decide))
            have r321 := r320.trans (fm_rd_i (a := 0) (b := 12) m2 (by decide))
            exact fr_iret h hq (by omega) ⟨(by omega), (by omega), ⟨(by rw [show x179 1 = x_15 1 from (f186 1 (by omega))]; exact (by rw [show x_15 1 = x3 1 from (g15_5 1 (by omega) (by omega))]; exact (by rw [show x3 1 = x1 1 from (f13 1 (by omega))]; exact (by rw [show x1 1 = x 1 from (fm_up_row m2 (by omega))]; exact e0.1)))), (by rw [show x179 8 = x 8 from ((f186 8 (by omega)).trans ((g15_5 8 (by omega) (by omega)).trans ((f13 8 (by omega)).trans (fm_up_row m2 (by omega)))))]; exact e0.2.1), (by rw [show x179 26 = x 26 from ((f186 26 (by omega)).trans ((g15_5 26 (by omega) (by omega)).trans ((f13 26 (by omega)).trans (fm_up_row m2 (by omega)))))]; exact e0.2.2.1), (by have := e0.2.2.2; omega)⟩, (fun a k0 k1 k2 k3 k4 => ((f186 a (by omega)).trans ((g15_5 a (by omega) (by omega)).trans ((f13 a (by omega)).trans (fm_up_row m2 (by omega)))))), (fun i k0 k1 k2 k3 k4 k5 k6 k7 k8 k9 => ((f187 i (by omega)).trans ((g15_6 i (by omega) (by omega)).trans ((f14 i (by omega) (by omega) (by omega) (by omega) (by omega) (by omega)).trans (fm_rd_i (a := 0) (b := i) m2 (by omega))))))⟩ dX12_rank_83
        ·
          refine fr_iload_n h rfl 2 rfl dX12_rank_36 ?_
          refine fr_bipush h rfl dX12_rank_37 ?_
          refine fr_icmp_ne (tgt := 53) h dX12_rank_39 (by decide) (by omega) (by omega) (fun c322 => ?_) (fun c322 => ?_)
          ·
            refine fr_aload_n h rfl 3 rfl dX12_rank_53 ?_
            refine fr_iload_n h rfl 2 rfl dX12_rank_54 ?_
            refine fr_aload_n h rfl 0 rfl dX12_rank_55 ?_
            refine fr_bipush h rfl dX12_rank_56 ?_
            refine fr_bipush h rfl dX12_rank_58 ?_
            have r323 := (g15_6 6 (by decide) (by decide))
            have r324 := (fm_rd_i (a := 0) (b := 6) m2 (by decide))
            have r325 := (g15_6 8 (by decide) (by decide))
            have r326 := (fm_rd_i (a := 0) (b := 8) m2 (by decide))
            have r327 := (g15_6 6 (by decide) (by decide))
            have r328 := (fm_rd_i (a := 0) (b := 6) m2 (by decide))
            have r329 := (g15_6 8 (by decide) (by decide))
            have r330 := (fm_rd_i (a := 0) (b := 8) m2 (by decide))
            have r331 := (g15_6 6 (by decide) (by decide))
            have r332 := (fm_rd_i (a := 0) (b := 6) m2 (by decide))
            have r333 := (g15_6 8 (by decide) (by decide))
            have r334 := (fm_rd_i (a := 0) (b := 8) m2 (by decide))
            have r335 := (fm_rd_i (a := 0) (b := 9) m2 (by decide))
            have r336 := (g15_6 8 (by decide) (by decide))
            have r337 := (fm_rd_i (a := 0) (b := 8) m2 (by decide))
            refine fr_cvI h kX12 at_0M wX12_oneOf lX12_147 (c_X12_oneOf x_15 97 12 (by omega) (by omega) (by omega) (by omega) (by omega) (by omega) (by omega)) rfl (by decide) (by decide) rfl (Nat.le_of_ble_eq_true rfl) dX12_rank_60 (fun z339 x338 w340 p341 => ?_)
            obtain ⟨p342, p343, p344, p345, p346, f347, f348⟩ := p341
            refine fr_iast h arM_19 (by omega) (by omega) (rrM_19 l2_15) (by omega) (by omega) dX12_rank_63 ?_
            refine fr_mem (fun x349 m350 => ?_)
            refine fr_iinc (j := 2) (L' := [(0, vr G 0), (1, vi k), (2, vi (l2_15 + 1)), (3, vr G 19)]) h dX12_rank_64 rfl (by decide) [1, 2, 0, 3] rfl ?_
            refine fr_goto (tgt := 18) h dX12_rank_67 (by decide) ?_
            have r351 := (fm_rd_k (a := 0) (b := 10) m350 (by omega))
            have r352 := (fm_rd_i (a := 0) (b := 10) m2 (by decide))
            have r353 := (fm_rd_k (a := 0) (b := 9) m350 (by omega))
            have r354 := (fm_rd_i (a := 0) (b := 9) m2 (by decide))
            have r355 := (fm_rd_k (a := 0) (b := 8) m350 (by omega))
            have r356 := r355.trans (f348 8 (by decide) (by decide))
            have r357 := r356.trans (g15_6 8 (by decide) (by decide))
            have r358 := (fm_rd_i (a := 0) (b := 8) m2 (by decide))
            exact ih15 (l2_15 + 1) x349 (by omega) (by omega) (by omega) (by omega) (by omega) (fun a k0 k1 => ((fm_up_row m350 (by omega)).trans ((f347 a (by omega)).trans (g15_5 a (by omega) (by omega))))) (fun i k0 k1 => ((fm_rd_k (a := 0) (b := i) m350 (by omega)).trans ((f348 i (by omega) (by omega)).trans (g15_6 i (by omega) (by omega))))) (by omega)
          ·
            refine fr_aload_n h rfl 0 rfl dX12_rank_42 ?_
            refine fr_aload_n h rfl 0 rfl dX12_rank_43 ?_
            refine fr_geti (iz := 9) h kX12 fX12_121 at_0M rfl rfl (by decide) (by decide) rfM_9 dX12_rank_44 (fun z359 w360 w361 q362 => ?_)
            have r363 := (fm_rd_i (a := 0) (b := 9) m2 (by decide))
            refine fr_cvV h kX12 at_0M wX12_fault lX12_143 (c_X12_fault x_15 z359 (by omega) (by omega) (by omega)) rfl (by decide) (by decide) rfl (Nat.le_of_ble_eq_true rfl) dX12_rank_47 (fun x364 p367 => ?_)
            obtain ⟨p368, f369, f370⟩ := p367
            refine fr_goto (tgt := 64) h dX12_rank_50 (by decide) ?_
            refine fr_iinc (j := 2) (L' := [(0, vr G 0), (1, vi k), (2, vi (l2_15 + 1)), (3, vr G 19)]) h dX12_rank_64 rfl (by decide) [1, 2, 0, 3] rfl ?_
            refine fr_goto (tgt := 18) h dX12_rank_67 (by decide) ?_
            have r371 := (fm_rd_i (a := 0) (b := 10) m2 (by decide))
            have r372 := (f370 9 (by decide))
            have r373 := (fm_rd_i (a := 0) (b := 9) m2 (by decide))
            have r374 := (f370 8 (by decide))
            have r375 := r374.trans (g15_6 8 (by decide) (by decide))
            have r376 := (fm_rd_i (a := 0) (b := 8) m2 (by decide))
            exact ih15 (l2_15 + 1) x364 (by omega) (by omega) (by omega) (by omega) (by omega) (fun a k0 k1 => ((f369 a (by omega)).trans (g15_5 a (by omega) (by omega)))) (fun i k0 k1 => ((f370 i (by omega)).trans (g15_6 i (by omega) (by omega)))) (by omega)
  have r377 := (fm_rd_i (a := 0) (b := 10) m2 (by decide))
  have r378 := (fm_rd_i (a := 0) (b := 9) m2 (by decide))
  have r379 := (fm_rd_i (a := 0) (b := 8) m2 (by decide))
  exact HL15 ((9 - 0) + 1 : Int).toNat 0 x3 (by omega) (by omega) (by omega) (by omega) (by omega) (fun a _ _ => rfl) (fun i _ _ => rfl) (by omega)
set_option maxHeartbeats 200000 in
theorem c_X12_alike (x : Mm) (k : Int) (p : Int) (h_k : fm_r k) (h_p : fm_r p) (e0 : GI x) : CnI YM yX12_alike cX12_alike 5 .int 207 6248 (fun G => [vr G 0, vi k, vi p]) x (fun z y' => (y' 0 5 = 0) ∧ (GI y') ∧ (∀ a : Int, (a < 0 ∨ 0 < a) → (a < 3 ∨ 3 < a) → (a < 7 ∨ 7 < a) → (a < 12 ∨ 18 < a) → y' a = x a) ∧ (∀ i : Int, i ≠ 4 → i ≠ 5 → i ≠ 6 → i ≠ 7 → i ≠ 8 → i ≠ 9 → i ≠ 10 → i ≠ 15 → i ≠ 26 → y' 0 i = x 0 i)) := by
  refine cn_I (by decide) (fun _ => Nat.le_of_ble_eq_true rfl) (fun G C h hq => ?_)
  have h : OK YM G C cX12_alike RX12 5 (some .int) 207 6248 := h
  show FW YM G C 5 x 0 [(0, vr G 0), (1, vi k), (2, vi p)] []
  have e12 := e0.2.2.2
  refine fr_aload_n h rfl 0 rfl dX12_alike_0 ?_
  refine fr_iconst h dX12_alike_1 ?_
  refine fr_puti (iz := 5) h kX12 fX12_94 at_0M rfl rfl (by decide) (by decide) rfl (by decide +kernel) rfM_5 (by omega) (by omega) dX12_alike_2 ?_
  refine fr_mem (fun x1 m2 => ?_)
  refine fr_iload_n h rfl 1 rfl dX12_alike_5 ?_
  refine fr_csI h wX12_isKind lX12_324 (c_X12_isKind x1 k (by omega)) rfl (by decide) (by decide) rfl (Nat.le_of_ble_eq_true rfl) dX12_alike_6 (fun z4 x3 w5 p6 => ?_)
  obtain ⟨p7, p8, y9⟩ := p6
  rw [y9]
  clear y9
  refine fr_if_eq (tgt := 23) h dX12_alike_9 (by decide) (by omega) (fun c10 => ?_) (fun c10 => ?_)
  ·
    refine fr_iconst h dX12_alike_23 ?_
    have r11 := (fm_rd_s m2)
    have r12 := (fm_rd_i (a := 0) (b := 12) m2 (by decide))
    exact fr_iret h hq (by omega) ⟨(by omega), ⟨(by rw [show x1 1 = x 1 from (fm_up_row m2 (by omega))]; exact e0.1), (by rw [show x1 8 = x 8 from (fm_up_row m2 (by omega))]; exact e0.2.1), (by rw [show x1 26 = x 26 from (fm_up_row m2 (by omega))]; exact e0.2.2.1), (by have := e0.2.2.2; omega)⟩, (fun a k0 k1 k2 k3 => (fm_up_row m2 (by omega))), (fun i k0 k1 k2 k3 k4 k5 k6 k7 k8 => (fm_rd_i (a := 0) (b := i) m2 (by omega)))⟩ dX12_alike_24
  ·
    refine fr_iload_n h rfl 2 rfl dX12_alike_12 ?_
    refine fr_iconst h dX12_alike_13 ?_
    refine fr_sipush h rfl dX12_alike_14 ?_
    refine fr_csI h wX12_in lX12_101 (c_X12_in x1 p 1 400 (by omega) (by omega) (by omega)) rfl (by decide) (by decide) rfl (Nat.le_of_ble_eq_true rfl) dX12_alike_17 (fun z14 x13 w15 p16 => ?_)
    obtain ⟨p17, p18, y19⟩ := p16
    rw [y19]
    clear y19
    refine fr_if_ne (tgt := 25) h dX12_alike_20 (by decide) (by omega) (fun c20 => ?_) (fun c20 => ?_)
    ·
      refine fr_aload_n h rfl 0 rfl dX12_alike_25 ?_
      refine fr_aload_n h rfl 0 rfl dX12_alike_26 ?_
      refine fr_getc (z := 1) (iz := 0) h kX12 fX12_9 at_0M rfl rfl rfM_0 (by omega) dX12_alike_27 ?_
      refine fr_iload_n h rfl 1 rfl dX12_alike_30 ?_
      refine fr_cvI h kX12 at_0M wX12_layAll lX12_327 (c_X12_layAll x1 1 SA_1 k (by omega) (by rw [show x1 1 = x 1 from (fm_up_row m2 (by omega))]; exact e0.1)) rfl (by decide) (by decide) rfl (Nat.le_of_ble_eq_true rfl) dX12_alike_31 (fun z22 x21 w23 p24 => ?_)
      obtain ⟨p25, p26, p27, p28, p29, p30, f31, f32⟩ := p24
      refine fr_iload_n h rfl 2 rfl dX12_alike_34 ?_
      refine fr_icmp_ge (tgt := 41) h dX12_alike_35 (by decide) (by omega) (by omega) (fun c33 => ?_) (fun c33 => ?_)
      ·
        refine fr_aload_n h rfl 0 rfl dX12_alike_41 ?_
        refine fr_aload_n h rfl 0 rfl dX12_alike_42 ?_
        refine fr_iload_n h rfl 2 rfl dX12_alike_43 ?_
        refine fr_cvI h kX12 at_0M wX12_costAt lX12_333 (c_X12_costAt x21 p (by omega) (by omega) (by omega)) rfl (by decide) (by decide) rfl (Nat.le_of_ble_eq_true rfl) dX12_alike_44 (fun z35 x34 w36 p37 => ?_)
        have y38 := p37
        rw [y38]
        clear y38
        refine fr_cvI h kX12 at_0M wX12_upTo lX12_336 (c_X12_upTo x21 z35 (by omega)) rfl (by decide) (by decide) rfl (Nat.le_of_ble_eq_true rfl) dX12_alike_47 (fun z40 x39 w41 p42 => ?_)
        obtain ⟨p43, p44, y45⟩ := p42
        rw [y45]
        clear y45
        refine fr_istore_n (L' := [(0, vr G 0), (1, vi k), (2, vi p), (3, vi z40)]) h rfl dX12_alike_50 (by decide) [1, 2, 3, 0] rfl ?_
        refine fr_iload_n h rfl 2 rfl dX12_alike_51 ?_
        refine fr_istore (L' := [(0, vr G 0), (1, vi k), (2, vi p), (3, vi z40), (4, vi p)]) h dX12_alike_52 (by decide) [1, 2, 3, 4, 0] rfl ?_
        have HL46 : ∀ (n46 : Nat) (l4_46 : Int), fm_r l4_46 → 1 ≤ l4_46 → l4_46 ≤ 400 → l4_46 ≤ p → (l4_46 - 1) < n46 → FW YM G C 5 x21 54 [(0, vr G 0), (1, vi k), (2, vi p), (3, vi z40), (4, vi l4_46)] [] := by
          intro n46
          induction n46 with
          | zero =>
            intro l4_46 g46_0 g46_1 g46_2 g46_3 g46_4
            exfalso; omega
          | succ n46 ih46 =>
            intro l4_46 g46_0 g46_1 g46_2 g46_3 g46_4
            refine fr_iload h 4 rfl dX12_alike_54 ?_
            refine fr_iconst h dX12_alike_56 ?_
            refine fr_icmp_le (tgt := 82) h dX12_alike_57 (by decide) (by omega) (by omega) (fun c47 => ?_) (fun c47 => ?_)
            ·
              refine fr_aload_n h rfl 0 rfl dX12_alike_82 ?_
              refine fr_iconst h dX12_alike_83 ?_
              refine fr_puti (iz := 4) h kX12 fX12_98 at_0M rfl rfl (by decide) (by decide) rfl (by decide +kernel) rfM_4 (by omega) (by omega) dX12_alike_84 ?_
              refine fr_mem (fun x48 m49 => ?_)
              refine fr_aload_n h rfl 0 rfl dX12_alike_87 ?_
              refine fr_iload h 4 rfl dX12_alike_88 ?_
              refine fr_i2l h (by omega) dX12_alike_90 ?_
              have r50 := (fm_rd_s m49)
              refine fr_cvV h kX12 at_0M wX12_tell lX12_269 (c_X12_tell x48 l4_46 (by omega) (by omega)) rfl (by decide) (by decide) rfl (Nat.le_of_ble_eq_true rfl) dX12_alike_91 (fun x51 p54 => ?_)
              obtain ⟨p55, f56, f57⟩ := p54
              refine fr_aload_n h rfl 0 rfl dX12_alike_94 ?_
              refine fr_iload_n h rfl 3 rfl dX12_alike_95 ?_
              refine fr_i2l h (by omega) dX12_alike_96 ?_
              have r58 := (fm_rd_s m49)
              refine fr_cvV h kX12 at_0M wX12_tell lX12_269 (c_X12_tell x51 z40 (by omega) (by omega)) rfl (by decide) (by decide) rfl (Nat.le_of_ble_eq_true rfl) dX12_alike_97 (fun x59 p62 => ?_)
              obtain ⟨p63, f64, f65⟩ := p62
              refine fr_iload_n h rfl 3 rfl dX12_alike_100 ?_
              refine fr_iload h 4 rfl dX12_alike_101 ?_
              refine fr_isub h dX12_alike_103 ?_
              refine fr_iconst h dX12_alike_104 ?_
              refine fr_iadd h dX12_alike_105 ?_
              have r66 := (f65 5 (by decide))
              have r67 := r66.trans (f57 5 (by decide))
              have r68 := r67.trans (fm_rd_i (a := 0) (b := 5) m49 (by decide))
              have r69 := r68.trans (f32 5 (by decide) (by decide) (by decide) (by decide) (by decide) (by decide) (by decide))
              have r70 := r69.trans (fm_rd_s m2)
              have r71 := (f65 12 (by decide))
              have r72 := r71.trans (f57 12 (by decide))
              have r73 := r72.trans (fm_rd_i (a := 0) (b := 12) m49 (by decide))
              have r74 := r73.trans (f32 12 (by decide) (by decide) (by decide) (by decide) (by decide) (by decide) (by decide))
              have r75 := r74.trans (fm_rd_i (a := 0) (b := 12) m2 (by decide))
              exact fr_iret h hq (by omega) ⟨(by omega), ⟨(by rw [show x59 1 = x51 1 from (f64 1 (by omega) (by omega))]; exact (by rw [show x51 1 = x48 1 from (f56 1 (by omega) (by omega))]; exact (by rw [show x48 1 = x21 1 from (fm_up_row m49 (by omega))]; exact (by rw [show x21 1 = x1 1 from (f31 1 (by omega) (by omega) (by omega))]; exact (by rw [show x1 1 = x 1 from (fm_up_row m2 (by omega))]; exact e0.1))))), (by rw [show x59 8 = x 8 from ((f64 8 (by omega) (by omega)).trans ((f56 8 (by omega) (by omega)).trans ((fm_up_row m49 (by omega)).trans ((f31 8 (by omega) (by omega) (by omega)).trans (fm_up_row m2 (by omega))))))]; exact e0.2.1), (by rw [show x59 26 = x 26 from ((f64 26 (by omega) (by omega)).trans ((f56 26 (by omega) (by omega)).trans ((fm_up_row m49 (by omega)).trans ((f31 26 (by omega) (by omega) (by omega)).trans (fm_up_row m2 (by omega))))))]; exact e0.2.2.1), (by have := e0.2.2.2; omega)⟩, (fun a k0 k1 k2 k3 => ((f64 a (by omega) (by omega)).trans ((f56 a (by omega) (by omega)).trans ((fm_up_row m49 (by omega)).trans ((f31 a (by omega) (by omega) (by omega)).trans (fm_up_row m2 (by omega))))))), (fun i k0 k1 k2 k3 k4 k5 k6 k7 k8 => ((f65 i (by omega)).trans ((f57 i (by omega)).trans ((fm_rd_i (a := 0) (b := i) m49 (by omega)).trans ((f32 i (by omega) (by omega) (by omega) (by omega) (by omega) (by omega) (by omega)).trans (fm_rd_i (a := 0) (b := i) m2 (by omega)))))))⟩ dX12_alike_106
            ·
              refine fr_aload_n h rfl 0 rfl dX12_alike_60 ?_
              refine fr_iload h 4 rfl dX12_alike_61 ?_
              refine fr_iconst h dX12_alike_63 ?_
              refine fr_isub h dX12_alike_64 ?_
              refine fr_cvI h kX12 at_0M wX12_costAt lX12_333 (c_X12_costAt x21 (l4_46 - 1) (by omega) (by omega) (by omega)) rfl (by decide) (by decide) rfl (Nat.le_of_ble_eq_true rfl) dX12_alike_65 (fun z77 x76 w78 p79 => ?_)
              have y80 := p79
              rw [y80]
              clear y80
              refine fr_aload_n h rfl 0 rfl dX12_alike_68 ?_
              refine fr_iload_n h rfl 2 rfl dX12_alike_69 ?_
              refine fr_cvI h kX12 at_0M wX12_costAt lX12_333 (c_X12_costAt x21 p (by omega) (by omega) (by omega)) rfl (by decide) (by decide) rfl (Nat.le_of_ble_eq_true rfl) dX12_alike_70 (fun z82 x81 w83 p84 => ?_)
              have y85 := p84
              rw [y85]
              clear y85
              refine fr_icmp_ne (tgt := 82) h dX12_alike_73 (by decide) (by omega) (by omega) (fun c86 => ?_) (fun c86 => ?_)
              ·
                refine fr_aload_n h rfl 0 rfl dX12_alike_82 ?_
                refine fr_iconst h dX12_alike_83 ?_
                refine fr_puti (iz := 4) h kX12 fX12_98 at_0M rfl rfl (by decide) (by decide) rfl (by decide +kernel) rfM_4 (by omega) (by omega) dX12_alike_84 ?_
                refine fr_mem (fun x87 m88 => ?_)
                refine fr_aload_n h rfl 0 rfl dX12_alike_87 ?_
                refine fr_iload h 4 rfl dX12_alike_88 ?_
                refine fr_i2l h (by omega) dX12_alike_90 ?_
                have r89 := (fm_rd_s m88)
                refine fr_cvV h kX12 at_0M wX12_tell lX12_269 (c_X12_tell x87 l4_46 (by omega) (by omega)) rfl (by decide) (by decide) rfl (Nat.le_of_ble_eq_true rfl) dX12_alike_91 (fun x90 p93 => ?_)
                obtain ⟨p94, f95, f96⟩ := p93
                refine fr_aload_n h rfl 0 rfl dX12_alike_94 ?_
                refine fr_iload_n h rfl 3 rfl dX12_alike_95 ?_
                refine fr_i2l h (by omega) dX12_alike_96 ?_
                have r97 := (fm_rd_s m88)
                refine fr_cvV h kX12 at_0M wX12_tell lX12_269 (c_X12_tell x90 z40 (by omega) (by omega)) rfl (by decide) (by decide) rfl (Nat.le_of_ble_eq_true rfl) dX12_alike_97 (fun x98 p101 => ?_)
                obtain ⟨p102, f103, f104⟩ := p101
                refine fr_iload_n h rfl 3 rfl dX12_alike_100 ?_
                refine fr_iload h 4 rfl dX12_alike_101 ?_
                refine fr_isub h dX12_alike_103 ?_
                refine fr_iconst h dX12_alike_104 ?_
                refine fr_iadd h dX12_alike_105 ?_
                have r105 := (f104 5 (by decide))
                have r106 := r105.trans (f96 5 (by decide))
                have r107 := r106.trans (fm_rd_i (a := 0) (b := 5) m88 (by decide))
                have r108 := r107.trans (f32 5 (by decide) (by decide) (by decide) (by decide) (by decide) (by decide) (by decide))
                have r109 := r108.trans (fm_rd_s m2)
                have r110 := (f104 12 (by decide))
                have r111 := r110.trans (f96 12 (by decide))
                have r112 := r111.trans (fm_rd_i (a := 0) (b := 12) m88 (by decide))
                have r113 := r112.trans (f32 12 (by decide) (by decide) (by decide) (by decide) (by decide) (by decide) (by decide))
                have r114 := r113.trans (fm_rd_i (a := 0) (b := 12) m2 (by decide))
                exact fr_iret h hq (by omega) ⟨(by omega), ⟨(by rw [show x98 1 = x90 1 from (f103 1 (by omega) (by omega))]; exact (by rw [show x90 1 = x87 1 from (f95 1 (by omega) (by omega))]; exact (by rw [show x87 1 = x21 1 from (fm_up_row m88 (by omega))]; exact (by rw [show x21 1 = x1 1 from (f31 1 (by omega) (by omega) (by omega))]; exact (by rw [show x1 1 = x 1 from (fm_up_row m2 (by omega))]; exact e0.1))))), (by rw [show x98 8 = x 8 from ((f103 8 (by omega) (by omega)).trans ((f95 8 (by omega) (by omega)).trans ((fm_up_row m88 (by omega)).trans ((f31 8 (by omega) (by omega) (by omega)).trans (fm_up_row m2 (by omega))))))]; exact e0.2.1), (by rw [show x98 26 = x 26 from ((f103 26 (by omega) (by omega)).trans ((f95 26 (by omega) (by omega)).trans ((fm_up_row m88 (by omega)).trans ((f31 26 (by omega) (by omega) (by omega)).trans (fm_up_row m2 (by omega))))))]; exact e0.2.2.1), (by have := e0.2.2.2; omega)⟩, (fun a k0 k1 k2 k3 => ((f103 a (by omega) (by omega)).trans ((f95 a (by omega) (by omega)).trans ((fm_up_row m88 (by omega)).trans ((f31 a (by omega) (by omega) (by omega)).trans (fm_up_row m2 (by omega))))))), (fun i k0 k1 k2 k3 k4 k5 k6 k7 k8 => ((f104 i (by omega)).trans ((f96 i (by omega)).trans ((fm_rd_i (a := 0) (b := i) m88 (by omega)).trans ((f32 i (by omega) (by omega) (by omega) (by omega) (by omega) (by omega) (by omega)).trans (fm_rd_i (a := 0) (b := i) m2 (by omega)))))))⟩ dX12_alike_106
              ·
                refine fr_iinc (j := 4) (L' := [(0, vr G 0), (1, vi k), (2, vi p), (3, vi z40), (4, vi (l4_46 + (-1)))]) h dX12_alike_76 rfl (by decide) [1, 2, 3, 4, 0] rfl ?_
                refine fr_goto (tgt := 54) h dX12_alike_79 (by decide) ?_
                exact ih46 (l4_46 + (-1)) (by omega) (by omega) (by omega) (by omega) (by omega)
        exact HL46 ((p - 1) + 1 : Int).toNat p (by omega) (by omega) (by omega) (by omega) (by omega)
      ·
        refine fr_bipush h rfl dX12_alike_38 ?_
        have r115 := (f32 5 (by decide) (by decide) (by decide) (by decide) (by decide) (by decide) (by decide))
        have r116 := r115.trans (fm_rd_s m2)
        have r117 := (f32 12 (by decide) (by decide) (by decide) (by decide) (by decide) (by decide) (by decide))
        have r118 := r117.trans (fm_rd_i (a := 0) (b := 12) m2 (by decide))
        exact fr_iret h hq (by omega) ⟨(by omega), ⟨(by rw [show x21 1 = x1 1 from (f31 1 (by omega) (by omega) (by omega))]; exact (by rw [show x1 1 = x 1 from (fm_up_row m2 (by omega))]; exact e0.1)), (by rw [show x21 8 = x 8 from ((f31 8 (by omega) (by omega) (by omega)).trans (fm_up_row m2 (by omega)))]; exact e0.2.1), (by rw [show x21 26 = x 26 from ((f31 26 (by omega) (by omega) (by omega)).trans (fm_up_row m2 (by omega)))]; exact e0.2.2.1), (by have := e0.2.2.2; omega)⟩, (fun a k0 k1 k2 k3 => ((f31 a (by omega) (by omega) (by omega)).trans (fm_up_row m2 (by omega)))), (fun i k0 k1 k2 k3 k4 k5 k6 k7 k8 => ((f32 i (by omega) (by omega) (by omega) (by omega) (by omega) (by omega) (by omega)).trans (fm_rd_i (a := 0) (b := i) m2 (by omega))))⟩ dX12_alike_40
    ·
      refine fr_iconst h dX12_alike_23 ?_
      have r119 := (fm_rd_s m2)
      have r120 := (fm_rd_i (a := 0) (b := 12) m2 (by decide))
      exact fr_iret h hq (by omega) ⟨(by omega), ⟨(by rw [show x1 1 = x 1 from (fm_up_row m2 (by omega))]; exact e0.1), (by rw [show x1 8 = x 8 from (fm_up_row m2 (by omega))]; exact e0.2.1), (by rw [show x1 26 = x 26 from (fm_up_row m2 (by omega))]; exact e0.2.2.1), (by have := e0.2.2.2; omega)⟩, (fun a k0 k1 k2 k3 => (fm_up_row m2 (by omega))), (fun i k0 k1 k2 k3 k4 k5 k6 k7 k8 => (fm_rd_i (a := 0) (b := i) m2 (by omega)))⟩ dX12_alike_24
set_option maxHeartbeats 2000000 in
theorem c_X12_surely (x : Mm) (k : Int) (h_k : fm_r k) (e0 : GI x) : CnI YM yX12_surely cX12_surely 7 .int 207 6248 (fun G => [vr G 0, vi k]) x (fun z y' => (y' 0 5 = 0) ∧ (GI y') ∧ (∀ a : Int, (a < 0 ∨ 0 < a) → (a < 3 ∨ 3 < a) → (a < 7 ∨ 7 < a) → (a < 12 ∨ 18 < a) → y' a = x a) ∧ (∀ i : Int, i ≠ 4 → i ≠ 5 → i ≠ 6 → i ≠ 7 → i ≠ 8 → i ≠ 9 → i ≠ 10 → i ≠ 15 → i ≠ 26 → y' 0 i = x 0 i)) := by
  refine cn_I (by decide) (fun _ => Nat.le_of_ble_eq_true rfl) (fun G C h hq => ?_)
  have h : OK YM G C cX12_surely RX12 7 (some .int) 207 6248 := h
  show FW YM G C 7 x 0 [(0, vr G 0), (1, vi k)] []
  have e12 := e0.2.2.2
  refine fr_aload_n h rfl 0 rfl dX12_surely_0 ?_
  refine fr_iconst h dX12_surely_1 ?_
  refine fr_puti (iz := 5) h kX12 fX12_94 at_0M rfl rfl (by decide) (by decide) rfl (by decide +kernel) rfM_5 (by omega) (by omega) dX12_surely_2 ?_
  refine fr_mem (fun x1 m2 => ?_)
  refine fr_iload_n h rfl 1 rfl dX12_surely_5 ?_
  refine fr_csI h wX12_isKind lX12_324 (c_X12_isKind x1 k (by omega)) rfl (by decide) (by decide) rfl (Nat.le_of_ble_eq_true rfl) dX12_surely_6 (fun z4 x3 w5 p6 => ?_)
  obtain ⟨p7, p8, y9⟩ := p6
  rw [y9]
  clear y9
  refine fr_if_ne (tgt := 14) h dX12_surely_9 (by decide) (by omega) (fun c10 => ?_) (fun c10 => ?_)
  ·
    refine fr_aload_n h rfl 0 rfl dX12_surely_14 ?_
    refine fr_aload_n h rfl 0 rfl dX12_surely_15 ?_
    refine fr_getc (z := 1) (iz := 0) h kX12 fX12_9 at_0M rfl rfl rfM_0 (by omega) dX12_surely_16 ?_
    refine fr_iload_n h rfl 1 rfl dX12_surely_19 ?_
    refine fr_cvI h kX12 at_0M wX12_layAll lX12_327 (c_X12_layAll x1 1 SA_1 k (by omega) (by rw [show x1 1 = x 1 from (fm_up_row m2 (by omega))]; exact e0.1)) rfl (by decide) (by decide) rfl (Nat.le_of_ble_eq_true rfl) dX12_surely_20 (fun z12 x11 w13 p14 => ?_)
    obtain ⟨p15, p16, p17, p18, p19, p20, f21, f22⟩ := p14
    refine fr_if_ne (tgt := 29) h dX12_surely_23 (by decide) (by omega) (fun c23 => ?_) (fun c23 => ?_)
    ·
      refine fr_aload_n h rfl 0 rfl dX12_surely_29 ?_
      refine fr_aload_n h rfl 0 rfl dX12_surely_30 ?_
      refine fr_iconst h dX12_surely_31 ?_
      refine fr_cvI h kX12 at_0M wX12_costAt lX12_333 (c_X12_costAt x11 1 (by omega) (by omega) (by omega)) rfl (by decide) (by decide) rfl (Nat.le_of_ble_eq_true rfl) dX12_surely_32 (fun z25 x24 w26 p27 => ?_)
      have y28 := p27
      rw [y28]
      clear y28
      refine fr_cvI h kX12 at_0M wX12_upTo lX12_336 (c_X12_upTo x11 z25 (by omega)) rfl (by decide) (by decide) rfl (Nat.le_of_ble_eq_true rfl) dX12_surely_35 (fun z30 x29 w31 p32 => ?_)
      obtain ⟨p33, p34, y35⟩ := p32
      rw [y35]
      clear y35
      refine fr_istore_n (L' := [(0, vr G 0), (1, vi k), (2, vi z30)]) h rfl dX12_surely_38 (by decide) [1, 2, 0] rfl ?_
      refine fr_iconst h dX12_surely_39 ?_
      refine fr_istore_n (L' := [(0, vr G 0), (1, vi k), (2, vi z30), (3, vi 0)]) h rfl dX12_surely_40 (by decide) [1, 2, 3, 0] rfl ?_
      refine fr_iconst h dX12_surely_41 ?_
      refine fr_istore (L' := [(0, vr G 0), (1, vi k), (2, vi z30), (3, vi 0), (4, vi 0)]) h dX12_surely_42 (by decide) [1, 2, 3, 4, 0] rfl ?_
      have HL36 : ∀ (n36 : Nat) (l3_36 l4_36 : Int), fm_r l3_36 → fm_r l4_36 → 0 ≤ l4_36 → l4_36 ≤ 8 → (8 - l4_36) < n36 → FW YM G C 7 x11 44 [(0, vr G 0), (1, vi k), (2, vi z30), (3, vi l3_36), (4, vi l4_36)] [] := by
        intro n36
        induction n36 with
        | zero =>
          intro l3_36 l4_36 g36_0 g36_1 g36_2 g36_3 g36_4
          exfalso; omega
        | succ n36 ih36 =>
          intro l3_36 l4_36 g36_0 g36_1 g36_2 g36_3 g36_4
          refine fr_iload h 4 rfl dX12_surely_44 ?_
          refine fr_bipush h rfl dX12_surely_46 ?_
          refine fr_icmp_ge (tgt := 178) h dX12_surely_48 (by decide) (by omega) (by omega) (fun c37 => ?_) (fun c37 => ?_)
          ·
            refine fr_aload_n h rfl 0 rfl dX12_surely_178 ?_
            refine fr_iconst h dX12_surely_179 ?_
            refine fr_puti (iz := 4) h kX12 fX12_98 at_0M rfl rfl (by decide) (by decide) rfl (by decide +kernel) rfM_4 (by omega) (by omega) dX12_surely_180 ?_
            refine fr_mem (fun x38 m39 => ?_)
            refine fr_aload_n h rfl 0 rfl dX12_surely_183 ?_
            refine fr_iload_n h rfl 3 rfl dX12_surely_184 ?_
            refine fr_csI h wJ6_bitCount_0f7a4 lX12_315 (c_bitCountM x38 l3_36 (by omega)) rfl (by decide) (by decide) rfl (Nat.le_of_ble_eq_true rfl) dX12_surely_185 (fun z41 x40 w42 p43 => ?_)
            obtain ⟨p44, y45⟩ := p43
            rw [y45]
            clear y45
            refine fr_i2l h (by omega) dX12_surely_188 ?_
            have r46 := (fm_rd_s m39)
            refine fr_cvV h kX12 at_0M wX12_tell lX12_269 (c_X12_tell x38 z41 (by omega) (by omega)) rfl (by decide) (by decide) rfl (Nat.le_of_ble_eq_true rfl) dX12_surely_189 (fun x47 p50 => ?_)
            obtain ⟨p51, f52, f53⟩ := p50
            refine fr_iload_n h rfl 3 rfl dX12_surely_192 ?_
            have r54 := (f53 5 (by decide))
            have r55 := r54.trans (fm_rd_i (a := 0) (b := 5) m39 (by decide))
            have r56 := r55.trans (f22 5 (by decide) (by decide) (by decide) (by decide) (by decide) (by decide) (by decide))
            have r57 := r56.trans (fm_rd_s m2)
            have r58 := (f53 12 (by decide))
            have r59 := r58.trans (fm_rd_i (a := 0) (b := 12) m39 (by decide))
            have r60 := r59.trans (f22 12 (by decide) (by decide) (by decide) (by decide) (by decide) (by decide) (by decide))
            have r61 := r60.trans (fm_rd_i (a := 0) (b := 12) m2 (by decide))
            exact fr_iret h hq (by omega) ⟨(by omega), ⟨(by rw [show x47 1 = x38 1 from (f52 1 (by omega) (by omega))]; exact (by rw [show x38 1 = x11 1 from (fm_up_row m39 (by omega))]; exact (by rw [show x11 1 = x1 1 from (f21 1 (by omega) (by omega) (by omega))]; exact (by rw [show x1 1 = x 1 from (fm_up_row m2 (by omega))]; exact e0.1)))), (by rw [show x47 8 = x 8 from ((f52 8 (by omega) (by omega)).trans ((fm_up_row m39 (by omega)).trans ((f21 8 (by omega) (by omega) (by omega)).trans (fm_up_row m2 (by omega)))))]; exact e0.2.1), (by rw [show x47 26 = x 26 from ((f52 26 (by omega) (by omega)).trans ((fm_up_row m39 (by omega)).trans ((f21 26 (by omega) (by omega) (by omega)).trans (fm_up_row m2 (by omega)))))]; exact e0.2.2.1), (by have := e0.2.2.2; omega)⟩, (fun a k0 k1 k2 k3 => ((f52 a (by omega) (by omega)).trans ((fm_up_row m39 (by omega)).trans ((f21 a (by omega) (by omega) (by omega)).trans (fm_up_row m2 (by omega)))))), (fun i k0 k1 k2 k3 k4 k5 k6 k7 k8 => ((f53 i (by omega)).trans ((fm_rd_i (a := 0) (b := i) m39 (by omega)).trans ((f22 i (by omega) (by omega) (by omega) (by omega) (by omega) (by omega) (by omega)).trans (fm_rd_i (a := 0) (b := i) m2 (by omega))))))⟩ dX12_surely_193
          ·
            refine fr_iload h 4 rfl dX12_surely_51 ?_
            refine fr_aload_n h rfl 0 rfl dX12_surely_53 ?_
            refine fr_getc (z := 13) (iz := 24) h kX12 fX12_48 at_0M rfl rfl rfM_24 (by omega) dX12_surely_54 ?_
            refine fr_aload_n h rfl 0 rfl dX12_surely_57 ?_
            refine fr_getc (z := 15) (iz := 27) h kX12 fX12_54 at_0M rfl rfl rfM_27 (by omega) dX12_surely_58 ?_
            refine fr_iconst h dX12_surely_61 ?_
            refine fr_iald h arM_15 (by omega) (by omega) (rrM_15 0) dX12_surely_62 (fun z62 w63 w64 q65 => ?_)
            have r66 := (fm_rd_k (a := 15) (b := 0) m2 (by omega))
            refine fr_iald h arM_13 (by omega) (by omega) (rrM_13 z62) dX12_surely_63 (fun z67 w68 w69 q70 => ?_)
            have r71 := (fm_rd_k (a := 13) (b := z62) m2 (by omega))
            refine fr_icmp_ge (tgt := 71) h dX12_surely_64 (by decide) (by omega) (by omega) (fun c72 => ?_) (fun c72 => ?_)
            ·
              refine fr_iconst h dX12_surely_71 ?_
              refine fr_istore (L' := [(0, vr G 0), (1, vi k), (2, vi z30), (3, vi l3_36), (4, vi l4_36), (5, vi 0)]) h dX12_surely_72 (by decide) [1, 2, 3, 4, 5, 0] rfl ?_
              refine fr_iconst h dX12_surely_74 ?_
              refine fr_istore (L' := [(0, vr G 0), (1, vi k), (2, vi z30), (3, vi l3_36), (4, vi l4_36), (5, vi 0), (6, vi 1)]) h dX12_surely_75 (by decide) [1, 2, 3, 4, 5, 6, 0] rfl ?_
              have HL73 : ∀ (n73 : Nat) (l5_73 l6_73 : Int), fm_r l5_73 → 0 ≤ l5_73 → l5_73 ≤ 1 → fm_r l6_73 → 1 ≤ l6_73 → l6_73 ≤ 1300 → (1300 - l6_73) < n73 → FW YM G C 7 x11 77 [(0, vr G 0), (1, vi k), (2, vi z30), (3, vi l3_36), (4, vi l4_36), (5, vi l5_73), (6, vi l6_73)] [] := by
                intro n73
                induction n73 with
                | zero =>
                  intro l5_73 l6_73 g73_0 g73_1 g73_2 g73_3 g73_4 g73_5 g73_6
                  exfalso; omega
                | succ n73 ih73 =>
                  intro l5_73 l6_73 g73_0 g73_1 g73_2 g73_3 g73_4 g73_5 g73_6
                  refine fr_iload h 6 rfl dX12_surely_77 ?_
                  refine fr_iload_n h rfl 2 rfl dX12_surely_79 ?_
                  refine fr_icmp_ge (tgt := 156) h dX12_surely_80 (by decide) (by omega) (by omega) (fun c74 => ?_) (fun c74 => ?_)
                  ·
                    refine fr_iload_n h rfl 3 rfl dX12_surely_156 ?_
                    refine fr_iload h 5 rfl dX12_surely_157 ?_
                    refine fr_if_eq (tgt := 169) h dX12_surely_159 (by decide) (by omega) (fun c75 => ?_) (fun c75 => ?_)
                    ·
                      refine fr_iconst h dX12_surely_169 ?_
                      refine fr_ior h dX12_surely_170 (fun z76 w77 q78 w79 => ?_)
                      refine fr_istore_n (L' := [(0, vr G 0), (1, vi k), (2, vi z30), (3, vi z76), (4, vi l4_36), (5, vi l5_73), (6, vi l6_73)]) h rfl dX12_surely_171 (by decide) [1, 2, 3, 0, 4, 5, 6] rfl ?_
                      refine fr_iinc (j := 4) (L' := [(0, vr G 0), (1, vi k), (2, vi z30), (3, vi z76), (4, vi (l4_36 + 1)), (5, vi l5_73), (6, vi l6_73)]) h dX12_surely_172 rfl (by decide) [1, 2, 3, 4, 0, 5, 6] rfl ?_
                      refine fr_goto (tgt := 44) h dX12_surely_175 (by decide) ?_
                      refine fr_sub (L' := [(0, vr G 0), (1, vi k), (2, vi z30), (3, vi z76), (4, vi (l4_36 + 1))]) [0, 1, 2, 3, 4] rfl ?_
                      exact ih36 z76 (l4_36 + 1) (by omega) (by omega) (by omega) (by omega) (by omega)
                    ·
                      refine fr_iconst h dX12_surely_162 ?_
                      refine fr_iload h 4 rfl dX12_surely_163 ?_
                      refine fr_ishl h dX12_surely_165 (fun z80 w81 q82 w83 => ?_)
                      refine fr_goto (tgt := 170) h dX12_surely_166 (by decide) ?_
                      refine fr_ior h dX12_surely_170 (fun z84 w85 q86 w87 => ?_)
                      refine fr_istore_n (L' := [(0, vr G 0), (1, vi k), (2, vi z30), (3, vi z84), (4, vi l4_36), (5, vi l5_73), (6, vi l6_73)]) h rfl dX12_surely_171 (by decide) [1, 2, 3, 0, 4, 5, 6] rfl ?_
                      refine fr_iinc (j := 4) (L' := [(0, vr G 0), (1, vi k), (2, vi z30), (3, vi z84), (4, vi (l4_36 + 1)), (5, vi l5_73), (6, vi l6_73)]) h dX12_surely_172 rfl (by decide) [1, 2, 3, 4, 0, 5, 6] rfl ?_
                      refine fr_goto (tgt := 44) h dX12_surely_175 (by decide) ?_
                      refine fr_sub (L' := [(0, vr G 0), (1, vi k), (2, vi z30), (3, vi z84), (4, vi (l4_36 + 1))]) [0, 1, 2, 3, 4] rfl ?_
                      exact ih36 z84 (l4_36 + 1) (by omega) (by omega) (by omega) (by omega) (by omega)
                  ·
                    refine fr_iload h 5 rfl dX12_surely_83 ?_
                    refine fr_if_eq (tgt := 156) h dX12_surely_85 (by decide) (by omega) (fun c88 => ?_) (fun c88 => ?_)
                    ·
                      refine fr_iload_n h rfl 3 rfl dX12_surely_156 ?_
                      refine fr_iload h 5 rfl dX12_surely_157 ?_
                      refine fr_if_eq (tgt := 169) h dX12_surely_159 (by decide) (by omega) (fun c89 => ?_) (fun c89 => by exfalso; omega)
                      refine fr_iconst h dX12_surely_169 ?_
                      refine fr_ior h dX12_surely_170 (fun z90 w91 q92 w93 => ?_)
                      refine fr_istore_n (L' := [(0, vr G 0), (1, vi k), (2, vi z30), (3, vi z90), (4, vi l4_36), (5, vi l5_73), (6, vi l6_73)]) h rfl dX12_surely_171 (by decide) [1, 2, 3, 0, 4, 5, 6] rfl ?_
                      refine fr_iinc (j := 4) (L' := [(0, vr G 0), (1, vi k), (2, vi z30), (3, vi z90), (4, vi (l4_36 + 1)), (5, vi l5_73), (6, vi l6_73)]) h dX12_surely_172 rfl (by decide) [1, 2, 3, 4, 0, 5, 6] rfl ?_
                      refine fr_goto (tgt := 44) h dX12_surely_175 (by decide) ?_
                      refine fr_sub (L' := [(0, vr G 0), (1, vi k), (2, vi z30), (3, vi z90), (4, vi (l4_36 + 1))]) [0, 1, 2, 3, 4] rfl ?_
                      exact ih36 z90 (l4_36 + 1) (by omega) (by omega) (by omega) (by omega) (by omega)
                    ·
                      refine fr_iload h 4 rfl dX12_surely_88 ?_
                      refine fr_aload_n h rfl 0 rfl dX12_surely_90 ?_
                      refine fr_getc (z := 13) (iz := 24) h kX12 fX12_48 at_0M rfl rfl rfM_24 (by omega) dX12_surely_91 ?_
                      refine fr_aload_n h rfl 0 rfl dX12_surely_94 ?_
                      refine fr_getc (z := 15) (iz := 27) h kX12 fX12_54 at_0M rfl rfl rfM_27 (by omega) dX12_surely_95 ?_
                      refine fr_iload h 6 rfl dX12_surely_98 ?_
                      refine fr_iald h arM_15 (by omega) (by omega) (rrM_15 l6_73) dX12_surely_100 (fun z94 w95 w96 q97 => ?_)
                      have r98 := (fm_rd_k (a := 15) (b := l6_73) m2 (by omega))
                      refine fr_iald h arM_13 (by omega) (by omega) (rrM_13 z94) dX12_surely_101 (fun z99 w100 w101 q102 => ?_)
                      have r103 := (fm_rd_k (a := 13) (b := z94) m2 (by omega))
                      refine fr_icmp_ge (tgt := 147) h dX12_surely_102 (by decide) (by omega) (by omega) (fun c104 => ?_) (fun c104 => ?_)
                      ·
                        refine fr_iconst h dX12_surely_147 ?_
                        refine fr_istore (L' := [(0, vr G 0), (1, vi k), (2, vi z30), (3, vi l3_36), (4, vi l4_36), (5, vi 0), (6, vi l6_73)]) h dX12_surely_148 (by decide) [1, 2, 3, 4, 5, 0, 6] rfl ?_
                        refine fr_iinc (j := 6) (L' := [(0, vr G 0), (1, vi k), (2, vi z30), (3, vi l3_36), (4, vi l4_36), (5, vi 0), (6, vi (l6_73 + 1))]) h dX12_surely_150 rfl (by decide) [1, 2, 3, 4, 5, 6, 0] rfl ?_
                        refine fr_goto (tgt := 77) h dX12_surely_153 (by decide) ?_
                        exact ih73 0 (l6_73 + 1) (by omega) (by omega) (by omega) (by omega) (by omega) (by omega) (by omega)
                      ·
                        refine fr_aload_n h rfl 0 rfl dX12_surely_105 ?_
                        refine fr_getc (z := 12) (iz := 23) h kX12 fX12_45 at_0M rfl rfl rfM_23 (by omega) dX12_surely_106 ?_
                        refine fr_bipush h rfl dX12_surely_109 ?_
                        refine fr_aload_n h rfl 0 rfl dX12_surely_111 ?_
                        refine fr_getc (z := 15) (iz := 27) h kX12 fX12_54 at_0M rfl rfl rfM_27 (by omega) dX12_surely_112 ?_
                        refine fr_iload h 6 rfl dX12_surely_115 ?_
                        refine fr_iald h arM_15 (by omega) (by omega) (rrM_15 l6_73) dX12_surely_117 (fun z105 w106 w107 q108 => ?_)
                        have r109 := (fm_rd_k (a := 15) (b := l6_73) m2 (by omega))
                        refine fr_imul h dX12_surely_118 ?_
                        refine fr_iload h 4 rfl dX12_surely_119 ?_
                        refine fr_iadd h dX12_surely_121 ?_
                        refine fr_iald h arM_12 (by omega) (by omega) (rrM_12 ((8 * z105) + l4_36)) dX12_surely_122 (fun z110 w111 w112 q113 => ?_)
                        have r114 := (fm_rd_k (a := 12) (b := ((8 * z105) + l4_36)) m2 (by omega))
                        refine fr_aload_n h rfl 0 rfl dX12_surely_123 ?_
                        refine fr_getc (z := 12) (iz := 23) h kX12 fX12_45 at_0M rfl rfl rfM_23 (by omega) dX12_surely_124 ?_
                        refine fr_bipush h rfl dX12_surely_127 ?_
                        refine fr_aload_n h rfl 0 rfl dX12_surely_129 ?_
                        refine fr_getc (z := 15) (iz := 27) h kX12 fX12_54 at_0M rfl rfl rfM_27 (by omega) dX12_surely_130 ?_
                        refine fr_iconst h dX12_surely_133 ?_
                        refine fr_iald h arM_15 (by omega) (by omega) (rrM_15 0) dX12_surely_134 (fun z115 w116 w117 q118 => ?_)
                        have r119 := (fm_rd_k (a := 15) (b := 0) m2 (by omega))
                        refine fr_imul h dX12_surely_135 ?_
                        refine fr_iload h 4 rfl dX12_surely_136 ?_
                        refine fr_iadd h dX12_surely_138 ?_
                        refine fr_iald h arM_12 (by omega) (by omega) (rrM_12 ((8 * z115) + l4_36)) dX12_surely_139 (fun z120 w121 w122 q123 => ?_)
                        have r124 := (fm_rd_k (a := 12) (b := ((8 * z115) + l4_36)) m2 (by omega))
                        refine fr_icmp_ne (tgt := 147) h dX12_surely_140 (by decide) (by omega) (by omega) (fun c125 => ?_) (fun c125 => ?_)
                        ·
                          refine fr_iconst h dX12_surely_147 ?_
                          refine fr_istore (L' := [(0, vr G 0), (1, vi k), (2, vi z30), (3, vi l3_36), (4, vi l4_36), (5, vi 0), (6, vi l6_73)]) h dX12_surely_148 (by decide) [1, 2, 3, 4, 5, 0, 6] rfl ?_
                          refine fr_iinc (j := 6) (L' := [(0, vr G 0), (1, vi k), (2, vi z30), (3, vi l3_36), (4, vi l4_36), (5, vi 0), (6, vi (l6_73 + 1))]) h dX12_surely_150 rfl (by decide) [1, 2, 3, 4, 5, 6, 0] rfl ?_
                          refine fr_goto (tgt := 77) h dX12_surely_153 (by decide) ?_
                          exact ih73 0 (l6_73 + 1) (by omega) (by omega) (by omega) (by omega) (by omega) (by omega) (by omega)
                        ·
                          refine fr_iconst h dX12_surely_143 ?_
                          refine fr_goto (tgt := 148) h dX12_surely_144 (by decide) ?_
                          refine fr_istore (L' := [(0, vr G 0), (1, vi k), (2, vi z30), (3, vi l3_36), (4, vi l4_36), (5, vi 1), (6, vi l6_73)]) h dX12_surely_148 (by decide) [1, 2, 3, 4, 5, 0, 6] rfl ?_
                          refine fr_iinc (j := 6) (L' := [(0, vr G 0), (1, vi k), (2, vi z30), (3, vi l3_36), (4, vi l4_36), (5, vi 1), (6, vi (l6_73 + 1))]) h dX12_surely_150 rfl (by decide) [1, 2, 3, 4, 5, 6, 0] rfl ?_
                          refine fr_goto (tgt := 77) h dX12_surely_153 (by decide) ?_
                          exact ih73 1 (l6_73 + 1) (by omega) (by omega) (by omega) (by omega) (by omega) (by omega) (by omega)
              exact HL73 ((1300 - 1) + 1 : Int).toNat 0 1 (by omega) (by omega) (by omega) (by omega) (by omega) (by omega) (by omega)
            ·
              refine fr_iconst h dX12_surely_67 ?_
              refine fr_goto (tgt := 72) h dX12_surely_68 (by decide) ?_
              refine fr_istore (L' := [(0, vr G 0), (1, vi k), (2, vi z30), (3, vi l3_36), (4, vi l4_36), (5, vi 1)]) h dX12_surely_72 (by decide) [1, 2, 3, 4, 5, 0] rfl ?_
              refine fr_iconst h dX12_surely_74 ?_
              refine fr_istore (L' := [(0, vr G 0), (1, vi k), (2, vi z30), (3, vi l3_36), (4, vi l4_36), (5, vi 1), (6, vi 1)]) h dX12_surely_75 (by decide) [1, 2, 3, 4, 5, 6, 0] rfl ?_
              have HL126 : ∀ (n126 : Nat) (l5_126 l6_126 : Int), fm_r l5_126 → 0 ≤ l5_126 → l5_126 ≤ 1 → fm_r l6_126 → 1 ≤ l6_126 → l6_126 ≤ 1300 → (1300 - l6_126) < n126 → FW YM G C 7 x11 77 [(0, vr G 0), (1, vi k), (2, vi z30), (3, vi l3_36), (4, vi l4_36), (5, vi l5_126), (6, vi l6_126)] [] := by
                intro n126
                induction n126 with
                | zero =>
                  intro l5_126 l6_126 g126_0 g126_1 g126_2 g126_3 g126_4 g126_5 g126_6
                  exfalso; omega
                | succ n126 ih126 =>
                  intro l5_126 l6_126 g126_0 g126_1 g126_2 g126_3 g126_4 g126_5 g126_6
                  refine fr_iload h 6 rfl dX12_surely_77 ?_
                  refine fr_iload_n h rfl 2 rfl dX12_surely_79 ?_
                  refine fr_icmp_ge (tgt := 156) h dX12_surely_80 (by decide) (by omega) (by omega) (fun c127 => ?_) (fun c127 => ?_)
                  ·
                    refine fr_iload_n h rfl 3 rfl dX12_surely_156 ?_
                    refine fr_iload h 5 rfl dX12_surely_157 ?_
                    refine fr_if_eq (tgt := 169) h dX12_surely_159 (by decide) (by omega) (fun c128 => ?_) (fun c128 => ?_)
                    ·
                      refine fr_iconst h dX12_surely_169 ?_
                      refine fr_ior h dX12_surely_170 (fun z129 w130 q131 w132 => ?_)
                      refine fr_istore_n (L' := [(0, vr G 0), (1, vi k), (2, vi z30), (3, vi z129), (4, vi l4_36), (5, vi l5_126), (6, vi l6_126)]) h rfl dX12_surely_171 (by decide) [1, 2, 3, 0, 4, 5, 6] rfl ?_
                      refine fr_iinc (j := 4) (L' := [(0, vr G 0), (1, vi k), (2, vi z30), (3, vi z129), (4, vi (l4_36 + 1)), (5, vi l5_126), (6, vi l6_126)]) h dX12_surely_172 rfl (by decide) [1, 2, 3, 4, 0, 5, 6] rfl ?_
                      refine fr_goto (tgt := 44) h dX12_surely_175 (by decide) ?_
                      refine fr_sub (L' := [(0, vr G 0), (1, vi k), (2, vi z30), (3, vi z129), (4, vi (l4_36 + 1))]) [0, 1, 2, 3, 4] rfl ?_
                      exact ih36 z129 (l4_36 + 1) (by omega) (by omega) (by omega) (by omega) (by omega)
                    ·
                      refine fr_iconst h dX12_surely_162 ?_
                      refine fr_iload h 4 rfl dX12_surely_163 ?_
                      refine fr_ishl h dX12_surely_165 (fun z133 w134 q135 w136 => ?_)
                      refine fr_goto (tgt := 170) h dX12_surely_166 (by decide) ?_
                      refine fr_ior h dX12_surely_170 (fun z137 w138 q139 w140 => ?_)
                      refine fr_istore_n (L' := [(0, vr G 0), (1, vi k), (2, vi z30), (3, vi z137), (4, vi l4_36), (5, vi l5_126), (6, vi l6_126)]) h rfl dX12_surely_171 (by decide) [1, 2, 3, 0, 4, 5, 6] rfl ?_
                      refine fr_iinc (j := 4) (L' := [(0, vr G 0), (1, vi k), (2, vi z30), (3, vi z137), (4, vi (l4_36 + 1)), (5, vi l5_126), (6, vi l6_126)]) h dX12_surely_172 rfl (by decide) [1, 2, 3, 4, 0, 5, 6] rfl ?_
                      refine fr_goto (tgt := 44) h dX12_surely_175 (by decide) ?_
                      refine fr_sub (L' := [(0, vr G 0), (1, vi k), (2, vi z30), (3, vi z137), (4, vi (l4_36 + 1))]) [0, 1, 2, 3, 4] rfl ?_
                      exact ih36 z137 (l4_36 + 1) (by omega) (by omega) (by omega) (by omega) (by omega)
                  ·
                    refine fr_iload h 5 rfl dX12_surely_83 ?_
                    refine fr_if_eq (tgt := 156) h dX12_surely_85 (by decide) (by omega) (fun c141 => ?_) (fun c141 => ?_)
                    ·
                      refine fr_iload_n h rfl 3 rfl dX12_surely_156 ?_
                      refine fr_iload h 5 rfl dX12_surely_157 ?_
                      refine fr_if_eq (tgt := 169) h dX12_surely_159 (by decide) (by omega) (fun c142 => ?_) (fun c142 => by exfalso; omega)
                      refine fr_iconst h dX12_surely_169 ?_
                      refine fr_ior h dX12_surely_170 (fun z143 w144 q145 w146 => ?_)
                      refine fr_istore_n (L' := [(0, vr G 0), (1, vi k), (2, vi z30), (3, vi z143), (4, vi l4_36), (5, vi l5_126), (6, vi l6_126)]) h rfl dX12_surely_171 (by decide) [1, 2, 3, 0, 4, 5, 6] rfl ?_
                      refine fr_iinc (j := 4) (L' := [(0, vr G 0), (1, vi k), (2, vi z30), (3, vi z143), (4, vi (l4_36 + 1)), (5, vi l5_126), (6, vi l6_126)]) h dX12_surely_172 rfl (by decide) [1, 2, 3, 4, 0, 5, 6] rfl ?_
                      refine fr_goto (tgt := 44) h dX12_surely_175 (by decide) ?_
                      refine fr_sub (L' := [(0, vr G 0), (1, vi k), (2, vi z30), (3, vi z143), (4, vi (l4_36 + 1))]) [0, 1, 2, 3, 4] rfl ?_
                      exact ih36 z143 (l4_36 + 1) (by omega) (by omega) (by omega) (by omega) (by omega)
                    ·
                      refine fr_iload h 4 rfl dX12_surely_88 ?_
                      refine fr_aload_n h rfl 0 rfl dX12_surely_90 ?_
                      refine fr_getc (z := 13) (iz := 24) h kX12 fX12_48 at_0M rfl rfl rfM_24 (by omega) dX12_surely_91 ?_
                      refine fr_aload_n h rfl 0 rfl dX12_surely_94 ?_
                      refine fr_getc (z := 15) (iz := 27) h kX12 fX12_54 at_0M rfl rfl rfM_27 (by omega) dX12_surely_95 ?_
                      refine fr_iload h 6 rfl dX12_surely_98 ?_
                      refine fr_iald h arM_15 (by omega) (by omega) (rrM_15 l6_126) dX12_surely_100 (fun z147 w148 w149 q150 => ?_)
                      have r151 := (fm_rd_k (a := 15) (b := l6_126) m2 (by omega))
                      refine fr_iald h arM_13 (by omega) (by omega) (rrM_13 z147) dX12_surely_101 (fun z152 w153 w154 q155 => ?_)
                      have r156 := (fm_rd_k (a := 13) (b := z147) m2 (by omega))
                      refine fr_icmp_ge (tgt := 147) h dX12_surely_102 (by decide) (by omega) (by omega) (fun c157 => ?_) (fun c157 => ?_)
                      ·
                        refine fr_iconst h dX12_surely_147 ?_
                        refine fr_istore (L' := [(0, vr G 0), (1, vi k), (2, vi z30), (3, vi l3_36), (4, vi l4_36), (5, vi 0), (6, vi l6_126)]) h dX12_surely_148 (by decide) [1, 2, 3, 4, 5, 0, 6] rfl ?_
                        refine fr_iinc (j := 6) (L' := [(0, vr G 0), (1, vi k), (2, vi z30), (3, vi l3_36), (4, vi l4_36), (5, vi 0), (6, vi (l6_126 + 1))]) h dX12_surely_150 rfl (by decide) [1, 2, 3, 4, 5, 6, 0] rfl ?_
                        refine fr_goto (tgt := 77) h dX12_surely_153 (by decide) ?_
                        exact ih126 0 (l6_126 + 1) (by omega) (by omega) (by omega) (by omega) (by omega) (by omega) (by omega)
                      ·
                        refine fr_aload_n h rfl 0 rfl dX12_surely_105 ?_
                        refine fr_getc (z := 12) (iz := 23) h kX12 fX12_45 at_0M rfl rfl rfM_23 (by omega) dX12_surely_106 ?_
                        refine fr_bipush h rfl dX12_surely_109 ?_
                        refine fr_aload_n h rfl 0 rfl dX12_surely_111 ?_
                        refine fr_getc (z := 15) (iz := 27) h kX12 fX12_54 at_0M rfl rfl rfM_27 (by omega) dX12_surely_112 ?_
                        refine fr_iload h 6 rfl dX12_surely_115 ?_
                        refine fr_iald h arM_15 (by omega) (by omega) (rrM_15 l6_126) dX12_surely_117 (fun z158 w159 w160 q161 => ?_)
                        have r162 := (fm_rd_k (a := 15) (b := l6_126) m2 (by omega))
                        refine fr_imul h dX12_surely_118 ?_
                        refine fr_iload h 4 rfl dX12_surely_119 ?_
                        refine fr_iadd h dX12_surely_121 ?_
                        refine fr_iald h arM_12 (by omega) (by omega) (rrM_12 ((8 * z158) + l4_36)) dX12_surely_122 (fun z163 w164 w165 q166 => ?_)
                        have r167 := (fm_rd_k (a := 12) (b := ((8 * z158) + l4_36)) m2 (by omega))
                        refine fr_aload_n h rfl 0 rfl dX12_surely_123 ?_
                        refine fr_getc (z := 12) (iz := 23) h kX12 fX12_45 at_0M rfl rfl rfM_23 (by omega) dX12_surely_124 ?_
                        refine fr_bipush h rfl dX12_surely_127 ?_
                        refine fr_aload_n h rfl 0 rfl dX12_surely_129 ?_
                        refine fr_getc (z := 15) (iz := 27) h kX12 fX12_54 at_0M rfl rfl rfM_27 (by omega) dX12_surely_130 ?_
                        refine fr_iconst h dX12_surely_133 ?_
                        refine fr_iald h arM_15 (by omega) (by omega) (rrM_15 0) dX12_surely_134 (fun z168 w169 w170 q171 => ?_)
                        have r172 := (fm_rd_k (a := 15) (b := 0) m2 (by omega))
                        refine fr_imul h dX12_surely_135 ?_
                        refine fr_iload h 4 rfl dX12_surely_136 ?_
                        refine fr_iadd h dX12_surely_138 ?_
                        refine fr_iald h arM_12 (by omega) (by omega) (rrM_12 ((8 * z168) + l4_36)) dX12_surely_139 (fun z173 w174 w175 q176 => ?_)
                        have r177 := (fm_rd_k (a := 12) (b := ((8 * z168) + l4_36)) m2 (by omega))
                        refine fr_icmp_ne (tgt := 147) h dX12_surely_140 (by decide) (by omega) (by omega) (fun c178 => ?_) (fun c178 => ?_)
                        ·
                          refine fr_iconst h dX12_surely_147 ?_
                          refine fr_istore (L' := [(0, vr G 0), (1, vi k), (2, vi z30), (3, vi l3_36), (4, vi l4_36), (5, vi 0), (6, vi l6_126)]) h dX12_surely_148 (by decide) [1, 2, 3, 4, 5, 0, 6] rfl ?_
                          refine fr_iinc (j := 6) (L' := [(0, vr G 0), (1, vi k), (2, vi z30), (3, vi l3_36), (4, vi l4_36), (5, vi 0), (6, vi (l6_126 + 1))]) h dX12_surely_150 rfl (by decide) [1, 2, 3, 4, 5, 6, 0] rfl ?_
                          refine fr_goto (tgt := 77) h dX12_surely_153 (by decide) ?_
                          exact ih126 0 (l6_126 + 1) (by omega) (by omega) (by omega) (by omega) (by omega) (by omega) (by omega)
                        ·
                          refine fr_iconst h dX12_surely_143 ?_
                          refine fr_goto (tgt := 148) h dX12_surely_144 (by decide) ?_
                          refine fr_istore (L' := [(0, vr G 0), (1, vi k), (2, vi z30), (3, vi l3_36), (4, vi l4_36), (5, vi 1), (6, vi l6_126)]) h dX12_surely_148 (by decide) [1, 2, 3, 4, 5, 0, 6] rfl ?_
                          refine fr_iinc (j := 6) (L' := [(0, vr G 0), (1, vi k), (2, vi z30), (3, vi l3_36), (4, vi l4_36), (5, vi 1), (6, vi (l6_126 + 1))]) h dX12_surely_150 rfl (by decide) [1, 2, 3, 4, 5, 6, 0] rfl ?_
                          refine fr_goto (tgt := 77) h dX12_surely_153 (by decide) ?_
                          exact ih126 1 (l6_126 + 1) (by omega) (by omega) (by omega) (by omega) (by omega) (by omega) (by omega)
              exact HL126 ((1300 - 1) + 1 : Int).toNat 1 1 (by omega) (by omega) (by omega) (by omega) (by omega) (by omega) (by omega)
      exact HL36 ((8 - 0) + 1 : Int).toNat 0 0 (by omega) (by omega) (by omega) (by omega) (by omega)
    ·
      refine fr_bipush h rfl dX12_surely_26 ?_
      have r179 := (f22 5 (by decide) (by decide) (by decide) (by decide) (by decide) (by decide) (by decide))
      have r180 := r179.trans (fm_rd_s m2)
      have r181 := (f22 12 (by decide) (by decide) (by decide) (by decide) (by decide) (by decide) (by decide))
      have r182 := r181.trans (fm_rd_i (a := 0) (b := 12) m2 (by decide))
      exact fr_iret h hq (by omega) ⟨(by omega), ⟨(by rw [show x11 1 = x1 1 from (f21 1 (by omega) (by omega) (by omega))]; exact (by rw [show x1 1 = x 1 from (fm_up_row m2 (by omega))]; exact e0.1)), (by rw [show x11 8 = x 8 from ((f21 8 (by omega) (by omega) (by omega)).trans (fm_up_row m2 (by omega)))]; exact e0.2.1), (by rw [show x11 26 = x 26 from ((f21 26 (by omega) (by omega) (by omega)).trans (fm_up_row m2 (by omega)))]; exact e0.2.2.1), (by have := e0.2.2.2; omega)⟩, (fun a k0 k1 k2 k3 => ((f21 a (by omega) (by omega) (by omega)).trans (fm_up_row m2 (by omega)))), (fun i k0 k1 k2 k3 k4 k5 k6 k7 k8 => ((f22 i (by omega) (by omega) (by omega) (by omega) (by omega) (by omega) (by omega)).trans (fm_rd_i (a := 0) (b := i) m2 (by omega))))⟩ dX12_surely_28
  ·
    refine fr_iconst h dX12_surely_12 ?_
    have r183 := (fm_rd_s m2)
    have r184 := (fm_rd_i (a := 0) (b := 12) m2 (by decide))
    exact fr_iret h hq (by omega) ⟨(by omega), ⟨(by rw [show x1 1 = x 1 from (fm_up_row m2 (by omega))]; exact e0.1), (by rw [show x1 8 = x 8 from (fm_up_row m2 (by omega))]; exact e0.2.1), (by rw [show x1 26 = x 26 from (fm_up_row m2 (by omega))]; exact e0.2.2.1), (by have := e0.2.2.2; omega)⟩, (fun a k0 k1 k2 k3 => (fm_up_row m2 (by omega))), (fun i k0 k1 k2 k3 k4 k5 k6 k7 k8 => (fm_rd_i (a := 0) (b := i) m2 (by omega)))⟩ dX12_surely_13
set_option maxHeartbeats 2000000 in
theorem c_X12_having (x : Mm) (k : Int) (p : Int) (v : Int) (w : Int) (h_k : fm_r k) (h_p : fm_r p) (h_v : fm_r v) (h_w : fm_r w) (e0 : GI x) : CnI YM yX12_having cX12_having 10 .int 207 6248 (fun G => [vr G 0, vi k, vi p, vi v, vi w]) x (fun z y' => (y' 0 5 = 0) ∧ (GI y') ∧ (∀ a : Int, (a < 0 ∨ 0 < a) → (a < 3 ∨ 3 < a) → (a < 7 ∨ 7 < a) → (a < 12 ∨ 18 < a) → y' a = x a) ∧ (∀ i : Int, i ≠ 4 → i ≠ 5 → i ≠ 6 → i ≠ 7 → i ≠ 8 → i ≠ 9 → i ≠ 10 → i ≠ 15 → i ≠ 26 → y' 0 i = x 0 i)) := by
  refine cn_I (by decide) (fun _ => Nat.le_of_ble_eq_true rfl) (fun G C h hq => ?_)
  have h : OK YM G C cX12_having RX12 10 (some .int) 207 6248 := h
  show FW YM G C 10 x 0 [(0, vr G 0), (1, vi k), (2, vi p), (3, vi v), (4, vi w)] []
  have e12 := e0.2.2.2
  refine fr_aload_n h rfl 0 rfl dX12_having_0 ?_
  refine fr_iconst h dX12_having_1 ?_
  refine fr_puti (iz := 5) h kX12 fX12_94 at_0M rfl rfl (by decide) (by decide) rfl (by decide +kernel) rfM_5 (by omega) (by omega) dX12_having_2 ?_
  refine fr_mem (fun x1 m2 => ?_)
  refine fr_iload_n h rfl 1 rfl dX12_having_5 ?_
  refine fr_csI h wX12_isKind lX12_324 (c_X12_isKind x1 k (by omega)) rfl (by decide) (by decide) rfl (Nat.le_of_ble_eq_true rfl) dX12_having_6 (fun z4 x3 w5 p6 => ?_)
  obtain ⟨p7, p8, y9⟩ := p6
  rw [y9]
  clear y9
  refine fr_if_eq (tgt := 42) h dX12_having_9 (by decide) (by omega) (fun c10 => ?_) (fun c10 => ?_)
  ·
    refine fr_iconst h dX12_having_42 ?_
    have r11 := (fm_rd_s m2)
    have r12 := (fm_rd_i (a := 0) (b := 12) m2 (by decide))
    exact fr_iret h hq (by omega) ⟨(by omega), ⟨(by rw [show x1 1 = x 1 from (fm_up_row m2 (by omega))]; exact e0.1), (by rw [show x1 8 = x 8 from (fm_up_row m2 (by omega))]; exact e0.2.1), (by rw [show x1 26 = x 26 from (fm_up_row m2 (by omega))]; exact e0.2.2.1), (by have := e0.2.2.2; omega)⟩, (fun a k0 k1 k2 k3 => (fm_up_row m2 (by omega))), (fun i k0 k1 k2 k3 k4 k5 k6 k7 k8 => (fm_rd_i (a := 0) (b := i) m2 (by omega)))⟩ dX12_having_43
  ·
    refine fr_iload_n h rfl 2 rfl dX12_having_12 ?_
    refine fr_iconst h dX12_having_13 ?_
    refine fr_bipush h rfl dX12_having_14 ?_
    refine fr_csI h wX12_in lX12_101 (c_X12_in x1 p 0 7 (by omega) (by omega) (by omega)) rfl (by decide) (by decide) rfl (Nat.le_of_ble_eq_true rfl) dX12_having_16 (fun z14 x13 w15 p16 => ?_)
    obtain ⟨p17, p18, y19⟩ := p16
    rw [y19]
    clear y19
    refine fr_if_eq (tgt := 42) h dX12_having_19 (by decide) (by omega) (fun c20 => ?_) (fun c20 => ?_)
    ·
      refine fr_iconst h dX12_having_42 ?_
      have r21 := (fm_rd_s m2)
      have r22 := (fm_rd_i (a := 0) (b := 12) m2 (by decide))
      exact fr_iret h hq (by omega) ⟨(by omega), ⟨(by rw [show x1 1 = x 1 from (fm_up_row m2 (by omega))]; exact e0.1), (by rw [show x1 8 = x 8 from (fm_up_row m2 (by omega))]; exact e0.2.1), (by rw [show x1 26 = x 26 from (fm_up_row m2 (by omega))]; exact e0.2.2.1), (by have := e0.2.2.2; omega)⟩, (fun a k0 k1 k2 k3 => (fm_up_row m2 (by omega))), (fun i k0 k1 k2 k3 k4 k5 k6 k7 k8 => (fm_rd_i (a := 0) (b := i) m2 (by omega)))⟩ dX12_having_43
    ·
      refine fr_iload_n h rfl 3 rfl dX12_having_22 ?_
      refine fr_iconst h dX12_having_23 ?_
      refine fr_bipush h rfl dX12_having_24 ?_
      refine fr_csI h wX12_in lX12_101 (c_X12_in x1 v 0 11 (by omega) (by omega) (by omega)) rfl (by decide) (by decide) rfl (Nat.le_of_ble_eq_true rfl) dX12_having_26 (fun z24 x23 w25 p26 => ?_)
      obtain ⟨p27, p28, y29⟩ := p26
      rw [y29]
      clear y29
      refine fr_if_eq (tgt := 42) h dX12_having_29 (by decide) (by omega) (fun c30 => ?_) (fun c30 => ?_)
      ·
        refine fr_iconst h dX12_having_42 ?_
        have r31 := (fm_rd_s m2)
        have r32 := (fm_rd_i (a := 0) (b := 12) m2 (by decide))
        exact fr_iret h hq (by omega) ⟨(by omega), ⟨(by rw [show x1 1 = x 1 from (fm_up_row m2 (by omega))]; exact e0.1), (by rw [show x1 8 = x 8 from (fm_up_row m2 (by omega))]; exact e0.2.1), (by rw [show x1 26 = x 26 from (fm_up_row m2 (by omega))]; exact e0.2.2.1), (by have := e0.2.2.2; omega)⟩, (fun a k0 k1 k2 k3 => (fm_up_row m2 (by omega))), (fun i k0 k1 k2 k3 k4 k5 k6 k7 k8 => (fm_rd_i (a := 0) (b := i) m2 (by omega)))⟩ dX12_having_43
      ·
        refine fr_iload h 4 rfl dX12_having_32 ?_
        refine fr_iconst h dX12_having_34 ?_
        refine fr_iconst h dX12_having_35 ?_
        refine fr_csI h wX12_in lX12_101 (c_X12_in x1 w 0 1 (by omega) (by omega) (by omega)) rfl (by decide) (by decide) rfl (Nat.le_of_ble_eq_true rfl) dX12_having_36 (fun z34 x33 w35 p36 => ?_)
        obtain ⟨p37, p38, y39⟩ := p36
        rw [y39]
        clear y39
        refine fr_if_ne (tgt := 44) h dX12_having_39 (by decide) (by omega) (fun c40 => ?_) (fun c40 => ?_)
        ·
          refine fr_aload_n h rfl 0 rfl dX12_having_44 ?_
          refine fr_aload_n h rfl 0 rfl dX12_having_45 ?_
          refine fr_getc (z := 1) (iz := 0) h kX12 fX12_9 at_0M rfl rfl rfM_0 (by omega) dX12_having_46 ?_
          refine fr_iload_n h rfl 1 rfl dX12_having_49 ?_
          refine fr_cvI h kX12 at_0M wX12_layAll lX12_327 (c_X12_layAll x1 1 SA_1 k (by omega) (by rw [show x1 1 = x 1 from (fm_up_row m2 (by omega))]; exact e0.1)) rfl (by decide) (by decide) rfl (Nat.le_of_ble_eq_true rfl) dX12_having_50 (fun z42 x41 w43 p44 => ?_)
          obtain ⟨p45, p46, p47, p48, p49, p50, f51, f52⟩ := p44
          refine fr_istore (L' := [(0, vr G 0), (1, vi k), (2, vi p), (3, vi v), (4, vi w), (5, vi z42)]) h dX12_having_53 (by decide) [1, 2, 3, 4, 5, 0] rfl ?_
          refine fr_iconst h dX12_having_55 ?_
          refine fr_istore (L' := [(0, vr G 0), (1, vi k), (2, vi p), (3, vi v), (4, vi w), (5, vi z42), (6, vi 0)]) h dX12_having_56 (by decide) [1, 2, 3, 4, 5, 6, 0] rfl ?_
          refine fr_aload_n h rfl 0 rfl dX12_having_58 ?_
          refine fr_iconst h dX12_having_59 ?_
          refine fr_puti (iz := 4) h kX12 fX12_98 at_0M rfl rfl (by decide) (by decide) rfl (by decide +kernel) rfM_4 (by omega) (by omega) dX12_having_60 ?_
          refine fr_mem (fun x53 m54 => ?_)
          refine fr_iconst h dX12_having_63 ?_
          refine fr_istore (L' := [(0, vr G 0), (1, vi k), (2, vi p), (3, vi v), (4, vi w), (5, vi z42), (6, vi 0), (7, vi 1)]) h dX12_having_64 (by decide) [1, 2, 3, 4, 5, 6, 7, 0] rfl ?_
          have HL55 : ∀ (n55 : Nat) (l6_55 l7_55 : Int) (x_55 : Mm), fm_r l6_55 → 0 ≤ l6_55 → l6_55 ≤ 1300 → fm_r l7_55 → 1 ≤ l7_55 → l7_55 ≤ 1301 → l6_55 < l7_55 → x_55 0 4 ≤ 2 → (l6_55 = 0 → x_55 0 4 = 0) → (∀ a : Int, (a < 0 ∨ 0 < a) → (a < 3 ∨ 3 < a) → x_55 a = x53 a) → (∀ i : Int, i ≠ 4 → x_55 0 i = x53 0 i) → (1301 - l7_55) < n55 → FW YM G C 10 x_55 66 [(0, vr G 0), (1, vi k), (2, vi p), (3, vi v), (4, vi w), (5, vi z42), (6, vi l6_55), (7, vi l7_55)] [] := by
            intro n55
            induction n55 with
            | zero =>
              intro l6_55 l7_55 x_55 g55_0 g55_1 g55_2 g55_3 g55_4 g55_5 g55_6 g55_7 g55_8 g55_9 g55_10 g55_11
              exfalso; omega
            | succ n55 ih55 =>
              intro l6_55 l7_55 x_55 g55_0 g55_1 g55_2 g55_3 g55_4 g55_5 g55_6 g55_7 g55_8 g55_9 g55_10 g55_11
              refine fr_iload h 7 rfl dX12_having_66 ?_
              refine fr_iload h 5 rfl dX12_having_68 ?_
              refine fr_icmp_gt (tgt := 169) h dX12_having_70 (by decide) (by omega) (by omega) (fun c56 => ?_) (fun c56 => ?_)
              ·
                refine fr_iload h 6 rfl dX12_having_169 ?_
                have r57 := (g55_10 5 (by decide))
                have r58 := r57.trans (fm_rd_i (a := 0) (b := 5) m54 (by decide))
                have r59 := r58.trans (f52 5 (by decide) (by decide) (by decide) (by decide) (by decide) (by decide) (by decide))
                have r60 := r59.trans (fm_rd_s m2)
                have r61 := (g55_10 12 (by decide))
                have r62 := r61.trans (fm_rd_i (a := 0) (b := 12) m54 (by decide))
                have r63 := r62.trans (f52 12 (by decide) (by decide) (by decide) (by decide) (by decide) (by decide) (by decide))
                have r64 := r63.trans (fm_rd_i (a := 0) (b := 12) m2 (by decide))
                exact fr_iret h hq (by omega) ⟨(by omega), ⟨(by rw [show x_55 1 = x53 1 from (g55_9 1 (by omega) (by omega))]; exact (by rw [show x53 1 = x41 1 from (fm_up_row m54 (by omega))]; exact (by rw [show x41 1 = x1 1 from (f51 1 (by omega) (by omega) (by omega))]; exact (by rw [show x1 1 = x 1 from (fm_up_row m2 (by omega))]; exact e0.1)))), (by rw [show x_55 8 = x 8 from ((g55_9 8 (by omega) (by omega)).trans ((fm_up_row m54 (by omega)).trans ((f51 8 (by omega) (by omega) (by omega)).trans (fm_up_row m2 (by omega)))))]; exact e0.2.1), (by rw [show x_55 26 = x 26 from ((g55_9 26 (by omega) (by omega)).trans ((fm_up_row m54 (by omega)).trans ((f51 26 (by omega) (by omega) (by omega)).trans (fm_up_row m2 (by omega)))))]; exact e0.2.2.1), (by have := e0.2.2.2; omega)⟩, (fun a k0 k1 k2 k3 => ((g55_9 a (by omega) (by omega)).trans ((fm_up_row m54 (by omega)).trans ((f51 a (by omega) (by omega) (by omega)).trans (fm_up_row m2 (by omega)))))), (fun i k0 k1 k2 k3 k4 k5 k6 k7 k8 => ((g55_10 i (by omega)).trans ((fm_rd_i (a := 0) (b := i) m54 (by omega)).trans ((f52 i (by omega) (by omega) (by omega) (by omega) (by omega) (by omega) (by omega)).trans (fm_rd_i (a := 0) (b := i) m2 (by omega))))))⟩ dX12_having_171
              ·
                refine fr_aload_n h rfl 0 rfl dX12_having_73 ?_
                refine fr_getc (z := 15) (iz := 27) h kX12 fX12_54 at_0M rfl rfl rfM_27 (by omega) dX12_having_74 ?_
                refine fr_iload h 7 rfl dX12_having_77 ?_
                refine fr_iconst h dX12_having_79 ?_
                refine fr_isub h dX12_having_80 ?_
                refine fr_iald h arM_15 (by omega) (by omega) (rrM_15 (l7_55 - 1)) dX12_having_81 (fun z65 w66 w67 q68 => ?_)
                have r69 := q68.trans (congrFun (g55_9 15 (by omega) (by omega)) (l7_55 - 1))
                have r70 := r69.trans (fm_rd_k (a := 15) (b := (l7_55 - 1)) m54 (by omega))
                have r71 := (fm_rd_k (a := 15) (b := (l7_55 - 1)) m2 (by omega))
                refine fr_istore (L' := [(0, vr G 0), (1, vi k), (2, vi p), (3, vi v), (4, vi w), (5, vi z42), (6, vi l6_55), (7, vi l7_55), (8, vi z65)]) h dX12_having_82 (by decide) [1, 2, 3, 4, 5, 6, 7, 8, 0] rfl ?_
                refine fr_iload_n h rfl 2 rfl dX12_having_84 ?_
                refine fr_aload_n h rfl 0 rfl dX12_having_85 ?_
                refine fr_getc (z := 13) (iz := 24) h kX12 fX12_48 at_0M rfl rfl rfM_24 (by omega) dX12_having_86 ?_
                refine fr_iload h 8 rfl dX12_having_89 ?_
                refine fr_iald h arM_13 (by omega) (by omega) (rrM_13 z65) dX12_having_91 (fun z72 w73 w74 q75 => ?_)
                have r76 := q75.trans (congrFun (g55_9 13 (by omega) (by omega)) z65)
                have r77 := r76.trans (fm_rd_k (a := 13) (b := z65) m54 (by omega))
                have r78 := (fm_rd_k (a := 13) (b := z65) m2 (by omega))
                refine fr_icmp_ge (tgt := 115) h dX12_having_92 (by decide) (by omega) (by omega) (fun c79 => ?_) (fun c79 => ?_)
                ·
                  refine fr_iconst h dX12_having_115 ?_
                  refine fr_istore (L' := [(0, vr G 0), (1, vi k), (2, vi p), (3, vi v), (4, vi w), (5, vi z42), (6, vi l6_55), (7, vi l7_55), (8, vi z65), (9, vi 0)]) h dX12_having_116 (by decide) [1, 2, 3, 4, 5, 6, 7, 8, 9, 0] rfl ?_
                  refine fr_iload h 9 rfl dX12_having_118 ?_
                  refine fr_iload h 4 rfl dX12_having_120 ?_
                  refine fr_iconst h dX12_having_122 ?_
                  refine fr_icmp_ne (tgt := 130) h dX12_having_123 (by decide) (by omega) (by omega) (fun c80 => ?_) (fun c80 => ?_)
                  ·
                    refine fr_iconst h dX12_having_130 ?_
                    refine fr_icmp_eq (tgt := 137) h dX12_having_131 (by decide) (by omega) (by omega) (fun c81 => ?_) (fun c81 => by exfalso; omega)
                    refine fr_iload h 6 rfl dX12_having_137 ?_
                    refine fr_if_ne (tgt := 160) h dX12_having_139 (by decide) (by omega) (fun c82 => ?_) (fun c82 => ?_)
                    ·
                      refine fr_iinc (j := 6) (L' := [(0, vr G 0), (1, vi k), (2, vi p), (3, vi v), (4, vi w), (5, vi z42), (6, vi (l6_55 + 1)), (7, vi l7_55), (8, vi z65), (9, vi 0)]) h dX12_having_160 rfl (by decide) [1, 2, 3, 4, 5, 6, 0, 7, 8, 9] rfl ?_
                      refine fr_iinc (j := 7) (L' := [(0, vr G 0), (1, vi k), (2, vi p), (3, vi v), (4, vi w), (5, vi z42), (6, vi (l6_55 + 1)), (7, vi (l7_55 + 1)), (8, vi z65), (9, vi 0)]) h dX12_having_163 rfl (by decide) [1, 2, 3, 4, 5, 6, 7, 0, 8, 9] rfl ?_
                      refine fr_goto (tgt := 66) h dX12_having_166 (by decide) ?_
                      refine fr_sub (L' := [(0, vr G 0), (1, vi k), (2, vi p), (3, vi v), (4, vi w), (5, vi z42), (6, vi (l6_55 + 1)), (7, vi (l7_55 + 1))]) [0, 1, 2, 3, 4, 5, 6, 7] rfl ?_
                      have r83 := (fm_rd_s m54)
                      have r84 := (fm_rd_s m54)
                      exact ih55 (l6_55 + 1) (l7_55 + 1) x_55 (by omega) (by omega) (by omega) (by omega) (by omega) (by omega) (by omega) (by omega) (by omega) (fun a k0 k1 => (g55_9 a (by omega) (by omega))) (fun i k0 => (g55_10 i (by omega))) (by omega)
                    ·
                      refine fr_aload_n h rfl 0 rfl dX12_having_142 ?_
                      refine fr_iload h 7 rfl dX12_having_143 ?_
                      refine fr_i2l h (by omega) dX12_having_145 ?_
                      have r85 := (fm_rd_s m54)
                      refine fr_cvV h kX12 at_0M wX12_tell lX12_269 (c_X12_tell x_55 l7_55 (by omega) (by omega)) rfl (by decide) (by decide) rfl (Nat.le_of_ble_eq_true rfl) dX12_having_146 (fun x86 p89 => ?_)
                      obtain ⟨p90, f91, f92⟩ := p89
                      refine fr_aload_n h rfl 0 rfl dX12_having_149 ?_
                      refine fr_aload_n h rfl 0 rfl dX12_having_150 ?_
                      refine fr_iload h 7 rfl dX12_having_151 ?_
                      refine fr_cvI h kX12 at_0M wX12_costAt lX12_333 (c_X12_costAt x86 l7_55 (by omega) (by omega) (by omega)) rfl (by decide) (by decide) rfl (Nat.le_of_ble_eq_true rfl) dX12_having_153 (fun z94 x93 w95 p96 => ?_)
                      have y97 := p96
                      rw [y97]
                      clear y97
                      refine fr_i2l h (by omega) dX12_having_156 ?_
                      have r98 := (fm_rd_s m54)
                      refine fr_cvV h kX12 at_0M wX12_tell lX12_269 (c_X12_tell x86 z94 (by omega) (by omega)) rfl (by decide) (by decide) rfl (Nat.le_of_ble_eq_true rfl) dX12_having_157 (fun x99 p102 => ?_)
                      obtain ⟨p103, f104, f105⟩ := p102
                      refine fr_iinc (j := 6) (L' := [(0, vr G 0), (1, vi k), (2, vi p), (3, vi v), (4, vi w), (5, vi z42), (6, vi (l6_55 + 1)), (7, vi l7_55), (8, vi z65), (9, vi 0)]) h dX12_having_160 rfl (by decide) [1, 2, 3, 4, 5, 6, 0, 7, 8, 9] rfl ?_
                      refine fr_iinc (j := 7) (L' := [(0, vr G 0), (1, vi k), (2, vi p), (3, vi v), (4, vi w), (5, vi z42), (6, vi (l6_55 + 1)), (7, vi (l7_55 + 1)), (8, vi z65), (9, vi 0)]) h dX12_having_163 rfl (by decide) [1, 2, 3, 4, 5, 6, 7, 0, 8, 9] rfl ?_
                      refine fr_goto (tgt := 66) h dX12_having_166 (by decide) ?_
                      refine fr_sub (L' := [(0, vr G 0), (1, vi k), (2, vi p), (3, vi v), (4, vi w), (5, vi z42), (6, vi (l6_55 + 1)), (7, vi (l7_55 + 1))]) [0, 1, 2, 3, 4, 5, 6, 7] rfl ?_
                      have r106 := (fm_rd_s m54)
                      have r107 := (fm_rd_s m54)
                      exact ih55 (l6_55 + 1) (l7_55 + 1) x99 (by omega) (by omega) (by omega) (by omega) (by omega) (by omega) (by omega) (by omega) (by omega) (fun a k0 k1 => ((f104 a (by omega) (by omega)).trans ((f91 a (by omega) (by omega)).trans (g55_9 a (by omega) (by omega))))) (fun i k0 => ((f105 i (by omega)).trans ((f92 i (by omega)).trans (g55_10 i (by omega))))) (by omega)
                  ·
                    refine fr_iconst h dX12_having_126 ?_
                    refine fr_goto (tgt := 131) h dX12_having_127 (by decide) ?_
                    refine fr_icmp_eq (tgt := 137) h dX12_having_131 (by decide) (by omega) (by omega) (fun c108 => by exfalso; omega) (fun c108 => ?_)
                    refine fr_goto (tgt := 163) h dX12_having_134 (by decide) ?_
                    refine fr_iinc (j := 7) (L' := [(0, vr G 0), (1, vi k), (2, vi p), (3, vi v), (4, vi w), (5, vi z42), (6, vi l6_55), (7, vi (l7_55 + 1)), (8, vi z65), (9, vi 0)]) h dX12_having_163 rfl (by decide) [1, 2, 3, 4, 5, 6, 7, 0, 8, 9] rfl ?_
                    refine fr_goto (tgt := 66) h dX12_having_166 (by decide) ?_
                    refine fr_sub (L' := [(0, vr G 0), (1, vi k), (2, vi p), (3, vi v), (4, vi w), (5, vi z42), (6, vi l6_55), (7, vi (l7_55 + 1))]) [0, 1, 2, 3, 4, 5, 6, 7] rfl ?_
                    have r109 := (fm_rd_s m54)
                    have r110 := (fm_rd_s m54)
                    exact ih55 l6_55 (l7_55 + 1) x_55 (by omega) (by omega) (by omega) (by omega) (by omega) (by omega) (by omega) (by omega) (by omega) (fun a k0 k1 => (g55_9 a (by omega) (by omega))) (fun i k0 => (g55_10 i (by omega))) (by omega)
                ·
                  refine fr_aload_n h rfl 0 rfl dX12_having_95 ?_
                  refine fr_getc (z := 12) (iz := 23) h kX12 fX12_45 at_0M rfl rfl rfM_23 (by omega) dX12_having_96 ?_
                  refine fr_bipush h rfl dX12_having_99 ?_
                  refine fr_iload h 8 rfl dX12_having_101 ?_
                  refine fr_imul h dX12_having_103 ?_
                  refine fr_iload_n h rfl 2 rfl dX12_having_104 ?_
                  refine fr_iadd h dX12_having_105 ?_
                  refine fr_iald h arM_12 (by omega) (by omega) (rrM_12 ((8 * z65) + p)) dX12_having_106 (fun z111 w112 w113 q114 => ?_)
                  have r115 := q114.trans (congrFun (g55_9 12 (by omega) (by omega)) ((8 * z65) + p))
                  have r116 := r115.trans (fm_rd_k (a := 12) (b := ((8 * z65) + p)) m54 (by omega))
                  have r117 := (fm_rd_k (a := 12) (b := ((8 * z65) + p)) m2 (by omega))
                  refine fr_iload_n h rfl 3 rfl dX12_having_107 ?_
                  refine fr_icmp_ne (tgt := 115) h dX12_having_108 (by decide) (by omega) (by omega) (fun c118 => ?_) (fun c118 => ?_)
                  ·
                    refine fr_iconst h dX12_having_115 ?_
                    refine fr_istore (L' := [(0, vr G 0), (1, vi k), (2, vi p), (3, vi v), (4, vi w), (5, vi z42), (6, vi l6_55), (7, vi l7_55), (8, vi z65), (9, vi 0)]) h dX12_having_116 (by decide) [1, 2, 3, 4, 5, 6, 7, 8, 9, 0] rfl ?_
                    refine fr_iload h 9 rfl dX12_having_118 ?_
                    refine fr_iload h 4 rfl dX12_having_120 ?_
                    refine fr_iconst h dX12_having_122 ?_
                    refine fr_icmp_ne (tgt := 130) h dX12_having_123 (by decide) (by omega) (by omega) (fun c119 => ?_) (fun c119 => ?_)
                    ·
                      refine fr_iconst h dX12_having_130 ?_
                      refine fr_icmp_eq (tgt := 137) h dX12_having_131 (by decide) (by omega) (by omega) (fun c120 => ?_) (fun c120 => by exfalso; omega)
                      refine fr_iload h 6 rfl dX12_having_137 ?_
                      refine fr_if_ne (tgt := 160) h dX12_having_139 (by decide) (by omega) (fun c121 => ?_) (fun c121 => ?_)
                      ·
                        refine fr_iinc (j := 6) (L' := [(0, vr G 0), (1, vi k), (2, vi p), (3, vi v), (4, vi w), (5, vi z42), (6, vi (l6_55 + 1)), (7, vi l7_55), (8, vi z65), (9, vi 0)]) h dX12_having_160 rfl (by decide) [1, 2, 3, 4, 5, 6, 0, 7, 8, 9] rfl ?_
                        refine fr_iinc (j := 7) (L' := [(0, vr G 0), (1, vi k), (2, vi p), (3, vi v), (4, vi w), (5, vi z42), (6, vi (l6_55 + 1)), (7, vi (l7_55 + 1)), (8, vi z65), (9, vi 0)]) h dX12_having_163 rfl (by decide) [1, 2, 3, 4, 5, 6, 7, 0, 8, 9] rfl ?_
                        refine fr_goto (tgt := 66) h dX12_having_166 (by decide) ?_
                        refine fr_sub (L' := [(0, vr G 0), (1, vi k), (2, vi p), (3, vi v), (4, vi w), (5, vi z42), (6, vi (l6_55 + 1)), (7, vi (l7_55 + 1))]) [0, 1, 2, 3, 4, 5, 6, 7] rfl ?_
                        have r122 := (fm_rd_s m54)
                        have r123 := (fm_rd_s m54)
                        exact ih55 (l6_55 + 1) (l7_55 + 1) x_55 (by omega) (by omega) (by omega) (by omega) (by omega) (by omega) (by omega) (by omega) (by omega) (fun a k0 k1 => (g55_9 a (by omega) (by omega))) (fun i k0 => (g55_10 i (by omega))) (by omega)
                      ·
                        refine fr_aload_n h rfl 0 rfl dX12_having_142 ?_
                        refine fr_iload h 7 rfl dX12_having_143 ?_
                        refine fr_i2l h (by omega) dX12_having_145 ?_
                        have r124 := (fm_rd_s m54)
                        refine fr_cvV h kX12 at_0M wX12_tell lX12_269 (c_X12_tell x_55 l7_55 (by omega) (by omega)) rfl (by decide) (by decide) rfl (Nat.le_of_ble_eq_true rfl) dX12_having_146 (fun x125 p128 => ?_)
                        obtain ⟨p129, f130, f131⟩ := p128
                        refine fr_aload_n h rfl 0 rfl dX12_having_149 ?_
                        refine fr_aload_n h rfl 0 rfl dX12_having_150 ?_
                        refine fr_iload h 7 rfl dX12_having_151 ?_
                        refine fr_cvI h kX12 at_0M wX12_costAt lX12_333 (c_X12_costAt x125 l7_55 (by omega) (by omega) (by omega)) rfl (by decide) (by decide) rfl (Nat.le_of_ble_eq_true rfl) dX12_having_153 (fun z133 x132 w134 p135 => ?_)
                        have y136 := p135
                        rw [y136]
                        clear y136
                        refine fr_i2l h (by omega) dX12_having_156 ?_
                        have r137 := (fm_rd_s m54)
                        refine fr_cvV h kX12 at_0M wX12_tell lX12_269 (c_X12_tell x125 z133 (by omega) (by omega)) rfl (by decide) (by decide) rfl (Nat.le_of_ble_eq_true rfl) dX12_having_157 (fun x138 p141 => ?_)
                        obtain ⟨p142, f143, f144⟩ := p141
                        refine fr_iinc (j := 6) (L' := [(0, vr G 0), (1, vi k), (2, vi p), (3, vi v), (4, vi w), (5, vi z42), (6, vi (l6_55 + 1)), (7, vi l7_55), (8, vi z65), (9, vi 0)]) h dX12_having_160 rfl (by decide) [1, 2, 3, 4, 5, 6, 0, 7, 8, 9] rfl ?_
                        refine fr_iinc (j := 7) (L' := [(0, vr G 0), (1, vi k), (2, vi p), (3, vi v), (4, vi w), (5, vi z42), (6, vi (l6_55 + 1)), (7, vi (l7_55 + 1)), (8, vi z65), (9, vi 0)]) h dX12_having_163 rfl (by decide) [1, 2, 3, 4, 5, 6, 7, 0, 8, 9] rfl ?_
                        refine fr_goto (tgt := 66) h dX12_having_166 (by decide) ?_
                        refine fr_sub (L' := [(0, vr G 0), (1, vi k), (2, vi p), (3, vi v), (4, vi w), (5, vi z42), (6, vi (l6_55 + 1)), (7, vi (l7_55 + 1))]) [0, 1, 2, 3, 4, 5, 6, 7] rfl ?_
                        have r145 := (fm_rd_s m54)
                        have r146 := (fm_rd_s m54)
                        exact ih55 (l6_55 + 1) (l7_55 + 1) x138 (by omega) (by omega) (by omega) (by omega) (by omega) (by omega) (by omega) (by omega) (by omega) (fun a k0 k1 => ((f143 a (by omega) (by omega)).trans ((f130 a (by omega) (by omega)).trans (g55_9 a (by omega) (by omega))))) (fun i k0 => ((f144 i (by omega)).trans ((f131 i (by omega)).trans (g55_10 i (by omega))))) (by omega)
                    ·
                      refine fr_iconst h dX12_having_126 ?_
                      refine fr_goto (tgt := 131) h dX12_having_127 (by decide) ?_
                      refine fr_icmp_eq (tgt := 137) h dX12_having_131 (by decide) (by omega) (by omega) (fun c147 => by exfalso; omega) (fun c147 => ?_)
                      refine fr_goto (tgt := 163) h dX12_having_134 (by decide) ?_
                      refine fr_iinc (j := 7) (L' := [(0, vr G 0), (1, vi k), (2, vi p), (3, vi v), (4, vi w), (5, vi z42), (6, vi l6_55), (7, vi (l7_55 + 1)), (8, vi z65), (9, vi 0)]) h dX12_having_163 rfl (by decide) [1, 2, 3, 4, 5, 6, 7, 0, 8, 9] rfl ?_
                      refine fr_goto (tgt := 66) h dX12_having_166 (by decide) ?_
                      refine fr_sub (L' := [(0, vr G 0), (1, vi k), (2, vi p), (3, vi v), (4, vi w), (5, vi z42), (6, vi l6_55), (7, vi (l7_55 + 1))]) [0, 1, 2, 3, 4, 5, 6, 7] rfl ?_
                      have r148 := (fm_rd_s m54)
                      have r149 := (fm_rd_s m54)
                      exact ih55 l6_55 (l7_55 + 1) x_55 (by omega) (by omega) (by omega) (by omega) (by omega) (by omega) (by omega) (by omega) (by omega) (fun a k0 k1 => (g55_9 a (by omega) (by omega))) (fun i k0 => (g55_10 i (by omega))) (by omega)
                  ·
                    refine fr_iconst h dX12_having_111 ?_
                    refine fr_goto (tgt := 116) h dX12_having_112 (by decide) ?_
                    refine fr_istore (L' := [(0, vr G 0), (1, vi k), (2, vi p), (3, vi v), (4, vi w), (5, vi z42), (6, vi l6_55), (7, vi l7_55), (8, vi z65), (9, vi 1)]) h dX12_having_116 (by decide) [1, 2, 3, 4, 5, 6, 7, 8, 9, 0] rfl ?_
                    refine fr_iload h 9 rfl dX12_having_118 ?_
                    refine fr_iload h 4 rfl dX12_having_120 ?_
                    refine fr_iconst h dX12_having_122 ?_
                    refine fr_icmp_ne (tgt := 130) h dX12_having_123 (by decide) (by omega) (by omega) (fun c150 => ?_) (fun c150 => ?_)
                    ·
                      refine fr_iconst h dX12_having_130 ?_
                      refine fr_icmp_eq (tgt := 137) h dX12_having_131 (by decide) (by omega) (by omega) (fun c151 => by exfalso; omega) (fun c151 => ?_)
                      refine fr_goto (tgt := 163) h dX12_having_134 (by decide) ?_
                      refine fr_iinc (j := 7) (L' := [(0, vr G 0), (1, vi k), (2, vi p), (3, vi v), (4, vi w), (5, vi z42), (6, vi l6_55), (7, vi (l7_55 + 1)), (8, vi z65), (9, vi 1)]) h dX12_having_163 rfl (by decide) [1, 2, 3, 4, 5, 6, 7, 0, 8, 9] rfl ?_
                      refine fr_goto (tgt := 66) h dX12_having_166 (by decide) ?_
                      refine fr_sub (L' := [(0, vr G 0), (1, vi k), (2, vi p), (3, vi v), (4, vi w), (5, vi z42), (6, vi l6_55), (7, vi (l7_55 + 1))]) [0, 1, 2, 3, 4, 5, 6, 7] rfl ?_
                      have r152 := (fm_rd_s m54)
                      have r153 := (fm_rd_s m54)
                      exact ih55 l6_55 (l7_55 + 1) x_55 (by omega) (by omega) (by omega) (by omega) (by omega) (by omega) (by omega) (by omega) (by omega) (fun a k0 k1 => (g55_9 a (by omega) (by omega))) (fun i k0 => (g55_10 i (by omega))) (by omega)
                    ·
                      refine fr_iconst h dX12_having_126 ?_
                      refine fr_goto (tgt := 131) h dX12_having_127 (by decide) ?_
                      refine fr_icmp_eq (tgt := 137) h dX12_having_131 (by decide) (by omega) (by omega) (fun c154 => ?_) (fun c154 => by exfalso; omega)
                      refine fr_iload h 6 rfl dX12_having_137 ?_
                      refine fr_if_ne (tgt := 160) h dX12_having_139 (by decide) (by omega) (fun c155 => ?_) (fun c155 => ?_)
                      ·
                        refine fr_iinc (j := 6) (L' := [(0, vr G 0), (1, vi k), (2, vi p), (3, vi v), (4, vi w), (5, vi z42), (6, vi (l6_55 + 1)), (7, vi l7_55), (8, vi z65), (9, vi 1)]) h dX12_having_160 rfl (by decide) [1, 2, 3, 4, 5, 6, 0, 7, 8, 9] rfl ?_
                        refine fr_iinc (j := 7) (L' := [(0, vr G 0), (1, vi k), (2, vi p), (3, vi v), (4, vi w), (5, vi z42), (6, vi (l6_55 + 1)), (7, vi (l7_55 + 1)), (8, vi z65), (9, vi 1)]) h dX12_having_163 rfl (by decide) [1, 2, 3, 4, 5, 6, 7, 0, 8, 9] rfl ?_
                        refine fr_goto (tgt := 66) h dX12_having_166 (by decide) ?_
                        refine fr_sub (L' := [(0, vr G 0), (1, vi k), (2, vi p), (3, vi v), (4, vi w), (5, vi z42), (6, vi (l6_55 + 1)), (7, vi (l7_55 + 1))]) [0, 1, 2, 3, 4, 5, 6, 7] rfl ?_
                        have r156 := (fm_rd_s m54)
                        have r157 := (fm_rd_s m54)
                        exact ih55 (l6_55 + 1) (l7_55 + 1) x_55 (by omega) (by omega) (by omega) (by omega) (by omega) (by omega) (by omega) (by omega) (by omega) (fun a k0 k1 => (g55_9 a (by omega) (by omega))) (fun i k0 => (g55_10 i (by omega))) (by omega)
                      ·
                        refine fr_aload_n h rfl 0 rfl dX12_having_142 ?_
                        refine fr_iload h 7 rfl dX12_having_143 ?_
                        refine fr_i2l h (by omega) dX12_having_145 ?_
                        have r158 := (fm_rd_s m54)
                        refine fr_cvV h kX12 at_0M wX12_tell lX12_269 (c_X12_tell x_55 l7_55 (by omega) (by omega)) rfl (by decide) (by decide) rfl (Nat.le_of_ble_eq_true rfl) dX12_having_146 (fun x159 p162 => ?_)
                        obtain ⟨p163, f164, f165⟩ := p162
                        refine fr_aload_n h rfl 0 rfl dX12_having_149 ?_
                        refine fr_aload_n h rfl 0 rfl dX12_having_150 ?_
                        refine fr_iload h 7 rfl dX12_having_151 ?_
                        refine fr_cvI h kX12 at_0M wX12_costAt lX12_333 (c_X12_costAt x159 l7_55 (by omega) (by omega) (by omega)) rfl (by decide) (by decide) rfl (Nat.le_of_ble_eq_true rfl) dX12_having_153 (fun z167 x166 w168 p169 => ?_)
                        have y170 := p169
                        rw [y170]
                        clear y170
                        refine fr_i2l h (by omega) dX12_having_156 ?_
                        have r171 := (fm_rd_s m54)
                        refine fr_cvV h kX12 at_0M wX12_tell lX12_269 (c_X12_tell x159 z167 (by omega) (by omega)) rfl (by decide) (by decide) rfl (Nat.le_of_ble_eq_true rfl) dX12_having_157 (fun x172 p175 => ?_)
                        obtain ⟨p176, f177, f178⟩ := p175
                        refine fr_iinc (j := 6) (L' := [(0, vr G 0), (1, vi k), (2, vi p), (3, vi v), (4, vi w), (5, vi z42), (6, vi (l6_55 + 1)), (7, vi l7_55), (8, vi z65), (9, vi 1)]) h dX12_having_160 rfl (by decide) [1, 2, 3, 4, 5, 6, 0, 7, 8, 9] rfl ?_
                        refine fr_iinc (j := 7) (L' := [(0, vr G 0), (1, vi k), (2, vi p), (3, vi v), (4, vi w), (5, vi z42), (6, vi (l6_55 + 1)), (7, vi (l7_55 + 1)), (8, vi z65), (9, vi 1)]) h dX12_having_163 rfl (by decide) [1, 2, 3, 4, 5, 6, 7, 0, 8, 9] rfl ?_
                        refine fr_goto (tgt := 66) h dX12_having_166 (by decide) ?_
                        refine fr_sub (L' := [(0, vr G 0), (1, vi k), (2, vi p), (3, vi v), (4, vi w), (5, vi z42), (6, vi (l6_55 + 1)), (7, vi (l7_55 + 1))]) [0, 1, 2, 3, 4, 5, 6, 7] rfl ?_
                        have r179 := (fm_rd_s m54)
                        have r180 := (fm_rd_s m54)
                        exact ih55 (l6_55 + 1) (l7_55 + 1) x172 (by omega) (by omega) (by omega) (by omega) (by omega) (by omega) (by omega) (by omega) (by omega) (fun a k0 k1 => ((f177 a (by omega) (by omega)).trans ((f164 a (by omega) (by omega)).trans (g55_9 a (by omega) (by omega))))) (fun i k0 => ((f178 i (by omega)).trans ((f165 i (by omega)).trans (g55_10 i (by omega))))) (by omega)
          have r181 := (fm_rd_s m54)
          have r182 := (fm_rd_s m54)
          exact HL55 ((1301 - 1) + 1 : Int).toNat 0 1 x53 (by omega) (by omega) (by omega) (by omega) (by omega) (by omega) (by omega) (by omega) (by omega) (fun a _ _ => rfl) (fun i _ => rfl) (by omega)
        ·
          refine fr_iconst h dX12_having_42 ?_
          have r183 := (fm_rd_s m2)
          have r184 := (fm_rd_i (a := 0) (b := 12) m2 (by decide))
          exact fr_iret h hq (by omega) ⟨(by omega), ⟨(by rw [show x1 1 = x 1 from (fm_up_row m2 (by omega))]; exact e0.1), (by rw [show x1 8 = x 8 from (fm_up_row m2 (by omega))]; exact e0.2.1), (by rw [show x1 26 = x 26 from (fm_up_row m2 (by omega))]; exact e0.2.2.1), (by have := e0.2.2.2; omega)⟩, (fun a k0 k1 k2 k3 => (fm_up_row m2 (by omega))), (fun i k0 k1 k2 k3 k4 k5 k6 k7 k8 => (fm_rd_i (a := 0) (b := i) m2 (by omega)))⟩ dX12_having_43
set_option maxHeartbeats 2000000 in
theorem c_X12_differ (x : Mm) (k : Int) (p : Int) (v : Int) (h_k : fm_r k) (h_p : fm_r p) (h_v : fm_r v) (e0 : GI x) : CnI YM yX12_differ cX12_differ 8 .int 207 6248 (fun G => [vr G 0, vi k, vi p, vi v]) x (fun z y' => (y' 0 5 = 0) ∧ (GI y') ∧ (∀ a : Int, (a < 0 ∨ 0 < a) → (a < 3 ∨ 3 < a) → (a < 7 ∨ 7 < a) → (a < 12 ∨ 18 < a) → y' a = x a) ∧ (∀ i : Int, i ≠ 4 → i ≠ 5 → i ≠ 6 → i ≠ 7 → i ≠ 8 → i ≠ 9 → i ≠ 10 → i ≠ 15 → i ≠ 26 → y' 0 i = x 0 i)) := by
  refine cn_I (by decide) (fun _ => Nat.le_of_ble_eq_true rfl) (fun G C h hq => ?_)
  have h : OK YM G C cX12_differ RX12 8 (some .int) 207 6248 := h
  show FW YM G C 8 x 0 [(0, vr G 0), (1, vi k), (2, vi p), (3, vi v)] []
  have e12 := e0.2.2.2
  refine fr_aload_n h rfl 0 rfl dX12_differ_0 ?_
  refine fr_iconst h dX12_differ_1 ?_
  refine fr_puti (iz := 5) h kX12 fX12_94 at_0M rfl rfl (by decide) (by decide) rfl (by decide +kernel) rfM_5 (by omega) (by omega) dX12_differ_2 ?_
  refine fr_mem (fun x1 m2 => ?_)
  refine fr_iload_n h rfl 1 rfl dX12_differ_5 ?_
  refine fr_csI h wX12_isKind lX12_324 (c_X12_isKind x1 k (by omega)) rfl (by decide) (by decide) rfl (Nat.le_of_ble_eq_true rfl) dX12_differ_6 (fun z4 x3 w5 p6 => ?_)
  obtain ⟨p7, p8, y9⟩ := p6
  rw [y9]
  clear y9
  refine fr_if_eq (tgt := 34) h dX12_differ_9 (by decide) (by omega) (fun c10 => ?_) (fun c10 => ?_)
  ·
    refine fr_iconst h dX12_differ_34 ?_
    have r11 := (fm_rd_s m2)
    have r12 := (fm_rd_i (a := 0) (b := 12) m2 (by decide))
    exact fr_iret h hq (by omega) ⟨(by omega), ⟨(by rw [show x1 1 = x 1 from (fm_up_row m2 (by omega))]; exact e0.1), (by rw [show x1 8 = x 8 from (fm_up_row m2 (by omega))]; exact e0.2.1), (by rw [show x1 26 = x 26 from (fm_up_row m2 (by omega))]; exact e0.2.2.1), (by have := e0.2.2.2; omega)⟩, (fun a k0 k1 k2 k3 => (fm_up_row m2 (by omega))), (fun i k0 k1 k2 k3 k4 k5 k6 k7 k8 => (fm_rd_i (a := 0) (b := i) m2 (by omega)))⟩ dX12_differ_35
  ·
    refine fr_iload_n h rfl 2 rfl dX12_differ_12 ?_
    refine fr_iconst h dX12_differ_13 ?_
    refine fr_sipush h rfl dX12_differ_14 ?_
    refine fr_csI h wX12_in lX12_101 (c_X12_in x1 p 1 400 (by omega) (by omega) (by omega)) rfl (by decide) (by decide) rfl (Nat.le_of_ble_eq_true rfl) dX12_differ_17 (fun z14 x13 w15 p16 => ?_)
    obtain ⟨p17, p18, y19⟩ := p16
    rw [y19]
    clear y19
    refine fr_if_eq (tgt := 34) h dX12_differ_20 (by decide) (by omega) (fun c20 => ?_) (fun c20 => ?_)
    ·
      refine fr_iconst h dX12_differ_34 ?_
      have r21 := (fm_rd_s m2)
      have r22 := (fm_rd_i (a := 0) (b := 12) m2 (by decide))
      exact fr_iret h hq (by omega) ⟨(by omega), ⟨(by rw [show x1 1 = x 1 from (fm_up_row m2 (by omega))]; exact e0.1), (by rw [show x1 8 = x 8 from (fm_up_row m2 (by omega))]; exact e0.2.1), (by rw [show x1 26 = x 26 from (fm_up_row m2 (by omega))]; exact e0.2.2.1), (by have := e0.2.2.2; omega)⟩, (fun a k0 k1 k2 k3 => (fm_up_row m2 (by omega))), (fun i k0 k1 k2 k3 k4 k5 k6 k7 k8 => (fm_rd_i (a := 0) (b := i) m2 (by omega)))⟩ dX12_differ_35
    ·
      refine fr_iload_n h rfl 3 rfl dX12_differ_23 ?_
      refine fr_iconst h dX12_differ_24 ?_
      refine fr_sipush h rfl dX12_differ_25 ?_
      refine fr_csI h wX12_in lX12_101 (c_X12_in x1 v 1 400 (by omega) (by omega) (by omega)) rfl (by decide) (by decide) rfl (Nat.le_of_ble_eq_true rfl) dX12_differ_28 (fun z24 x23 w25 p26 => ?_)
      obtain ⟨p27, p28, y29⟩ := p26
      rw [y29]
      clear y29
      refine fr_if_ne (tgt := 36) h dX12_differ_31 (by decide) (by omega) (fun c30 => ?_) (fun c30 => ?_)
      ·
        refine fr_aload_n h rfl 0 rfl dX12_differ_36 ?_
        refine fr_aload_n h rfl 0 rfl dX12_differ_37 ?_
        refine fr_getc (z := 1) (iz := 0) h kX12 fX12_9 at_0M rfl rfl rfM_0 (by omega) dX12_differ_38 ?_
        refine fr_iload_n h rfl 1 rfl dX12_differ_41 ?_
        refine fr_cvI h kX12 at_0M wX12_layAll lX12_327 (c_X12_layAll x1 1 SA_1 k (by omega) (by rw [show x1 1 = x 1 from (fm_up_row m2 (by omega))]; exact e0.1)) rfl (by decide) (by decide) rfl (Nat.le_of_ble_eq_true rfl) dX12_differ_42 (fun z32 x31 w33 p34 => ?_)
        obtain ⟨p35, p36, p37, p38, p39, p40, f41, f42⟩ := p34
        refine fr_iload_n h rfl 2 rfl dX12_differ_45 ?_
        refine fr_iload_n h rfl 3 rfl dX12_differ_46 ?_
        refine fr_mmax h (by omega) (by omega) (tb_6 (i := 216) (by decide +kernel) (by decide +kernel)) w_mmax (by decide) (by decide) (Nat.le_of_ble_eq_true rfl) dX12_differ_47 (fun z43 w44 w45 w46 => ?_)
        refine fr_icmp_ge (tgt := 56) h dX12_differ_50 (by decide) (by omega) (by omega) (fun c47 => ?_) (fun c47 => ?_)
        ·
          refine fr_aload_n h rfl 0 rfl dX12_differ_56 ?_
          refine fr_getc (z := 15) (iz := 27) h kX12 fX12_54 at_0M rfl rfl rfM_27 (by omega) dX12_differ_57 ?_
          refine fr_iload_n h rfl 2 rfl dX12_differ_60 ?_
          refine fr_iconst h dX12_differ_61 ?_
          refine fr_isub h dX12_differ_62 ?_
          refine fr_normi (fun z48 w49 q50 => ?_)
          have w51 : fm_r ((p - 1)) → z48 = (p - 1) := fun q => (iI_inj q w49 q50).symm
          refine fr_iald h arM_15 (by omega) (by omega) (rrM_15 z48) dX12_differ_63 (fun z52 w53 w54 q55 => ?_)
          have r56 := (fm_rd_k (a := 15) (b := z48) m2 (by omega))
          refine fr_istore (L' := [(0, vr G 0), (1, vi k), (2, vi p), (3, vi v), (4, vi z52)]) h dX12_differ_64 (by decide) [1, 2, 3, 4, 0] rfl ?_
          refine fr_aload_n h rfl 0 rfl dX12_differ_66 ?_
          refine fr_getc (z := 15) (iz := 27) h kX12 fX12_54 at_0M rfl rfl rfM_27 (by omega) dX12_differ_67 ?_
          refine fr_iload_n h rfl 3 rfl dX12_differ_70 ?_
          refine fr_iconst h dX12_differ_71 ?_
          refine fr_isub h dX12_differ_72 ?_
          refine fr_normi (fun z57 w58 q59 => ?_)
          have w60 : fm_r ((v - 1)) → z57 = (v - 1) := fun q => (iI_inj q w58 q59).symm
          refine fr_iald h arM_15 (by omega) (by omega) (rrM_15 z57) dX12_differ_73 (fun z61 w62 w63 q64 => ?_)
          have r65 := (fm_rd_k (a := 15) (b := z57) m2 (by omega))
          refine fr_istore (L' := [(0, vr G 0), (1, vi k), (2, vi p), (3, vi v), (4, vi z52), (5, vi z61)]) h dX12_differ_74 (by decide) [1, 2, 3, 4, 5, 0] rfl ?_
          refine fr_iconst h dX12_differ_76 ?_
          refine fr_istore (L' := [(0, vr G 0), (1, vi k), (2, vi p), (3, vi v), (4, vi z52), (5, vi z61), (6, vi 0)]) h dX12_differ_77 (by decide) [1, 2, 3, 4, 5, 6, 0] rfl ?_
          refine fr_aload_n h rfl 0 rfl dX12_differ_79 ?_
          refine fr_iconst h dX12_differ_80 ?_
          refine fr_puti (iz := 4) h kX12 fX12_98 at_0M rfl rfl (by decide) (by decide) rfl (by decide +kernel) rfM_4 (by omega) (by omega) dX12_differ_81 ?_
          refine fr_mem (fun x66 m67 => ?_)
          refine fr_iconst h dX12_differ_84 ?_
          refine fr_istore (L' := [(0, vr G 0), (1, vi k), (2, vi p), (3, vi v), (4, vi z52), (5, vi z61), (6, vi 0), (7, vi 0)]) h dX12_differ_85 (by decide) [1, 2, 3, 4, 5, 6, 7, 0] rfl ?_
          have HL68 : ∀ (n68 : Nat) (l6_68 l7_68 : Int) (x_68 : Mm), fm_r l6_68 → 0 ≤ l6_68 → l6_68 ≤ 8 → fm_r l7_68 → 0 ≤ l7_68 → l7_68 ≤ 8 → l6_68 ≤ l7_68 → x_68 0 4 ≤ 2 → (l6_68 = 0 → x_68 0 4 = 0) → (∀ a : Int, (a < 0 ∨ 0 < a) → (a < 3 ∨ 3 < a) → x_68 a = x66 a) → (∀ i : Int, i ≠ 4 → x_68 0 i = x66 0 i) → (8 - l7_68) < n68 → FW YM G C 8 x_68 87 [(0, vr G 0), (1, vi k), (2, vi p), (3, vi v), (4, vi z52), (5, vi z61), (6, vi l6_68), (7, vi l7_68)] [] := by
            intro n68
            induction n68 with
            | zero =>
              intro l6_68 l7_68 x_68 g68_0 g68_1 g68_2 g68_3 g68_4 g68_5 g68_6 g68_7 g68_8 g68_9 g68_10 g68_11
              exfalso; omega
            | succ n68 ih68 =>
              intro l6_68 l7_68 x_68 g68_0 g68_1 g68_2 g68_3 g68_4 g68_5 g68_6 g68_7 g68_8 g68_9 g68_10 g68_11
              refine fr_iload h 7 rfl dX12_differ_87 ?_
              refine fr_aload_n h rfl 0 rfl dX12_differ_89 ?_
              refine fr_getc (z := 13) (iz := 24) h kX12 fX12_48 at_0M rfl rfl rfM_24 (by omega) dX12_differ_90 ?_
              refine fr_iload h 4 rfl dX12_differ_93 ?_
              refine fr_iald h arM_13 (by omega) (by omega) (rrM_13 z52) dX12_differ_95 (fun z69 w70 w71 q72 => ?_)
              have r73 := q72.trans (congrFun (g68_9 13 (by omega) (by omega)) z52)
              have r74 := r73.trans (fm_rd_k (a := 13) (b := z52) m67 (by omega))
              have r75 := (fm_rd_k (a := 13) (b := z52) m2 (by omega))
              refine fr_aload_n h rfl 0 rfl dX12_differ_96 ?_
              refine fr_getc (z := 13) (iz := 24) h kX12 fX12_48 at_0M rfl rfl rfM_24 (by omega) dX12_differ_97 ?_
              refine fr_iload h 5 rfl dX12_differ_100 ?_
              refine fr_iald h arM_13 (by omega) (by omega) (rrM_13 z61) dX12_differ_102 (fun z76 w77 w78 q79 => ?_)
              have r80 := q79.trans (congrFun (g68_9 13 (by omega) (by omega)) z61)
              have r81 := r80.trans (fm_rd_k (a := 13) (b := z61) m67 (by omega))
              have r82 := (fm_rd_k (a := 13) (b := z61) m2 (by omega))
              refine fr_mmax h (by omega) (by omega) (tb_6 (i := 216) (by decide +kernel) (by decide +kernel)) w_mmax (by decide) (by decide) (Nat.le_of_ble_eq_true rfl) dX12_differ_103 (fun z83 w84 w85 w86 => ?_)
              refine fr_icmp_ge (tgt := 186) h dX12_differ_106 (by decide) (by omega) (by omega) (fun c87 => ?_) (fun c87 => ?_)
              ·
                refine fr_iload h 6 rfl dX12_differ_186 ?_
                have r88 := (g68_10 5 (by decide))
                have r89 := r88.trans (fm_rd_i (a := 0) (b := 5) m67 (by decide))
                have r90 := r89.trans (f42 5 (by decide) (by decide) (by decide) (by decide) (by decide) (by decide) (by decide))
                have r91 := r90.trans (fm_rd_s m2)
                have r92 := (g68_10 12 (by decide))
                have r93 := r92.trans (fm_rd_i (a := 0) (b := 12) m67 (by decide))
                have r94 := r93.trans (f42 12 (by decide) (by decide) (by decide) (by decide) (by decide) (by decide) (by decide))
                have r95 := r94.trans (fm_rd_i (a := 0) (b := 12) m2 (by decide))
                exact fr_iret h hq (by omega) ⟨(by omega), ⟨(by rw [show x_68 1 = x66 1 from (g68_9 1 (by omega) (by omega))]; exact (by rw [show x66 1 = x31 1 from (fm_up_row m67 (by omega))]; exact (by rw [show x31 1 = x1 1 from (f41 1 (by omega) (by omega) (by omega))]; exact (by rw [show x1 1 = x 1 from (fm_up_row m2 (by omega))]; exact e0.1)))), (by rw [show x_68 8 = x 8 from ((g68_9 8 (by omega) (by omega)).trans ((fm_up_row m67 (by omega)).trans ((f41 8 (by omega) (by omega) (by omega)).trans (fm_up_row m2 (by omega)))))]; exact e0.2.1), (by rw [show x_68 26 = x 26 from ((g68_9 26 (by omega) (by omega)).trans ((fm_up_row m67 (by omega)).trans ((f41 26 (by omega) (by omega) (by omega)).trans (fm_up_row m2 (by omega)))))]; exact e0.2.2.1), (by have := e0.2.2.2; omega)⟩, (fun a k0 k1 k2 k3 => ((g68_9 a (by omega) (by omega)).trans ((fm_up_row m67 (by omega)).trans ((f41 a (by omega) (by omega) (by omega)).trans (fm_up_row m2 (by omega)))))), (fun i k0 k1 k2 k3 k4 k5 k6 k7 k8 => ((g68_10 i (by omega)).trans ((fm_rd_i (a := 0) (b := i) m67 (by omega)).trans ((f42 i (by omega) (by omega) (by omega) (by omega) (by omega) (by omega) (by omega)).trans (fm_rd_i (a := 0) (b := i) m2 (by omega))))))⟩ dX12_differ_188
              ·
                refine fr_iload h 7 rfl dX12_differ_109 ?_
                refine fr_aload_n h rfl 0 rfl dX12_differ_111 ?_
                refine fr_getc (z := 13) (iz := 24) h kX12 fX12_48 at_0M rfl rfl rfM_24 (by omega) dX12_differ_112 ?_
                refine fr_iload h 4 rfl dX12_differ_115 ?_
                refine fr_iald h arM_13 (by omega) (by omega) (rrM_13 z52) dX12_differ_117 (fun z96 w97 w98 q99 => ?_)
                have r100 := q99.trans (congrFun (g68_9 13 (by omega) (by omega)) z52)
                have r101 := r100.trans (fm_rd_k (a := 13) (b := z52) m67 (by omega))
                have r102 := (fm_rd_k (a := 13) (b := z52) m2 (by omega))
                refine fr_icmp_ge (tgt := 165) h dX12_differ_118 (by decide) (by omega) (by omega) (fun c103 => ?_) (fun c103 => ?_)
                ·
                  refine fr_iload h 6 rfl dX12_differ_165 ?_
                  refine fr_if_ne (tgt := 177) h dX12_differ_167 (by decide) (by omega) (fun c104 => ?_) (fun c104 => ?_)
                  ·
                    refine fr_iinc (j := 6) (L' := [(0, vr G 0), (1, vi k), (2, vi p), (3, vi v), (4, vi z52), (5, vi z61), (6, vi (l6_68 + 1)), (7, vi l7_68)]) h dX12_differ_177 rfl (by decide) [1, 2, 3, 4, 5, 6, 0, 7] rfl ?_
                    refine fr_iinc (j := 7) (L' := [(0, vr G 0), (1, vi k), (2, vi p), (3, vi v), (4, vi z52), (5, vi z61), (6, vi (l6_68 + 1)), (7, vi (l7_68 + 1))]) h dX12_differ_180 rfl (by decide) [1, 2, 3, 4, 5, 6, 7, 0] rfl ?_
                    refine fr_goto (tgt := 87) h dX12_differ_183 (by decide) ?_
                    have r105 := (fm_rd_s m67)
                    have r106 := (fm_rd_s m67)
                    exact ih68 (l6_68 + 1) (l7_68 + 1) x_68 (by omega) (by omega) (by omega) (by omega) (by omega) (by omega) (by omega) (by omega) (by omega) (fun a k0 k1 => (g68_9 a (by omega) (by omega))) (fun i k0 => (g68_10 i (by omega))) (by omega)
                  ·
                    refine fr_aload_n h rfl 0 rfl dX12_differ_170 ?_
                    refine fr_iload h 7 rfl dX12_differ_171 ?_
                    refine fr_i2l h (by omega) dX12_differ_173 ?_
                    have r107 := (fm_rd_s m67)
                    refine fr_cvV h kX12 at_0M wX12_tell lX12_269 (c_X12_tell x_68 l7_68 (by omega) (by omega)) rfl (by decide) (by decide) rfl (Nat.le_of_ble_eq_true rfl) dX12_differ_174 (fun x108 p111 => ?_)
                    obtain ⟨p112, f113, f114⟩ := p111
                    refine fr_iinc (j := 6) (L' := [(0, vr G 0), (1, vi k), (2, vi p), (3, vi v), (4, vi z52), (5, vi z61), (6, vi (l6_68 + 1)), (7, vi l7_68)]) h dX12_differ_177 rfl (by decide) [1, 2, 3, 4, 5, 6, 0, 7] rfl ?_
                    refine fr_iinc (j := 7) (L' := [(0, vr G 0), (1, vi k), (2, vi p), (3, vi v), (4, vi z52), (5, vi z61), (6, vi (l6_68 + 1)), (7, vi (l7_68 + 1))]) h dX12_differ_180 rfl (by decide) [1, 2, 3, 4, 5, 6, 7, 0] rfl ?_
                    refine fr_goto (tgt := 87) h dX12_differ_183 (by decide) ?_
                    have r115 := (fm_rd_s m67)
                    have r116 := (fm_rd_s m67)
                    exact ih68 (l6_68 + 1) (l7_68 + 1) x108 (by omega) (by omega) (by omega) (by omega) (by omega) (by omega) (by omega) (by omega) (by omega) (fun a k0 k1 => ((f113 a (by omega) (by omega)).trans (g68_9 a (by omega) (by omega)))) (fun i k0 => ((f114 i (by omega)).trans (g68_10 i (by omega)))) (by omega)
                ·
                  refine fr_iload h 7 rfl dX12_differ_121 ?_
                  refine fr_aload_n h rfl 0 rfl dX12_differ_123 ?_
                  refine fr_getc (z := 13) (iz := 24) h kX12 fX12_48 at_0M rfl rfl rfM_24 (by omega) dX12_differ_124 ?_
                  refine fr_iload h 5 rfl dX12_differ_127 ?_
                  refine fr_iald h arM_13 (by omega) (by omega) (rrM_13 z61) dX12_differ_129 (fun z117 w118 w119 q120 => ?_)
                  have r121 := q120.trans (congrFun (g68_9 13 (by omega) (by omega)) z61)
                  have r122 := r121.trans (fm_rd_k (a := 13) (b := z61) m67 (by omega))
                  have r123 := (fm_rd_k (a := 13) (b := z61) m2 (by omega))
                  refine fr_icmp_ge (tgt := 165) h dX12_differ_130 (by decide) (by omega) (by omega) (fun c124 => ?_) (fun c124 => ?_)
                  ·
                    refine fr_iload h 6 rfl dX12_differ_165 ?_
                    refine fr_if_ne (tgt := 177) h dX12_differ_167 (by decide) (by omega) (fun c125 => ?_) (fun c125 => ?_)
                    ·
                      refine fr_iinc (j := 6) (L' := [(0, vr G 0), (1, vi k), (2, vi p), (3, vi v), (4, vi z52), (5, vi z61), (6, vi (l6_68 + 1)), (7, vi l7_68)]) h dX12_differ_177 rfl (by decide) [1, 2, 3, 4, 5, 6, 0, 7] rfl ?_
                      refine fr_iinc (j := 7) (L' := [(0, vr G 0), (1, vi k), (2, vi p), (3, vi v), (4, vi z52), (5, vi z61), (6, vi (l6_68 + 1)), (7, vi (l7_68 + 1))]) h dX12_differ_180 rfl (by decide) [1, 2, 3, 4, 5, 6, 7, 0] rfl ?_
                      refine fr_goto (tgt := 87) h dX12_differ_183 (by decide) ?_
                      have r126 := (fm_rd_s m67)
                      have r127 := (fm_rd_s m67)
                      exact ih68 (l6_68 + 1) (l7_68 + 1) x_68 (by omega) (by omega) (by omega) (by omega) (by omega) (by omega) (by omega) (by omega) (by omega) (fun a k0 k1 => (g68_9 a (by omega) (by omega))) (fun i k0 => (g68_10 i (by omega))) (by omega)
                    ·
                      refine fr_aload_n h rfl 0 rfl dX12_differ_170 ?_
                      refine fr_iload h 7 rfl dX12_differ_171 ?_
                      refine fr_i2l h (by omega) dX12_differ_173 ?_
                      have r128 := (fm_rd_s m67)
                      refine fr_cvV h kX12 at_0M wX12_tell lX12_269 (c_X12_tell x_68 l7_68 (by omega) (by omega)) rfl (by decide) (by decide) rfl (Nat.le_of_ble_eq_true rfl) dX12_differ_174 (fun x129 p132 => ?_)
                      obtain ⟨p133, f134, f135⟩ := p132
                      refine fr_iinc (j := 6) (L' := [(0, vr G 0), (1, vi k), (2, vi p), (3, vi v), (4, vi z52), (5, vi z61), (6, vi (l6_68 + 1)), (7, vi l7_68)]) h dX12_differ_177 rfl (by decide) [1, 2, 3, 4, 5, 6, 0, 7] rfl ?_
                      refine fr_iinc (j := 7) (L' := [(0, vr G 0), (1, vi k), (2, vi p), (3, vi v), (4, vi z52), (5, vi z61), (6, vi (l6_68 + 1)), (7, vi (l7_68 + 1))]) h dX12_differ_180 rfl (by decide) [1, 2, 3, 4, 5, 6, 7, 0] rfl ?_
                      refine fr_goto (tgt := 87) h dX12_differ_183 (by decide) ?_
                      have r136 := (fm_rd_s m67)
                      have r137 := (fm_rd_s m67)
                      exact ih68 (l6_68 + 1) (l7_68 + 1) x129 (by omega) (by omega) (by omega) (by omega) (by omega) (by omega) (by omega) (by omega) (by omega) (fun a k0 k1 => ((f134 a (by omega) (by omega)).trans (g68_9 a (by omega) (by omega)))) (fun i k0 => ((f135 i (by omega)).trans (g68_10 i (by omega)))) (by omega)
                  ·
                    refine fr_aload_n h rfl 0 rfl dX12_differ_133 ?_
                    refine fr_getc (z := 12) (iz := 23) h kX12 fX12_45 at_0M rfl rfl rfM_23 (by omega) dX12_differ_134 ?_
                    refine fr_bipush h rfl dX12_differ_137 ?_
                    refine fr_iload h 4 rfl dX12_differ_139 ?_
                    refine fr_imul h dX12_differ_141 ?_
                    refine fr_iload h 7 rfl dX12_differ_142 ?_
                    refine fr_iadd h dX12_differ_144 ?_
                    refine fr_iald h arM_12 (by omega) (by omega) (rrM_12 ((8 * z52) + l7_68)) dX12_differ_145 (fun z138 w139 w140 q141 => ?_)
                    have r142 := q141.trans (congrFun (g68_9 12 (by omega) (by omega)) ((8 * z52) + l7_68))
                    have r143 := r142.trans (fm_rd_k (a := 12) (b := ((8 * z52) + l7_68)) m67 (by omega))
                    have r144 := (fm_rd_k (a := 12) (b := ((8 * z52) + l7_68)) m2 (by omega))
                    refine fr_aload_n h rfl 0 rfl dX12_differ_146 ?_
                    refine fr_getc (z := 12) (iz := 23) h kX12 fX12_45 at_0M rfl rfl rfM_23 (by omega) dX12_differ_147 ?_
                    refine fr_bipush h rfl dX12_differ_150 ?_
                    refine fr_iload h 5 rfl dX12_differ_152 ?_
                    refine fr_imul h dX12_differ_154 ?_
                    refine fr_iload h 7 rfl dX12_differ_155 ?_
                    refine fr_iadd h dX12_differ_157 ?_
                    refine fr_iald h arM_12 (by omega) (by omega) (rrM_12 ((8 * z61) + l7_68)) dX12_differ_158 (fun z145 w146 w147 q148 => ?_)
                    have r149 := q148.trans (congrFun (g68_9 12 (by omega) (by omega)) ((8 * z61) + l7_68))
                    have r150 := r149.trans (fm_rd_k (a := 12) (b := ((8 * z61) + l7_68)) m67 (by omega))
                    have r151 := (fm_rd_k (a := 12) (b := ((8 * z61) + l7_68)) m2 (by omega))
                    refine fr_icmp_ne (tgt := 165) h dX12_differ_159 (by decide) (by omega) (by omega) (fun c152 => ?_) (fun c152 => ?_)
                    ·
                      refine fr_iload h 6 rfl dX12_differ_165 ?_
                      refine fr_if_ne (tgt := 177) h dX12_differ_167 (by decide) (by omega) (fun c153 => ?_) (fun c153 => ?_)
                      ·
                        refine fr_iinc (j := 6) (L' := [(0, vr G 0), (1, vi k), (2, vi p), (3, vi v), (4, vi z52), (5, vi z61), (6, vi (l6_68 + 1)), (7, vi l7_68)]) h dX12_differ_177 rfl (by decide) [1, 2, 3, 4, 5, 6, 0, 7] rfl ?_
                        refine fr_iinc (j := 7) (L' := [(0, vr G 0), (1, vi k), (2, vi p), (3, vi v), (4, vi z52), (5, vi z61), (6, vi (l6_68 + 1)), (7, vi (l7_68 + 1))]) h dX12_differ_180 rfl (by decide) [1, 2, 3, 4, 5, 6, 7, 0] rfl ?_
                        refine fr_goto (tgt := 87) h dX12_differ_183 (by decide) ?_
                        have r154 := (fm_rd_s m67)
                        have r155 := (fm_rd_s m67)
                        exact ih68 (l6_68 + 1) (l7_68 + 1) x_68 (by omega) (by omega) (by omega) (by omega) (by omega) (by omega) (by omega) (by omega) (by omega) (fun a k0 k1 => (g68_9 a (by omega) (by omega))) (fun i k0 => (g68_10 i (by omega))) (by omega)
                      ·
                        refine fr_aload_n h rfl 0 rfl dX12_differ_170 ?_
                        refine fr_iload h 7 rfl dX12_differ_171 ?_
                        refine fr_i2l h (by omega) dX12_differ_173 ?_
                        have r156 := (fm_rd_s m67)
                        refine fr_cvV h kX12 at_0M wX12_tell lX12_269 (c_X12_tell x_68 l7_68 (by omega) (by omega)) rfl (by decide) (by decide) rfl (Nat.le_of_ble_eq_true rfl) dX12_differ_174 (fun x157 p160 => ?_)
                        obtain ⟨p161, f162, f163⟩ := p160
                        refine fr_iinc (j := 6) (L' := [(0, vr G 0), (1, vi k), (2, vi p), (3, vi v), (4, vi z52), (5, vi z61), (6, vi (l6_68 + 1)), (7, vi l7_68)]) h dX12_differ_177 rfl (by decide) [1, 2, 3, 4, 5, 6, 0, 7] rfl ?_
                        refine fr_iinc (j := 7) (L' := [(0, vr G 0), (1, vi k), (2, vi p), (3, vi v), (4, vi z52), (5, vi z61), (6, vi (l6_68 + 1)), (7, vi (l7_68 + 1))]) h dX12_differ_180 rfl (by decide) [1, 2, 3, 4, 5, 6, 7, 0] rfl ?_
                        refine fr_goto (tgt := 87) h dX12_differ_183 (by decide) ?_
                        have r164 := (fm_rd_s m67)
                        have r165 := (fm_rd_s m67)
                        exact ih68 (l6_68 + 1) (l7_68 + 1) x157 (by omega) (by omega) (by omega) (by omega) (by omega) (by omega) (by omega) (by omega) (by omega) (fun a k0 k1 => ((f162 a (by omega) (by omega)).trans (g68_9 a (by omega) (by omega)))) (fun i k0 => ((f163 i (by omega)).trans (g68_10 i (by omega)))) (by omega)
                    ·
                      refine fr_goto (tgt := 180) h dX12_differ_162 (by decide) ?_
                      refine fr_iinc (j := 7) (L' := [(0, vr G 0), (1, vi k), (2, vi p), (3, vi v), (4, vi z52), (5, vi z61), (6, vi l6_68), (7, vi (l7_68 + 1))]) h dX12_differ_180 rfl (by decide) [1, 2, 3, 4, 5, 6, 7, 0] rfl ?_
                      refine fr_goto (tgt := 87) h dX12_differ_183 (by decide) ?_
                      have r166 := (fm_rd_s m67)
                      have r167 := (fm_rd_s m67)
                      exact ih68 l6_68 (l7_68 + 1) x_68 (by omega) (by omega) (by omega) (by omega) (by omega) (by omega) (by omega) (by omega) (by omega) (fun a k0 k1 => (g68_9 a (by omega) (by omega))) (fun i k0 => (g68_10 i (by omega))) (by omega)
          have r168 := (fm_rd_s m67)
          have r169 := (fm_rd_s m67)
          exact HL68 ((8 - 0) + 1 : Int).toNat 0 0 x66 (by omega) (by omega) (by omega) (by omega) (by omega) (by omega) (by omega) (by omega) (by omega) (fun a _ _ => rfl) (fun i _ => rfl) (by omega)
        ·
          refine fr_bipush h rfl dX12_differ_53 ?_
          have r170 := (f42 5 (by decide) (by decide) (by decide) (by decide) (by decide) (by decide) (by decide))
          have r171 := r170.trans (fm_rd_s m2)
          have r172 := (f42 12 (by decide) (by decide) (by decide) (by decide) (by decide) (by decide) (by decide))
          have r173 := r172.trans (fm_rd_i (a := 0) (b := 12) m2 (by decide))
          exact fr_iret h hq (by omega) ⟨(by omega), ⟨(by rw [show x31 1 = x1 1 from (f41 1 (by omega) (by omega) (by omega))]; exact (by rw [show x1 1 = x 1 from (fm_up_row m2 (by omega))]; exact e0.1)), (by rw [show x31 8 = x 8 from ((f41 8 (by omega) (by omega) (by omega)).trans (fm_up_row m2 (by omega)))]; exact e0.2.1), (by rw [show x31 26 = x 26 from ((f41 26 (by omega) (by omega) (by omega)).trans (fm_up_row m2 (by omega)))]; exact e0.2.2.1), (by have := e0.2.2.2; omega)⟩, (fun a k0 k1 k2 k3 => ((f41 a (by omega) (by omega) (by omega)).trans (fm_up_row m2 (by omega)))), (fun i k0 k1 k2 k3 k4 k5 k6 k7 k8 => ((f42 i (by omega) (by omega) (by omega) (by omega) (by omega) (by omega) (by omega)).trans (fm_rd_i (a := 0) (b := i) m2 (by omega))))⟩ dX12_differ_55
      ·
        refine fr_iconst h dX12_differ_34 ?_
        have r174 := (fm_rd_s m2)
        have r175 := (fm_rd_i (a := 0) (b := 12) m2 (by decide))
        exact fr_iret h hq (by omega) ⟨(by omega), ⟨(by rw [show x1 1 = x 1 from (fm_up_row m2 (by omega))]; exact e0.1), (by rw [show x1 8 = x 8 from (fm_up_row m2 (by omega))]; exact e0.2.1), (by rw [show x1 26 = x 26 from (fm_up_row m2 (by omega))]; exact e0.2.2.1), (by have := e0.2.2.2; omega)⟩, (fun a k0 k1 k2 k3 => (fm_up_row m2 (by omega))), (fun i k0 k1 k2 k3 k4 k5 k6 k7 k8 => (fm_rd_i (a := 0) (b := i) m2 (by omega)))⟩ dX12_differ_35
set_option maxHeartbeats 200000 in
theorem c_X12_gap (x : Mm) (k : Int) (p : Int) (h_k : fm_r k) (h_p : fm_r p) (e0 : GI x) : CnI YM yX12_gap cX12_gap 3 .int 207 6248 (fun G => [vr G 0, vi k, vi p]) x (fun z y' => (y' 0 5 = 0) ∧ (GI y') ∧ (∀ a : Int, (a < 0 ∨ 0 < a) → (a < 3 ∨ 3 < a) → (a < 7 ∨ 7 < a) → (a < 12 ∨ 18 < a) → y' a = x a) ∧ (∀ i : Int, i ≠ 4 → i ≠ 5 → i ≠ 6 → i ≠ 7 → i ≠ 8 → i ≠ 9 → i ≠ 10 → i ≠ 15 → i ≠ 26 → y' 0 i = x 0 i)) := by
  refine cn_I (by decide) (fun _ => Nat.le_of_ble_eq_true rfl) (fun G C h hq => ?_)
  have h : OK YM G C cX12_gap RX12 3 (some .int) 207 6248 := h
  show FW YM G C 3 x 0 [(0, vr G 0), (1, vi k), (2, vi p)] []
  have e12 := e0.2.2.2
  refine fr_aload_n h rfl 0 rfl dX12_gap_0 ?_
  refine fr_iconst h dX12_gap_1 ?_
  refine fr_puti (iz := 5) h kX12 fX12_94 at_0M rfl rfl (by decide) (by decide) rfl (by decide +kernel) rfM_5 (by omega) (by omega) dX12_gap_2 ?_
  refine fr_mem (fun x1 m2 => ?_)
  refine fr_iload_n h rfl 1 rfl dX12_gap_5 ?_
  refine fr_csI h wX12_isKind lX12_324 (c_X12_isKind x1 k (by omega)) rfl (by decide) (by decide) rfl (Nat.le_of_ble_eq_true rfl) dX12_gap_6 (fun z4 x3 w5 p6 => ?_)
  obtain ⟨p7, p8, y9⟩ := p6
  rw [y9]
  clear y9
  refine fr_if_eq (tgt := 23) h dX12_gap_9 (by decide) (by omega) (fun c10 => ?_) (fun c10 => ?_)
  ·
    refine fr_iconst h dX12_gap_23 ?_
    have r11 := (fm_rd_s m2)
    have r12 := (fm_rd_i (a := 0) (b := 12) m2 (by decide))
    exact fr_iret h hq (by omega) ⟨(by omega), ⟨(by rw [show x1 1 = x 1 from (fm_up_row m2 (by omega))]; exact e0.1), (by rw [show x1 8 = x 8 from (fm_up_row m2 (by omega))]; exact e0.2.1), (by rw [show x1 26 = x 26 from (fm_up_row m2 (by omega))]; exact e0.2.2.1), (by have := e0.2.2.2; omega)⟩, (fun a k0 k1 k2 k3 => (fm_up_row m2 (by omega))), (fun i k0 k1 k2 k3 k4 k5 k6 k7 k8 => (fm_rd_i (a := 0) (b := i) m2 (by omega)))⟩ dX12_gap_24
  ·
    refine fr_iload_n h rfl 2 rfl dX12_gap_12 ?_
    refine fr_iconst h dX12_gap_13 ?_
    refine fr_sipush h rfl dX12_gap_14 ?_
    refine fr_csI h wX12_in lX12_101 (c_X12_in x1 p 1 399 (by omega) (by omega) (by omega)) rfl (by decide) (by decide) rfl (Nat.le_of_ble_eq_true rfl) dX12_gap_17 (fun z14 x13 w15 p16 => ?_)
    obtain ⟨p17, p18, y19⟩ := p16
    rw [y19]
    clear y19
    refine fr_if_ne (tgt := 25) h dX12_gap_20 (by decide) (by omega) (fun c20 => ?_) (fun c20 => ?_)
    ·
      refine fr_aload_n h rfl 0 rfl dX12_gap_25 ?_
      refine fr_aload_n h rfl 0 rfl dX12_gap_26 ?_
      refine fr_getc (z := 1) (iz := 0) h kX12 fX12_9 at_0M rfl rfl rfM_0 (by omega) dX12_gap_27 ?_
      refine fr_iload_n h rfl 1 rfl dX12_gap_30 ?_
      refine fr_cvI h kX12 at_0M wX12_layAll lX12_327 (c_X12_layAll x1 1 SA_1 k (by omega) (by rw [show x1 1 = x 1 from (fm_up_row m2 (by omega))]; exact e0.1)) rfl (by decide) (by decide) rfl (Nat.le_of_ble_eq_true rfl) dX12_gap_31 (fun z22 x21 w23 p24 => ?_)
      obtain ⟨p25, p26, p27, p28, p29, p30, f31, f32⟩ := p24
      refine fr_iload_n h rfl 2 rfl dX12_gap_34 ?_
      refine fr_iconst h dX12_gap_35 ?_
      refine fr_iadd h dX12_gap_36 ?_
      refine fr_icmp_ge (tgt := 43) h dX12_gap_37 (by decide) (by omega) (by omega) (fun c33 => ?_) (fun c33 => ?_)
      ·
        refine fr_aload_n h rfl 0 rfl dX12_gap_43 ?_
        refine fr_iconst h dX12_gap_44 ?_
        refine fr_puti (iz := 4) h kX12 fX12_98 at_0M rfl rfl (by decide) (by decide) rfl (by decide +kernel) rfM_4 (by omega) (by omega) dX12_gap_45 ?_
        refine fr_mem (fun x34 m35 => ?_)
        refine fr_aload_n h rfl 0 rfl dX12_gap_48 ?_
        refine fr_aload_n h rfl 0 rfl dX12_gap_49 ?_
        refine fr_iload_n h rfl 2 rfl dX12_gap_50 ?_
        refine fr_iconst h dX12_gap_51 ?_
        refine fr_iadd h dX12_gap_52 ?_
        refine fr_cvI h kX12 at_0M wX12_costAt lX12_333 (c_X12_costAt x34 (p + 1) (by omega) (by omega) (by omega)) rfl (by decide) (by decide) rfl (Nat.le_of_ble_eq_true rfl) dX12_gap_53 (fun z37 x36 w38 p39 => ?_)
        have y40 := p39
        rw [y40]
        clear y40
        refine fr_i2l h (by omega) dX12_gap_56 ?_
        refine fr_aload_n h rfl 0 rfl dX12_gap_57 ?_
        refine fr_iload_n h rfl 2 rfl dX12_gap_58 ?_
        refine fr_cvI h kX12 at_0M wX12_costAt lX12_333 (c_X12_costAt x34 p (by omega) (by omega) (by omega)) rfl (by decide) (by decide) rfl (Nat.le_of_ble_eq_true rfl) dX12_gap_59 (fun z42 x41 w43 p44 => ?_)
        have y45 := p44
        rw [y45]
        clear y45
        refine fr_i2l h (by omega) dX12_gap_62 ?_
        refine fr_lsub h dX12_gap_63 ?_
        refine fr_norml (fun z46 w47 q48 => ?_)
        have w49 : fm_l (z37 - z42) → z46 = (z37 - z42) := fun q => (lI_inj q w47 q48).symm
        have r50 := (fm_rd_s m35)
        refine fr_cvV h kX12 at_0M wX12_tell lX12_269 (c_X12_tell x34 z46 (by omega) (by omega)) rfl (by decide) (by decide) rfl (Nat.le_of_ble_eq_true rfl) dX12_gap_64 (fun x51 p54 => ?_)
        obtain ⟨p55, f56, f57⟩ := p54
        refine fr_iconst h dX12_gap_67 ?_
        have r58 := (f57 5 (by decide))
        have r59 := r58.trans (fm_rd_i (a := 0) (b := 5) m35 (by decide))
        have r60 := r59.trans (f32 5 (by decide) (by decide) (by decide) (by decide) (by decide) (by decide) (by decide))
        have r61 := r60.trans (fm_rd_s m2)
        have r62 := (f57 12 (by decide))
        have r63 := r62.trans (fm_rd_i (a := 0) (b := 12) m35 (by decide))
        have r64 := r63.trans (f32 12 (by decide) (by decide) (by decide) (by decide) (by decide) (by decide) (by decide))
        have r65 := r64.trans (fm_rd_i (a := 0) (b := 12) m2 (by decide))
        exact fr_iret h hq (by omega) ⟨(by omega), ⟨(by rw [show x51 1 = x34 1 from (f56 1 (by omega) (by omega))]; exact (by rw [show x34 1 = x21 1 from (fm_up_row m35 (by omega))]; exact (by rw [show x21 1 = x1 1 from (f31 1 (by omega) (by omega) (by omega))]; exact (by rw [show x1 1 = x 1 from (fm_up_row m2 (by omega))]; exact e0.1)))), (by rw [show x51 8 = x 8 from ((f56 8 (by omega) (by omega)).trans ((fm_up_row m35 (by omega)).trans ((f31 8 (by omega) (by omega) (by omega)).trans (fm_up_row m2 (by omega)))))]; exact e0.2.1), (by rw [show x51 26 = x 26 from ((f56 26 (by omega) (by omega)).trans ((fm_up_row m35 (by omega)).trans ((f31 26 (by omega) (by omega) (by omega)).trans (fm_up_row m2 (by omega)))))]; exact e0.2.2.1), (by have := e0.2.2.2; omega)⟩, (fun a k0 k1 k2 k3 => ((f56 a (by omega) (by omega)).trans ((fm_up_row m35 (by omega)).trans ((f31 a (by omega) (by omega) (by omega)).trans (fm_up_row m2 (by omega)))))), (fun i k0 k1 k2 k3 k4 k5 k6 k7 k8 => ((f57 i (by omega)).trans ((fm_rd_i (a := 0) (b := i) m35 (by omega)).trans ((f32 i (by omega) (by omega) (by omega) (by omega) (by omega) (by omega) (by omega)).trans (fm_rd_i (a := 0) (b := i) m2 (by omega))))))⟩ dX12_gap_68
      ·
        refine fr_bipush h rfl dX12_gap_40 ?_
        have r66 := (f32 5 (by decide) (by decide) (by decide) (by decide) (by decide) (by decide) (by decide))
        have r67 := r66.trans (fm_rd_s m2)
        have r68 := (f32 12 (by decide) (by decide) (by decide) (by decide) (by decide) (by decide) (by decide))
        have r69 := r68.trans (fm_rd_i (a := 0) (b := 12) m2 (by decide))
        exact fr_iret h hq (by omega) ⟨(by omega), ⟨(by rw [show x21 1 = x1 1 from (f31 1 (by omega) (by omega) (by omega))]; exact (by rw [show x1 1 = x 1 from (fm_up_row m2 (by omega))]; exact e0.1)), (by rw [show x21 8 = x 8 from ((f31 8 (by omega) (by omega) (by omega)).trans (fm_up_row m2 (by omega)))]; exact e0.2.1), (by rw [show x21 26 = x 26 from ((f31 26 (by omega) (by omega) (by omega)).trans (fm_up_row m2 (by omega)))]; exact e0.2.2.1), (by have := e0.2.2.2; omega)⟩, (fun a k0 k1 k2 k3 => ((f31 a (by omega) (by omega) (by omega)).trans (fm_up_row m2 (by omega)))), (fun i k0 k1 k2 k3 k4 k5 k6 k7 k8 => ((f32 i (by omega) (by omega) (by omega) (by omega) (by omega) (by omega) (by omega)).trans (fm_rd_i (a := 0) (b := i) m2 (by omega))))⟩ dX12_gap_42
    ·
      refine fr_iconst h dX12_gap_23 ?_
      have r70 := (fm_rd_s m2)
      have r71 := (fm_rd_i (a := 0) (b := 12) m2 (by decide))
      exact fr_iret h hq (by omega) ⟨(by omega), ⟨(by rw [show x1 1 = x 1 from (fm_up_row m2 (by omega))]; exact e0.1), (by rw [show x1 8 = x 8 from (fm_up_row m2 (by omega))]; exact e0.2.1), (by rw [show x1 26 = x 26 from (fm_up_row m2 (by omega))]; exact e0.2.2.1), (by have := e0.2.2.2; omega)⟩, (fun a k0 k1 k2 k3 => (fm_up_row m2 (by omega))), (fun i k0 k1 k2 k3 k4 k5 k6 k7 k8 => (fm_rd_i (a := 0) (b := i) m2 (by omega)))⟩ dX12_gap_24
