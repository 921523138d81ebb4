set_option maxHeartbeats 200000 in
theorem c_X12_refusesCursor (x : Mm) (p : Int) (h_p : fm_r p) (e0 : 0 ≤ p) (e1 : p ≤ 2) : CnI YM yX12_refusesCursor cX12_refusesCursor 2 .int 0 0 (fun G => [vr G 0, vi p]) x (fun z y' => ((-4) ≤ z) ∧ (z ≤ 0) ∧ (z = 0 → x 20 p ≠ (-1) ∧ x 22 p = x 0 21) ∧ (y' = x)) := by
  refine cn_I (by decide) (fun _ => Nat.le_of_ble_eq_true rfl) (fun G C h hq => ?_)
  have h : OK YM G C cX12_refusesCursor RX12 2 (some .int) 0 0 := h
  show FW YM G C 2 x 0 [(0, vr G 0), (1, vi p)] []
  refine fr_aload_n h rfl 0 rfl dX12_refusesCursor_0 ?_
  refine fr_getc (z := 20) (iz := 32) h kX12 fX12_69 at_0M rfl rfl rfM_32 (by omega) dX12_refusesCursor_1 ?_
  refine fr_iload_n h rfl 1 rfl dX12_refusesCursor_4 ?_
  refine fr_iald h arM_20 (by omega) (by omega) (rrM_20 p) dX12_refusesCursor_5 (fun z1 w2 w3 q4 => ?_)
  refine fr_iconst h dX12_refusesCursor_6 ?_
  refine fr_icmp_ne (tgt := 15) h dX12_refusesCursor_7 (by decide) (by omega) (by omega) (fun c5 => ?_) (fun c5 => ?_)
  ·
    refine fr_aload_n h rfl 0 rfl dX12_refusesCursor_15 ?_
    refine fr_getc (z := 22) (iz := 34) h kX12 fX12_75 at_0M rfl rfl rfM_34 (by omega) dX12_refusesCursor_16 ?_
    refine fr_iload_n h rfl 1 rfl dX12_refusesCursor_19 ?_
    refine fr_iald h arM_22 (by omega) (by omega) (rrM_22 p) dX12_refusesCursor_20 (fun z6 w7 w8 q9 => ?_)
    refine fr_aload_n h rfl 0 rfl dX12_refusesCursor_21 ?_
    refine fr_geti (iz := 21) h kX12 fX12_201 at_0M rfl rfl (by decide) (by decide) rfM_21 dX12_refusesCursor_22 (fun z10 w11 w12 q13 => ?_)
    refine fr_icmp_eq (tgt := 33) h dX12_refusesCursor_25 (by decide) (by omega) (by omega) (fun c14 => ?_) (fun c14 => ?_)
    ·
      refine fr_iconst h dX12_refusesCursor_33 ?_
      exact fr_iret h hq (by omega) ⟨(by omega), (by omega), (by omega), rfl⟩ dX12_refusesCursor_34
    ·
      refine fr_bipush h rfl dX12_refusesCursor_28 ?_
      refine fr_goto (tgt := 34) h dX12_refusesCursor_30 (by decide) ?_
      exact fr_iret h hq (by omega) ⟨(by omega), (by omega), (by omega), rfl⟩ dX12_refusesCursor_34
  ·
    refine fr_bipush h rfl dX12_refusesCursor_10 ?_
    refine fr_goto (tgt := 34) h dX12_refusesCursor_12 (by decide) ?_
    exact fr_iret h hq (by omega) ⟨(by omega), (by omega), (by omega), rfl⟩ dX12_refusesCursor_34
set_option maxHeartbeats 200000 in
theorem c_X12_opens (x : Mm) (t : Int) (p : Int) (w : Int) (h_p : fm_r p) (h_w : fm_r w) (e0 : GI x) (e1 : CU t x) (e2 : 0 ≤ t) (e3 : t ≤ 512) : CnI YM yX12_opens cX12_opens 3 .int 207 6248 (fun G => [vr G 0, vi p, vi w]) x (fun z y' => (y' 0 5 = 0) ∧ (CU (t + 1) y') ∧ (GI y') ∧ (∀ a : Int, (a < 0 ∨ 0 < a) → (a < 20 ∨ 22 < a) → (a < 7 ∨ 7 < a) → (a < 12 ∨ 18 < a) → y' a = x a) ∧ (∀ i : Int, i ≠ 5 → i ≠ 6 → i ≠ 7 → i ≠ 8 → i ≠ 9 → i ≠ 10 → i ≠ 15 → i ≠ 26 → y' 0 i = x 0 i)) := by
  refine cn_I (by decide) (fun _ => Nat.le_of_ble_eq_true rfl) (fun G C h hq => ?_)
  have h : OK YM G C cX12_opens RX12 3 (some .int) 207 6248 := h
  show FW YM G C 3 x 0 [(0, vr G 0), (1, vi p), (2, vi w)] []
  have e12 := e0.2.2.2
  refine fr_aload_n h rfl 0 rfl dX12_opens_0 ?_
  refine fr_iconst h dX12_opens_1 ?_
  refine fr_puti (iz := 5) h kX12 fX12_94 at_0M rfl rfl (by decide) (by decide) rfl (by decide +kernel) rfM_5 (by omega) (by omega) dX12_opens_2 ?_
  refine fr_mem (fun x1 m2 => ?_)
  refine fr_iload_n h rfl 1 rfl dX12_opens_5 ?_
  refine fr_iconst h dX12_opens_6 ?_
  refine fr_iconst h dX12_opens_7 ?_
  refine fr_csI h wX12_in lX12_101 (c_X12_in x1 p 0 2 (by omega) (by omega) (by omega)) rfl (by decide) (by decide) rfl (Nat.le_of_ble_eq_true rfl) dX12_opens_8 (fun z4 x3 w5 p6 => ?_)
  obtain ⟨p7, p8, y9⟩ := p6
  rw [y9]
  clear y9
  refine fr_if_eq (tgt := 21) h dX12_opens_11 (by decide) (by omega) (fun c10 => ?_) (fun c10 => ?_)
  ·
    refine fr_iconst h dX12_opens_21 ?_
    have r11 := (fm_rd_s m2)
    have r12 := (fm_rd_i (a := 0) (b := 21) m2 (by decide))
    have r13 := (fm_rd_i (a := 0) (b := 12) m2 (by decide))
    exact fr_iret h hq (by omega) ⟨(by omega), (CU_id e1 (by omega) (fm_up_row m2 (by omega)) (fm_up_row m2 (by omega)) (fm_up_row m2 (by omega)) (fm_up_row m2 (by omega))), ⟨(by rw [show x1 1 = x 1 from (fm_up_row m2 (by omega))]; exact e0.1), (by rw [show x1 8 = x 8 from (fm_up_row m2 (by omega))]; exact e0.2.1), (by rw [show x1 26 = x 26 from (fm_up_row m2 (by omega))]; exact e0.2.2.1), (by have := e0.2.2.2; omega)⟩, (fun a k0 k1 k2 k3 => (fm_up_row m2 (by omega))), (fun i k0 k1 k2 k3 k4 k5 k6 k7 => (fm_rd_i (a := 0) (b := i) m2 (by omega)))⟩ dX12_opens_22
  ·
    refine fr_iload_n h rfl 2 rfl dX12_opens_14 ?_
    refine fr_csI h wX12_isKind lX12_324 (c_X12_isKind x1 w (by omega)) rfl (by decide) (by decide) rfl (Nat.le_of_ble_eq_true rfl) dX12_opens_15 (fun z15 x14 w16 p17 => ?_)
    obtain ⟨p18, p19, y20⟩ := p17
    rw [y20]
    clear y20
    refine fr_if_ne (tgt := 23) h dX12_opens_18 (by decide) (by omega) (fun c21 => ?_) (fun c21 => ?_)
    ·
      refine fr_aload_n h rfl 0 rfl dX12_opens_23 ?_
      refine fr_getc (z := 20) (iz := 32) h kX12 fX12_69 at_0M rfl rfl rfM_32 (by omega) dX12_opens_24 ?_
      refine fr_iload_n h rfl 1 rfl dX12_opens_27 ?_
      refine fr_iload_n h rfl 2 rfl dX12_opens_28 ?_
      refine fr_iast h arM_20 (by omega) (by omega) (rrM_20 p) (by omega) (by omega) dX12_opens_29 ?_
      refine fr_mem (fun x22 m23 => ?_)
      refine fr_aload_n h rfl 0 rfl dX12_opens_30 ?_
      refine fr_getc (z := 21) (iz := 33) h kX12 fX12_72 at_0M rfl rfl rfM_33 (by omega) dX12_opens_31 ?_
      refine fr_iload_n h rfl 1 rfl dX12_opens_34 ?_
      refine fr_iconst h dX12_opens_35 ?_
      refine fr_iast h arM_21 (by omega) (by omega) (rrM_21 p) (by omega) (by omega) dX12_opens_36 ?_
      refine fr_mem (fun x24 m25 => ?_)
      refine fr_aload_n h rfl 0 rfl dX12_opens_37 ?_
      refine fr_getc (z := 22) (iz := 34) h kX12 fX12_75 at_0M rfl rfl rfM_34 (by omega) dX12_opens_38 ?_
      refine fr_iload_n h rfl 1 rfl dX12_opens_41 ?_
      refine fr_aload_n h rfl 0 rfl dX12_opens_42 ?_
      refine fr_geti (iz := 21) h kX12 fX12_201 at_0M rfl rfl (by decide) (by decide) rfM_21 dX12_opens_43 (fun z26 w27 w28 q29 => ?_)
      have r30 := q29.trans (fm_rd_k (a := 0) (b := 21) m25 (by omega))
      have r31 := r30.trans (fm_rd_k (a := 0) (b := 21) m23 (by omega))
      have r32 := r31.trans (fm_rd_i (a := 0) (b := 21) m2 (by decide))
      refine fr_iast h arM_22 (by omega) (by omega) (rrM_22 p) (by omega) (by omega) dX12_opens_46 ?_
      refine fr_mem (fun x33 m34 => ?_)
      refine fr_aload_n h rfl 0 rfl dX12_opens_47 ?_
      refine fr_aload_n h rfl 0 rfl dX12_opens_48 ?_
      refine fr_getc (z := 1) (iz := 0) h kX12 fX12_9 at_0M rfl rfl rfM_0 (by omega) dX12_opens_49 ?_
      refine fr_iload_n h rfl 2 rfl dX12_opens_52 ?_
      refine fr_cvI h kX12 at_0M wX12_layAll lX12_327 (c_X12_layAll x33 1 SA_1 w (by omega) (by rw [show x33 1 = x24 1 from (fm_up_row m34 (by omega))]; exact (by rw [show x24 1 = x22 1 from (fm_up_row m25 (by omega))]; exact (by rw [show x22 1 = x1 1 from (fm_up_row m23 (by omega))]; exact (by rw [show x1 1 = x 1 from (fm_up_row m2 (by omega))]; exact e0.1))))) rfl (by decide) (by decide) rfl (Nat.le_of_ble_eq_true rfl) dX12_opens_53 (fun z36 x35 w37 p38 => ?_)
      obtain ⟨p39, p40, p41, p42, p43, p44, f45, f46⟩ := p38
      have h1r : x33 1 = x 1 := ((fm_up_row m34 (by omega)).trans ((fm_up_row m25 (by omega)).trans ((fm_up_row m23 (by omega)).trans (fm_up_row m2 (by omega)))))
      rw [h1r] at p42 p43
      have r47 := (f46 5 (by decide) (by decide) (by decide) (by decide) (by decide) (by decide) (by decide))
      have r48 := r47.trans (fm_rd_k (a := 0) (b := 5) m34 (by omega))
      have r49 := r48.trans (fm_rd_k (a := 0) (b := 5) m25 (by omega))
      have r50 := r49.trans (fm_rd_k (a := 0) (b := 5) m23 (by omega))
      have r51 := r50.trans (fm_rd_s m2)
      have r52 := (congrFun (f45 20 (by omega) (by omega) (by omega)) p)
      have r53 := r52.trans (fm_rd_k (a := 20) (b := p) m34 (by omega))
      have r54 := r53.trans (fm_rd_k (a := 20) (b := p) m25 (by omega))
      have r55 := r54.trans (fm_rd_s m23)
      have r56 := (congrFun (f45 21 (by omega) (by omega) (by omega)) p)
      have r57 := r56.trans (fm_rd_k (a := 21) (b := p) m34 (by omega))
      have r58 := r57.trans (fm_rd_s m25)
      have r59 := (congrFun (f45 22 (by omega) (by omega) (by omega)) p)
      have r60 := r59.trans (fm_rd_s m34)
      have r61 := (f46 21 (by decide) (by decide) (by decide) (by decide) (by decide) (by decide) (by decide))
      have r62 := r61.trans (fm_rd_k (a := 0) (b := 21) m34 (by omega))
      have r63 := r62.trans (fm_rd_k (a := 0) (b := 21) m25 (by omega))
      have r64 := r63.trans (fm_rd_k (a := 0) (b := 21) m23 (by omega))
      have r65 := r64.trans (fm_rd_i (a := 0) (b := 21) m2 (by decide))
      have r66 := (f46 12 (by decide) (by decide) (by decide) (by decide) (by decide) (by decide) (by decide))
      have r67 := r66.trans (fm_rd_k (a := 0) (b := 12) m34 (by omega))
      have r68 := r67.trans (fm_rd_k (a := 0) (b := 12) m25 (by omega))
      have r69 := r68.trans (fm_rd_k (a := 0) (b := 12) m23 (by omega))
      have r70 := r69.trans (fm_rd_i (a := 0) (b := 12) m2 (by decide))
      exact fr_iret h hq (by omega) ⟨(by omega), (CU_set (p := p) e1 (by omega) ((f45 1 (by omega) (by omega) (by omega)).trans ((fm_up_row m34 (by omega)).trans ((fm_up_row m25 (by omega)).trans ((fm_up_row m23 (by omega)).trans (fm_up_row m2 (by omega)))))) (fun j hj => ((congrFun (f45 20 (by omega) (by omega) (by omega)) j).trans ((fm_rd_k (a := 20) (b := j) m34 (by omega)).trans ((fm_rd_k (a := 20) (b := j) m25 (by omega)).trans ((fm_rd_i (a := 20) (b := j) m23 (by omega)).trans ((fm_rd_k (a := 20) (b := j) m2 (by omega)))))))) (fun j hj => ((congrFun (f45 21 (by omega) (by omega) (by omega)) j).trans ((fm_rd_k (a := 21) (b := j) m34 (by omega)).trans ((fm_rd_i (a := 21) (b := j) m25 (by omega)).trans ((fm_rd_k (a := 21) (b := j) m23 (by omega)).trans ((fm_rd_k (a := 21) (b := j) m2 (by omega)))))))) (fun j hj => ((congrFun (f45 22 (by omega) (by omega) (by omega)) j).trans ((fm_rd_i (a := 22) (b := j) m34 (by omega)).trans ((fm_rd_k (a := 22) (b := j) m25 (by omega)).trans ((fm_rd_k (a := 22) (b := j) m23 (by omega)).trans ((fm_rd_k (a := 22) (b := j) m2 (by omega)))))))) (by rw [show x35 20 p = w from (by omega), show x35 21 p = 0 from (by omega)]; exact cap_sk (N := z36) p42 p43 p44 (by omega) (by omega)) (by omega)), ⟨(by rw [show x35 1 = x33 1 from (f45 1 (by omega) (by omega) (by omega))]; exact (by rw [show x33 1 = x24 1 from (fm_up_row m34 (by omega))]; exact (by rw [show x24 1 = x22 1 from (fm_up_row m25 (by omega))]; exact (by rw [show x22 1 = x1 1 from (fm_up_row m23 (by omega))]; exact (by rw [show x1 1 = x 1 from (fm_up_row m2 (by omega))]; exact e0.1))))), (by rw [show x35 8 = x 8 from ((f45 8 (by omega) (by omega) (by omega)).trans ((fm_up_row m34 (by omega)).trans ((fm_up_row m25 (by omega)).trans ((fm_up_row m23 (by omega)).trans (fm_up_row m2 (by omega))))))]; exact e0.2.1), (by rw [show x35 26 = x 26 from ((f45 26 (by omega) (by omega) (by omega)).trans ((fm_up_row m34 (by omega)).trans ((fm_up_row m25 (by omega)).trans ((fm_up_row m23 (by omega)).trans (fm_up_row m2 (by omega))))))]; exact e0.2.2.1), (by have := e0.2.2.2; omega)⟩, (fun a k0 k1 k2 k3 => ((f45 a (by omega) (by omega) (by omega)).trans ((fm_up_row m34 (by omega)).trans ((fm_up_row m25 (by omega)).trans ((fm_up_row m23 (by omega)).trans (fm_up_row m2 (by omega))))))), (fun i k0 k1 k2 k3 k4 k5 k6 k7 => ((f46 i (by omega) (by omega) (by omega) (by omega) (by omega) (by omega) (by omega)).trans ((fm_rd_k (a := 0) (b := i) m34 (by omega)).trans ((fm_rd_k (a := 0) (b := i) m25 (by omega)).trans ((fm_rd_k (a := 0) (b := i) m23 (by omega)).trans (fm_rd_i (a := 0) (b := i) m2 (by omega)))))))⟩ dX12_opens_56
    ·
      refine fr_iconst h dX12_opens_21 ?_
      have r71 := (fm_rd_s m2)
      have r72 := (fm_rd_i (a := 0) (b := 21) m2 (by decide))
      have r73 := (fm_rd_i (a := 0) (b := 12) m2 (by decide))
      exact fr_iret h hq (by omega) ⟨(by omega), (CU_id e1 (by omega) (fm_up_row m2 (by omega)) (fm_up_row m2 (by omega)) (fm_up_row m2 (by omega)) (fm_up_row m2 (by omega))), ⟨(by rw [show x1 1 = x 1 from (fm_up_row m2 (by omega))]; exact e0.1), (by rw [show x1 8 = x 8 from (fm_up_row m2 (by omega))]; exact e0.2.1), (by rw [show x1 26 = x 26 from (fm_up_row m2 (by omega))]; exact e0.2.2.1), (by have := e0.2.2.2; omega)⟩, (fun a k0 k1 k2 k3 => (fm_up_row m2 (by omega))), (fun i k0 k1 k2 k3 k4 k5 k6 k7 => (fm_rd_i (a := 0) (b := i) m2 (by omega)))⟩ dX12_opens_22
set_option maxHeartbeats 1000000 in
theorem c_X12_goes (x : Mm) (t : Int) (p : Int) (h_p : fm_r p) (e0 : GI x) (e1 : CU t x) (e2 : 0 ≤ t) (e3 : t ≤ 512) : CnI YM yX12_goes cX12_goes 3 .int 207 6248 (fun G => [vr G 0, vi p]) x (fun z y' => (y' 0 5 = 0) ∧ (CU (t + 1) y') ∧ (GI y') ∧ (∀ a : Int, (a < 0 ∨ 0 < a) → (a < 3 ∨ 3 < a) → (a < 21 ∨ 21 < a) → (a < 7 ∨ 7 < a) → (a < 12 ∨ 18 < a) → y' a = x a) ∧ (∀ i : Int, i ≠ 4 → i ≠ 5 → i ≠ 6 → i ≠ 7 → i ≠ 8 → i ≠ 9 → i ≠ 10 → i ≠ 15 → i ≠ 26 → y' 0 i = x 0 i)) := by
  refine cn_I (by decide) (fun _ => Nat.le_of_ble_eq_true rfl) (fun G C h hq => ?_)
  have h : OK YM G C cX12_goes RX12 3 (some .int) 207 6248 := h
  show FW YM G C 3 x 0 [(0, vr G 0), (1, vi p)] []
  have e12 := e0.2.2.2
  refine fr_aload_n h rfl 0 rfl dX12_goes_0 ?_
  refine fr_iconst h dX12_goes_1 ?_
  refine fr_puti (iz := 5) h kX12 fX12_94 at_0M rfl rfl (by decide) (by decide) rfl (by decide +kernel) rfM_5 (by omega) (by omega) dX12_goes_2 ?_
  refine fr_mem (fun x1 m2 => ?_)
  refine fr_iload_n h rfl 1 rfl dX12_goes_5 ?_
  refine fr_iconst h dX12_goes_6 ?_
  refine fr_iconst h dX12_goes_7 ?_
  refine fr_csI h wX12_in lX12_101 (c_X12_in x1 p 0 2 (by omega) (by omega) (by omega)) rfl (by decide) (by decide) rfl (Nat.le_of_ble_eq_true rfl) dX12_goes_8 (fun z4 x3 w5 p6 => ?_)
  obtain ⟨p7, p8, y9⟩ := p6
  rw [y9]
  clear y9
  refine fr_if_ne (tgt := 16) h dX12_goes_11 (by decide) (by omega) (fun c10 => ?_) (fun c10 => ?_)
  ·
    refine fr_aload_n h rfl 0 rfl dX12_goes_16 ?_
    refine fr_iload_n h rfl 1 rfl dX12_goes_17 ?_
    refine fr_cvI h kX12 at_0M wX12_refusesCursor lX12_342 (c_X12_refusesCursor x1 p (by omega) (by omega) (by omega)) rfl (by decide) (by decide) rfl (Nat.le_of_ble_eq_true rfl) dX12_goes_18 (fun z12 x11 w13 p14 => ?_)
    obtain ⟨p15, p16, p17, y18⟩ := p14
    rw [y18]
    clear y18
    refine fr_istore_n (L' := [(0, vr G 0), (1, vi p), (2, vi z12)]) h rfl dX12_goes_21 (by decide) [1, 2, 0] rfl ?_
    refine fr_iload_n h rfl 2 rfl dX12_goes_22 ?_
    refine fr_if_ge (tgt := 28) h dX12_goes_23 (by decide) (by omega) (fun c19 => ?_) (fun c19 => ?_)
    ·
      have r20 := (fm_rd_k (a := 20) (b := p) m2 (by omega))
      have r21 := (fm_rd_k (a := 22) (b := p) m2 (by omega))
      have r22 := (fm_rd_i (a := 0) (b := 21) m2 (by decide))
      have hcu := e1 p (by omega) (by omega)
      refine fr_aload_n h rfl 0 rfl dX12_goes_28 ?_
      refine fr_aload_n h rfl 0 rfl dX12_goes_29 ?_
      refine fr_getc (z := 1) (iz := 0) h kX12 fX12_9 at_0M rfl rfl rfM_0 (by omega) dX12_goes_30 ?_
      refine fr_aload_n h rfl 0 rfl dX12_goes_33 ?_
      refine fr_getc (z := 20) (iz := 32) h kX12 fX12_69 at_0M rfl rfl rfM_32 (by omega) dX12_goes_34 ?_
      refine fr_iload_n h rfl 1 rfl dX12_goes_37 ?_
      refine fr_iald h arM_20 (by omega) (by omega) (rrM_20 p) dX12_goes_38 (fun z23 w24 w25 q26 => ?_)
      have r27 := q26.trans (fm_rd_k (a := 20) (b := p) m2 (by omega))
      have hkk : z23 = x 20 p := by omega
      refine fr_cvI h kX12 at_0M wX12_layAll lX12_327 (c_X12_layAll x1 1 SA_1 z23 (by omega) (by rw [show x1 1 = x 1 from (fm_up_row m2 (by omega))]; exact e0.1)) rfl (by decide) (by decide) rfl (Nat.le_of_ble_eq_true rfl) dX12_goes_39 (fun z29 x28 w30 p31 => ?_)
      obtain ⟨p32, p33, p34, p35, p36, p37, f38, f39⟩ := p31
      have h1r : x1 1 = x 1 := (fm_up_row m2 (by omega))
      rw [h1r] at p35 p36
      skip
      refine fr_aload_n h rfl 0 rfl dX12_goes_42 ?_
      refine fr_getc (z := 21) (iz := 33) h kX12 fX12_72 at_0M rfl rfl rfM_33 (by omega) dX12_goes_43 ?_
      refine fr_iload_n h rfl 1 rfl dX12_goes_46 ?_
      refine fr_iald h arM_21 (by omega) (by omega) (rrM_21 p) dX12_goes_47 (fun z40 w41 w42 q43 => ?_)
      have r44 := q43.trans (congrFun (f38 21 (by omega) (by omega) (by omega)) p)
      have r45 := r44.trans (fm_rd_k (a := 21) (b := p) m2 (by omega))
      refine fr_icmp_ne (tgt := 54) h dX12_goes_48 (by decide) (by omega) (by omega) (fun c46 => ?_) (fun c46 => ?_)
      ·
        have hgo := cap_go (t := t) (N := z29) (a := x 21 p) (k := x 20 p) (f := x 1) (by rcases hcu with q9 | q9 | q9; exfalso; omega; exfalso; omega; exact q9.2) (by rw [← hkk]; exact p35) (by rw [← hkk]; exact p36) (by omega) (by omega) (by omega)
        refine fr_aload_n h rfl 0 rfl dX12_goes_54 ?_
        refine fr_getc (z := 21) (iz := 33) h kX12 fX12_72 at_0M rfl rfl rfM_33 (by omega) dX12_goes_55 ?_
        refine fr_iload_n h rfl 1 rfl dX12_goes_58 ?_
        refine fr_dup2_11 h rfl rfl dX12_goes_59 ?_
        refine fr_iald h arM_21 (by omega) (by omega) (rrM_21 p) dX12_goes_60 (fun z47 w48 w49 q50 => ?_)
        have r51 := q50.trans (congrFun (f38 21 (by omega) (by omega) (by omega)) p)
        have r52 := r51.trans (fm_rd_k (a := 21) (b := p) m2 (by omega))
        refine fr_iconst h dX12_goes_61 ?_
        refine fr_iadd h dX12_goes_62 ?_
        refine fr_iast h arM_21 (by omega) (by omega) (rrM_21 p) (by omega) (by omega) dX12_goes_63 ?_
        refine fr_mem (fun x53 m54 => ?_)
        refine fr_aload_n h rfl 0 rfl dX12_goes_64 ?_
        refine fr_aload_n h rfl 0 rfl dX12_goes_65 ?_
        refine fr_getc (z := 21) (iz := 33) h kX12 fX12_72 at_0M rfl rfl rfM_33 (by omega) dX12_goes_66 ?_
        refine fr_iload_n h rfl 1 rfl dX12_goes_69 ?_
        refine fr_iald h arM_21 (by omega) (by omega) (rrM_21 p) dX12_goes_70 (fun z55 w56 w57 q58 => ?_)
        have r59 := q58.trans (fm_rd_s m54)
        refine fr_cvI h kX12 at_0M wX12_tellItem lX12_330 (c_X12_tellItem x53 z55 (by omega) (by omega) (by omega)) rfl (by decide) (by decide) rfl (Nat.le_of_ble_eq_true rfl) dX12_goes_71 (fun z61 x60 w62 p63 => ?_)
        obtain ⟨p64, p65, f66, f67⟩ := p63
        have r68 := (f67 5 (by decide))
        have r69 := r68.trans (fm_rd_k (a := 0) (b := 5) m54 (by omega))
        have r70 := r69.trans (f39 5 (by decide) (by decide) (by decide) (by decide) (by decide) (by decide) (by decide))
        have r71 := r70.trans (fm_rd_s m2)
        have r72 := (congrFun (f66 20 (by omega) (by omega)) p)
        have r73 := r72.trans (fm_rd_k (a := 20) (b := p) m54 (by omega))
        have r74 := r73.trans (congrFun (f38 20 (by omega) (by omega) (by omega)) p)
        have r75 := r74.trans (fm_rd_k (a := 20) (b := p) m2 (by omega))
        have r76 := (congrFun (f66 21 (by omega) (by omega)) p)
        have r77 := r76.trans (fm_rd_s m54)
        have r78 := (congrFun (f66 22 (by omega) (by omega)) p)
        have r79 := r78.trans (fm_rd_k (a := 22) (b := p) m54 (by omega))
        have r80 := r79.trans (congrFun (f38 22 (by omega) (by omega) (by omega)) p)
        have r81 := r80.trans (fm_rd_k (a := 22) (b := p) m2 (by omega))
        have r82 := (f67 21 (by decide))
        have r83 := r82.trans (fm_rd_k (a := 0) (b := 21) m54 (by omega))
        have r84 := r83.trans (f39 21 (by decide) (by decide) (by decide) (by decide) (by decide) (by decide) (by decide))
        have r85 := r84.trans (fm_rd_i (a := 0) (b := 21) m2 (by decide))
        have r86 := (f67 12 (by decide))
        have r87 := r86.trans (fm_rd_k (a := 0) (b := 12) m54 (by omega))
        have r88 := r87.trans (f39 12 (by decide) (by decide) (by decide) (by decide) (by decide) (by decide) (by decide))
        have r89 := r88.trans (fm_rd_i (a := 0) (b := 12) m2 (by decide))
        exact fr_iret h hq (by omega) ⟨(by omega), (CU_set (p := p) e1 (by omega) ((f66 1 (by omega) (by omega)).trans ((fm_up_row m54 (by omega)).trans ((f38 1 (by omega) (by omega) (by omega)).trans (fm_up_row m2 (by omega))))) (fun j hj => ((congrFun (f66 20 (by omega) (by omega)) j).trans ((fm_rd_k (a := 20) (b := j) m54 (by omega)).trans ((congrFun (f38 20 (by omega) (by omega) (by omega)) j).trans ((fm_rd_k (a := 20) (b := j) m2 (by omega))))))) (fun j hj => ((congrFun (f66 21 (by omega) (by omega)) j).trans ((fm_rd_i (a := 21) (b := j) m54 (by omega)).trans ((congrFun (f38 21 (by omega) (by omega) (by omega)) j).trans ((fm_rd_k (a := 21) (b := j) m2 (by omega))))))) (fun j hj => ((congrFun (f66 22 (by omega) (by omega)) j).trans ((fm_rd_k (a := 22) (b := j) m54 (by omega)).trans ((congrFun (f38 22 (by omega) (by omega) (by omega)) j).trans ((fm_rd_k (a := 22) (b := j) m2 (by omega))))))) (by rw [show x60 20 p = x 20 p from (by omega), show x60 21 p = x 21 p + 1 from (by omega)]; exact hgo.2) (by omega)), ⟨(by rw [show x60 1 = x53 1 from (f66 1 (by omega) (by omega))]; exact (by rw [show x53 1 = x28 1 from (fm_up_row m54 (by omega))]; exact (by rw [show x28 1 = x1 1 from (f38 1 (by omega) (by omega) (by omega))]; exact (by rw [show x1 1 = x 1 from (fm_up_row m2 (by omega))]; exact e0.1)))), (by rw [show x60 8 = x 8 from ((f66 8 (by omega) (by omega)).trans ((fm_up_row m54 (by omega)).trans ((f38 8 (by omega) (by omega) (by omega)).trans (fm_up_row m2 (by omega)))))]; exact e0.2.1), (by rw [show x60 26 = x 26 from ((f66 26 (by omega) (by omega)).trans ((fm_up_row m54 (by omega)).trans ((f38 26 (by omega) (by omega) (by omega)).trans (fm_up_row m2 (by omega)))))]; exact e0.2.2.1), (by have := e0.2.2.2; omega)⟩, (fun a k0 k1 k2 k3 k4 => ((f66 a (by omega) (by omega)).trans ((fm_up_row m54 (by omega)).trans ((f38 a (by omega) (by omega) (by omega)).trans (fm_up_row m2 (by omega)))))), (fun i k0 k1 k2 k3 k4 k5 k6 k7 k8 => ((f67 i (by omega)).trans ((fm_rd_k (a := 0) (b := i) m54 (by omega)).trans ((f39 i (by omega) (by omega) (by omega) (by omega) (by omega) (by omega) (by omega)).trans (fm_rd_i (a := 0) (b := i) m2 (by omega))))))⟩ dX12_goes_74
      ·
        refine fr_bipush h rfl dX12_goes_51 ?_
        have r90 := (f39 5 (by decide) (by decide) (by decide) (by decide) (by decide) (by decide) (by decide))
        have r91 := r90.trans (fm_rd_s m2)
        have r92 := (f39 21 (by decide) (by decide) (by decide) (by decide) (by decide) (by decide) (by decide))
        have r93 := r92.trans (fm_rd_i (a := 0) (b := 21) m2 (by decide))
        have r94 := (f39 12 (by decide) (by decide) (by decide) (by decide) (by decide) (by decide) (by decide))
        have r95 := r94.trans (fm_rd_i (a := 0) (b := 12) m2 (by decide))
        exact fr_iret h hq (by omega) ⟨(by omega), (CU_id e1 (by omega) ((f38 1 (by omega) (by omega) (by omega)).trans (fm_up_row m2 (by omega))) ((f38 20 (by omega) (by omega) (by omega)).trans (fm_up_row m2 (by omega))) ((f38 21 (by omega) (by omega) (by omega)).trans (fm_up_row m2 (by omega))) ((f38 22 (by omega) (by omega) (by omega)).trans (fm_up_row m2 (by omega)))), ⟨(by rw [show x28 1 = x1 1 from (f38 1 (by omega) (by omega) (by omega))]; exact (by rw [show x1 1 = x 1 from (fm_up_row m2 (by omega))]; exact e0.1)), (by rw [show x28 8 = x 8 from ((f38 8 (by omega) (by omega) (by omega)).trans (fm_up_row m2 (by omega)))]; exact e0.2.1), (by rw [show x28 26 = x 26 from ((f38 26 (by omega) (by omega) (by omega)).trans (fm_up_row m2 (by omega)))]; exact e0.2.2.1), (by have := e0.2.2.2; omega)⟩, (fun a k0 k1 k2 k3 k4 => ((f38 a (by omega) (by omega) (by omega)).trans (fm_up_row m2 (by omega)))), (fun i k0 k1 k2 k3 k4 k5 k6 k7 k8 => ((f39 i (by omega) (by omega) (by omega) (by omega) (by omega) (by omega) (by omega)).trans (fm_rd_i (a := 0) (b := i) m2 (by omega))))⟩ dX12_goes_53
    ·
      refine fr_iload_n h rfl 2 rfl dX12_goes_26 ?_
      have r96 := (fm_rd_s m2)
      have r97 := (fm_rd_i (a := 0) (b := 21) m2 (by decide))
      have r98 := (fm_rd_i (a := 0) (b := 12) m2 (by decide))
      exact fr_iret h hq (by omega) ⟨(by omega), (CU_id e1 (by omega) (fm_up_row m2 (by omega)) (fm_up_row m2 (by omega)) (fm_up_row m2 (by omega)) (fm_up_row m2 (by omega))), ⟨(by rw [show x1 1 = x 1 from (fm_up_row m2 (by omega))]; exact e0.1), (by rw [show x1 8 = x 8 from (fm_up_row m2 (by omega))]; exact e0.2.1), (by rw [show x1 26 = x 26 from (fm_up_row m2 (by omega))]; exact e0.2.2.1), (by have := e0.2.2.2; omega)⟩, (fun a k0 k1 k2 k3 k4 => (fm_up_row m2 (by omega))), (fun i k0 k1 k2 k3 k4 k5 k6 k7 k8 => (fm_rd_i (a := 0) (b := i) m2 (by omega)))⟩ dX12_goes_27
  ·
    refine fr_iconst h dX12_goes_14 ?_
    have r99 := (fm_rd_s m2)
    have r100 := (fm_rd_i (a := 0) (b := 21) m2 (by decide))
    have r101 := (fm_rd_i (a := 0) (b := 12) m2 (by decide))
    exact fr_iret h hq (by omega) ⟨(by omega), (CU_id e1 (by omega) (fm_up_row m2 (by omega)) (fm_up_row m2 (by omega)) (fm_up_row m2 (by omega)) (fm_up_row m2 (by omega))), ⟨(by rw [show x1 1 = x 1 from (fm_up_row m2 (by omega))]; exact e0.1), (by rw [show x1 8 = x 8 from (fm_up_row m2 (by omega))]; exact e0.2.1), (by rw [show x1 26 = x 26 from (fm_up_row m2 (by omega))]; exact e0.2.2.1), (by have := e0.2.2.2; omega)⟩, (fun a k0 k1 k2 k3 k4 => (fm_up_row m2 (by omega))), (fun i k0 k1 k2 k3 k4 k5 k6 k7 k8 => (fm_rd_i (a := 0) (b := i) m2 (by omega)))⟩ dX12_goes_15
set_option maxHeartbeats 1000000 in
theorem c_X12_skips (x : Mm) (t : Int) (p : Int) (n : Int) (h_p : fm_r p) (h_n : fm_r n) (e0 : GI x) (e1 : CU t x) (e2 : 0 ≤ t) (e3 : t ≤ 512) : CnI YM yX12_skips cX12_skips 5 .int 207 6248 (fun G => [vr G 0, vi p, vi n]) x (fun z y' => (y' 0 5 = 0) ∧ (CU (t + 1) y') ∧ (GI y') ∧ (∀ a : Int, (a < 0 ∨ 0 < a) → (a < 21 ∨ 21 < a) → (a < 7 ∨ 7 < a) → (a < 12 ∨ 18 < a) → y' a = x a) ∧ (∀ i : Int, i ≠ 5 → i ≠ 6 → i ≠ 7 → i ≠ 8 → i ≠ 9 → i ≠ 10 → i ≠ 15 → i ≠ 26 → y' 0 i = x 0 i)) := by
  refine cn_I (by decide) (fun _ => Nat.le_of_ble_eq_true rfl) (fun G C h hq => ?_)
  have h : OK YM G C cX12_skips RX12 5 (some .int) 207 6248 := h
  show FW YM G C 5 x 0 [(0, vr G 0), (1, vi p), (2, vi n)] []
  have e12 := e0.2.2.2
  refine fr_aload_n h rfl 0 rfl dX12_skips_0 ?_
  refine fr_iconst h dX12_skips_1 ?_
  refine fr_puti (iz := 5) h kX12 fX12_94 at_0M rfl rfl (by decide) (by decide) rfl (by decide +kernel) rfM_5 (by omega) (by omega) dX12_skips_2 ?_
  refine fr_mem (fun x1 m2 => ?_)
  refine fr_iload_n h rfl 1 rfl dX12_skips_5 ?_
  refine fr_iconst h dX12_skips_6 ?_
  refine fr_iconst h dX12_skips_7 ?_
  refine fr_csI h wX12_in lX12_101 (c_X12_in x1 p 0 2 (by omega) (by omega) (by omega)) rfl (by decide) (by decide) rfl (Nat.le_of_ble_eq_true rfl) dX12_skips_8 (fun z4 x3 w5 p6 => ?_)
  obtain ⟨p7, p8, y9⟩ := p6
  rw [y9]
  clear y9
  refine fr_if_eq (tgt := 25) h dX12_skips_11 (by decide) (by omega) (fun c10 => ?_) (fun c10 => ?_)
  ·
    refine fr_iconst h dX12_skips_25 ?_
    have r11 := (fm_rd_s m2)
    have r12 := (fm_rd_i (a := 0) (b := 21) m2 (by decide))
    have r13 := (fm_rd_i (a := 0) (b := 12) m2 (by decide))
    exact fr_iret h hq (by omega) ⟨(by omega), (CU_id e1 (by omega) (fm_up_row m2 (by omega)) (fm_up_row m2 (by omega)) (fm_up_row m2 (by omega)) (fm_up_row m2 (by omega))), ⟨(by rw [show x1 1 = x 1 from (fm_up_row m2 (by omega))]; exact e0.1), (by rw [show x1 8 = x 8 from (fm_up_row m2 (by omega))]; exact e0.2.1), (by rw [show x1 26 = x 26 from (fm_up_row m2 (by omega))]; exact e0.2.2.1), (by have := e0.2.2.2; omega)⟩, (fun a k0 k1 k2 k3 => (fm_up_row m2 (by omega))), (fun i k0 k1 k2 k3 k4 k5 k6 k7 => (fm_rd_i (a := 0) (b := i) m2 (by omega)))⟩ dX12_skips_26
  ·
    refine fr_iload_n h rfl 2 rfl dX12_skips_14 ?_
    refine fr_iconst h dX12_skips_15 ?_
    refine fr_sipush h rfl dX12_skips_16 ?_
    refine fr_csI h wX12_in lX12_101 (c_X12_in x1 n 0 400 (by omega) (by omega) (by omega)) rfl (by decide) (by decide) rfl (Nat.le_of_ble_eq_true rfl) dX12_skips_19 (fun z15 x14 w16 p17 => ?_)
    obtain ⟨p18, p19, y20⟩ := p17
    rw [y20]
    clear y20
    refine fr_if_ne (tgt := 27) h dX12_skips_22 (by decide) (by omega) (fun c21 => ?_) (fun c21 => ?_)
    ·
      refine fr_aload_n h rfl 0 rfl dX12_skips_27 ?_
      refine fr_iload_n h rfl 1 rfl dX12_skips_28 ?_
      refine fr_cvI h kX12 at_0M wX12_refusesCursor lX12_342 (c_X12_refusesCursor x1 p (by omega) (by omega) (by omega)) rfl (by decide) (by decide) rfl (Nat.le_of_ble_eq_true rfl) dX12_skips_29 (fun z23 x22 w24 p25 => ?_)
      obtain ⟨p26, p27, p28, y29⟩ := p25
      rw [y29]
      clear y29
      refine fr_istore_n (L' := [(0, vr G 0), (1, vi p), (2, vi n), (3, vi z23)]) h rfl dX12_skips_32 (by decide) [1, 2, 3, 0] rfl ?_
      refine fr_iload_n h rfl 3 rfl dX12_skips_33 ?_
      refine fr_if_ge (tgt := 39) h dX12_skips_34 (by decide) (by omega) (fun c30 => ?_) (fun c30 => ?_)
      ·
        refine fr_aload_n h rfl 0 rfl dX12_skips_39 ?_
        refine fr_aload_n h rfl 0 rfl dX12_skips_40 ?_
        refine fr_getc (z := 1) (iz := 0) h kX12 fX12_9 at_0M rfl rfl rfM_0 (by omega) dX12_skips_41 ?_
        refine fr_aload_n h rfl 0 rfl dX12_skips_44 ?_
        refine fr_getc (z := 20) (iz := 32) h kX12 fX12_69 at_0M rfl rfl rfM_32 (by omega) dX12_skips_45 ?_
        refine fr_iload_n h rfl 1 rfl dX12_skips_48 ?_
        refine fr_iald h arM_20 (by omega) (by omega) (rrM_20 p) dX12_skips_49 (fun z31 w32 w33 q34 => ?_)
        have r35 := q34.trans (fm_rd_k (a := 20) (b := p) m2 (by omega))
        have hkk : z31 = x 20 p := by omega
        refine fr_cvI h kX12 at_0M wX12_layAll lX12_327 (c_X12_layAll x1 1 SA_1 z31 (by omega) (by rw [show x1 1 = x 1 from (fm_up_row m2 (by omega))]; exact e0.1)) rfl (by decide) (by decide) rfl (Nat.le_of_ble_eq_true rfl) dX12_skips_50 (fun z37 x36 w38 p39 => ?_)
        obtain ⟨p40, p41, p42, p43, p44, p45, f46, f47⟩ := p39
        have h1r : x1 1 = x 1 := (fm_up_row m2 (by omega))
        rw [h1r] at p43 p44
        refine fr_istore (L' := [(0, vr G 0), (1, vi p), (2, vi n), (3, vi z23), (4, vi z37)]) h dX12_skips_53 (by decide) [1, 2, 3, 4, 0] rfl ?_
        refine fr_aload_n h rfl 0 rfl dX12_skips_55 ?_
        refine fr_getc (z := 21) (iz := 33) h kX12 fX12_72 at_0M rfl rfl rfM_33 (by omega) dX12_skips_56 ?_
        refine fr_iload_n h rfl 1 rfl dX12_skips_59 ?_
        refine fr_iload h 4 rfl dX12_skips_60 ?_
        refine fr_aload_n h rfl 0 rfl dX12_skips_62 ?_
        refine fr_getc (z := 21) (iz := 33) h kX12 fX12_72 at_0M rfl rfl rfM_33 (by omega) dX12_skips_63 ?_
        refine fr_iload_n h rfl 1 rfl dX12_skips_66 ?_
        refine fr_iald h arM_21 (by omega) (by omega) (rrM_21 p) dX12_skips_67 (fun z48 w49 w50 q51 => ?_)
        have r52 := q51.trans (congrFun (f46 21 (by omega) (by omega) (by omega)) p)
        have r53 := r52.trans (fm_rd_k (a := 21) (b := p) m2 (by omega))
        refine fr_iload_n h rfl 2 rfl dX12_skips_68 ?_
        refine fr_iadd h dX12_skips_69 ?_
        refine fr_mmin h (by omega) (by omega) (tb_6 (i := 215) (by decide +kernel) (by decide +kernel)) w_mmin (by decide) (by decide) (Nat.le_of_ble_eq_true rfl) dX12_skips_70 (fun z54 w55 w56 w57 => ?_)
        refine fr_iast h arM_21 (by omega) (by omega) (rrM_21 p) (by omega) (by omega) dX12_skips_73 ?_
        refine fr_mem (fun x58 m59 => ?_)
        refine fr_iload h 4 rfl dX12_skips_74 ?_
        refine fr_aload_n h rfl 0 rfl dX12_skips_76 ?_
        refine fr_getc (z := 21) (iz := 33) h kX12 fX12_72 at_0M rfl rfl rfM_33 (by omega) dX12_skips_77 ?_
        refine fr_iload_n h rfl 1 rfl dX12_skips_80 ?_
        refine fr_iald h arM_21 (by omega) (by omega) (rrM_21 p) dX12_skips_81 (fun z60 w61 w62 q63 => ?_)
        have r64 := q63.trans (fm_rd_s m59)
        refine fr_isub h dX12_skips_82 ?_
        have r65 := (fm_rd_k (a := 0) (b := 5) m59 (by omega))
        have r66 := r65.trans (f47 5 (by decide) (by decide) (by decide) (by decide) (by decide) (by decide) (by decide))
        have r67 := r66.trans (fm_rd_s m2)
        have r68 := (fm_rd_k (a := 20) (b := p) m59 (by omega))
        have r69 := r68.trans (congrFun (f46 20 (by omega) (by omega) (by omega)) p)
        have r70 := r69.trans (fm_rd_k (a := 20) (b := p) m2 (by omega))
        have r71 := (fm_rd_s m59)
        have r72 := (fm_rd_k (a := 22) (b := p) m59 (by omega))
        have r73 := r72.trans (congrFun (f46 22 (by omega) (by omega) (by omega)) p)
        have r74 := r73.trans (fm_rd_k (a := 22) (b := p) m2 (by omega))
        have r75 := (fm_rd_k (a := 0) (b := 21) m59 (by omega))
        have r76 := r75.trans (f47 21 (by decide) (by decide) (by decide) (by decide) (by decide) (by decide) (by decide))
        have r77 := r76.trans (fm_rd_i (a := 0) (b := 21) m2 (by decide))
        have r78 := (fm_rd_k (a := 0) (b := 12) m59 (by omega))
        have r79 := r78.trans (f47 12 (by decide) (by decide) (by decide) (by decide) (by decide) (by decide) (by decide))
        have r80 := r79.trans (fm_rd_i (a := 0) (b := 12) m2 (by decide))
        exact fr_iret h hq (by omega) ⟨(by omega), (CU_set (p := p) e1 (by omega) ((fm_up_row m59 (by omega)).trans ((f46 1 (by omega) (by omega) (by omega)).trans (fm_up_row m2 (by omega)))) (fun j hj => ((fm_rd_k (a := 20) (b := j) m59 (by omega)).trans ((congrFun (f46 20 (by omega) (by omega) (by omega)) j).trans ((fm_rd_k (a := 20) (b := j) m2 (by omega)))))) (fun j hj => ((fm_rd_i (a := 21) (b := j) m59 (by omega)).trans ((congrFun (f46 21 (by omega) (by omega) (by omega)) j).trans ((fm_rd_k (a := 21) (b := j) m2 (by omega)))))) (fun j hj => ((fm_rd_k (a := 22) (b := j) m59 (by omega)).trans ((congrFun (f46 22 (by omega) (by omega) (by omega)) j).trans ((fm_rd_k (a := 22) (b := j) m2 (by omega)))))) (by rw [show x58 20 p = x 20 p from (by omega), ← hkk]; exact cap_sk (N := z37) p43 p44 p45 (by omega) (by omega)) (by omega)), ⟨(by rw [show x58 1 = x36 1 from (fm_up_row m59 (by omega))]; exact (by rw [show x36 1 = x1 1 from (f46 1 (by omega) (by omega) (by omega))]; exact (by rw [show x1 1 = x 1 from (fm_up_row m2 (by omega))]; exact e0.1))), (by rw [show x58 8 = x 8 from ((fm_up_row m59 (by omega)).trans ((f46 8 (by omega) (by omega) (by omega)).trans (fm_up_row m2 (by omega))))]; exact e0.2.1), (by rw [show x58 26 = x 26 from ((fm_up_row m59 (by omega)).trans ((f46 26 (by omega) (by omega) (by omega)).trans (fm_up_row m2 (by omega))))]; exact e0.2.2.1), (by have := e0.2.2.2; omega)⟩, (fun a k0 k1 k2 k3 => ((fm_up_row m59 (by omega)).trans ((f46 a (by omega) (by omega) (by omega)).trans (fm_up_row m2 (by omega))))), (fun i k0 k1 k2 k3 k4 k5 k6 k7 => ((fm_rd_k (a := 0) (b := i) m59 (by omega)).trans ((f47 i (by omega) (by omega) (by omega) (by omega) (by omega) (by omega) (by omega)).trans (fm_rd_i (a := 0) (b := i) m2 (by omega)))))⟩ dX12_skips_83
      ·
        refine fr_iload_n h rfl 3 rfl dX12_skips_37 ?_
        have r81 := (fm_rd_s m2)
        have r82 := (fm_rd_i (a := 0) (b := 21) m2 (by decide))
        have r83 := (fm_rd_i (a := 0) (b := 12) m2 (by decide))
        exact fr_iret h hq (by omega) ⟨(by omega), (CU_id e1 (by omega) (fm_up_row m2 (by omega)) (fm_up_row m2 (by omega)) (fm_up_row m2 (by omega)) (fm_up_row m2 (by omega))), ⟨(by rw [show x1 1 = x 1 from (fm_up_row m2 (by omega))]; exact e0.1), (by rw [show x1 8 = x 8 from (fm_up_row m2 (by omega))]; exact e0.2.1), (by rw [show x1 26 = x 26 from (fm_up_row m2 (by omega))]; exact e0.2.2.1), (by have := e0.2.2.2; omega)⟩, (fun a k0 k1 k2 k3 => (fm_up_row m2 (by omega))), (fun i k0 k1 k2 k3 k4 k5 k6 k7 => (fm_rd_i (a := 0) (b := i) m2 (by omega)))⟩ dX12_skips_38
    ·
      refine fr_iconst h dX12_skips_25 ?_
      have r84 := (fm_rd_s m2)
      have r85 := (fm_rd_i (a := 0) (b := 21) m2 (by decide))
      have r86 := (fm_rd_i (a := 0) (b := 12) m2 (by decide))
      exact fr_iret h hq (by omega) ⟨(by omega), (CU_id e1 (by omega) (fm_up_row m2 (by omega)) (fm_up_row m2 (by omega)) (fm_up_row m2 (by omega)) (fm_up_row m2 (by omega))), ⟨(by rw [show x1 1 = x 1 from (fm_up_row m2 (by omega))]; exact e0.1), (by rw [show x1 8 = x 8 from (fm_up_row m2 (by omega))]; exact e0.2.1), (by rw [show x1 26 = x 26 from (fm_up_row m2 (by omega))]; exact e0.2.2.1), (by have := e0.2.2.2; omega)⟩, (fun a k0 k1 k2 k3 => (fm_up_row m2 (by omega))), (fun i k0 k1 k2 k3 k4 k5 k6 k7 => (fm_rd_i (a := 0) (b := i) m2 (by omega)))⟩ dX12_skips_26
