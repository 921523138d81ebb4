set_option maxHeartbeats 200000 in
theorem c_X12_puts (x : Mm) (p : Int) (v : Int) (h_p : fm_r p) (h_v : fm_r v) (e0 : GI x) : CnI YM yX12_puts cX12_puts 4 .int 3 64 (fun G => [vr G 0, vi p, vi v]) x (fun z y' => (y' 0 5 = 0) ∧ (GI y') ∧ (∀ a : Int, (a < 0 ∨ 0 < a) → (a < 1 ∨ 1 < a) → (a < 8 ∨ 8 < a) → y' a = x a) ∧ (∀ i : Int, i ≠ 5 → i ≠ 18 → i ≠ 21 → y' 0 i = x 0 i)) := by
  refine cn_I (by decide) (fun _ => Nat.le_of_ble_eq_true rfl) (fun G C h hq => ?_)
  have h : OK YM G C cX12_puts RX12 4 (some .int) 3 64 := h
  show FW YM G C 4 x 0 [(0, vr G 0), (1, vi p), (2, vi v)] []
  have e12 := e0.2.2.2
  refine fr_aload_n h rfl 0 rfl dX12_puts_0 ?_
  refine fr_iconst h dX12_puts_1 ?_
  refine fr_puti (iz := 5) h kX12 fX12_94 at_0M rfl rfl (by decide) (by decide) rfl (by decide +kernel) rfM_5 (by omega) (by omega) dX12_puts_2 ?_
  refine fr_mem (fun x1 m2 => ?_)
  refine fr_aload_n h rfl 0 rfl dX12_puts_5 ?_
  refine fr_getc (z := 1) (iz := 0) h kX12 fX12_9 at_0M rfl rfl rfM_0 (by omega) dX12_puts_6 ?_
  refine fr_iload_n h rfl 1 rfl dX12_puts_9 ?_
  refine fr_iload_n h rfl 2 rfl dX12_puts_10 ?_
  refine fr_csI h wX12_refusesPut lX12_235 (c_X12_refusesPut x1 1 SA_1 p v (by omega) (by omega)) rfl (by decide) (by decide) rfl (Nat.le_of_ble_eq_true rfl) dX12_puts_11 (fun z4 x3 w5 p6 => ?_)
  obtain ⟨p7, p8, p9, y10⟩ := p6
  rw [y10]
  clear y10
  refine fr_istore_n (L' := [(0, vr G 0), (1, vi p), (2, vi v), (3, vi z4)]) h rfl dX12_puts_14 (by decide) [1, 2, 3, 0] rfl ?_
  refine fr_iload_n h rfl 3 rfl dX12_puts_15 ?_
  refine fr_if_ge (tgt := 21) h dX12_puts_16 (by decide) (by omega) (fun c11 => ?_) (fun c11 => ?_)
  ·
    refine fr_aload_n h rfl 0 rfl dX12_puts_21 ?_
    refine fr_aload_n h rfl 0 rfl dX12_puts_22 ?_
    refine fr_getc (z := 1) (iz := 0) h kX12 fX12_9 at_0M rfl rfl rfM_0 (by omega) dX12_puts_23 ?_
    refine fr_cvV h kX12 at_0M wX12_change lX12_165 (c_X12_change x1 1 SA_1 (by rw [show x1 8 = x 8 from (fm_up_row m2 (by omega))]; exact e0.2.1) (by rw [show x1 1 = x 1 from (fm_up_row m2 (by omega))]; exact e0.1)) rfl (by decide) (by decide) rfl (Nat.le_of_ble_eq_true rfl) dX12_puts_26 (fun x12 p15 => ?_)
    obtain ⟨p16, f17, f18⟩ := p15
    refine fr_aload_n h rfl 0 rfl dX12_puts_29 ?_
    refine fr_getc (z := 1) (iz := 0) h kX12 fX12_9 at_0M rfl rfl rfM_0 (by omega) dX12_puts_30 ?_
    refine fr_iload_n h rfl 1 rfl dX12_puts_33 ?_
    refine fr_iload_n h rfl 2 rfl dX12_puts_34 ?_
    have r19 := (congrFun (f17 1 (by omega) (by omega)) (24 + p))
    have r20 := r19.trans (fm_rd_k (a := 1) (b := (24 + p)) m2 (by omega))
    refine fr_csI h wX12_goPut lX12_169 (c_X12_goPut x12 1 SA_1 p v (by omega) (by omega) (by omega) (by omega) (by omega) (by omega) (by omega)) rfl (by decide) (by decide) rfl (Nat.le_of_ble_eq_true rfl) dX12_puts_35 (fun z22 x21 w23 p24 => ?_)
    obtain ⟨p25, p26, p27, f28⟩ := p24
    have r29 := (congrFun (f28 0 (by omega)) 5)
    have r30 := r29.trans (f18 5 (by decide) (by decide))
    have r31 := r30.trans (fm_rd_s m2)
    have r32 := (congrFun (f28 0 (by omega)) 12)
    have r33 := r32.trans (f18 12 (by decide) (by decide))
    have r34 := r33.trans (fm_rd_i (a := 0) (b := 12) m2 (by decide))
    exact fr_iret h hq (by omega) ⟨(by omega), ⟨(MI_cong (by rw [show x12 1 = x1 1 from (f17 1 (by omega) (by omega))]; exact (by rw [show x1 1 = x 1 from (fm_up_row m2 (by omega))]; exact e0.1)) (fun i a b => p27 i (by omega) (by omega))), (by rw [show x21 8 = x12 8 from (f28 8 (by omega))]; exact p16), (by rw [show x21 26 = x 26 from ((f28 26 (by omega)).trans ((f17 26 (by omega) (by omega)).trans (fm_up_row m2 (by omega))))]; exact e0.2.2.1), (by have := e0.2.2.2; omega)⟩, (fun a k0 k1 k2 => ((f28 a (by omega)).trans ((f17 a (by omega) (by omega)).trans (fm_up_row m2 (by omega))))), (fun i k0 k1 k2 => ((congrFun (f28 0 (by omega)) i).trans ((f18 i (by omega) (by omega)).trans (fm_rd_i (a := 0) (b := i) m2 (by omega)))))⟩ dX12_puts_38
  ·
    refine fr_iload_n h rfl 3 rfl dX12_puts_19 ?_
    have r35 := (fm_rd_s m2)
    have r36 := (fm_rd_i (a := 0) (b := 12) m2 (by decide))
    exact fr_iret h hq (by omega) ⟨(by omega), ⟨(by rw [show x1 1 = x 1 from (fm_up_row m2 (by omega))]; exact e0.1), (by rw [show x1 8 = x 8 from (fm_up_row m2 (by omega))]; exact e0.2.1), (by rw [show x1 26 = x 26 from (fm_up_row m2 (by omega))]; exact e0.2.2.1), (by have := e0.2.2.2; omega)⟩, (fun a k0 k1 k2 => (fm_up_row m2 (by omega))), (fun i k0 k1 k2 => (fm_rd_i (a := 0) (b := i) m2 (by omega)))⟩ dX12_puts_20
set_option maxHeartbeats 200000 in
theorem c_X12_takes (x : Mm) (p : Int) (w : Int) (h_p : fm_r p) (h_w : fm_r w) (e0 : GI x) : CnI YM yX12_takes cX12_takes 3 .int 3 64 (fun G => [vr G 0, vi p, vi w]) x (fun z y' => (y' 0 5 = 0) ∧ (GI y') ∧ (∀ a : Int, (a < 0 ∨ 0 < a) → (a < 1 ∨ 1 < a) → (a < 8 ∨ 8 < a) → y' a = x a) ∧ (∀ i : Int, i ≠ 5 → i ≠ 18 → i ≠ 21 → y' 0 i = x 0 i)) := by
  refine cn_I (by decide) (fun _ => Nat.le_of_ble_eq_true rfl) (fun G C h hq => ?_)
  have h : OK YM G C cX12_takes RX12 3 (some .int) 3 64 := h
  show FW YM G C 3 x 0 [(0, vr G 0), (1, vi p), (2, vi w)] []
  have e12 := e0.2.2.2
  refine fr_aload_n h rfl 0 rfl dX12_takes_0 ?_
  refine fr_iconst h dX12_takes_1 ?_
  refine fr_puti (iz := 5) h kX12 fX12_94 at_0M rfl rfl (by decide) (by decide) rfl (by decide +kernel) rfM_5 (by omega) (by omega) dX12_takes_2 ?_
  refine fr_mem (fun x1 m2 => ?_)
  refine fr_aload_n h rfl 0 rfl dX12_takes_5 ?_
  refine fr_getc (z := 1) (iz := 0) h kX12 fX12_9 at_0M rfl rfl rfM_0 (by omega) dX12_takes_6 ?_
  refine fr_iload_n h rfl 1 rfl dX12_takes_9 ?_
  refine fr_iload_n h rfl 2 rfl dX12_takes_10 ?_
  refine fr_csI h wX12_canTake lX12_238 (c_X12_canTake x1 1 SA_1 p w (by omega) (by omega)) rfl (by decide) (by decide) rfl (Nat.le_of_ble_eq_true rfl) dX12_takes_11 (fun z4 x3 w5 p6 => ?_)
  obtain ⟨p7, p8, y9⟩ := p6
  rw [y9]
  clear y9
  refine fr_if_ne (tgt := 19) h dX12_takes_14 (by decide) (by omega) (fun c10 => ?_) (fun c10 => ?_)
  ·
    refine fr_aload_n h rfl 0 rfl dX12_takes_19 ?_
    refine fr_aload_n h rfl 0 rfl dX12_takes_20 ?_
    refine fr_getc (z := 1) (iz := 0) h kX12 fX12_9 at_0M rfl rfl rfM_0 (by omega) dX12_takes_21 ?_
    refine fr_cvV h kX12 at_0M wX12_change lX12_165 (c_X12_change x1 1 SA_1 (by rw [show x1 8 = x 8 from (fm_up_row m2 (by omega))]; exact e0.2.1) (by rw [show x1 1 = x 1 from (fm_up_row m2 (by omega))]; exact e0.1)) rfl (by decide) (by decide) rfl (Nat.le_of_ble_eq_true rfl) dX12_takes_24 (fun x11 p14 => ?_)
    obtain ⟨p15, f16, f17⟩ := p14
    refine fr_aload_n h rfl 0 rfl dX12_takes_27 ?_
    refine fr_getc (z := 1) (iz := 0) h kX12 fX12_9 at_0M rfl rfl rfM_0 (by omega) dX12_takes_28 ?_
    refine fr_iload_n h rfl 1 rfl dX12_takes_31 ?_
    refine fr_iload_n h rfl 2 rfl dX12_takes_32 ?_
    have r18 := (congrFun (f16 1 (by omega) (by omega)) (24 + p))
    have r19 := r18.trans (fm_rd_k (a := 1) (b := (24 + p)) m2 (by omega))
    refine fr_csI h wX12_goTake lX12_242 (c_X12_goTake x11 1 SA_1 p w (by omega) (by omega) (by omega) (by omega) (by omega) (by omega)) rfl (by decide) (by decide) rfl (Nat.le_of_ble_eq_true rfl) dX12_takes_33 (fun z21 x20 w22 p23 => ?_)
    obtain ⟨p24, p25, p26, f27⟩ := p23
    have r28 := (congrFun (f27 0 (by omega)) 5)
    have r29 := r28.trans (f17 5 (by decide) (by decide))
    have r30 := r29.trans (fm_rd_s m2)
    have r31 := (congrFun (f27 0 (by omega)) 12)
    have r32 := r31.trans (f17 12 (by decide) (by decide))
    have r33 := r32.trans (fm_rd_i (a := 0) (b := 12) m2 (by decide))
    exact fr_iret h hq (by omega) ⟨(by omega), ⟨(MI_cong (by rw [show x11 1 = x1 1 from (f16 1 (by omega) (by omega))]; exact (by rw [show x1 1 = x 1 from (fm_up_row m2 (by omega))]; exact e0.1)) (fun i a b => p26 i (by omega))), (by rw [show x20 8 = x11 8 from (f27 8 (by omega))]; exact p15), (by rw [show x20 26 = x 26 from ((f27 26 (by omega)).trans ((f16 26 (by omega) (by omega)).trans (fm_up_row m2 (by omega))))]; exact e0.2.2.1), (by have := e0.2.2.2; omega)⟩, (fun a k0 k1 k2 => ((f27 a (by omega)).trans ((f16 a (by omega) (by omega)).trans (fm_up_row m2 (by omega))))), (fun i k0 k1 k2 => ((congrFun (f27 0 (by omega)) i).trans ((f17 i (by omega) (by omega)).trans (fm_rd_i (a := 0) (b := i) m2 (by omega)))))⟩ dX12_takes_36
  ·
    refine fr_iconst h dX12_takes_17 ?_
    have r34 := (fm_rd_s m2)
    have r35 := (fm_rd_i (a := 0) (b := 12) m2 (by decide))
    exact fr_iret h hq (by omega) ⟨(by omega), ⟨(by rw [show x1 1 = x 1 from (fm_up_row m2 (by omega))]; exact e0.1), (by rw [show x1 8 = x 8 from (fm_up_row m2 (by omega))]; exact e0.2.1), (by rw [show x1 26 = x 26 from (fm_up_row m2 (by omega))]; exact e0.2.2.1), (by have := e0.2.2.2; omega)⟩, (fun a k0 k1 k2 => (fm_up_row m2 (by omega))), (fun i k0 k1 k2 => (fm_rd_i (a := 0) (b := i) m2 (by omega)))⟩ dX12_takes_18
set_option maxHeartbeats 200000 in
theorem c_X12_joins (x : Mm) (p : Int) (w : Int) (v : Int) (h_p : fm_r p) (h_w : fm_r w) (h_v : fm_r v) (e0 : GI x) : CnI YM yX12_joins cX12_joins 5 .int 3 68 (fun G => [vr G 0, vi p, vi w, vi v]) x (fun z y' => (y' 0 5 = 0) ∧ (GI y') ∧ (∀ a : Int, (a < 0 ∨ 0 < a) → (a < 1 ∨ 1 < a) → (a < 8 ∨ 8 < a) → y' a = x a) ∧ (∀ i : Int, i ≠ 5 → i ≠ 18 → i ≠ 21 → y' 0 i = x 0 i)) := by
  refine cn_I (by decide) (fun _ => Nat.le_of_ble_eq_true rfl) (fun G C h hq => ?_)
  have h : OK YM G C cX12_joins RX12 5 (some .int) 3 68 := h
  show FW YM G C 5 x 0 [(0, vr G 0), (1, vi p), (2, vi w), (3, vi v)] []
  have e12 := e0.2.2.2
  refine fr_aload_n h rfl 0 rfl dX12_joins_0 ?_
  refine fr_iconst h dX12_joins_1 ?_
  refine fr_puti (iz := 5) h kX12 fX12_94 at_0M rfl rfl (by decide) (by decide) rfl (by decide +kernel) rfM_5 (by omega) (by omega) dX12_joins_2 ?_
  refine fr_mem (fun x1 m2 => ?_)
  refine fr_aload_n h rfl 0 rfl dX12_joins_5 ?_
  refine fr_getc (z := 1) (iz := 0) h kX12 fX12_9 at_0M rfl rfl rfM_0 (by omega) dX12_joins_6 ?_
  refine fr_iload_n h rfl 1 rfl dX12_joins_9 ?_
  refine fr_iload_n h rfl 2 rfl dX12_joins_10 ?_
  refine fr_iload_n h rfl 3 rfl dX12_joins_11 ?_
  refine fr_csI h wX12_refusesJoin lX12_245 (c_X12_refusesJoin x1 1 SA_1 p w v (by omega) (by omega) (by omega)) rfl (by decide) (by decide) rfl (Nat.le_of_ble_eq_true rfl) dX12_joins_12 (fun z4 x3 w5 p6 => ?_)
  obtain ⟨p7, p8, p9, y10⟩ := p6
  rw [y10]
  clear y10
  refine fr_istore (L' := [(0, vr G 0), (1, vi p), (2, vi w), (3, vi v), (4, vi z4)]) h dX12_joins_15 (by decide) [1, 2, 3, 4, 0] rfl ?_
  refine fr_iload h 4 rfl dX12_joins_17 ?_
  refine fr_if_ge (tgt := 25) h dX12_joins_19 (by decide) (by omega) (fun c11 => ?_) (fun c11 => ?_)
  ·
    refine fr_aload_n h rfl 0 rfl dX12_joins_25 ?_
    refine fr_aload_n h rfl 0 rfl dX12_joins_26 ?_
    refine fr_getc (z := 1) (iz := 0) h kX12 fX12_9 at_0M rfl rfl rfM_0 (by omega) dX12_joins_27 ?_
    refine fr_cvV h kX12 at_0M wX12_change lX12_165 (c_X12_change x1 1 SA_1 (by rw [show x1 8 = x 8 from (fm_up_row m2 (by omega))]; exact e0.2.1) (by rw [show x1 1 = x 1 from (fm_up_row m2 (by omega))]; exact e0.1)) rfl (by decide) (by decide) rfl (Nat.le_of_ble_eq_true rfl) dX12_joins_30 (fun x12 p15 => ?_)
    obtain ⟨p16, f17, f18⟩ := p15
    refine fr_aload_n h rfl 0 rfl dX12_joins_33 ?_
    refine fr_getc (z := 1) (iz := 0) h kX12 fX12_9 at_0M rfl rfl rfM_0 (by omega) dX12_joins_34 ?_
    refine fr_iload_n h rfl 1 rfl dX12_joins_37 ?_
    refine fr_iload_n h rfl 2 rfl dX12_joins_38 ?_
    refine fr_iload_n h rfl 3 rfl dX12_joins_39 ?_
    refine fr_csV h wX12_weigh lX12_224 (c_X12_weigh x12 1 SA_1 p w v (by omega) (by omega) (by omega) (by omega) (by omega) (by omega) (by omega) (by omega) (by omega)) rfl (by decide) (by decide) rfl (Nat.le_of_ble_eq_true rfl) dX12_joins_40 (fun x19 p22 => ?_)
    obtain ⟨p23, p24, p25, f26⟩ := p22
    refine fr_aload_n h rfl 0 rfl dX12_joins_43 ?_
    refine fr_getc (z := 1) (iz := 0) h kX12 fX12_9 at_0M rfl rfl rfM_0 (by omega) dX12_joins_44 ?_
    refine fr_csI h wX12_edgesOf lX12_216 (c_X12_edgesOf x19 1 SA_1) rfl (by decide) (by decide) rfl (Nat.le_of_ble_eq_true rfl) dX12_joins_47 (fun z28 x27 w29 p30 => ?_)
    obtain ⟨p31, p32, p33, y34⟩ := p30
    rw [y34]
    clear y34
    have r35 := (congrFun (f26 0 (by omega)) 5)
    have r36 := r35.trans (f18 5 (by decide) (by decide))
    have r37 := r36.trans (fm_rd_s m2)
    have r38 := (congrFun (f26 0 (by omega)) 12)
    have r39 := r38.trans (f18 12 (by decide) (by decide))
    have r40 := r39.trans (fm_rd_i (a := 0) (b := 12) m2 (by decide))
    exact fr_iret h hq (by omega) ⟨(by omega), ⟨(MI_weigh (a := p) (b := w) (w := v) (by rw [show x12 1 = x1 1 from (f17 1 (by omega) (by omega))]; exact (by rw [show x1 1 = x 1 from (fm_up_row m2 (by omega))]; exact e0.1)) (by omega) (by omega) (by omega) (by omega) (by omega) (by rw [show x12 1 = x1 1 from (f17 1 (by omega) (by omega))]; omega) p23 p24 p25), (by rw [show x19 8 = x12 8 from (f26 8 (by omega))]; exact p16), (by rw [show x19 26 = x 26 from ((f26 26 (by omega)).trans ((f17 26 (by omega) (by omega)).trans (fm_up_row m2 (by omega))))]; exact e0.2.2.1), (by have := e0.2.2.2; omega)⟩, (fun a k0 k1 k2 => ((f26 a (by omega)).trans ((f17 a (by omega) (by omega)).trans (fm_up_row m2 (by omega))))), (fun i k0 k1 k2 => ((congrFun (f26 0 (by omega)) i).trans ((f18 i (by omega) (by omega)).trans (fm_rd_i (a := 0) (b := i) m2 (by omega)))))⟩ dX12_joins_50
  ·
    refine fr_iload h 4 rfl dX12_joins_22 ?_
    have r41 := (fm_rd_s m2)
    have r42 := (fm_rd_i (a := 0) (b := 12) m2 (by decide))
    exact fr_iret h hq (by omega) ⟨(by omega), ⟨(by rw [show x1 1 = x 1 from (fm_up_row m2 (by omega))]; exact e0.1), (by rw [show x1 8 = x 8 from (fm_up_row m2 (by omega))]; exact e0.2.1), (by rw [show x1 26 = x 26 from (fm_up_row m2 (by omega))]; exact e0.2.2.1), (by have := e0.2.2.2; omega)⟩, (fun a k0 k1 k2 => (fm_up_row m2 (by omega))), (fun i k0 k1 k2 => (fm_rd_i (a := 0) (b := i) m2 (by omega)))⟩ dX12_joins_24
set_option maxHeartbeats 200000 in
theorem c_X12_costs (x : Mm) (p : Int) (w : Int) (v : Int) (h_p : fm_r p) (h_w : fm_r w) (h_v : fm_r v) (e0 : GI x) : CnI YM yX12_costs cX12_costs 5 .int 2 45 (fun G => [vr G 0, vi p, vi w, vi v]) x (fun z y' => (y' 0 5 = 0) ∧ (GI y') ∧ (∀ a : Int, (a < 0 ∨ 0 < a) → (a < 1 ∨ 1 < a) → (a < 8 ∨ 8 < a) → y' a = x a) ∧ (∀ i : Int, i ≠ 5 → i ≠ 18 → i ≠ 21 → y' 0 i = x 0 i)) := by
  refine cn_I (by decide) (fun _ => Nat.le_of_ble_eq_true rfl) (fun G C h hq => ?_)
  have h : OK YM G C cX12_costs RX12 5 (some .int) 2 45 := h
  show FW YM G C 5 x 0 [(0, vr G 0), (1, vi p), (2, vi w), (3, vi v)] []
  have e12 := e0.2.2.2
  refine fr_aload_n h rfl 0 rfl dX12_costs_0 ?_
  refine fr_iconst h dX12_costs_1 ?_
  refine fr_puti (iz := 5) h kX12 fX12_94 at_0M rfl rfl (by decide) (by decide) rfl (by decide +kernel) rfM_5 (by omega) (by omega) dX12_costs_2 ?_
  refine fr_mem (fun x1 m2 => ?_)
  refine fr_iload_n h rfl 1 rfl dX12_costs_5 ?_
  refine fr_iload_n h rfl 2 rfl dX12_costs_6 ?_
  refine fr_iload_n h rfl 3 rfl dX12_costs_7 ?_
  refine fr_csI h wX12_canCost lX12_249 (c_X12_canCost x1 p w v (by omega) (by omega) (by omega)) rfl (by decide) (by decide) rfl (Nat.le_of_ble_eq_true rfl) dX12_costs_8 (fun z4 x3 w5 p6 => ?_)
  obtain ⟨p7, p8, y9⟩ := p6
  rw [y9]
  clear y9
  refine fr_if_ne (tgt := 16) h dX12_costs_11 (by decide) (by omega) (fun c10 => ?_) (fun c10 => ?_)
  ·
    refine fr_aload_n h rfl 0 rfl dX12_costs_16 ?_
    refine fr_aload_n h rfl 0 rfl dX12_costs_17 ?_
    refine fr_getc (z := 1) (iz := 0) h kX12 fX12_9 at_0M rfl rfl rfM_0 (by omega) dX12_costs_18 ?_
    refine fr_cvV h kX12 at_0M wX12_change lX12_165 (c_X12_change x1 1 SA_1 (by rw [show x1 8 = x 8 from (fm_up_row m2 (by omega))]; exact e0.2.1) (by rw [show x1 1 = x 1 from (fm_up_row m2 (by omega))]; exact e0.1)) rfl (by decide) (by decide) rfl (Nat.le_of_ble_eq_true rfl) dX12_costs_21 (fun x11 p14 => ?_)
    obtain ⟨p15, f16, f17⟩ := p14
    refine fr_aload_n h rfl 0 rfl dX12_costs_24 ?_
    refine fr_getc (z := 1) (iz := 0) h kX12 fX12_9 at_0M rfl rfl rfM_0 (by omega) dX12_costs_25 ?_
    refine fr_bipush h rfl dX12_costs_28 ?_
    refine fr_iconst h dX12_costs_30 ?_
    refine fr_iload_n h rfl 1 rfl dX12_costs_31 ?_
    refine fr_imul h dX12_costs_32 ?_
    refine fr_iadd h dX12_costs_33 ?_
    refine fr_iload_n h rfl 2 rfl dX12_costs_34 ?_
    refine fr_iadd h dX12_costs_35 ?_
    refine fr_iald h (SA_a SA_1) (by omega) (by omega) ((SA_r SA_1 ((77 + (5 * p)) + w)).trans (sg_wt (by omega) (by omega))) dX12_costs_36 (fun z18 w19 w20 q21 => ?_)
    have r22 := q21.trans (congrFun (f16 1 (by omega) (by omega)) ((77 + (5 * p)) + w))
    have r23 := r22.trans (fm_rd_k (a := 1) (b := ((77 + (5 * p)) + w)) m2 (by omega))
    refine fr_istore (L' := [(0, vr G 0), (1, vi p), (2, vi w), (3, vi v), (4, vi z18)]) h dX12_costs_37 (by decide) [1, 2, 3, 4, 0] rfl ?_
    refine fr_aload_n h rfl 0 rfl dX12_costs_39 ?_
    refine fr_getc (z := 1) (iz := 0) h kX12 fX12_9 at_0M rfl rfl rfM_0 (by omega) dX12_costs_40 ?_
    refine fr_bipush h rfl dX12_costs_43 ?_
    refine fr_iconst h dX12_costs_45 ?_
    refine fr_iload_n h rfl 1 rfl dX12_costs_46 ?_
    refine fr_imul h dX12_costs_47 ?_
    refine fr_iadd h dX12_costs_48 ?_
    refine fr_iload_n h rfl 2 rfl dX12_costs_49 ?_
    refine fr_iadd h dX12_costs_50 ?_
    refine fr_iload_n h rfl 3 rfl dX12_costs_51 ?_
    refine fr_iast h (SA_a SA_1) (by omega) (by omega) ((SA_r SA_1 ((77 + (5 * p)) + w)).trans (sg_wt (by omega) (by omega))) (by omega) (by omega) dX12_costs_52 ?_
    refine fr_mem (fun x24 m25 => ?_)
    refine fr_iload h 4 rfl dX12_costs_53 ?_
    have r26 := (fm_rd_k (a := 0) (b := 5) m25 (by omega))
    have r27 := r26.trans (f17 5 (by decide) (by decide))
    have r28 := r27.trans (fm_rd_s m2)
    have r29 := (fm_rd_k (a := 0) (b := 12) m25 (by omega))
    have r30 := r29.trans (f17 12 (by decide) (by decide))
    have r31 := r30.trans (fm_rd_i (a := 0) (b := 12) m2 (by decide))
    exact fr_iret h hq (by omega) ⟨(by omega), ⟨(MI_cong (by rw [show x11 1 = x1 1 from (f16 1 (by omega) (by omega))]; exact (by rw [show x1 1 = x 1 from (fm_up_row m2 (by omega))]; exact e0.1)) (fun i a b => fm_rd_i m25 (by omega))), (by rw [show x24 8 = x11 8 from (fm_up_row m25 (by omega))]; exact p15), (by rw [show x24 26 = x 26 from ((fm_up_row m25 (by omega)).trans ((f16 26 (by omega) (by omega)).trans (fm_up_row m2 (by omega))))]; exact e0.2.2.1), (by have := e0.2.2.2; omega)⟩, (fun a k0 k1 k2 => ((fm_up_row m25 (by omega)).trans ((f16 a (by omega) (by omega)).trans (fm_up_row m2 (by omega))))), (fun i k0 k1 k2 => ((fm_rd_k (a := 0) (b := i) m25 (by omega)).trans ((f17 i (by omega) (by omega)).trans (fm_rd_i (a := 0) (b := i) m2 (by omega)))))⟩ dX12_costs_55
  ·
    refine fr_iconst h dX12_costs_14 ?_
    have r32 := (fm_rd_s m2)
    have r33 := (fm_rd_i (a := 0) (b := 12) m2 (by decide))
    exact fr_iret h hq (by omega) ⟨(by omega), ⟨(by rw [show x1 1 = x 1 from (fm_up_row m2 (by omega))]; exact e0.1), (by rw [show x1 8 = x 8 from (fm_up_row m2 (by omega))]; exact e0.2.1), (by rw [show x1 26 = x 26 from (fm_up_row m2 (by omega))]; exact e0.2.2.1), (by have := e0.2.2.2; omega)⟩, (fun a k0 k1 k2 => (fm_up_row m2 (by omega))), (fun i k0 k1 k2 => (fm_rd_i (a := 0) (b := i) m2 (by omega)))⟩ dX12_costs_15
set_option maxHeartbeats 200000 in
theorem c_X12_ends (x : Mm) (p : Int) (w : Int) (h_p : fm_r p) (h_w : fm_r w) (e0 : GI x) : CnI YM yX12_ends cX12_ends 4 .int 2 45 (fun G => [vr G 0, vi p, vi w]) x (fun z y' => (y' 0 5 = 0) ∧ (GI y') ∧ (∀ a : Int, (a < 0 ∨ 0 < a) → (a < 1 ∨ 1 < a) → (a < 8 ∨ 8 < a) → y' a = x a) ∧ (∀ i : Int, i ≠ 5 → i ≠ 18 → i ≠ 21 → y' 0 i = x 0 i)) := by
  refine cn_I (by decide) (fun _ => Nat.le_of_ble_eq_true rfl) (fun G C h hq => ?_)
  have h : OK YM G C cX12_ends RX12 4 (some .int) 2 45 := h
  show FW YM G C 4 x 0 [(0, vr G 0), (1, vi p), (2, vi w)] []
  have e12 := e0.2.2.2
  refine fr_aload_n h rfl 0 rfl dX12_ends_0 ?_
  refine fr_iconst h dX12_ends_1 ?_
  refine fr_puti (iz := 5) h kX12 fX12_94 at_0M rfl rfl (by decide) (by decide) rfl (by decide +kernel) rfM_5 (by omega) (by omega) dX12_ends_2 ?_
  refine fr_mem (fun x1 m2 => ?_)
  refine fr_iload_n h rfl 1 rfl dX12_ends_5 ?_
  refine fr_iload_n h rfl 2 rfl dX12_ends_6 ?_
  refine fr_csI h wX12_canEnd lX12_255 (c_X12_canEnd x1 p w (by omega) (by omega)) rfl (by decide) (by decide) rfl (Nat.le_of_ble_eq_true rfl) dX12_ends_7 (fun z4 x3 w5 p6 => ?_)
  obtain ⟨p7, p8, y9⟩ := p6
  rw [y9]
  clear y9
  refine fr_if_ne (tgt := 15) h dX12_ends_10 (by decide) (by omega) (fun c10 => ?_) (fun c10 => ?_)
  ·
    refine fr_aload_n h rfl 0 rfl dX12_ends_15 ?_
    refine fr_aload_n h rfl 0 rfl dX12_ends_16 ?_
    refine fr_getc (z := 1) (iz := 0) h kX12 fX12_9 at_0M rfl rfl rfM_0 (by omega) dX12_ends_17 ?_
    refine fr_cvV h kX12 at_0M wX12_change lX12_165 (c_X12_change x1 1 SA_1 (by rw [show x1 8 = x 8 from (fm_up_row m2 (by omega))]; exact e0.2.1) (by rw [show x1 1 = x 1 from (fm_up_row m2 (by omega))]; exact e0.1)) rfl (by decide) (by decide) rfl (Nat.le_of_ble_eq_true rfl) dX12_ends_20 (fun x11 p14 => ?_)
    obtain ⟨p15, f16, f17⟩ := p14
    refine fr_aload_n h rfl 0 rfl dX12_ends_23 ?_
    refine fr_getc (z := 1) (iz := 0) h kX12 fX12_9 at_0M rfl rfl rfM_0 (by omega) dX12_ends_24 ?_
    refine fr_csI h wX12_endsOf lX12_259 (c_X12_endsOf x11 1 SA_1) rfl (by decide) (by decide) rfl (Nat.le_of_ble_eq_true rfl) dX12_ends_27 (fun z19 x18 w20 p21 => ?_)
    obtain ⟨p22, p23, y24⟩ := p21
    rw [y24]
    clear y24
    refine fr_istore_n (L' := [(0, vr G 0), (1, vi p), (2, vi w), (3, vi z19)]) h rfl dX12_ends_30 (by decide) [1, 2, 3, 0] rfl ?_
    refine fr_aload_n h rfl 0 rfl dX12_ends_31 ?_
    refine fr_getc (z := 1) (iz := 0) h kX12 fX12_9 at_0M rfl rfl rfM_0 (by omega) dX12_ends_32 ?_
    refine fr_bipush h rfl dX12_ends_35 ?_
    refine fr_iload_n h rfl 1 rfl dX12_ends_37 ?_
    refine fr_iast h (SA_a SA_1) (by omega) (by omega) ((SA_r SA_1 103).trans sg_e1) (by omega) (by omega) dX12_ends_38 ?_
    refine fr_mem (fun x25 m26 => ?_)
    refine fr_aload_n h rfl 0 rfl dX12_ends_39 ?_
    refine fr_getc (z := 1) (iz := 0) h kX12 fX12_9 at_0M rfl rfl rfM_0 (by omega) dX12_ends_40 ?_
    refine fr_bipush h rfl dX12_ends_43 ?_
    refine fr_iload_n h rfl 2 rfl dX12_ends_45 ?_
    refine fr_iast h (SA_a SA_1) (by omega) (by omega) ((SA_r SA_1 104).trans sg_e2) (by omega) (by omega) dX12_ends_46 ?_
    refine fr_mem (fun x27 m28 => ?_)
    refine fr_iload_n h rfl 3 rfl dX12_ends_47 ?_
    have r29 := (fm_rd_k (a := 0) (b := 5) m28 (by omega))
    have r30 := r29.trans (fm_rd_k (a := 0) (b := 5) m26 (by omega))
    have r31 := r30.trans (f17 5 (by decide) (by decide))
    have r32 := r31.trans (fm_rd_s m2)
    have r33 := (fm_rd_k (a := 0) (b := 12) m28 (by omega))
    have r34 := r33.trans (fm_rd_k (a := 0) (b := 12) m26 (by omega))
    have r35 := r34.trans (f17 12 (by decide) (by decide))
    have r36 := r35.trans (fm_rd_i (a := 0) (b := 12) m2 (by decide))
    exact fr_iret h hq (by omega) ⟨(by omega), ⟨(MI_cong (MI_cong (by rw [show x11 1 = x1 1 from (f16 1 (by omega) (by omega))]; exact (by rw [show x1 1 = x 1 from (fm_up_row m2 (by omega))]; exact e0.1)) (fun i a b => fm_rd_i m26 (by omega))) (fun i a b => fm_rd_i m28 (by omega))), (by rw [show x27 8 = x11 8 from ((fm_up_row m28 (by omega)).trans (fm_up_row m26 (by omega)))]; exact p15), (by rw [show x27 26 = x 26 from ((fm_up_row m28 (by omega)).trans ((fm_up_row m26 (by omega)).trans ((f16 26 (by omega) (by omega)).trans (fm_up_row m2 (by omega)))))]; exact e0.2.2.1), (by have := e0.2.2.2; omega)⟩, (fun a k0 k1 k2 => ((fm_up_row m28 (by omega)).trans ((fm_up_row m26 (by omega)).trans ((f16 a (by omega) (by omega)).trans (fm_up_row m2 (by omega)))))), (fun i k0 k1 k2 => ((fm_rd_k (a := 0) (b := i) m28 (by omega)).trans ((fm_rd_k (a := 0) (b := i) m26 (by omega)).trans ((f17 i (by omega) (by omega)).trans (fm_rd_i (a := 0) (b := i) m2 (by omega))))))⟩ dX12_ends_48
  ·
    refine fr_iconst h dX12_ends_13 ?_
    have r37 := (fm_rd_s m2)
    have r38 := (fm_rd_i (a := 0) (b := 12) m2 (by decide))
    exact fr_iret h hq (by omega) ⟨(by omega), ⟨(by rw [show x1 1 = x 1 from (fm_up_row m2 (by omega))]; exact e0.1), (by rw [show x1 8 = x 8 from (fm_up_row m2 (by omega))]; exact e0.2.1), (by rw [show x1 26 = x 26 from (fm_up_row m2 (by omega))]; exact e0.2.2.1), (by have := e0.2.2.2; omega)⟩, (fun a k0 k1 k2 => (fm_up_row m2 (by omega))), (fun i k0 k1 k2 => (fm_rd_i (a := 0) (b := i) m2 (by omega)))⟩ dX12_ends_14
