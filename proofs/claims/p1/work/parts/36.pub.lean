set_option maxHeartbeats 200000 in
theorem c_X12_puts (x : Mm) (p : Int) (v : Int) (h_p : fm_r p) (h_v : fm_r v) (e0 : GI x) : CnI YM yX12_puts cX12_puts 4 .int 3 64 (fun G => [vr G 0, vi p, vi v]) x (fun z y' => (y' 0 5 = 0) ∧ (GI y') ∧ (∀ a : Int, (a < 0 ∨ 0 < a) → (a < 1 ∨ 1 < a) → (a < 8 ∨ 8 < a) → y' a = x a) ∧ (∀ i : Int, i ≠ 5 → i ≠ 18 → i ≠ 21 → y' 0 i = x 0 i)) := by
  refine cn_I (by decide) (fun _ => Nat.le_of_ble_eq_true rfl) (fun G C h hq => ?_)
  have h : OK YM G C cX12_puts RX12 4 (some .int) 3 64 := h
  show FW YM G C 4 x 0 [(0, vr G 0), (1, vi p), (2, vi v)] []
  have e12 := e0.2.2.2
  refine fr_aload_n h rfl 0 rfl dX12_puts_0 ?_
  refine fr_iconst h dX12_puts_1 ?_
  refine fr_puti (iz := 5) h kX12 fX12_94 at_0M rfl rfl (by decide) (by decide) rfl (by decide +kernel) rfM_5 (by omega) (by omega) dX12_puts_2 ?_
  refine fr_mem (fun x1 m2 => ?_)
  refine fr_aload_n h rfl 0 rfl dX12_puts_5 ?_
  refine fr_getc (z := 1) (iz := 0) h kX12 fX12_9 at_0M rfl rfl rfM_0 (by omega) dX12_puts_6 ?_
  refine fr_iload_n h rfl 1 rfl dX12_puts_9 ?_
  refine fr_iload_n h rfl 2 rfl dX12_puts_10 ?_
  refine fr_csI h wX12_refusesPut lX12_235 (c_X12_refusesPut x1 1 SA_1 p v (by omega) (by omega)) rfl (by decide) (by decide) rfl (Nat.le_of_ble_eq_true rfl) dX12_puts_11 (fun z4 x3 w5 p6 => ?_)
  obtain ⟨p7, p8, p9, y10⟩ := p6
  rw [y10]
  clear y10
  refine fr_istore_n (L' := [(0, vr G 0), (1, vi p), (2, vi v), (3, vi z4)]) h rfl dX12_puts_14 (by decide) [1, 2, 3, 0] rfl ?_
  refine fr_iload_n h rfl 3 rfl dX12_puts_15 ?_
  refine fr_if_ge (tgt := 21) h dX12_puts_16 (by decide) (by omega) (fun c11 => ?_) (fun c11 => ?_)
  ·
    refine fr_aload_n h rfl 0 rfl dX12_puts_21 ?_
    refine fr_aload_n h rfl 0 rfl dX12_puts_22 ?_
    refine fr_getc (z := 1) (iz := 0) h kX12 fX12_9 at_0M rfl rfl rfM_0 (by omega) dX12_puts_23 ?_
    refine fr_cvV h kX12 at_0M wX12_change lX12_165 (c_X12_change x1 1 SA_1 (by rw [show x1 8 = x 8 from (fm_up_row m2 (by omega))]; exact e0.2.1) (by rw [show x1 1 = x 1 from (fm_up_row m2 (by omega))]; exact e0.1)) rfl (by decide) (by decide) rfl (Nat.le_of_ble_eq_true rfl) dX12_puts_26 (fun x12 p15 => ?_)
    obtain ⟨p16, f17, f18⟩ := p15
    refine fr_aload_n h rfl 0 rfl dX12_puts_29 ?_
    refine fr_getc (z := 1) (iz := 0) h kX12 fX12_9 at_0M rfl rfl rfM_0 (by omega) dX12_puts_30 ?_
    refine fr_iload_n h rfl 1 rfl dX12_puts_33 ?_
    refine fr_iload_n h rfl 2 rfl dX12_puts_34 ?_
    have r19 := (congrFun (f17 1 (by omega) (by omega)) (24 + p))
    have r20 := r19.trans (fm_rd_k (a := 1) (b := (24 + p)) m2 (by omega))
    refine fr_csI h wX12_goPut lX12_169 (c_X12_goPut x12 1 SA_1 p v (by omega) (by omega) (by omega) (by omega) (by omega) (by omega) (by omega)) rfl (by decide) (by decide) rfl (Nat.le_of_ble_eq_true rfl) dX12_puts_35 (fun z22 x21 w23 p24 => ?_)
    obtain ⟨p25, p26, p27, f28⟩ := p24
    have r29 := (congrFun (f28 0 (by omega)) 5)
    have r30 := r29.trans (f18 5 (by decide) (by decide))
    have r31 := r30.trans (fm_rd_s m2)
    have r32 := (congrFun (f28 0 (by omega)) 12)
    have r33 := r32.trans (f18 12 (by decide) (by decide))
    have r34 := r33.trans (fm_rd_i (a := 0) (b := 12) m2 (by decide))
    exact fr_iret h hq (by omega) ⟨(by omega), ⟨(MI_cong (by rw [show x12 1 = x1 1 from (f17 1 (by omega) (by omega))]; exact (by rw [show x1 1 = x 1 from (fm_up_row m2 (by omega))]; exact e0.1)) (fun i a b => p27 i (by omega) (by omega))), (by rw [show x21 8 = x12 8 from (f28 8 (by omega))]; exact p16), (by rw [show x21 26 = x 26 from ((f28 26 (by omega)).trans ((f17 26 (by omega) (by omega)).trans (fm_up_row m2 (by omega))))]; exact e0.2.2.1), (by have := e0.2.2.2; omega)⟩, (fun a k0 k1 k2 => ((f28 a (by omega)).trans ((f17 a (by omega) (by omega)).trans (fm_up_row m2 (by omega))))), (fun i k0 k1 k2 => ((congrFun (f28 0 (by omega)) i).trans ((f18 i (by omega) (by omega)).trans (fm_rd_i (a := 0) (b := i) m2 (by omega)))))⟩ dX12_puts_38
  ·
    refine fr_iload_n h rfl 3 rfl dX12_puts_19 ?_
    have r35 := (fm_rd_s m2)
    have r36 := (fm_rd_i (a := 0) (b := 12) m2 (by decide))
    exact fr_iret h hq (by omega) ⟨(by omega), ⟨(by rw [show x1 1 = x 1 from (fm_up_row m2 (by omega))]; exact e0.1), (by rw [show x1 8 = x 8 from (fm_up_row m2 (by omega))]; exact e0.2.1), (by rw [show x1 26 = x 26 from (fm_up_row m2 (by omega))]; exact e0.2.2.1), (by have := e0.2.2.2; omega)⟩, (fun a k0 k1 k2 => (fm_up_row m2 (by omega))), (fun i k0 k1 k2 => (fm_rd_i (a := 0) (b := i) m2 (by omega)))⟩ dX12_puts_20
set_option maxHeartbeats 200000 in
theorem c_X12_takes (x : Mm) (p : Int) (w : Int) (h_p : fm_r p) (h_w : fm_r w) (e0 : GI x) : CnI YM yX12_takes cX12_takes 3 .int 3 64 (fun G => [vr G 0, vi p, vi w]) x (fun z y' => (y' 0 5 = 0) ∧ (GI y') ∧ (∀ a : Int, (a < 0 ∨ 0 < a) → (a < 1 ∨ 1 < a) → (a < 8 ∨ 8 < a) → y' a = x a) ∧ (∀ i : Int, i ≠ 5 → i ≠ 18 → i ≠ 21 → y' 0 i = x 0 i)) := by
  refine cn_I (by decide) (fun _ => Nat.le_of_ble_eq_true rfl) (fun G C h hq => ?_)
  have h : OK YM G C cX12_takes RX12 3 (some .int) 3 64 := h
  show FW YM G C 3 x 0 [(0, vr G 0), (1, vi p), (2, vi w)] []
  have e12 := e0.2.2.2
  refine fr_aload_n h rfl 0 rfl dX12_takes_0 ?_
  refine fr_iconst h dX12_takes_1 ?_
  refine fr_puti (iz := 5) h kX12 fX12_94 at_0M rfl rfl (by decide) (by decide) rfl (by decide +kernel) rfM_5 (by omega) (by omega) dX12_takes_2 ?_
  refine fr_mem (fun x1 m2 => ?_)
  refine fr_aload_n h rfl 0 rfl dX12_takes_5 ?_
  refine fr_getc (z := 1) (iz := 0) h kX12 fX12_9 at_0M rfl rfl rfM_0 (by omega) dX12_takes_6 ?_
  refine fr_iload_n h rfl 1 rfl dX12_takes_9 ?_
  refine fr_iload_n h rfl 2 rfl dX12_takes_10 ?_
  refine fr_csI h wX12_canTake lX12_238 (c_X12_canTake x1 1 SA_1 p w (by omega) (by omega)) rfl (by decide) (by decide) rfl (Nat.le_of_ble_eq_true rfl) dX12_takes_11 (fun z4 x3 w5 p6 => ?_)
  obtain ⟨p7, p8, y9⟩ := p6
  rw [y9]
  clear y9
  refine fr_if_ne (tgt := 19) h dX12_takes_14 (by decide) (by omega) (fun c10 => ?_) (fun c10 => ?_)
  ·
    refine fr_aload_n h rfl 0 rfl dX12_takes_19 ?_
    refine fr_aload_n h rfl 0 rfl dX12_takes_20 ?_
    refine fr_getc (z := 1) (iz := 0) h kX12 fX12_9 at_0M rfl rfl rfM_0 (by omega) dX12_takes_21 ?_
    refine fr_cvV h kX12 at_0M wX12_change lX12_165 (c_X12_change x1 1 SA_1 (by rw [show x1 8 = x 8 from (fm_up_row m2 (by omega))]; exact e0.2.1) (by rw [show x1 1 = x 1 from (fm_up_row m2 (by omega))]; exact e0.1)) rfl (by decide) (by decide) rfl (Nat.le_of_ble_eq_true rfl) dX12_takes_24 (fun x11 p14 => ?_)
    obtain ⟨p15, f16, f17⟩ := p14
    refine fr_aload_n h rfl 0 rfl dX12_takes_27 ?_
    refine fr_getc (z := 1) (iz := 0) h kX12 fX12_9 at_0M rfl rfl rfM_0 (by omega) dX12_takes_28 ?_
    refine fr_iload_n h rfl 1 rfl dX12_takes_31 ?_
    refine fr_iload_n h rfl 2 rfl dX12_takes_32 ?_
    have r18 := (congrFun (f16 1 (by omega) (by omega)) (24 + p))
    have r19 := r18.trans (fm_rd_k (a := 1) (b := (24 + p)) m2 (by omega))
    refine fr_csI h wX12_goTake lX12_242 (c_X12_goTake x11 1 SA_1 p w (by omega) (by omega) (by omega) (by omega) (by omega) (by omega)) rfl (by decide) (by decide) rfl (Nat.le_of_ble_eq_true rfl) dX12_takes_33 (fun z21 x20 w22 p23 => ?_)
    obtain ⟨p24, p25, p26, f27⟩ := p23
    have r28 := (congrFun (f27 0 (by omega)) 5)
    have r29 := r28.trans (f17 5 (by decide) (by decide))
    have r30 := r29.trans (fm_rd_s m2)
    have r31 := (congrFun (f27 0 (by omega)) 12)
    have r32 := r31.trans (f17 12 (by decide) (by decide))
    have r33 := r32.trans (fm_rd_i (a := 0) (b := 12) m2 (by decide))
    exact fr_iret h hq (by omega) ⟨(by omega), ⟨(MI_cong (by rw [show x11 1 = x1 1 from (f16 1 (by omega) (by omega))]; exact (by rw [show x1 1 = x 1 from (fm_up_row m2 (by omega))]; exact e0.1)) (fun i a b => p26 i (by omega))), (by rw [show x20 8 = x11 8 from (f27 8 (by omega))]; exact p15), (by rw [show x20 26 = x 26 from ((f27 26 (by omega)).trans ((f16 26 (by omega) (by omega)).trans (fm_up_row m2 (by omega))))]; exact e0.2.2.1), (by have := e0.2.2.2; omega)⟩, (fun a k0 k1 k2 => ((f27 a (by omega)).trans ((f16 a (by omega) (by omega)).trans (fm_up_row m2 (by omega))))), (fun i k0 k1 k2 => ((congrFun (f27 0 (by omega)) i).trans ((f17 i (by omega) (by omega)).trans (fm_rd_i (a := 0) (b := i) m2 (by omega)))))⟩ dX12_takes_36
  ·
    refine fr_iconst h dX12_takes_17 ?_
    have r34 := (fm_rd_s m2)
    have r35 := (fm_rd_i (a := 0) (b := 12) m2 (by decide))
    exact fr_iret h hq (by omega) ⟨(by omega), ⟨(by rw [show x1 1 = x 1 from (fm_up_row m2 (by omega))]; exact e0.1), (by rw [show x1 8 = x 8 from (fm_up_row m2 (by omega))]; exact e0.2.1), (by rw [show x1 26 = x 26 from (fm_up_row m2 (by omega))]; exact e0.2.2.1), (by have := e0.2.2.2; omega)⟩, (fun a k0 k1 k2 => (fm_up_row m2 (by omega))), (fun i k0 k1 k2 => (fm_rd_i (a := 0) (b := i) m2 (by omega)))⟩ dX12_takes_18
set_option maxHeartbeats 200000 in
theorem c_X12_joins (x : Mm) (p : Int) (w : Int) (v : Int) (h_p : fm_r p) (h_w : fm_r w) (h_v : fm_r v) (e0 : GI x) : CnI YM yX12_joins cX12_joins 5 .int 3 68 (fun G => [vr G 0, vi p, vi w, vi v]) x (fun z y' => (y' 0 5 = 0) ∧ (GI y') ∧ (∀ a : Int, (a < 0 ∨ 0 < a) → (a < 1 ∨ 1 < a) → (a < 8 ∨ 8 < a) → y' a = x a) ∧ (∀ i : Int, i ≠ 5 → i ≠ 18 → i ≠ 21 → y' 0 i = x 0 i)) := by
  refine cn_I (by decide) (fun _ => Nat.le_of_ble_eq_true rfl) (fun G C h hq => ?_)
  have h : OK YM G C cX12_joins RX12 5 (some .int) 3 68 := h
  show FW YM G C 5 x 0 [(0, vr G 0), (1, vi p), (2, vi w), (3, vi v)] []
  have e12 := e0.2.2.2
  refine fr_aload_n h rfl 0 rfl dX12_joins_0 ?_
  refine fr_iconst h dX12_joins_1 ?_
  refine fr_puti (iz := 5) h kX12 fX12_94 at_0M rfl rfl (by decide) (by decide) rfl (by decide +kernel) rfM_5 (by omega) (by omega) dX12_joins_2 ?_
  refine fr_mem (fun x1 m2 => ?_)
  refine fr_aload_n h rfl 0 rfl dX12_joins_5 ?_
  refine fr_getc (z := 1) (iz := 0) h kX12 fX12_9 at_0M rfl rfl rfM_0 (by omega) dX12_joins_6 ?_
  refine fr_iload_n h rfl 1 rfl dX12_joins_9 ?_
  refine fr_iload_n h rfl 2 rfl dX12_joins_10 ?_
  refine fr_iload_n h rfl 3 rfl dX12_joins_11 ?_
  refine fr_csI h wX12_refusesJoin lX12_245 (c_X12_refusesJoin x1 1 SA_1 p w v (by omega) (by omega) (by omega)) rfl (by decide) (by decide) rfl (Nat.le_of_ble_eq_true rfl) dX12_joins_12 (fun z4 x3 w5 p6 => ?_)
  obtain ⟨p7, p8, p9, y10⟩ := p6
  rw [y10]
  clear y10
  refine fr_istore (L' := [(0, vr G 0), (1, vi p), (2, vi w), (3, vi v), (4, vi z4)]) h dX12_joins_15 (by decide) [1, 2, 3, 4, 0] rfl ?_
  refine fr_iload h 4 rfl dX12_joins_17 ?_
  refine fr_if_ge (tgt := 25) h dX12_joins_19 (by decide) (by omega) (fun c11 => ?_) (fun c11 => ?_)
  ·
    refine fr_aload_n h rfl 0 rfl dX12_joins_25 ?_
    refine fr_aload_n h rfl 0 rfl dX12_joins_26 ?_
    refine fr_getc (z := 1) (iz := 0) h kX12 fX12_9 at_0M rfl rfl rfM_0 (by omega) dX12_joins_27 ?_
    refine fr_cvV h kX12 at_0M wX12_change lX12_165 (c_X12_change x1 1 SA_1 (by rw [show x1 8 = x 8 from (fm_up_row m2 (by omega))]; exact e0.2.1) (by rw [show x1 1 = x 1 from (fm_up_row m2 (by omega))]; exact e0.1)) rfl (by decide) (by decide) rfl (Nat.le_of_ble_eq_true rfl) dX12_joins_30 (fun x12 p15 => ?_)
    obtain ⟨p16, f17, f18⟩ := p15
    refine fr_aload_n h rfl 0 rfl dX12_joins_33 ?_
    refine fr_getc (z := 1) (iz := 0) h kX12 fX12_9 at_0M rfl rfl rfM_0 (by omega) dX12_joins_34 ?_
    refine fr_iload_n h rfl 1 rfl dX12_joins_37 ?_
    refine fr_iload_n h rfl 2 rfl dX12_joins_38 ?_
    refine fr_iload_n h rfl 3 rfl dX12_joins_39 ?_
    refine fr_csV h wX12_weigh lX12_224 (c_X12_weigh x12 1 SA_1 p w v (by omega) (by omega) (by omega) (by omega) (by omega) (by omega) (by omega) (by omega) (by omega)) rfl (by decide) (by decide) rfl (Nat.le_of_ble_eq_true rfl) dX12_joins_40 (fun x19 p22 => ?_)
    obtain ⟨p23, p24, p25, f26⟩ := p22
    refine fr_aload_n h rfl 0 rfl dX12_joins_43 ?_
    refine fr_getc (z := 1) (iz := 0) h kX12 fX12_9 at_0M rfl rfl rfM_0 (by omega) dX12_joins_44 ?_
    refine fr_csI h wX12_edgesOf lX12_216 (c_X12_edgesOf x19 1 SA_1) rfl (by decide) (by decide) rfl (Nat.le_of_ble_eq_true rfl) dX12_joins_47 (fun z28 x27 w29 p30 => ?_)
    obtain ⟨p31, p32, p33, y34⟩ := p30
    rw [y34]
    clear y34
    have r35 := (congrFun (f26 0 (by omega)) 5)
    have r36 := r35.trans (f18 5 (by decide) (by decide))
    have r37 := r36.trans (fm_rd_s m2)
    have r38 := (congrFun (f26 0 (by omega)) 12)
    have r39 := r38.trans (f18 12 (by decide) (by decide))
    have r40 := r39.trans (fm_rd_i (a := 0) (b := 12) m2 (by decide))
    exact fr_iret h hq (by omega) ⟨(by omega), ⟨(MI_weigh (a := p) (b := w) (w := v) (by rw [show x12 1 = x1 1 from (f17 1 (by omega) (by omega))]; exact (by rw [show x1 1 = x 1 from (fm_up_row m2 (by omega))]; exact e0.1)) (by omega) (by omega) (by omega) (by omega) (by omega) (by rw [show x12 1 = x1 1 from (f17 1 (by omega) (by omega))]; omega) p23 p24 p25), (by rw [show x19 8 = x12 8 from (f26 8 (by omega))]; exact p16), (by rw [show x19 26 = x 26 from ((f26 26 (by omega)).trans ((f17 26 (by omega) (by omega)).trans (fm_up_row m2 (by omega))))]; exact e0.2.2.1), (by have := e0.2.2.2; omega)⟩, (fun a k0 k1 k2 => ((f26 a (by omega)).trans ((f17 a (by omega) (by omega)).trans (fm_up_row m2 (by omega))))), (fun i k0 k1 k2 => ((congrFun (f26 0 (by omega)) i).trans ((f18 i (by omega) (by omega)).trans (fm_rd_i (a := 0) (b := i) m2 (by omega)))))⟩ dX12_joins_50
  ·
    refine fr_iload h 4 rfl dX12_joins_22 ?_
    have r41 := (fm_rd_s m2)
    have r42 := (fm_rd_i (a := 0) (b := 12) m2 (by decide))
    exact fr_iret h hq (by omega) ⟨(by omega), ⟨(by rw [show x1 1 = x 1 from (fm_up_row m2 (by omega))]; exact e0.1), (by rw [show x1 8 = x 8 from (fm_up_row m2 (by omega))]; exact e0.2.1), (by rw [show x1 26 = x 26 from (fm_up_row m2 (by omega))]; exact e0.2.2.1), (by have := e0.2.2.2; omega)⟩, (fun a k0 k1 k2 => (fm_up_row m2 (by omega))), (fun i k0 k1 k2 => (fm_rd_i (a := 0) (b := i) m2 (by omega)))⟩ dX12_joins_24
set_option maxHeartbeats 200000 in
theorem c_X12_costs (x : Mm) (p : Int) (w : Int) (v : Int) (h_p : fm_r p) (h_w : fm_r w) (h_v : fm_r v) (e0 : GI x) : CnI YM yX12_costs cX12_costs 5 .int 2 45 (fun G => [vr G 0, vi p, vi w, vi v]) x (fun z y' => (y' 0 5 = 0) ∧ (GI y') ∧ (∀ a : Int, (a < 0 ∨ 0 < a) → (a < 1 ∨ 1 < a) → (a < 8 ∨ 8 < a) → y' a = x a) ∧ (∀ i : Int, i ≠ 5 → i ≠ 18 → i ≠ 21 → y' 0 i = x 0 i)) := by
  refine cn_I (by decide) (fun _ => Nat.le_of_ble_eq_true rfl) (fun G C h hq => ?_)
  have h : OK YM G C cX12_costs RX12 5 (some .int) 2 45 := h
  show FW YM G C 5 x 0 [(0, vr G 0), (1, vi p), (2, vi w), (3, vi v)] []
  have e12 := e0.2.2.2
  refine fr_aload_n h rfl 0 rfl dX12_costs_0 ?_
  refine fr_iconst h dX12_costs_1 ?_
  refine fr_puti (iz := 5) h kX12 fX12_94 at_0M rfl rfl (by decide) (by decide) rfl (by decide +kernel) rfM_5 (by omega) (by omega) dX12_costs_2 ?_
  refine fr_mem (fun x1 m2 => ?_)
  refine fr_iload_n h rfl 1 rfl dX12_costs_5 ?_
  refine fr_iload_n h rfl 2 rfl dX12_costs_6 ?_
  refine fr_iload_n h rfl 3 rfl dX12_costs_7 ?_
  refine fr_csI h wX12_canCost lX12_249 (c_X12_canCost x1 p w v (by omega) (by omega) (by omega)) rfl (by decide) (by decide) rfl (Nat.le_of_ble_eq_true rfl) dX12_costs_8 (fun z4 x3 w5 p6 => ?_)
  obtain ⟨p7, p8, y9⟩ := p6
  rw [y9]
  clear y9
  refine fr_if_ne (tgt := 16) h dX12_costs_11 (by decide) (by omega) (fun c10 => ?_) (fun c10 => ?_)
  ·
    refine fr_aload_n h rfl 0 rfl dX12_costs_16 ?_
    refine fr_aload_n h rfl 0 rfl dX12_costs_17 ?_
    refine fr_getc (z := 1) (iz := 0) h kX12 fX12_9 at_0M rfl rfl rfM_0 (by omega) dX12_costs_18 ?_
    refine fr_cvV h kX12 at_0M wX12_change lX12_165 (c_X12_change x1 1 SA_1 (by rw [show x1 8 = x 8 from (fm_up_row m2 (by omega))]; exact e0.2.1) (by rw [show x1 1 = x 1 from (fm_up_row m2 (by omega))]; exact e0.1)) rfl (by decide) (by decide) rfl (Nat.le_of_ble_eq_true rfl) dX12_costs_21 (fun x11 p14 => ?_)
    obtain ⟨p15, f16, f17⟩ := p14
    refine fr_aload_n h rfl 0 rfl dX12_costs_24 ?_
    refine fr_getc (z := 1) (iz := 0) h kX12 fX12_9 at_0M rfl rfl rfM_0 (by omega) dX12_costs_25 ?_
    refine fr_bipush h rfl dX12_costs_28 ?_
    refine fr_iconst h dX12_costs_30 ?_
    refine fr_iload_n h rfl 1 rfl dX12_costs_31 ?_
    refine fr_imul h dX12_costs_32 ?_
    refine fr_iadd h dX12_costs_33 ?_
    refine fr_iload_n h rfl 2 rfl dX12_costs_34 ?_
    refine fr_iadd h dX12_costs_35 ?_
    refine fr_iald h (SA_a SA_1) (by omega) (by omega) ((SA_r SA_1 ((77 + (5 * p)) + w)).trans (sg_wt (by omega) (by omega))) dX12_costs_36 (fun z18 w19 w20 q21 => ?_)
    have r22 := q21.trans (congrFun (f16 1 (by omega) (by omega)) ((77 + (5 * p)) + w))
    have r23 := r22.trans (fm_rd_k (a := 1) (b := ((77 + (5 * p)) + w)) m2 (by omega))
    refine fr_istore (L' := [(0, vr G 0), (1, vi p), (2, vi w), (3, vi v), (4, vi z18)]) h dX12_costs_37 (by decide) [1, 2, 3, 4, 0] rfl ?_
    refine fr_aload_n h rfl 0 rfl dX12_costs_39 ?_
    refine fr_getc (z := 1) (iz := 0) h kX12 fX12_9 at_0M rfl rfl rfM_0 (by omega) dX12_costs_40 ?_
    refine fr_bipush h rfl dX12_costs_43 ?_
    refine fr_iconst h dX12_costs_45 ?_
    refine fr_iload_n h rfl 1 rfl dX12_costs_46 ?_
    refine fr_imul h dX12_costs_47 ?_
    refine fr_iadd h dX12_costs_48 ?_
    refine fr_iload_n h rfl 2 rfl dX12_costs_49 ?_
    refine fr_iadd h dX12_costs_50 ?_
    refine fr_iload_n h rfl 3 rfl dX12_costs_51 ?_
    refine fr_iast h (SA_a SA_1) (by omega) (by omega) ((SA_r SA_1 ((77 + (5 * p)) + w)).trans (sg_wt (by omega) (by omega))) (by omega) (by omega) dX12_costs_52 ?_
    refine fr_mem (fun x24 m25 => ?_)
    refine fr_iload h 4 rfl dX12_costs_53 ?_
    have r26 := (fm_rd_k (a := 0) (b := 5) m25 (by omega))
    have r27 := r26.trans (f17 5 (by decide) (by decide))
    have r28 := r27.trans (fm_rd_s m2)
    have r29 := (fm_rd_k (a := 0) (b := 12) m25 (by omega))
    have r30 := r29.trans (f17 12 (by decide) (by decide))
    have r31 := r30.trans (fm_rd_i (a := 0) (b := 12) m2 (by decide))
    exact fr_iret h hq (by omega) ⟨(by omega), ⟨(MI_cong (by rw [show x11 1 = x1 1 from (f16 1 (by omega) (by omega))]; exact (by rw [show x1 1 = x 1 from (fm_up_row m2 (by omega))]; exact e0.1)) (fun i a b => fm_rd_i m25 (by omega))), (by rw [show x24 8 = x11 8 from (fm_up_row m25 (by omega))]; exact p15), (by rw [show x24 26 = x 26 from ((fm_up_row m25 (by omega)).trans ((f16 26 (by omega) (by omega)).trans (fm_up_row m2 (by omega))))]; exact e0.2.2.1), (by have := e0.2.2.2; omega)⟩, (fun a k0 k1 k2 => ((fm_up_row m25 (by omega)).trans ((f16 a (by omega) (by omega)).trans (fm_up_row m2 (by omega))))), (fun i k0 k1 k2 => ((fm_rd_k (a := 0) (b := i) m25 (by omega)).trans ((f17 i (by omega) (by omega)).trans (fm_rd_i (a := 0) (b := i) m2 (by omega)))))⟩ dX12_costs_55
  ·
    refine fr_iconst h dX12_costs_14 ?_
    have r32 := (fm_rd_s m2)
    have r33 := (fm_rd_i (a := 0) (b := 12) m2 (by decide))
    exact fr_iret h hq (by omega) ⟨(by omega), ⟨(by rw [show x1 1 = x 1 from (fm_up_row m2 (by omega))]; exact e0.1), (by rw [show x1 8 = x 8 from (fm_up_row m2 (by omega))]; exact e0.2.1), (by rw [show x1 26 = x 26 from (fm_up_row m2 (by omega))]; exact e0.2.2.1), (by have := e0.2.2.2; omega)⟩, (fun a k0 k1 k2 => (fm_up_row m2 (by omega))), (fun i k0 k1 k2 => (fm_rd_i (a := 0) (b := i) m2 (by omega)))⟩ dX12_costs_15
set_option maxHeartbeats 200000 in
theorem c_X12_ends (x : Mm) (p : Int) (w : Int) (h_p : fm_r p) (h_w : fm_r w) (e0 : GI x) : CnI YM yX12_ends cX12_ends 4 .int 2 45 (fun G => [vr G 0, vi p, vi w]) x (fun z y' => (y' 0 5 = 0) ∧ (GI y') ∧ (∀ a : Int, (a < 0 ∨ 0 < a) → (a < 1 ∨ 1 < a) → (a < 8 ∨ 8 < a) → y' a = x a) ∧ (∀ i : Int, i ≠ 5 → i ≠ 18 → i ≠ 21 → y' 0 i = x 0 i)) := by
  refine cn_I (by decide) (fun _ => Nat.le_of_ble_eq_true rfl) (fun G C h hq => ?_)
  have h : OK YM G C cX12_ends RX12 4 (some .int) 2 45 := h
  show FW YM G C 4 x 0 [(0, vr G 0), (1, vi p), (2, vi w)] []
  have e12 := e0.2.2.2
  refine fr_aload_n h rfl 0 rfl dX12_ends_0 ?_
  refine fr_iconst h dX12_ends_1 ?_
  refine fr_puti (iz := 5) h kX12 fX12_94 at_0M rfl rfl (by decide) (by decide) rfl (by decide +kernel) rfM_5 (by omega) (by omega) dX12_ends_2 ?_
  refine fr_mem (fun x1 m2 => ?_)
  refine fr_iload_n h rfl 1 rfl dX12_ends_5 ?_
  refine fr_iload_n h rfl 2 rfl dX12_ends_6 ?_
  refine fr_csI h wX12_canEnd lX12_255 (c_X12_canEnd x1 p w (by omega) (by omega)) rfl (by decide) (by decide) rfl (Nat.le_of_ble_eq_true rfl) dX12_ends_7 (fun z4 x3 w5 p6 => ?_)
  obtain ⟨p7, p8, y9⟩ := p6
  rw [y9]
  clear y9
  refine fr_if_ne (tgt := 15) h dX12_ends_10 (by decide) (by omega) (fun c10 => ?_) (fun c10 => ?_)
  ·
    refine fr_aload_n h rfl 0 rfl dX12_ends_15 ?_
    refine fr_aload_n h rfl 0 rfl dX12_ends_16 ?_
    refine fr_getc (z := 1) (iz := 0) h kX12 fX12_9 at_0M rfl rfl rfM_0 (by omega) dX12_ends_17 ?_
    refine fr_cvV h kX12 at_0M wX12_change lX12_165 (c_X12_change x1 1 SA_1 (by rw [show x1 8 = x 8 from (fm_up_row m2 (by omega))]; exact e0.2.1) (by rw [show x1 1 = x 1 from (fm_up_row m2 (by omega))]; exact e0.1)) rfl (by decide) (by decide) rfl (Nat.le_of_ble_eq_true rfl) dX12_ends_20 (fun x11 p14 => ?_)
    obtain ⟨p15, f16, f17⟩ := p14
    refine fr_aload_n h rfl 0 rfl dX12_ends_23 ?_
    refine fr_getc (z := 1) (iz := 0) h kX12 fX12_9 at_0M rfl rfl rfM_0 (by omega) dX12_ends_24 ?_
    refine fr_csI h wX12_endsOf lX12_259 (c_X12_endsOf x11 1 SA_1) rfl (by decide) (by decide) rfl (Nat.le_of_ble_eq_true rfl) dX12_ends_27 (fun z19 x18 w20 p21 => ?_)
    obtain ⟨p22, p23, y24⟩ := p21
    rw [y24]
    clear y24
    refine fr_istore_n (L' := [(0, vr G 0), (1, vi p), (2, vi w), (3, vi z19)]) h rfl dX12_ends_30 (by decide) [1, 2, 3, 0] rfl ?_
    refine fr_aload_n h rfl 0 rfl dX12_ends_31 ?_
    refine fr_getc (z := 1) (iz := 0) h kX12 fX12_9 at_0M rfl rfl rfM_0 (by omega) dX12_ends_32 ?_
    refine fr_bipush h rfl dX12_ends_35 ?_
    refine fr_iload_n h rfl 1 rfl dX12_ends_37 ?_
    refine fr_iast h (SA_a SA_1) (by omega) (by omega) ((SA_r SA_1 103).trans sg_e1) (by omega) (by omega) dX12_ends_38 ?_
    refine fr_mem (fun x25 m26 => ?_)
    refine fr_aload_n h rfl 0 rfl dX12_ends_39 ?_
    refine fr_getc (z := 1) (iz := 0) h kX12 fX12_9 at_0M rfl rfl rfM_0 (by omega) dX12_ends_40 ?_
    refine fr_bipush h rfl dX12_ends_43 ?_
    refine fr_iload_n h rfl 2 rfl dX12_ends_45 ?_
    refine fr_iast h (SA_a SA_1) (by omega) (by omega) ((SA_r SA_1 104).trans sg_e2) (by omega) (by omega) dX12_ends_46 ?_
    refine fr_mem (fun x27 m28 => ?_)
    refine fr_iload_n h rfl 3 rfl dX12_ends_47 ?_
    have r29 := (fm_rd_k (a := 0) (b := 5) m28 (by omega))
    have r30 := r29.trans (fm_rd_k (a := 0) (b := 5) m26 (by omega))
    have r31 := r30.trans (f17 5 (by decide) (by decide))
    have r32 := r31.trans (fm_rd_s m2)
    have r33 := (fm_rd_k (a := 0) (b := 12) m28 (by omega))
    have r34 := r33.trans (fm_rd_k (a := 0) (b := 12) m26 (by omega))
    have r35 := r34.trans (f17 12 (by decide) (by decide))
    have r36 := r35.trans (fm_rd_i (a := 0) (b := 12) m2 (by decide))
    exact fr_iret h hq (by omega) ⟨(by omega), ⟨(MI_cong (MI_cong (by rw [show x11 1 = x1 1 from (f16 1 (by omega) (by omega))]; exact (by rw [show x1 1 = x 1 from (fm_up_row m2 (by omega))]; exact e0.1)) (fun i a b => fm_rd_i m26 (by omega))) (fun i a b => fm_rd_i m28 (by omega))), (by rw [show x27 8 = x11 8 from ((fm_up_row m28 (by omega)).trans (fm_up_row m26 (by omega)))]; exact p15), (by rw [show x27 26 = x 26 from ((fm_up_row m28 (by omega)).trans ((fm_up_row m26 (by omega)).trans ((f16 26 (by omega) (by omega)).trans (fm_up_row m2 (by omega)))))]; exact e0.2.2.1), (by have := e0.2.2.2; omega)⟩, (fun a k0 k1 k2 => ((fm_up_row m28 (by omega)).trans ((fm_up_row m26 (by omega)).trans ((f16 a (by omega) (by omega)).trans (fm_up_row m2 (by omega)))))), (fun i k0 k1 k2 => ((fm_rd_k (a := 0) (b := i) m28 (by omega)).trans ((fm_rd_k (a := 0) (b := i) m26 (by omega)).trans ((f17 i (by omega) (by omega)).trans (fm_rd_i (a := 0) (b := i) m2 (by omega))))))⟩ dX12_ends_48
  ·
    refine fr_iconst h dX12_ends_13 ?_
    have r37 := (fm_rd_s m2)
    have r38 := (fm_rd_i (a := 0) (b := 12) m2 (by decide))
    exact fr_iret h hq (by omega) ⟨(by omega), ⟨(by rw [show x1 1 = x 1 from (fm_up_row m2 (by omega))]; exact e0.1), (by rw [show x1 8 = x 8 from (fm_up_row m2 (by omega))]; exact e0.2.1), (by rw [show x1 26 = x 26 from (fm_up_row m2 (by omega))]; exact e0.2.2.1), (by have := e0.2.2.2; omega)⟩, (fun a k0 k1 k2 => (fm_up_row m2 (by omega))), (fun i k0 k1 k2 => (fm_rd_i (a := 0) (b := i) m2 (by omega)))⟩ dX12_ends_14
set_option maxHeartbeats 200000 in
theorem c_X12_sets (x : Mm) (p : Int) (v : Int) (h_p : fm_r p) (h_v : fm_r v) (e0 : GI x) : CnI YM yX12_sets cX12_sets 6 .int 2 45 (fun G => [vr G 0, vi p, vi v]) x (fun z y' => (y' 0 5 = 0) ∧ (GI y') ∧ (∀ a : Int, (a < 0 ∨ 0 < a) → (a < 1 ∨ 1 < a) → (a < 8 ∨ 8 < a) → y' a = x a) ∧ (∀ i : Int, i ≠ 5 → i ≠ 18 → i ≠ 21 → y' 0 i = x 0 i)) := by
  refine cn_I (by decide) (fun _ => Nat.le_of_ble_eq_true rfl) (fun G C h hq => ?_)
  have h : OK YM G C cX12_sets RX12 6 (some .int) 2 45 := h
  show FW YM G C 6 x 0 [(0, vr G 0), (1, vi p), (2, vi v)] []
  have e12 := e0.2.2.2
  refine fr_aload_n h rfl 0 rfl dX12_sets_0 ?_
  refine fr_iconst h dX12_sets_1 ?_
  refine fr_puti (iz := 5) h kX12 fX12_94 at_0M rfl rfl (by decide) (by decide) rfl (by decide +kernel) rfM_5 (by omega) (by omega) dX12_sets_2 ?_
  refine fr_mem (fun x1 m2 => ?_)
  refine fr_aload_n h rfl 0 rfl dX12_sets_5 ?_
  refine fr_getc (z := 1) (iz := 0) h kX12 fX12_9 at_0M rfl rfl rfM_0 (by omega) dX12_sets_6 ?_
  refine fr_iload_n h rfl 1 rfl dX12_sets_9 ?_
  refine fr_iload_n h rfl 2 rfl dX12_sets_10 ?_
  refine fr_csI h wX12_refusesSet lX12_252 (c_X12_refusesSet x1 1 SA_1 p v (by omega) (by omega)) rfl (by decide) (by decide) rfl (Nat.le_of_ble_eq_true rfl) dX12_sets_11 (fun z4 x3 w5 p6 => ?_)
  obtain ⟨p7, p8, p9, y10⟩ := p6
  rw [y10]
  clear y10
  refine fr_istore_n (L' := [(0, vr G 0), (1, vi p), (2, vi v), (3, vi z4)]) h rfl dX12_sets_14 (by decide) [1, 2, 3, 0] rfl ?_
  refine fr_iload_n h rfl 3 rfl dX12_sets_15 ?_
  refine fr_if_ge (tgt := 21) h dX12_sets_16 (by decide) (by omega) (fun c11 => ?_) (fun c11 => ?_)
  ·
    refine fr_aload_n h rfl 0 rfl dX12_sets_21 ?_
    refine fr_aload_n h rfl 0 rfl dX12_sets_22 ?_
    refine fr_getc (z := 1) (iz := 0) h kX12 fX12_9 at_0M rfl rfl rfM_0 (by omega) dX12_sets_23 ?_
    refine fr_cvV h kX12 at_0M wX12_change lX12_165 (c_X12_change x1 1 SA_1 (by rw [show x1 8 = x 8 from (fm_up_row m2 (by omega))]; exact e0.2.1) (by rw [show x1 1 = x 1 from (fm_up_row m2 (by omega))]; exact e0.1)) rfl (by decide) (by decide) rfl (Nat.le_of_ble_eq_true rfl) dX12_sets_26 (fun x12 p15 => ?_)
    obtain ⟨p16, f17, f18⟩ := p15
    refine fr_iload_n h rfl 1 rfl dX12_sets_29 ?_
    refine fr_if_ne (tgt := 38) h dX12_sets_30 (by decide) (by omega) (fun c19 => ?_) (fun c19 => ?_)
    ·
      refine fr_bipush h rfl dX12_sets_38 ?_
      refine fr_istore (L' := [(0, vr G 0), (1, vi p), (2, vi v), (3, vi z4), (4, vi 105)]) h dX12_sets_40 (by decide) [1, 2, 3, 4, 0] rfl ?_
      refine fr_aload_n h rfl 0 rfl dX12_sets_42 ?_
      refine fr_getc (z := 1) (iz := 0) h kX12 fX12_9 at_0M rfl rfl rfM_0 (by omega) dX12_sets_43 ?_
      refine fr_iload h 4 rfl dX12_sets_46 ?_
      refine fr_iald h (SA_a SA_1) (by omega) (by omega) ((SA_r SA_1 105).trans sg_pick) dX12_sets_48 (fun z20 w21 w22 q23 => ?_)
      have r24 := q23.trans (congrFun (f17 1 (by omega) (by omega)) 105)
      have r25 := r24.trans (fm_rd_k (a := 1) (b := 105) m2 (by omega))
      refine fr_istore (L' := [(0, vr G 0), (1, vi p), (2, vi v), (3, vi z4), (4, vi 105), (5, vi z20)]) h dX12_sets_49 (by decide) [1, 2, 3, 4, 5, 0] rfl ?_
      refine fr_aload_n h rfl 0 rfl dX12_sets_51 ?_
      refine fr_getc (z := 1) (iz := 0) h kX12 fX12_9 at_0M rfl rfl rfM_0 (by omega) dX12_sets_52 ?_
      refine fr_iload h 4 rfl dX12_sets_55 ?_
      refine fr_iload_n h rfl 2 rfl dX12_sets_57 ?_
      refine fr_iast h (SA_a SA_1) (by omega) (by omega) ((SA_r SA_1 105).trans sg_pick) (by omega) (by omega) dX12_sets_58 ?_
      refine fr_mem (fun x26 m27 => ?_)
      refine fr_bipush h rfl dX12_sets_59 ?_
      refine fr_iload h 5 rfl dX12_sets_61 ?_
      refine fr_iadd h dX12_sets_63 ?_
      have r28 := (fm_rd_k (a := 0) (b := 5) m27 (by omega))
      have r29 := r28.trans (f18 5 (by decide) (by decide))
      have r30 := r29.trans (fm_rd_s m2)
      have r31 := (fm_rd_k (a := 0) (b := 12) m27 (by omega))
      have r32 := r31.trans (f18 12 (by decide) (by decide))
      have r33 := r32.trans (fm_rd_i (a := 0) (b := 12) m2 (by decide))
      exact fr_iret h hq (by omega) ⟨(by omega), ⟨(MI_cong (by rw [show x12 1 = x1 1 from (f17 1 (by omega) (by omega))]; exact (by rw [show x1 1 = x 1 from (fm_up_row m2 (by omega))]; exact e0.1)) (fun i a b => fm_rd_i m27 (by omega))), (by rw [show x26 8 = x12 8 from (fm_up_row m27 (by omega))]; exact p16), (by rw [show x26 26 = x 26 from ((fm_up_row m27 (by omega)).trans ((f17 26 (by omega) (by omega)).trans (fm_up_row m2 (by omega))))]; exact e0.2.2.1), (by have := e0.2.2.2; omega)⟩, (fun a k0 k1 k2 => ((fm_up_row m27 (by omega)).trans ((f17 a (by omega) (by omega)).trans (fm_up_row m2 (by omega))))), (fun i k0 k1 k2 => ((fm_rd_k (a := 0) (b := i) m27 (by omega)).trans ((f18 i (by omega) (by omega)).trans (fm_rd_i (a := 0) (b := i) m2 (by omega)))))⟩ dX12_sets_64
    ·
      refine fr_bipush h rfl dX12_sets_33 ?_
      refine fr_goto (tgt := 40) h dX12_sets_35 (by decide) ?_
      refine fr_istore (L' := [(0, vr G 0), (1, vi p), (2, vi v), (3, vi z4), (4, vi 102)]) h dX12_sets_40 (by decide) [1, 2, 3, 4, 0] rfl ?_
      refine fr_aload_n h rfl 0 rfl dX12_sets_42 ?_
      refine fr_getc (z := 1) (iz := 0) h kX12 fX12_9 at_0M rfl rfl rfM_0 (by omega) dX12_sets_43 ?_
      refine fr_iload h 4 rfl dX12_sets_46 ?_
      refine fr_iald h (SA_a SA_1) (by omega) (by omega) ((SA_r SA_1 102).trans sg_size) dX12_sets_48 (fun z34 w35 w36 q37 => ?_)
      have r38 := q37.trans (congrFun (f17 1 (by omega) (by omega)) 102)
      have r39 := r38.trans (fm_rd_k (a := 1) (b := 102) m2 (by omega))
      refine fr_istore (L' := [(0, vr G 0), (1, vi p), (2, vi v), (3, vi z4), (4, vi 102), (5, vi z34)]) h dX12_sets_49 (by decide) [1, 2, 3, 4, 5, 0] rfl ?_
      refine fr_aload_n h rfl 0 rfl dX12_sets_51 ?_
      refine fr_getc (z := 1) (iz := 0) h kX12 fX12_9 at_0M rfl rfl rfM_0 (by omega) dX12_sets_52 ?_
      refine fr_iload h 4 rfl dX12_sets_55 ?_
      refine fr_iload_n h rfl 2 rfl dX12_sets_57 ?_
      refine fr_iast h (SA_a SA_1) (by omega) (by omega) ((SA_r SA_1 102).trans sg_size) (by omega) (by omega) dX12_sets_58 ?_
      refine fr_mem (fun x40 m41 => ?_)
      refine fr_bipush h rfl dX12_sets_59 ?_
      refine fr_iload h 5 rfl dX12_sets_61 ?_
      refine fr_iadd h dX12_sets_63 ?_
      have r42 := (fm_rd_k (a := 0) (b := 5) m41 (by omega))
      have r43 := r42.trans (f18 5 (by decide) (by decide))
      have r44 := r43.trans (fm_rd_s m2)
      have r45 := (fm_rd_k (a := 0) (b := 12) m41 (by omega))
      have r46 := r45.trans (f18 12 (by decide) (by decide))
      have r47 := r46.trans (fm_rd_i (a := 0) (b := 12) m2 (by decide))
      exact fr_iret h hq (by omega) ⟨(by omega), ⟨(MI_cong (by rw [show x12 1 = x1 1 from (f17 1 (by omega) (by omega))]; exact (by rw [show x1 1 = x 1 from (fm_up_row m2 (by omega))]; exact e0.1)) (fun i a b => fm_rd_i m41 (by omega))), (by rw [show x40 8 = x12 8 from (fm_up_row m41 (by omega))]; exact p16), (by rw [show x40 26 = x 26 from ((fm_up_row m41 (by omega)).trans ((f17 26 (by omega) (by omega)).trans (fm_up_row m2 (by omega))))]; exact e0.2.2.1), (by have := e0.2.2.2; omega)⟩, (fun a k0 k1 k2 => ((fm_up_row m41 (by omega)).trans ((f17 a (by omega) (by omega)).trans (fm_up_row m2 (by omega))))), (fun i k0 k1 k2 => ((fm_rd_k (a := 0) (b := i) m41 (by omega)).trans ((f18 i (by omega) (by omega)).trans (fm_rd_i (a := 0) (b := i) m2 (by omega)))))⟩ dX12_sets_64
  ·
    refine fr_iload_n h rfl 3 rfl dX12_sets_19 ?_
    have r48 := (fm_rd_s m2)
    have r49 := (fm_rd_i (a := 0) (b := 12) m2 (by decide))
    exact fr_iret h hq (by omega) ⟨(by omega), ⟨(by rw [show x1 1 = x 1 from (fm_up_row m2 (by omega))]; exact e0.1), (by rw [show x1 8 = x 8 from (fm_up_row m2 (by omega))]; exact e0.2.1), (by rw [show x1 26 = x 26 from (fm_up_row m2 (by omega))]; exact e0.2.2.1), (by have := e0.2.2.2; omega)⟩, (fun a k0 k1 k2 => (fm_up_row m2 (by omega))), (fun i k0 k1 k2 => (fm_rd_i (a := 0) (b := i) m2 (by omega)))⟩ dX12_sets_20
set_option maxHeartbeats 8000000 in
theorem c_X12_sheet (x : Mm) (k : Int) (n : Int) (u : Int) (v : Int) (h_k : fm_r k) (h_n : fm_r n) (h_u : fm_r u) (h_v : fm_r v) (e0 : GI x) : CnI YM yX12_sheet cX12_sheet 12 .int 2 46 (fun G => [vr G 0, vi k, vi n, vi u, vi v]) x (fun z y' => (y' 0 5 = 0) ∧ (GI y') ∧ (∀ a : Int, (a < 0 ∨ 0 < a) → (a < 1 ∨ 1 < a) → y' a = x a) ∧ (∀ i : Int, i ≠ 5 → i ≠ 21 → y' 0 i = x 0 i)) := by
  refine cn_I (by decide) (fun _ => Nat.le_of_ble_eq_true rfl) (fun G C h hq => ?_)
  have h : OK YM G C cX12_sheet RX12 12 (some .int) 2 46 := h
  show FW YM G C 12 x 0 [(0, vr G 0), (1, vi k), (2, vi n), (3, vi u), (4, vi v)] []
  have e12 := e0.2.2.2
  refine fr_aload_n h rfl 0 rfl dX12_sheet_0 ?_
  refine fr_iconst h dX12_sheet_1 ?_
  refine fr_puti (iz := 5) h kX12 fX12_94 at_0M rfl rfl (by decide) (by decide) rfl (by decide +kernel) rfM_5 (by omega) (by omega) dX12_sheet_2 ?_
  refine fr_mem (fun x1 m2 => ?_)
  refine fr_iload_n h rfl 1 rfl dX12_sheet_5 ?_
  refine fr_iconst h dX12_sheet_6 ?_
  refine fr_iconst h dX12_sheet_7 ?_
  refine fr_csI h wX12_in lX12_101 (c_X12_in x1 k 0 3 (by omega) (by omega) (by omega)) rfl (by decide) (by decide) rfl (Nat.le_of_ble_eq_true rfl) dX12_sheet_8 (fun z4 x3 w5 p6 => ?_)
  obtain ⟨p7, p8, y9⟩ := p6
  rw [y9]
  clear y9
  refine fr_if_eq (tgt := 20) h dX12_sheet_11 (by decide) (by omega) (fun c10 => ?_) (fun c10 => ?_)
  ·
    refine fr_iconst h dX12_sheet_20 ?_
    have r11 := (fm_rd_s m2)
    have r12 := (fm_rd_i (a := 0) (b := 12) m2 (by decide))
    exact fr_iret h hq (by omega) ⟨(by omega), ⟨(by rw [show x1 1 = x 1 from (fm_up_row m2 (by omega))]; exact e0.1), (by rw [show x1 8 = x 8 from (fm_up_row m2 (by omega))]; exact e0.2.1), (by rw [show x1 26 = x 26 from (fm_up_row m2 (by omega))]; exact e0.2.2.1), (by have := e0.2.2.2; omega)⟩, (fun a k0 k1 => (fm_up_row m2 (by omega))), (fun i k0 k1 => (fm_rd_i (a := 0) (b := i) m2 (by omega)))⟩ dX12_sheet_21
  ·
    refine fr_iload_n h rfl 2 rfl dX12_sheet_14 ?_
    refine fr_bipush h rfl dX12_sheet_15 ?_
    refine fr_icmp_le (tgt := 22) h dX12_sheet_17 (by decide) (by omega) (by omega) (fun c13 => ?_) (fun c13 => ?_)
    ·
      refine fr_iload_n h rfl 1 rfl dX12_sheet_22 ?_
      refine fr_iconst h dX12_sheet_23 ?_
      refine fr_icmp_ge (tgt := 34) h dX12_sheet_24 (by decide) (by omega) (by omega) (fun c14 => ?_) (fun c14 => ?_)
      ·
        refine fr_iload_n h rfl 3 rfl dX12_sheet_34 ?_
        refine fr_istore (L' := [(0, vr G 0), (1, vi k), (2, vi n), (3, vi u), (4, vi v), (5, vi u)]) h dX12_sheet_35 (by decide) [1, 2, 3, 4, 5, 0] rfl ?_
        refine fr_iconst h dX12_sheet_37 ?_
        refine fr_istore (L' := [(0, vr G 0), (1, vi k), (2, vi n), (3, vi u), (4, vi v), (5, vi u), (6, vi 0)]) h dX12_sheet_38 (by decide) [1, 2, 3, 4, 5, 6, 0] rfl ?_
        refine fr_aload_n h rfl 0 rfl dX12_sheet_40 ?_
        refine fr_getc (z := 1) (iz := 0) h kX12 fX12_9 at_0M rfl rfl rfM_0 (by omega) dX12_sheet_41 ?_
        refine fr_csI h wX12_edgesOf lX12_216 (c_X12_edgesOf x1 1 SA_1) rfl (by decide) (by decide) rfl (Nat.le_of_ble_eq_true rfl) dX12_sheet_44 (fun z16 x15 w17 p18 => ?_)
        obtain ⟨p19, p20, p21, y22⟩ := p18
        rw [y22]
        clear y22
        refine fr_istore (L' := [(0, vr G 0), (1, vi k), (2, vi n), (3, vi u), (4, vi v), (5, vi u), (6, vi 0), (7, vi z16)]) h dX12_sheet_47 (by decide) [1, 2, 3, 4, 5, 6, 7, 0] rfl ?_
        refine fr_iconst h dX12_sheet_49 ?_
        refine fr_istore (L' := [(0, vr G 0), (1, vi k), (2, vi n), (3, vi u), (4, vi v), (5, vi u), (6, vi 0), (7, vi z16), (8, vi 0)]) h dX12_sheet_50 (by decide) [1, 2, 3, 4, 5, 6, 7, 8, 0] rfl ?_
        have HL23 : ∀ (n23 : Nat) (l5_23 l6_23 l8_23 : Int) (x_23 : Mm), fm_r l5_23 → fm_r l6_23 → fm_r l8_23 → 0 ≤ l8_23 → l8_23 ≤ 49 → MI (x_23 1) → ec (x_23 1) 49 = z16 → l8_23 ≤ z16 → (∀ a : Int, (a < 1 ∨ 1 < a) → x_23 a = x1 a) → (z16 - l8_23) < n23 → FW YM G C 12 x_23 52 [(0, vr G 0), (1, vi k), (2, vi n), (3, vi u), (4, vi v), (5, vi l5_23), (6, vi l6_23), (7, vi z16), (8, vi l8_23)] [] := by
          intro n23
          induction n23 with
          | zero =>
            intro l5_23 l6_23 l8_23 x_23 g23_0 g23_1 g23_2 g23_3 g23_4 g23_5 g23_6 g23_7 g23_8 g23_9
            exfalso; omega
          | succ n23 ih23 =>
            intro l5_23 l6_23 l8_23 x_23 g23_0 g23_1 g23_2 g23_3 g23_4 g23_5 g23_6 g23_7 g23_8 g23_9
            refine fr_iload h 8 rfl dX12_sheet_52 ?_
            refine fr_iload h 7 rfl dX12_sheet_54 ?_
            refine fr_icmp_ge (tgt := 162) h dX12_sheet_56 (by decide) (by omega) (by omega) (fun c24 => ?_) (fun c24 => ?_)
            ·
              refine fr_aload_n h rfl 0 rfl dX12_sheet_162 ?_
              refine fr_dup h rfl dX12_sheet_163 ?_
              refine fr_geti (iz := 21) h kX12 fX12_201 at_0M rfl rfl (by decide) (by decide) rfM_21 dX12_sheet_164 (fun z25 w26 w27 q28 => ?_)
              have r29 := q28.trans (congrFun (g23_8 0 (by omega)) 21)
              have r30 := r29.trans (fm_rd_i (a := 0) (b := 21) m2 (by decide))
              refine fr_iconst h dX12_sheet_167 ?_
              refine fr_iadd h dX12_sheet_168 ?_
              refine fr_normi (fun z31 w32 q33 => ?_)
              have w34 : fm_r ((z25 + 1)) → z31 = (z25 + 1) := fun q => (iI_inj q w32 q33).symm
              refine fr_puti (iz := 21) h kX12 fX12_201 at_0M rfl rfl (by decide) (by decide) rfl (by decide +kernel) rfM_21 (by omega) (by omega) dX12_sheet_169 ?_
              refine fr_mem (fun x35 m36 => ?_)
              refine fr_iload_n h rfl 1 rfl dX12_sheet_172 ?_
              refine fr_iconst h dX12_sheet_173 ?_
              refine fr_icmp_ne (tgt := 182) h dX12_sheet_174 (by decide) (by omega) (by omega) (fun c37 => ?_) (fun c37 => ?_)
              ·
                refine fr_iload h 6 rfl dX12_sheet_182 ?_
                have r38 := (fm_rd_i (a := 0) (b := 5) m36 (by decide))
                have r39 := r38.trans (congrFun (g23_8 0 (by omega)) 5)
                have r40 := r39.trans (fm_rd_s m2)
                have r41 := (fm_rd_i (a := 0) (b := 12) m36 (by decide))
                have r42 := r41.trans (congrFun (g23_8 0 (by omega)) 12)
                have r43 := r42.trans (fm_rd_i (a := 0) (b := 12) m2 (by decide))
                exact fr_iret h hq (by omega) ⟨(by omega), ⟨(by rw [show x35 1 = x_23 1 from (fm_up_row m36 (by omega))]; exact g23_5), (by rw [show x35 8 = x 8 from ((fm_up_row m36 (by omega)).trans ((g23_8 8 (by omega)).trans (fm_up_row m2 (by omega))))]; exact e0.2.1), (by rw [show x35 26 = x 26 from ((fm_up_row m36 (by omega)).trans ((g23_8 26 (by omega)).trans (fm_up_row m2 (by omega))))]; exact e0.2.2.1), (by have := e0.2.2.2; omega)⟩, (fun a k0 k1 => ((fm_up_row m36 (by omega)).trans ((g23_8 a (by omega)).trans (fm_up_row m2 (by omega))))), (fun i k0 k1 => ((fm_rd_i (a := 0) (b := i) m36 (by omega)).trans ((congrFun (g23_8 0 (by omega)) i).trans (fm_rd_i (a := 0) (b := i) m2 (by omega)))))⟩ dX12_sheet_184
              ·
                refine fr_bipush h rfl dX12_sheet_177 ?_
                refine fr_goto (tgt := 184) h dX12_sheet_179 (by decide) ?_
                have r44 := (fm_rd_i (a := 0) (b := 5) m36 (by decide))
                have r45 := r44.trans (congrFun (g23_8 0 (by omega)) 5)
                have r46 := r45.trans (fm_rd_s m2)
                have r47 := (fm_rd_i (a := 0) (b := 12) m36 (by decide))
                have r48 := r47.trans (congrFun (g23_8 0 (by omega)) 12)
                have r49 := r48.trans (fm_rd_i (a := 0) (b := 12) m2 (by decide))
                exact fr_iret h hq (by omega) ⟨(by omega), ⟨(by rw [show x35 1 = x_23 1 from (fm_up_row m36 (by omega))]; exact g23_5), (by rw [show x35 8 = x 8 from ((fm_up_row m36 (by omega)).trans ((g23_8 8 (by omega)).trans (fm_up_row m2 (by omega))))]; exact e0.2.1), (by rw [show x35 26 = x 26 from ((fm_up_row m36 (by omega)).trans ((g23_8 26 (by omega)).trans (fm_up_row m2 (by omega))))]; exact e0.2.2.1), (by have := e0.2.2.2; omega)⟩, (fun a k0 k1 => ((fm_up_row m36 (by omega)).trans ((g23_8 a (by omega)).trans (fm_up_row m2 (by omega))))), (fun i k0 k1 => ((fm_rd_i (a := 0) (b := i) m36 (by omega)).trans ((congrFun (g23_8 0 (by omega)) i).trans (fm_rd_i (a := 0) (b := i) m2 (by omega)))))⟩ dX12_sheet_184
            ·
              refine fr_iload_n h rfl 1 rfl dX12_sheet_59 ?_
              refine fr_if_ne (tgt := 69) h dX12_sheet_60 (by decide) (by omega) (fun c50 => ?_) (fun c50 => by exfalso; omega)
              refine fr_iload_n h rfl 1 rfl dX12_sheet_69 ?_
              refine fr_iconst h dX12_sheet_70 ?_
              refine fr_icmp_ne (tgt := 80) h dX12_sheet_71 (by decide) (by omega) (by omega) (fun c51 => ?_) (fun c51 => by exfalso; omega)
              refine fr_iload h 5 rfl dX12_sheet_80 ?_
              refine fr_istore (L' := [(0, vr G 0), (1, vi k), (2, vi n), (3, vi u), (4, vi v), (5, vi l5_23), (6, vi l6_23), (7, vi z16), (8, vi l8_23), (9, vi l5_23)]) h dX12_sheet_82 (by decide) [1, 2, 3, 4, 5, 6, 7, 8, 9, 0] rfl ?_
              refine fr_iload_n h rfl 1 rfl dX12_sheet_84 ?_
              refine fr_iconst h dX12_sheet_85 ?_
              refine fr_icmp_eq (tgt := 95) h dX12_sheet_86 (by decide) (by omega) (by omega) (fun c52 => ?_) (fun c52 => ?_)
              ·
                refine fr_iconst h dX12_sheet_95 ?_
                refine fr_goto (tgt := 110) h dX12_sheet_96 (by decide) ?_
                refine fr_istore (L' := [(0, vr G 0), (1, vi k), (2, vi n), (3, vi u), (4, vi v), (5, vi l5_23), (6, vi l6_23), (7, vi z16), (8, vi l8_23), (9, vi l5_23), (10, vi 1)]) h dX12_sheet_110 (by decide) [1, 2, 3, 4, 5, 6, 7, 8, 9, 10, 0] rfl ?_
                refine fr_aload_n h rfl 0 rfl dX12_sheet_112 ?_
                refine fr_getc (z := 1) (iz := 0) h kX12 fX12_9 at_0M rfl rfl rfM_0 (by omega) dX12_sheet_113 ?_
                refine fr_iload h 8 rfl dX12_sheet_116 ?_
                refine fr_csI h wX12_edgeAt lX12_220 (c_X12_edgeAt x_23 1 SA_1 l8_23 (by omega) (by omega)) rfl (by decide) (by decide) rfl (Nat.le_of_ble_eq_true rfl) dX12_sheet_118 (fun z54 x53 w55 p56 => ?_)
                obtain ⟨p57, p58, p59, p60, y61⟩ := p56
                rw [y61]
                clear y61
                refine fr_istore (L' := [(0, vr G 0), (1, vi k), (2, vi n), (3, vi u), (4, vi v), (5, vi l5_23), (6, vi l6_23), (7, vi z16), (8, vi l8_23), (9, vi l5_23), (10, vi 1), (11, vi z54)]) h dX12_sheet_121 (by decide) [1, 2, 3, 4, 5, 6, 7, 8, 9, 10, 11, 0] rfl ?_
                refine fr_aload_n h rfl 0 rfl dX12_sheet_123 ?_
                refine fr_getc (z := 1) (iz := 0) h kX12 fX12_9 at_0M rfl rfl rfM_0 (by omega) dX12_sheet_124 ?_
                refine fr_iload h 11 rfl dX12_sheet_127 ?_
                refine fr_bipush h rfl dX12_sheet_129 ?_
                refine fr_idiv h (by omega) (by omega) (by omega) dX12_sheet_131 (fun z62 w63 q64 w65 => ?_)
                have w66 := w65
                refine fr_iload h 11 rfl dX12_sheet_132 ?_
                refine fr_bipush h rfl dX12_sheet_134 ?_
                refine fr_irem h (by omega) (by omega) (by omega) dX12_sheet_136 (fun z67 w68 q69 w70 => ?_)
                have w71 := w70
                refine fr_iload h 10 rfl dX12_sheet_137 ?_
                have hpos : 0 < x_23 1 (28 + 7 * z62 + z67) := by rw [show z62 = z54 / 7 by omega, show z67 = z54 % 7 by omega]; omega
                refine fr_csV h wX12_weigh lX12_224 (c_X12_weigh x_23 1 SA_1 z62 z67 1 (by omega) (by omega) (by omega) (by omega) (by omega) (by omega) (by omega) (by omega) (by omega)) rfl (by decide) (by decide) rfl (Nat.le_of_ble_eq_true rfl) dX12_sheet_139 (fun x72 p75 => ?_)
                obtain ⟨p76, p77, p78, f79⟩ := p75
                refine fr_iload h 6 rfl dX12_sheet_142 ?_
                refine fr_iload h 10 rfl dX12_sheet_144 ?_
                refine fr_iadd h dX12_sheet_146 ?_
                refine fr_normi (fun z80 w81 q82 => ?_)
                have w83 : fm_r ((l6_23 + 1)) → z80 = (l6_23 + 1) := fun q => (iI_inj q w81 q82).symm
                refine fr_istore (L' := [(0, vr G 0), (1, vi k), (2, vi n), (3, vi u), (4, vi v), (5, vi l5_23), (6, vi z80), (7, vi z16), (8, vi l8_23), (9, vi l5_23), (10, vi 1), (11, vi z54)]) h dX12_sheet_147 (by decide) [1, 2, 3, 4, 5, 6, 0, 7, 8, 9, 10, 11] rfl ?_
                refine fr_iload h 5 rfl dX12_sheet_149 ?_
                refine fr_iload h 4 rfl dX12_sheet_151 ?_
                refine fr_iadd h dX12_sheet_153 ?_
                refine fr_normi (fun z84 w85 q86 => ?_)
                have w87 : fm_r ((l5_23 + v)) → z84 = (l5_23 + v) := fun q => (iI_inj q w85 q86).symm
                refine fr_istore (L' := [(0, vr G 0), (1, vi k), (2, vi n), (3, vi u), (4, vi v), (5, vi z84), (6, vi z80), (7, vi z16), (8, vi l8_23), (9, vi l5_23), (10, vi 1), (11, vi z54)]) h dX12_sheet_154 (by decide) [1, 2, 3, 4, 5, 0, 6, 7, 8, 9, 10, 11] rfl ?_
                refine fr_iinc (j := 8) (L' := [(0, vr G 0), (1, vi k), (2, vi n), (3, vi u), (4, vi v), (5, vi z84), (6, vi z80), (7, vi z16), (8, vi (l8_23 + 1)), (9, vi l5_23), (10, vi 1), (11, vi z54)]) h dX12_sheet_156 rfl (by decide) [1, 2, 3, 4, 5, 6, 7, 8, 0, 9, 10, 11] rfl ?_
                refine fr_goto (tgt := 52) h dX12_sheet_159 (by decide) ?_
                refine fr_sub (L' := [(0, vr G 0), (1, vi k), (2, vi n), (3, vi u), (4, vi v), (5, vi z84), (6, vi z80), (7, vi z16), (8, vi (l8_23 + 1))]) [0, 1, 2, 3, 4, 5, 6, 7, 8] rfl ?_
                exact ih23 z84 z80 (l8_23 + 1) x72 (by omega) (by omega) (by omega) (by omega) (by omega) (MI_weigh (a := z62) (b := z67) (w := 1) g23_5 (by omega) (by omega) (by omega) (by omega) (by omega) (by omega) p76 p77 p78) ((EC_weigh (a := z62) (b := z67) (w := 1) g23_5 (by omega) (by omega) (by omega) (by omega) (by omega) (by omega) (by omega) p76 p77 p78).trans g23_6) (by omega) (fun a k0 => ((f79 a (by omega)).trans (g23_8 a (by omega)))) (by omega)
              ·
                refine fr_iload h 8 rfl dX12_sheet_89 ?_
                refine fr_iload_n h rfl 2 rfl dX12_sheet_91 ?_
                refine fr_icmp_lt (tgt := 99) h dX12_sheet_92 (by decide) (by omega) (by omega) (fun c88 => ?_) (fun c88 => ?_)
                ·
                  refine fr_iconst h dX12_sheet_99 ?_
                  refine fr_bipush h rfl dX12_sheet_100 ?_
                  refine fr_iload h 9 rfl dX12_sheet_102 ?_
                  refine fr_mmin h (by omega) (by omega) (tb_6 (i := 219) (by decide +kernel) (by decide +kernel)) w_mmin (by decide) (by decide) (Nat.le_of_ble_eq_true rfl) dX12_sheet_104 (fun z89 w90 w91 w92 => ?_)
                  refine fr_mmax h (by omega) (by omega) (tb_6 (i := 220) (by decide +kernel) (by decide +kernel)) w_mmax (by decide) (by decide) (Nat.le_of_ble_eq_true rfl) dX12_sheet_107 (fun z93 w94 w95 w96 => ?_)
                  refine fr_istore (L' := [(0, vr G 0), (1, vi k), (2, vi n), (3, vi u), (4, vi v), (5, vi l5_23), (6, vi l6_23), (7, vi z16), (8, vi l8_23), (9, vi l5_23), (10, vi z93)]) h dX12_sheet_110 (by decide) [1, 2, 3, 4, 5, 6, 7, 8, 9, 10, 0] rfl ?_
                  refine fr_aload_n h rfl 0 rfl dX12_sheet_112 ?_
                  refine fr_getc (z := 1) (iz := 0) h kX12 fX12_9 at_0M rfl rfl rfM_0 (by omega) dX12_sheet_113 ?_
                  refine fr_iload h 8 rfl dX12_sheet_116 ?_
                  refine fr_csI h wX12_edgeAt lX12_220 (c_X12_edgeAt x_23 1 SA_1 l8_23 (by omega) (by omega)) rfl (by decide) (by decide) rfl (Nat.le_of_ble_eq_true rfl) dX12_sheet_118 (fun z98 x97 w99 p100 => ?_)
                  obtain ⟨p101, p102, p103, p104, y105⟩ := p100
                  rw [y105]
                  clear y105
                  refine fr_istore (L' := [(0, vr G 0), (1, vi k), (2, vi n), (3, vi u), (4, vi v), (5, vi l5_23), (6, vi l6_23), (7, vi z16), (8, vi l8_23), (9, vi l5_23), (10, vi z93), (11, vi z98)]) h dX12_sheet_121 (by decide) [1, 2, 3, 4, 5, 6, 7, 8, 9, 10, 11, 0] rfl ?_
                  refine fr_aload_n h rfl 0 rfl dX12_sheet_123 ?_
                  refine fr_getc (z := 1) (iz := 0) h kX12 fX12_9 at_0M rfl rfl rfM_0 (by omega) dX12_sheet_124 ?_
                  refine fr_iload h 11 rfl dX12_sheet_127 ?_
                  refine fr_bipush h rfl dX12_sheet_129 ?_
                  refine fr_idiv h (by omega) (by omega) (by omega) dX12_sheet_131 (fun z106 w107 q108 w109 => ?_)
                  have w110 := w109
                  refine fr_iload h 11 rfl dX12_sheet_132 ?_
                  refine fr_bipush h rfl dX12_sheet_134 ?_
                  refine fr_irem h (by omega) (by omega) (by omega) dX12_sheet_136 (fun z111 w112 q113 w114 => ?_)
                  have w115 := w114
                  refine fr_iload h 10 rfl dX12_sheet_137 ?_
                  have hpos : 0 < x_23 1 (28 + 7 * z106 + z111) := by rw [show z106 = z98 / 7 by omega, show z111 = z98 % 7 by omega]; omega
                  refine fr_csV h wX12_weigh lX12_224 (c_X12_weigh x_23 1 SA_1 z106 z111 z93 (by omega) (by omega) (by omega) (by omega) (by omega) (by omega) (by omega) (by omega) (by omega)) rfl (by decide) (by decide) rfl (Nat.le_of_ble_eq_true rfl) dX12_sheet_139 (fun x116 p119 => ?_)
                  obtain ⟨p120, p121, p122, f123⟩ := p119
                  refine fr_iload h 6 rfl dX12_sheet_142 ?_
                  refine fr_iload h 10 rfl dX12_sheet_144 ?_
                  refine fr_iadd h dX12_sheet_146 ?_
                  refine fr_normi (fun z124 w125 q126 => ?_)
                  have w127 : fm_r ((l6_23 + z93)) → z124 = (l6_23 + z93) := fun q => (iI_inj q w125 q126).symm
                  refine fr_istore (L' := [(0, vr G 0), (1, vi k), (2, vi n), (3, vi u), (4, vi v), (5, vi l5_23), (6, vi z124), (7, vi z16), (8, vi l8_23), (9, vi l5_23), (10, vi z93), (11, vi z98)]) h dX12_sheet_147 (by decide) [1, 2, 3, 4, 5, 6, 0, 7, 8, 9, 10, 11] rfl ?_
                  refine fr_iload h 5 rfl dX12_sheet_149 ?_
                  refine fr_iload h 4 rfl dX12_sheet_151 ?_
                  refine fr_iadd h dX12_sheet_153 ?_
                  refine fr_normi (fun z128 w129 q130 => ?_)
                  have w131 : fm_r ((l5_23 + v)) → z128 = (l5_23 + v) := fun q => (iI_inj q w129 q130).symm
                  refine fr_istore (L' := [(0, vr G 0), (1, vi k), (2, vi n), (3, vi u), (4, vi v), (5, vi z128), (6, vi z124), (7, vi z16), (8, vi l8_23), (9, vi l5_23), (10, vi z93), (11, vi z98)]) h dX12_sheet_154 (by decide) [1, 2, 3, 4, 5, 0, 6, 7, 8, 9, 10, 11] rfl ?_
                  refine fr_iinc (j := 8) (L' := [(0, vr G 0), (1, vi k), (2, vi n), (3, vi u), (4, vi v), (5, vi z128), (6, vi z124), (7, vi z16), (8, vi (l8_23 + 1)), (9, vi l5_23), (10, vi z93), (11, vi z98)]) h dX12_sheet_156 rfl (by decide) [1, 2, 3, 4, 5, 6, 7, 8, 0, 9, 10, 11] rfl ?_
                  refine fr_goto (tgt := 52) h dX12_sheet_159 (by decide) ?_
                  refine fr_sub (L' := [(0, vr G 0), (1, vi k), (2, vi n), (3, vi u), (4, vi v), (5, vi z128), (6, vi z124), (7, vi z16), (8, vi (l8_23 + 1))]) [0, 1, 2, 3, 4, 5, 6, 7, 8] rfl ?_
                  exact ih23 z128 z124 (l8_23 + 1) x116 (by omega) (by omega) (by omega) (by omega) (by omega) (MI_weigh (a := z106) (b := z111) (w := z93) g23_5 (by omega) (by omega) (by omega) (by omega) (by omega) (by omega) p120 p121 p122) ((EC_weigh (a := z106) (b := z111) (w := z93) g23_5 (by omega) (by omega) (by omega) (by omega) (by omega) (by omega) (by omega) p120 p121 p122).trans g23_6) (by omega) (fun a k0 => ((f123 a (by omega)).trans (g23_8 a (by omega)))) (by omega)
                ·
                  refine fr_iconst h dX12_sheet_95 ?_
                  refine fr_goto (tgt := 110) h dX12_sheet_96 (by decide) ?_
                  refine fr_istore (L' := [(0, vr G 0), (1, vi k), (2, vi n), (3, vi u), (4, vi v), (5, vi l5_23), (6, vi l6_23), (7, vi z16), (8, vi l8_23), (9, vi l5_23), (10, vi 1)]) h dX12_sheet_110 (by decide) [1, 2, 3, 4, 5, 6, 7, 8, 9, 10, 0] rfl ?_
                  refine fr_aload_n h rfl 0 rfl dX12_sheet_112 ?_
                  refine fr_getc (z := 1) (iz := 0) h kX12 fX12_9 at_0M rfl rfl rfM_0 (by omega) dX12_sheet_113 ?_
                  refine fr_iload h 8 rfl dX12_sheet_116 ?_
                  refine fr_csI h wX12_edgeAt lX12_220 (c_X12_edgeAt x_23 1 SA_1 l8_23 (by omega) (by omega)) rfl (by decide) (by decide) rfl (Nat.le_of_ble_eq_true rfl) dX12_sheet_118 (fun z133 x132 w134 p135 => ?_)
                  obtain ⟨p136, p137, p138, p139, y140⟩ := p135
                  rw [y140]
                  clear y140
                  refine fr_istore (L' := [(0, vr G 0), (1, vi k), (2, vi n), (3, vi u), (4, vi v), (5, vi l5_23), (6, vi l6_23), (7, vi z16), (8, vi l8_23), (9, vi l5_23), (10, vi 1), (11, vi z133)]) h dX12_sheet_121 (by decide) [1, 2, 3, 4, 5, 6, 7, 8, 9, 10, 11, 0] rfl ?_
                  refine fr_aload_n h rfl 0 rfl dX12_sheet_123 ?_
                  refine fr_getc (z := 1) (iz := 0) h kX12 fX12_9 at_0M rfl rfl rfM_0 (by omega) dX12_sheet_124 ?_
                  refine fr_iload h 11 rfl dX12_sheet_127 ?_
                  refine fr_bipush h rfl dX12_sheet_129 ?_
                  refine fr_idiv h (by omega) (by omega) (by omega) dX12_sheet_131 (fun z141 w142 q143 w144 => ?_)
                  have w145 := w144
                  refine fr_iload h 11 rfl dX12_sheet_132 ?_
                  refine fr_bipush h rfl dX12_sheet_134 ?_
                  refine fr_irem h (by omega) (by omega) (by omega) dX12_sheet_136 (fun z146 w147 q148 w149 => ?_)
                  have w150 := w149
                  refine fr_iload h 10 rfl dX12_sheet_137 ?_
                  have hpos : 0 < x_23 1 (28 + 7 * z141 + z146) := by rw [show z141 = z133 / 7 by omega, show z146 = z133 % 7 by omega]; omega
                  refine fr_csV h wX12_weigh lX12_224 (c_X12_weigh x_23 1 SA_1 z141 z146 1 (by omega) (by omega) (by omega) (by omega) (by omega) (by omega) (by omega) (by omega) (by omega)) rfl (by decide) (by decide) rfl (Nat.le_of_ble_eq_true rfl) dX12_sheet_139 (fun x151 p154 => ?_)
                  obtain ⟨p155, p156, p157, f158⟩ := p154
                  refine fr_iload h 6 rfl dX12_sheet_142 ?_
                  refine fr_iload h 10 rfl dX12_sheet_144 ?_
                  refine fr_iadd h dX12_sheet_146 ?_
                  refine fr_normi (fun z159 w160 q161 => ?_)
                  have w162 : fm_r ((l6_23 + 1)) → z159 = (l6_23 + 1) := fun q => (iI_inj q w160 q161).symm
                  refine fr_istore (L' := [(0, vr G 0), (1, vi k), (2, vi n), (3, vi u), (4, vi v), (5, vi l5_23), (6, vi z159), (7, vi z16), (8, vi l8_23), (9, vi l5_23), (10, vi 1), (11, vi z133)]) h dX12_sheet_147 (by decide) [1, 2, 3, 4, 5, 6, 0, 7, 8, 9, 10, 11] rfl ?_
                  refine fr_iload h 5 rfl dX12_sheet_149 ?_
                  refine fr_iload h 4 rfl dX12_sheet_151 ?_
                  refine fr_iadd h dX12_sheet_153 ?_
                  refine fr_normi (fun z163 w164 q165 => ?_)
                  have w166 : fm_r ((l5_23 + v)) → z163 = (l5_23 + v) := fun q => (iI_inj q w164 q165).symm
                  refine fr_istore (L' := [(0, vr G 0), (1, vi k), (2, vi n), (3, vi u), (4, vi v), (5, vi z163), (6, vi z159), (7, vi z16), (8, vi l8_23), (9, vi l5_23), (10, vi 1), (11, vi z133)]) h dX12_sheet_154 (by decide) [1, 2, 3, 4, 5, 0, 6, 7, 8, 9, 10, 11] rfl ?_
                  refine fr_iinc (j := 8) (L' := [(0, vr G 0), (1, vi k), (2, vi n), (3, vi u), (4, vi v), (5, vi z163), (6, vi z159), (7, vi z16), (8, vi (l8_23 + 1)), (9, vi l5_23), (10, vi 1), (11, vi z133)]) h dX12_sheet_156 rfl (by decide) [1, 2, 3, 4, 5, 6, 7, 8, 0, 9, 10, 11] rfl ?_
                  refine fr_goto (tgt := 52) h dX12_sheet_159 (by decide) ?_
                  refine fr_sub (L' := [(0, vr G 0), (1, vi k), (2, vi n), (3, vi u), (4, vi v), (5, vi z163), (6, vi z159), (7, vi z16), (8, vi (l8_23 + 1))]) [0, 1, 2, 3, 4, 5, 6, 7, 8] rfl ?_
                  exact ih23 z163 z159 (l8_23 + 1) x151 (by omega) (by omega) (by omega) (by omega) (by omega) (MI_weigh (a := z141) (b := z146) (w := 1) g23_5 (by omega) (by omega) (by omega) (by omega) (by omega) (by omega) p155 p156 p157) ((EC_weigh (a := z141) (b := z146) (w := 1) g23_5 (by omega) (by omega) (by omega) (by omega) (by omega) (by omega) (by omega) p155 p156 p157).trans g23_6) (by omega) (fun a k0 => ((f158 a (by omega)).trans (g23_8 a (by omega)))) (by omega)
        exact HL23 ((z16 - 0) + 1 : Int).toNat u 0 0 x1 (by omega) (by omega) (by omega) (by omega) (by omega) (by rw [show x1 1 = x 1 from (fm_up_row m2 (by omega))]; exact e0.1) (by omega) (by omega) (fun a _ => rfl) (by omega)
      ·
        refine fr_iload_n h rfl 2 rfl dX12_sheet_27 ?_
        refine fr_if_ge (tgt := 34) h dX12_sheet_28 (by decide) (by omega) (fun c167 => ?_) (fun c167 => ?_)
        ·
          refine fr_iload_n h rfl 3 rfl dX12_sheet_34 ?_
          refine fr_istore (L' := [(0, vr G 0), (1, vi k), (2, vi n), (3, vi u), (4, vi v), (5, vi u)]) h dX12_sheet_35 (by decide) [1, 2, 3, 4, 5, 0] rfl ?_
          refine fr_iconst h dX12_sheet_37 ?_
          refine fr_istore (L' := [(0, vr G 0), (1, vi k), (2, vi n), (3, vi u), (4, vi v), (5, vi u), (6, vi 0)]) h dX12_sheet_38 (by decide) [1, 2, 3, 4, 5, 6, 0] rfl ?_
          refine fr_aload_n h rfl 0 rfl dX12_sheet_40 ?_
          refine fr_getc (z := 1) (iz := 0) h kX12 fX12_9 at_0M rfl rfl rfM_0 (by omega) dX12_sheet_41 ?_
          refine fr_csI h wX12_edgesOf lX12_216 (c_X12_edgesOf x1 1 SA_1) rfl (by decide) (by decide) rfl (Nat.le_of_ble_eq_true rfl) dX12_sheet_44 (fun z169 x168 w170 p171 => ?_)
          obtain ⟨p172, p173, p174, y175⟩ := p171
          rw [y175]
          clear y175
          refine fr_istore (L' := [(0, vr G 0), (1, vi k), (2, vi n), (3, vi u), (4, vi v), (5, vi u), (6, vi 0), (7, vi z169)]) h dX12_sheet_47 (by decide) [1, 2, 3, 4, 5, 6, 7, 0] rfl ?_
          refine fr_iconst h dX12_sheet_49 ?_
          refine fr_istore (L' := [(0, vr G 0), (1, vi k), (2, vi n), (3, vi u), (4, vi v), (5, vi u), (6, vi 0), (7, vi z169), (8, vi 0)]) h dX12_sheet_50 (by decide) [1, 2, 3, 4, 5, 6, 7, 8, 0] rfl ?_
          have HL176 : ∀ (n176 : Nat) (l5_176 l6_176 l8_176 : Int) (x_176 : Mm), fm_r l5_176 → fm_r l6_176 → fm_r l8_176 → 0 ≤ l8_176 → l8_176 ≤ 49 → MI (x_176 1) → ec (x_176 1) 49 = z169 → l8_176 ≤ z169 → (∀ a : Int, (a < 1 ∨ 1 < a) → x_176 a = x1 a) → (z169 - l8_176) < n176 → FW YM G C 12 x_176 52 [(0, vr G 0), (1, vi k), (2, vi n), (3, vi u), (4, vi v), (5, vi l5_176), (6, vi l6_176), (7, vi z169), (8, vi l8_176)] [] := by
            intro n176
            induction n176 with
            | zero =>
              intro l5_176 l6_176 l8_176 x_176 g176_0 g176_1 g176_2 g176_3 g176_4 g176_5 g176_6 g176_7 g176_8 g176_9
              exfalso; omega
            | succ n176 ih176 =>
              intro l5_176 l6_176 l8_176 x_176 g176_0 g176_1 g176_2 g176_3 g176_4 g176_5 g176_6 g176_7 g176_8 g176_9
              refine fr_iload h 8 rfl dX12_sheet_52 ?_
              refine fr_iload h 7 rfl dX12_sheet_54 ?_
              refine fr_icmp_ge (tgt := 162) h dX12_sheet_56 (by decide) (by omega) (by omega) (fun c177 => ?_) (fun c177 => ?_)
              ·
                refine fr_aload_n h rfl 0 rfl dX12_sheet_162 ?_
                refine fr_dup h rfl dX12_sheet_163 ?_
                refine fr_geti (iz := 21) h kX12 fX12_201 at_0M rfl rfl (by decide) (by decide) rfM_21 dX12_sheet_164 (fun z178 w179 w180 q181 => ?_)
                have r182 := q181.trans (congrFun (g176_8 0 (by omega)) 21)
                have r183 := r182.trans (fm_rd_i (a := 0) (b := 21) m2 (by decide))
                refine fr_iconst h dX12_sheet_167 ?_
                refine fr_iadd h dX12_sheet_168 ?_
                refine fr_normi (fun z184 w185 q186 => ?_)
                have w187 : fm_r ((z178 + 1)) → z184 = (z178 + 1) := fun q => (iI_inj q w185 q186).symm
                refine fr_puti (iz := 21) h kX12 fX12_201 at_0M rfl rfl (by decide) (by decide) rfl (by decide +kernel) rfM_21 (by omega) (by omega) dX12_sheet_169 ?_
                refine fr_mem (fun x188 m189 => ?_)
                refine fr_iload_n h rfl 1 rfl dX12_sheet_172 ?_
                refine fr_iconst h dX12_sheet_173 ?_
                refine fr_icmp_ne (tgt := 182) h dX12_sheet_174 (by decide) (by omega) (by omega) (fun c190 => ?_) (fun c190 => by exfalso; omega)
                refine fr_iload h 6 rfl dX12_sheet_182 ?_
                have r191 := (fm_rd_i (a := 0) (b := 5) m189 (by decide))
                have r192 := r191.trans (congrFun (g176_8 0 (by omega)) 5)
                have r193 := r192.trans (fm_rd_s m2)
                have r194 := (fm_rd_i (a := 0) (b := 12) m189 (by decide))
                have r195 := r194.trans (congrFun (g176_8 0 (by omega)) 12)
                have r196 := r195.trans (fm_rd_i (a := 0) (b := 12) m2 (by decide))
                exact fr_iret h hq (by omega) ⟨(by omega), ⟨(by rw [show x188 1 = x_176 1 from (fm_up_row m189 (by omega))]; exact g176_5), (by rw [show x188 8 = x 8 from ((fm_up_row m189 (by omega)).trans ((g176_8 8 (by omega)).trans (fm_up_row m2 (by omega))))]; exact e0.2.1), (by rw [show x188 26 = x 26 from ((fm_up_row m189 (by omega)).trans ((g176_8 26 (by omega)).trans (fm_up_row m2 (by omega))))]; exact e0.2.2.1), (by have := e0.2.2.2; omega)⟩, (fun a k0 k1 => ((fm_up_row m189 (by omega)).trans ((g176_8 a (by omega)).trans (fm_up_row m2 (by omega))))), (fun i k0 k1 => ((fm_rd_i (a := 0) (b := i) m189 (by omega)).trans ((congrFun (g176_8 0 (by omega)) i).trans (fm_rd_i (a := 0) (b := i) m2 (by omega)))))⟩ dX12_sheet_184
              ·
                refine fr_iload_n h rfl 1 rfl dX12_sheet_59 ?_
                refine fr_if_ne (tgt := 69) h dX12_sheet_60 (by decide) (by omega) (fun c197 => ?_) (fun c197 => ?_)
                ·
                  refine fr_iload_n h rfl 1 rfl dX12_sheet_69 ?_
                  refine fr_iconst h dX12_sheet_70 ?_
                  refine fr_icmp_ne (tgt := 80) h dX12_sheet_71 (by decide) (by omega) (by omega) (fun c198 => ?_) (fun c198 => ?_)
                  ·
                    refine fr_iload h 5 rfl dX12_sheet_80 ?_
                    refine fr_istore (L' := [(0, vr G 0), (1, vi k), (2, vi n), (3, vi u), (4, vi v), (5, vi l5_176), (6, vi l6_176), (7, vi z169), (8, vi l8_176), (9, vi l5_176)]) h dX12_sheet_82 (by decide) [1, 2, 3, 4, 5, 6, 7, 8, 9, 0] rfl ?_
                    refine fr_iload_n h rfl 1 rfl dX12_sheet_84 ?_
                    refine fr_iconst h dX12_sheet_85 ?_
                    refine fr_icmp_eq (tgt := 95) h dX12_sheet_86 (by decide) (by omega) (by omega) (fun c199 => by exfalso; omega) (fun c199 => ?_)
                    refine fr_iload h 8 rfl dX12_sheet_89 ?_
                    refine fr_iload_n h rfl 2 rfl dX12_sheet_91 ?_
                    refine fr_icmp_lt (tgt := 99) h dX12_sheet_92 (by decide) (by omega) (by omega) (fun c200 => ?_) (fun c200 => ?_)
                    ·
                      refine fr_iconst h dX12_sheet_99 ?_
                      refine fr_bipush h rfl dX12_sheet_100 ?_
                      refine fr_iload h 9 rfl dX12_sheet_102 ?_
                      refine fr_mmin h (by omega) (by omega) (tb_6 (i := 219) (by decide +kernel) (by decide +kernel)) w_mmin (by decide) (by decide) (Nat.le_of_ble_eq_true rfl) dX12_sheet_104 (fun z201 w202 w203 w204 => ?_)
                      refine fr_mmax h (by omega) (by omega) (tb_6 (i := 220) (by decide +kernel) (by decide +kernel)) w_mmax (by decide) (by decide) (Nat.le_of_ble_eq_true rfl) dX12_sheet_107 (fun z205 w206 w207 w208 => ?_)
                      refine fr_istore (L' := [(0, vr G 0), (1, vi k), (2, vi n), (3, vi u), (4, vi v), (5, vi l5_176), (6, vi l6_176), (7, vi z169), (8, vi l8_176), (9, vi l5_176), (10, vi z205)]) h dX12_sheet_110 (by decide) [1, 2, 3, 4, 5, 6, 7, 8, 9, 10, 0] rfl ?_
                      refine fr_aload_n h rfl 0 rfl dX12_sheet_112 ?_
                      refine fr_getc (z := 1) (iz := 0) h kX12 fX12_9 at_0M rfl rfl rfM_0 (by omega) dX12_sheet_113 ?_
                      refine fr_iload h 8 rfl dX12_sheet_116 ?_
                      refine fr_csI h wX12_edgeAt lX12_220 (c_X12_edgeAt x_176 1 SA_1 l8_176 (by omega) (by omega)) rfl (by decide) (by decide) rfl (Nat.le_of_ble_eq_true rfl) dX12_sheet_118 (fun z210 x209 w211 p212 => ?_)
                      obtain ⟨p213, p214, p215, p216, y217⟩ := p212
                      rw [y217]
                      clear y217
                      refine fr_istore (L' := [(0, vr G 0), (1, vi k), (2, vi n), (3, vi u), (4, vi v), (5, vi l5_176), (6, vi l6_176), (7, vi z169), (8, vi l8_176), (9, vi l5_176), (10, vi z205), (11, vi z210)]) h dX12_sheet_121 (by decide) [1, 2, 3, 4, 5, 6, 7, 8, 9, 10, 11, 0] rfl ?_
                      refine fr_aload_n h rfl 0 rfl dX12_sheet_123 ?_
                      refine fr_getc (z := 1) (iz := 0) h kX12 fX12_9 at_0M rfl rfl rfM_0 (by omega) dX12_sheet_124 ?_
                      refine fr_iload h 11 rfl dX12_sheet_127 ?_
                      refine fr_bipush h rfl dX12_sheet_129 ?_
                      refine fr_idiv h (by omega) (by omega) (by omega) dX12_sheet_131 (fun z218 w219 q220 w221 => ?_)
                      have w222 := w221
                      refine fr_iload h 11 rfl dX12_sheet_132 ?_
                      refine fr_bipush h rfl dX12_sheet_134 ?_
                      refine fr_irem h (by omega) (by omega) (by omega) dX12_sheet_136 (fun z223 w224 q225 w226 => ?_)
                      have w227 := w226
                      refine fr_iload h 10 rfl dX12_sheet_137 ?_
                      have hpos : 0 < x_176 1 (28 + 7 * z218 + z223) := by rw [show z218 = z210 / 7 by omega, show z223 = z210 % 7 by omega]; omega
                      refine fr_csV h wX12_weigh lX12_224 (c_X12_weigh x_176 1 SA_1 z218 z223 z205 (by omega) (by omega) (by omega) (by omega) (by omega) (by omega) (by omega) (by omega) (by omega)) rfl (by decide) (by decide) rfl (Nat.le_of_ble_eq_true rfl) dX12_sheet_139 (fun x228 p231 => ?_)
                      obtain ⟨p232, p233, p234, f235⟩ := p231
                      refine fr_iload h 6 rfl dX12_sheet_142 ?_
                      refine fr_iload h 10 rfl dX12_sheet_144 ?_
                      refine fr_iadd h dX12_sheet_146 ?_
                      refine fr_normi (fun z236 w237 q238 => ?_)
                      have w239 : fm_r ((l6_176 + z205)) → z236 = (l6_176 + z205) := fun q => (iI_inj q w237 q238).symm
                      refine fr_istore (L' := [(0, vr G 0), (1, vi k), (2, vi n), (3, vi u), (4, vi v), (5, vi l5_176), (6, vi z236), (7, vi z169), (8, vi l8_176), (9, vi l5_176), (10, vi z205), (11, vi z210)]) h dX12_sheet_147 (by decide) [1, 2, 3, 4, 5, 6, 0, 7, 8, 9, 10, 11] rfl ?_
                      refine fr_iload h 5 rfl dX12_sheet_149 ?_
                      refine fr_iload h 4 rfl dX12_sheet_151 ?_
                      refine fr_iadd h dX12_sheet_153 ?_
                      refine fr_normi (fun z240 w241 q242 => ?_)
                      have w243 : fm_r ((l5_176 + v)) → z240 = (l5_176 + v) := fun q => (iI_inj q w241 q242).symm
                      refine fr_istore (L' := [(0, vr G 0), (1, vi k), (2, vi n), (3, vi u), (4, vi v), (5, vi z240), (6, vi z236), (7, vi z169), (8, vi l8_176), (9, vi l5_176), (10, vi z205), (11, vi z210)]) h dX12_sheet_154 (by decide) [1, 2, 3, 4, 5, 0, 6, 7, 8, 9, 10, 11] rfl ?_
                      refine fr_iinc (j := 8) (L' := [(0, vr G 0), (1, vi k), (2, vi n), (3, vi u), (4, vi v), (5, vi z240), (6, vi z236), (7, vi z169), (8, vi (l8_176 + 1)), (9, vi l5_176), (10, vi z205), (11, vi z210)]) h dX12_sheet_156 rfl (by decide) [1, 2, 3, 4, 5, 6, 7, 8, 0, 9, 10, 11] rfl ?_
                      refine fr_goto (tgt := 52) h dX12_sheet_159 (by decide) ?_
                      refine fr_sub (L' := [(0, vr G 0), (1, vi k), (2, vi n), (3, vi u), (4, vi v), (5, vi z240), (6, vi z236), (7, vi z169), (8, vi (l8_176 + 1))]) [0, 1, 2, 3, 4, 5, 6, 7, 8] rfl ?_
                      exact ih176 z240 z236 (l8_176 + 1) x228 (by omega) (by omega) (by omega) (by omega) (by omega) (MI_weigh (a := z218) (b := z223) (w := z205) g176_5 (by omega) (by omega) (by omega) (by omega) (by omega) (by omega) p232 p233 p234) ((EC_weigh (a := z218) (b := z223) (w := z205) g176_5 (by omega) (by omega) (by omega) (by omega) (by omega) (by omega) (by omega) p232 p233 p234).trans g176_6) (by omega) (fun a k0 => ((f235 a (by omega)).trans (g176_8 a (by omega)))) (by omega)
                    ·
                      refine fr_iconst h dX12_sheet_95 ?_
                      refine fr_goto (tgt := 110) h dX12_sheet_96 (by decide) ?_
                      refine fr_istore (L' := [(0, vr G 0), (1, vi k), (2, vi n), (3, vi u), (4, vi v), (5, vi l5_176), (6, vi l6_176), (7, vi z169), (8, vi l8_176), (9, vi l5_176), (10, vi 1)]) h dX12_sheet_110 (by decide) [1, 2, 3, 4, 5, 6, 7, 8, 9, 10, 0] rfl ?_
                      refine fr_aload_n h rfl 0 rfl dX12_sheet_112 ?_
                      refine fr_getc (z := 1) (iz := 0) h kX12 fX12_9 at_0M rfl rfl rfM_0 (by omega) dX12_sheet_113 ?_
                      refine fr_iload h 8 rfl dX12_sheet_116 ?_
                      refine fr_csI h wX12_edgeAt lX12_220 (c_X12_edgeAt x_176 1 SA_1 l8_176 (by omega) (by omega)) rfl (by decide) (by decide) rfl (Nat.le_of_ble_eq_true rfl) dX12_sheet_118 (fun z245 x244 w246 p247 => ?_)
                      obtain ⟨p248, p249, p250, p251, y252⟩ := p247
                      rw [y252]
                      clear y252
                      refine fr_istore (L' := [(0, vr G 0), (1, vi k), (2, vi n), (3, vi u), (4, vi v), (5, vi l5_176), (6, vi l6_176), (7, vi z169), (8, vi l8_176), (9, vi l5_176), (10, vi 1), (11, vi z245)]) h dX12_sheet_121 (by decide) [1, 2, 3, 4, 5, 6, 7, 8, 9, 10, 11, 0] rfl ?_
                      refine fr_aload_n h rfl 0 rfl dX12_sheet_123 ?_
                      refine fr_getc (z := 1) (iz := 0) h kX12 fX12_9 at_0M rfl rfl rfM_0 (by omega) dX12_sheet_124 ?_
                      refine fr_iload h 11 rfl dX12_sheet_127 ?_
                      refine fr_bipush h rfl dX12_sheet_129 ?_
                      refine fr_idiv h (by omega) (by omega) (by omega) dX12_sheet_131 (fun z253 w254 q255 w256 => ?_)
                      have w257 := w256
                      refine fr_iload h 11 rfl dX12_sheet_132 ?_
                      refine fr_bipush h rfl dX12_sheet_134 ?_
                      refine fr_irem h (by omega) (by omega) (by omega) dX12_sheet_136 (fun z258 w259 q260 w261 => ?_)
                      have w262 := w261
                      refine fr_iload h 10 rfl dX12_sheet_137 ?_
                      have hpos : 0 < x_176 1 (28 + 7 * z253 + z258) := by rw [show z253 = z245 / 7 by omega, show z258 = z245 % 7 by omega]; omega
                      refine fr_csV h wX12_weigh lX12_224 (c_X12_weigh x_176 1 SA_1 z253 z258 1 (by omega) (by omega) (by omega) (by omega) (by omega) (by omega) (by omega) (by omega) (by omega)) rfl (by decide) (by decide) rfl (Nat.le_of_ble_eq_true rfl) dX12_sheet_139 (fun x263 p266 => ?_)
                      obtain ⟨p267, p268, p269, f270⟩ := p266
                      refine fr_iload h 6 rfl dX12_sheet_142 ?_
                      refine fr_iload h 10 rfl dX12_sheet_144 ?_
                      refine fr_iadd h dX12_sheet_146 ?_
                      refine fr_normi (fun z271 w272 q273 => ?_)
                      have w274 : fm_r ((l6_176 + 1)) → z271 = (l6_176 + 1) := fun q => (iI_inj q w272 q273).symm
                      refine fr_istore (L' := [(0, vr G 0), (1, vi k), (2, vi n), (3, vi u), (4, vi v), (5, vi l5_176), (6, vi z271), (7, vi z169), (8, vi l8_176), (9, vi l5_176), (10, vi 1), (11, vi z245)]) h dX12_sheet_147 (by decide) [1, 2, 3, 4, 5, 6, 0, 7, 8, 9, 10, 11] rfl ?_
                      refine fr_iload h 5 rfl dX12_sheet_149 ?_
                      refine fr_iload h 4 rfl dX12_sheet_151 ?_
                      refine fr_iadd h dX12_sheet_153 ?_
                      refine fr_normi (fun z275 w276 q277 => ?_)
                      have w278 : fm_r ((l5_176 + v)) → z275 = (l5_176 + v) := fun q => (iI_inj q w276 q277).symm
                      refine fr_istore (L' := [(0, vr G 0), (1, vi k), (2, vi n), (3, vi u), (4, vi v), (5, vi z275), (6, vi z271), (7, vi z169), (8, vi l8_176), (9, vi l5_176), (10, vi 1), (11, vi z245)]) h dX12_sheet_154 (by decide) [1, 2, 3, 4, 5, 0, 6, 7, 8, 9, 10, 11] rfl ?_
                      refine fr_iinc (j := 8) (L' := [(0, vr G 0), (1, vi k), (2, vi n), (3, vi u), (4, vi v), (5, vi z275), (6, vi z271), (7, vi z169), (8, vi (l8_176 + 1)), (9, vi l5_176), (10, vi 1), (11, vi z245)]) h dX12_sheet_156 rfl (by decide) [1, 2, 3, 4, 5, 6, 7, 8, 0, 9, 10, 11] rfl ?_
                      refine fr_goto (tgt := 52) h dX12_sheet_159 (by decide) ?_
                      refine fr_sub (L' := [(0, vr G 0), (1, vi k), (2, vi n), (3, vi u), (4, vi v), (5, vi z275), (6, vi z271), (7, vi z169), (8, vi (l8_176 + 1))]) [0, 1, 2, 3, 4, 5, 6, 7, 8] rfl ?_
                      exact ih176 z275 z271 (l8_176 + 1) x263 (by omega) (by omega) (by omega) (by omega) (by omega) (MI_weigh (a := z253) (b := z258) (w := 1) g176_5 (by omega) (by omega) (by omega) (by omega) (by omega) (by omega) p267 p268 p269) ((EC_weigh (a := z253) (b := z258) (w := 1) g176_5 (by omega) (by omega) (by omega) (by omega) (by omega) (by omega) (by omega) p267 p268 p269).trans g176_6) (by omega) (fun a k0 => ((f270 a (by omega)).trans (g176_8 a (by omega)))) (by omega)
                  ·
                    refine fr_iload h 5 rfl dX12_sheet_74 ?_
                    refine fr_i2s h dX12_sheet_76 (fun z279 w280 q281 w282 => ?_)
                    refine fr_goto (tgt := 82) h dX12_sheet_77 (by decide) ?_
                    refine fr_istore (L' := [(0, vr G 0), (1, vi k), (2, vi n), (3, vi u), (4, vi v), (5, vi l5_176), (6, vi l6_176), (7, vi z169), (8, vi l8_176), (9, vi z279)]) h dX12_sheet_82 (by decide) [1, 2, 3, 4, 5, 6, 7, 8, 9, 0] rfl ?_
                    refine fr_iload_n h rfl 1 rfl dX12_sheet_84 ?_
                    refine fr_iconst h dX12_sheet_85 ?_
                    refine fr_icmp_eq (tgt := 95) h dX12_sheet_86 (by decide) (by omega) (by omega) (fun c283 => by exfalso; omega) (fun c283 => ?_)
                    refine fr_iload h 8 rfl dX12_sheet_89 ?_
                    refine fr_iload_n h rfl 2 rfl dX12_sheet_91 ?_
                    refine fr_icmp_lt (tgt := 99) h dX12_sheet_92 (by decide) (by omega) (by omega) (fun c284 => ?_) (fun c284 => ?_)
                    ·
                      refine fr_iconst h dX12_sheet_99 ?_
                      refine fr_bipush h rfl dX12_sheet_100 ?_
                      refine fr_iload h 9 rfl dX12_sheet_102 ?_
                      refine fr_mmin h (by omega) (by omega) (tb_6 (i := 219) (by decide +kernel) (by decide +kernel)) w_mmin (by decide) (by decide) (Nat.le_of_ble_eq_true rfl) dX12_sheet_104 (fun z285 w286 w287 w288 => ?_)
                      refine fr_mmax h (by omega) (by omega) (tb_6 (i := 220) (by decide +kernel) (by decide +kernel)) w_mmax (by decide) (by decide) (Nat.le_of_ble_eq_true rfl) dX12_sheet_107 (fun z289 w290 w291 w292 => ?_)
                      refine fr_istore (L' := [(0, vr G 0), (1, vi k), (2, vi n), (3, vi u), (4, vi v), (5, vi l5_176), (6, vi l6_176), (7, vi z169), (8, vi l8_176), (9, vi z279), (10, vi z289)]) h dX12_sheet_110 (by decide) [1, 2, 3, 4, 5, 6, 7, 8, 9, 10, 0] rfl ?_
                      refine fr_aload_n h rfl 0 rfl dX12_sheet_112 ?_
                      refine fr_getc (z := 1) (iz := 0) h kX12 fX12_9 at_0M rfl rfl rfM_0 (by omega) dX12_sheet_113 ?_
                      refine fr_iload h 8 rfl dX12_sheet_116 ?_
                      refine fr_csI h wX12_edgeAt lX12_220 (c_X12_edgeAt x_176 1 SA_1 l8_176 (by omega) (by omega)) rfl (by decide) (by decide) rfl (Nat.le_of_ble_eq_true rfl) dX12_sheet_118 (fun z294 x293 w295 p296 => ?_)
                      obtain ⟨p297, p298, p299, p300, y301⟩ := p296
                      rw [y301]
                      clear y301
                      refine fr_istore (L' := [(0, vr G 0), (1, vi k), (2, vi n), (3, vi u), (4, vi v), (5, vi l5_176), (6, vi l6_176), (7, vi z169), (8, vi l8_176), (9, vi z279), (10, vi z289), (11, vi z294)]) h dX12_sheet_121 (by decide) [1, 2, 3, 4, 5, 6, 7, 8, 9, 10, 11, 0] rfl ?_
                      refine fr_aload_n h rfl 0 rfl dX12_sheet_123 ?_
                      refine fr_getc (z := 1) (iz := 0) h kX12 fX12_9 at_0M rfl rfl rfM_0 (by omega) dX12_sheet_124 ?_
                      refine fr_iload h 11 rfl dX12_sheet_127 ?_
                      refine fr_bipush h rfl dX12_sheet_129 ?_
                      refine fr_idiv h (by omega) (by omega) (by omega) dX12_sheet_131 (fun z302 w303 q304 w305 => ?_)
                      have w306 := w305
                      refine fr_iload h 11 rfl dX12_sheet_132 ?_
                      refine fr_bipush h rfl dX12_sheet_134 ?_
                      refine fr_irem h (by omega) (by omega) (by omega) dX12_sheet_136 (fun z307 w308 q309 w310 => ?_)
                      have w311 := w310
                      refine fr_iload h 10 rfl dX12_sheet_137 ?_
                      have hpos : 0 < x_176 1 (28 + 7 * z302 + z307) := by rw [show z302 = z294 / 7 by omega, show z307 = z294 % 7 by omega]; omega
                      refine fr_csV h wX12_weigh lX12_224 (c_X12_weigh x_176 1 SA_1 z302 z307 z289 (by omega) (by omega) (by omega) (by omega) (by omega) (by omega) (by omega) (by omega) (by omega)) rfl (by decide) (by decide) rfl (Nat.le_of_ble_eq_true rfl) dX12_sheet_139 (fun x312 p315 => ?_)
                      obtain ⟨p316, p317, p318, f319⟩ := p315
                      refine fr_iload h 6 rfl dX12_sheet_142 ?_
                      refine fr_iload h 10 rfl dX12_sheet_144 ?_
                      refine fr_iadd h dX12_sheet_146 ?_
                      refine fr_normi (fun z320 w321 q322 => ?_)
                      have w323 : fm_r ((l6_176 + z289)) → z320 = (l6_176 + z289) := fun q => (iI_inj q w321 q322).symm
                      refine fr_istore (L' := [(0, vr G 0), (1, vi k), (2, vi n), (3, vi u), (4, vi v), (5, vi l5_176), (6, vi z320), (7, vi z169), (8, vi l8_176), (9, vi z279), (10, vi z289), (11, vi z294)]) h dX12_sheet_147 (by decide) [1, 2, 3, 4, 5, 6, 0, 7, 8, 9, 10, 11] rfl ?_
                      refine fr_iload h 5 rfl dX12_sheet_149 ?_
                      refine fr_iload h 4 rfl dX12_sheet_151 ?_
                      refine fr_iadd h dX12_sheet_153 ?_
                      refine fr_normi (fun z324 w325 q326 => ?_)
                      have w327 : fm_r ((l5_176 + v)) → z324 = (l5_176 + v) := fun q => (iI_inj q w325 q326).symm
                      refine fr_istore (L' := [(0, vr G 0), (1, vi k), (2, vi n), (3, vi u), (4, vi v), (5, vi z324), (6, vi z320), (7, vi z169), (8, vi l8_176), (9, vi z279), (10, vi z289), (11, vi z294)]) h dX12_sheet_154 (by decide) [1, 2, 3, 4, 5, 0, 6, 7, 8, 9, 10, 11] rfl ?_
                      refine fr_iinc (j := 8) (L' := [(0, vr G 0), (1, vi k), (2, vi n), (3, vi u), (4, vi v), (5, vi z324), (6, vi z320), (7, vi z169), (8, vi (l8_176 + 1)), (9, vi z279), (10, vi z289), (11, vi z294)]) h dX12_sheet_156 rfl (by decide) [1, 2, 3, 4, 5, 6, 7, 8, 0, 9, 10, 11] rfl ?_
                      refine fr_goto (tgt := 52) h dX12_sheet_159 (by decide) ?_
                      refine fr_sub (L' := [(0, vr G 0), (1, vi k), (2, vi n), (3, vi u), (4, vi v), (5, vi z324), (6, vi z320), (7, vi z169), (8, vi (l8_176 + 1))]) [0, 1, 2, 3, 4, 5, 6, 7, 8] rfl ?_
                      exact ih176 z324 z320 (l8_176 + 1) x312 (by omega) (by omega) (by omega) (by omega) (by omega) (MI_weigh (a := z302) (b := z307) (w := z289) g176_5 (by omega) (by omega) (by omega) (by omega) (by omega) (by omega) p316 p317 p318) ((EC_weigh (a := z302) (b := z307) (w := z289) g176_5 (by omega) (by omega) (by omega) (by omega) (by omega) (by omega) (by omega) p316 p317 p318).trans g176_6) (by omega) (fun a k0 => ((f319 a (by omega)).trans (g176_8 a (by omega)))) (by omega)
                    ·
                      refine fr_iconst h dX12_sheet_95 ?_
                      refine fr_goto (tgt := 110) h dX12_sheet_96 (by decide) ?_
                      refine fr_istore (L' := [(0, vr G 0), (1, vi k), (2, vi n), (3, vi u), (4, vi v), (5, vi l5_176), (6, vi l6_176), (7, vi z169), (8, vi l8_176), (9, vi z279), (10, vi 1)]) h dX12_sheet_110 (by decide) [1, 2, 3, 4, 5, 6, 7, 8, 9, 10, 0] rfl ?_
                      refine fr_aload_n h rfl 0 rfl dX12_sheet_112 ?_
                      refine fr_getc (z := 1) (iz := 0) h kX12 fX12_9 at_0M rfl rfl rfM_0 (by omega) dX12_sheet_113 ?_
                      refine fr_iload h 8 rfl dX12_sheet_116 ?_
                      refine fr_csI h wX12_edgeAt lX12_220 (c_X12_edgeAt x_176 1 SA_1 l8_176 (by omega) (by omega)) rfl (by decide) (by decide) rfl (Nat.le_of_ble_eq_true rfl) dX12_sheet_118 (fun z329 x328 w330 p331 => ?_)
                      obtain ⟨p332, p333, p334, p335, y336⟩ := p331
                      rw [y336]
                      clear y336
                      refine fr_istore (L' := [(0, vr G 0), (1, vi k), (2, vi n), (3, vi u), (4, vi v), (5, vi l5_176), (6, vi l6_176), (7, vi z169), (8, vi l8_176), (9, vi z279), (10, vi 1), (11, vi z329)]) h dX12_sheet_121 (by decide) [1, 2, 3, 4, 5, 6, 7, 8, 9, 10, 11, 0] rfl ?_
                      refine fr_aload_n h rfl 0 rfl dX12_sheet_123 ?_
                      refine fr_getc (z := 1) (iz := 0) h kX12 fX12_9 at_0M rfl rfl rfM_0 (by omega) dX12_sheet_124 ?_
                      refine fr_iload h 11 rfl dX12_sheet_127 ?_
                      refine fr_bipush h rfl dX12_sheet_129 ?_
                      refine fr_idiv h (by omega) (by omega) (by omega) dX12_sheet_131 (fun z337 w338 q339 w340 => ?_)
                      have w341 := w340
                      refine fr_iload h 11 rfl dX12_sheet_132 ?_
                      refine fr_bipush h rfl dX12_sheet_134 ?_
                      refine fr_irem h (by omega) (by omega) (by omega) dX12_sheet_136 (fun z342 w343 q344 w345 => ?_)
                      have w346 := w345
                      refine fr_iload h 10 rfl dX12_sheet_137 ?_
                      have hpos : 0 < x_176 1 (28 + 7 * z337 + z342) := by rw [show z337 = z329 / 7 by omega, show z342 = z329 % 7 by omega]; omega
                      refine fr_csV h wX12_weigh lX12_224 (c_X12_weigh x_176 1 SA_1 z337 z342 1 (by omega) (by omega) (by omega) (by omega) (by omega) (by omega) (by omega) (by omega) (by omega)) rfl (by decide) (by decide) rfl (Nat.le_of_ble_eq_true rfl) dX12_sheet_139 (fun x347 p350 => ?_)
                      obtain ⟨p351, p352, p353, f354⟩ := p350
                      refine fr_iload h 6 rfl dX12_sheet_142 ?_
                      refine fr_iload h 10 rfl dX12_sheet_144 ?_
                      refine fr_iadd h dX12_sheet_146 ?_
                      refine fr_normi (fun z355 w356 q357 => ?_)
                      have w358 : fm_r ((l6_176 + 1)) → z355 = (l6_176 + 1) := fun q => (iI_inj q w356 q357).symm
                      refine fr_istore (L' := [(0, vr G 0), (1, vi k), (2, vi n), (3, vi u), (4, vi v), (5, vi l5_176), (6, vi z355), (7, vi z169), (8, vi l8_176), (9, vi z279), (10, vi 1), (11, vi z329)]) h dX12_sheet_147 (by decide) [1, 2, 3, 4, 5, 6, 0, 7, 8, 9, 10, 11] rfl ?_
                      refine fr_iload h 5 rfl dX12_sheet_149 ?_
                      refine fr_iload h 4 rfl dX12_sheet_151 ?_
                      refine fr_iadd h dX12_sheet_153 ?_
                      refine fr_normi (fun z359 w360 q361 => ?_)
                      have w362 : fm_r ((l5_176 + v)) → z359 = (l5_176 + v) := fun q => (iI_inj q w360 q361).symm
                      refine fr_istore (L' := [(0, vr G 0), (1, vi k), (2, vi n), (3, vi u), (4, vi v), (5, vi z359), (6, vi z355), (7, vi z169), (8, vi l8_176), (9, vi z279), (10, vi 1), (11, vi z329)]) h dX12_sheet_154 (by decide) [1, 2, 3, 4, 5, 0, 6, 7, 8, 9, 10, 11] rfl ?_
                      refine fr_iinc (j := 8) (L' := [(0, vr G 0), (1, vi k), (2, vi n), (3, vi u), (4, vi v), (5, vi z359), (6, vi z355), (7, vi z169), (8, vi (l8_176 + 1)), (9, vi z279), (10, vi 1), (11, vi z329)]) h dX12_sheet_156 rfl (by decide) [1, 2, 3, 4, 5, 6, 7, 8, 0, 9, 10, 11] rfl ?_
                      refine fr_goto (tgt := 52) h dX12_sheet_159 (by decide) ?_
                      refine fr_sub (L' := [(0, vr G 0), (1, vi k), (2, vi n), (3, vi u), (4, vi v), (5, vi z359), (6, vi z355), (7, vi z169), (8, vi (l8_176 + 1))]) [0, 1, 2, 3, 4, 5, 6, 7, 8] rfl ?_
                      exact ih176 z359 z355 (l8_176 + 1) x347 (by omega) (by omega) (by omega) (by omega) (by omega) (MI_weigh (a := z337) (b := z342) (w := 1) g176_5 (by omega) (by omega) (by omega) (by omega) (by omega) (by omega) p351 p352 p353) ((EC_weigh (a := z337) (b := z342) (w := 1) g176_5 (by omega) (by omega) (by omega) (by omega) (by omega) (by omega) (by omega) p351 p352 p353).trans g176_6) (by omega) (fun a k0 => ((f354 a (by omega)).trans (g176_8 a (by omega)))) (by omega)
                ·
                  refine fr_iload h 5 rfl dX12_sheet_63 ?_
                  refine fr_i2b h dX12_sheet_65 (fun z363 w364 q365 w366 => ?_)
                  refine fr_goto (tgt := 82) h dX12_sheet_66 (by decide) ?_
                  refine fr_istore (L' := [(0, vr G 0), (1, vi k), (2, vi n), (3, vi u), (4, vi v), (5, vi l5_176), (6, vi l6_176), (7, vi z169), (8, vi l8_176), (9, vi z363)]) h dX12_sheet_82 (by decide) [1, 2, 3, 4, 5, 6, 7, 8, 9, 0] rfl ?_
                  refine fr_iload_n h rfl 1 rfl dX12_sheet_84 ?_
                  refine fr_iconst h dX12_sheet_85 ?_
                  refine fr_icmp_eq (tgt := 95) h dX12_sheet_86 (by decide) (by omega) (by omega) (fun c367 => by exfalso; omega) (fun c367 => ?_)
                  refine fr_iload h 8 rfl dX12_sheet_89 ?_
                  refine fr_iload_n h rfl 2 rfl dX12_sheet_91 ?_
                  refine fr_icmp_lt (tgt := 99) h dX12_sheet_92 (by decide) (by omega) (by omega) (fun c368 => ?_) (fun c368 => ?_)
                  ·
                    refine fr_iconst h dX12_sheet_99 ?_
                    refine fr_bipush h rfl dX12_sheet_100 ?_
                    refine fr_iload h 9 rfl dX12_sheet_102 ?_
                    refine fr_mmin h (by omega) (by omega) (tb_6 (i := 219) (by decide +kernel) (by decide +kernel)) w_mmin (by decide) (by decide) (Nat.le_of_ble_eq_true rfl) dX12_sheet_104 (fun z369 w370 w371 w372 => ?_)
                    refine fr_mmax h (by omega) (by omega) (tb_6 (i := 220) (by decide +kernel) (by decide +kernel)) w_mmax (by decide) (by decide) (Nat.le_of_ble_eq_true rfl) dX12_sheet_107 (fun z373 w374 w375 w376 => ?_)
                    refine fr_istore (L' := [(0, vr G 0), (1, vi k), (2, vi n), (3, vi u), (4, vi v), (5, vi l5_176), (6, vi l6_176), (7, vi z169), (8, vi l8_176), (9, vi z363), (10, vi z373)]) h dX12_sheet_110 (by decide) [1, 2, 3, 4, 5, 6, 7, 8, 9, 10, 0] rfl ?_
                    refine fr_aload_n h rfl 0 rfl dX12_sheet_112 ?_
                    refine fr_getc (z := 1) (iz := 0) h kX12 fX12_9 at_0M rfl rfl rfM_0 (by omega) dX12_sheet_113 ?_
                    refine fr_iload h 8 rfl dX12_sheet_116 ?_
                    refine fr_csI h wX12_edgeAt lX12_220 (c_X12_edgeAt x_176 1 SA_1 l8_176 (by omega) (by omega)) rfl (by decide) (by decide) rfl (Nat.le_of_ble_eq_true rfl) dX12_sheet_118 (fun z378 x377 w379 p380 => ?_)
                    obtain ⟨p381, p382, p383, p384, y385⟩ := p380
                    rw [y385]
                    clear y385
                    refine fr_istore (L' := [(0, vr G 0), (1, vi k), (2, vi n), (3, vi u), (4, vi v), (5, vi l5_176), (6, vi l6_176), (7, vi z169), (8, vi l8_176), (9, vi z363), (10, vi z373), (11, vi z378)]) h dX12_sheet_121 (by decide) [1, 2, 3, 4, 5, 6, 7, 8, 9, 10, 11, 0] rfl ?_
                    refine fr_aload_n h rfl 0 rfl dX12_sheet_123 ?_
                    refine fr_getc (z := 1) (iz := 0) h kX12 fX12_9 at_0M rfl rfl rfM_0 (by omega) dX12_sheet_124 ?_
                    refine fr_iload h 11 rfl dX12_sheet_127 ?_
                    refine fr_bipush h rfl dX12_sheet_129 ?_
                    refine fr_idiv h (by omega) (by omega) (by omega) dX12_sheet_131 (fun z386 w387 q388 w389 => ?_)
                    have w390 := w389
                    refine fr_iload h 11 rfl dX12_sheet_132 ?_
                    refine fr_bipush h rfl dX12_sheet_134 ?_
                    refine fr_irem h (by omega) (by omega) (by omega) dX12_sheet_136 (fun z391 w392 q393 w394 => ?_)
                    have w395 := w394
                    refine fr_iload h 10 rfl dX12_sheet_137 ?_
                    have hpos : 0 < x_176 1 (28 + 7 * z386 + z391) := by rw [show z386 = z378 / 7 by omega, show z391 = z378 % 7 by omega]; omega
                    refine fr_csV h wX12_weigh lX12_224 (c_X12_weigh x_176 1 SA_1 z386 z391 z373 (by omega) (by omega) (by omega) (by omega) (by omega) (by omega) (by omega) (by omega) (by omega)) rfl (by decide) (by decide) rfl (Nat.le_of_ble_eq_true rfl) dX12_sheet_139 (fun x396 p399 => ?_)
                    obtain ⟨p400, p401, p402, f403⟩ := p399
                    refine fr_iload h 6 rfl dX12_sheet_142 ?_
                    refine fr_iload h 10 rfl dX12_sheet_144 ?_
                    refine fr_iadd h dX12_sheet_146 ?_
                    refine fr_normi (fun z404 w405 q406 => ?_)
                    have w407 : fm_r ((l6_176 + z373)) → z404 = (l6_176 + z373) := fun q => (iI_inj q w405 q406).symm
                    refine fr_istore (L' := [(0, vr G 0), (1, vi k), (2, vi n), (3, vi u), (4, vi v), (5, vi l5_176), (6, vi z404), (7, vi z169), (8, vi l8_176), (9, vi z363), (10, vi z373), (11, vi z378)]) h dX12_sheet_147 (by decide) [1, 2, 3, 4, 5, 6, 0, 7, 8, 9, 10, 11] rfl ?_
                    refine fr_iload h 5 rfl dX12_sheet_149 ?_
                    refine fr_iload h 4 rfl dX12_sheet_151 ?_
                    refine fr_iadd h dX12_sheet_153 ?_
                    refine fr_normi (fun z408 w409 q410 => ?_)
                    have w411 : fm_r ((l5_176 + v)) → z408 = (l5_176 + v) := fun q => (iI_inj q w409 q410).symm
                    refine fr_istore (L' := [(0, vr G 0), (1, vi k), (2, vi n), (3, vi u), (4, vi v), (5, vi z408), (6, vi z404), (7, vi z169), (8, vi l8_176), (9, vi z363), (10, vi z373), (11, vi z378)]) h dX12_sheet_154 (by decide) [1, 2, 3, 4, 5, 0, 6, 7, 8, 9, 10, 11] rfl ?_
                    refine fr_iinc (j := 8) (L' := [(0, vr G 0), (1, vi k), (2, vi n), (3, vi u), (4, vi v), (5, vi z408), (6, vi z404), (7, vi z169), (8, vi (l8_176 + 1)), (9, vi z363), (10, vi z373), (11, vi z378)]) h dX12_sheet_156 rfl (by decide) [1, 2, 3, 4, 5, 6, 7, 8, 0, 9, 10, 11] rfl ?_
                    refine fr_goto (tgt := 52) h dX12_sheet_159 (by decide) ?_
                    refine fr_sub (L' := [(0, vr G 0), (1, vi k), (2, vi n), (3, vi u), (4, vi v), (5, vi z408), (6, vi z404), (7, vi z169), (8, vi (l8_176 + 1))]) [0, 1, 2, 3, 4, 5, 6, 7, 8] rfl ?_
                    exact ih176 z408 z404 (l8_176 + 1) x396 (by omega) (by omega) (by omega) (by omega) (by omega) (MI_weigh (a := z386) (b := z391) (w := z373) g176_5 (by omega) (by omega) (by omega) (by omega) (by omega) (by omega) p400 p401 p402) ((EC_weigh (a := z386) (b := z391) (w := z373) g176_5 (by omega) (by omega) (by omega) (by omega) (by omega) (by omega) (by omega) p400 p401 p402).trans g176_6) (by omega) (fun a k0 => ((f403 a (by omega)).trans (g176_8 a (by omega)))) (by omega)
                  ·
                    refine fr_iconst h dX12_sheet_95 ?_
                    refine fr_goto (tgt := 110) h dX12_sheet_96 (by decide) ?_
                    refine fr_istore (L' := [(0, vr G 0), (1, vi k), (2, vi n), (3, vi u), (4, vi v), (5, vi l5_176), (6, vi l6_176), (7, vi z169), (8, vi l8_176), (9, vi z363), (10, vi 1)]) h dX12_sheet_110 (by decide) [1, 2, 3, 4, 5, 6, 7, 8, 9, 10, 0] rfl ?_
                    refine fr_aload_n h rfl 0 rfl dX12_sheet_112 ?_
                    refine fr_getc (z := 1) (iz := 0) h kX12 fX12_9 at_0M rfl rfl rfM_0 (by omega) dX12_sheet_113 ?_
                    refine fr_iload h 8 rfl dX12_sheet_116 ?_
                    refine fr_csI h wX12_edgeAt lX12_220 (c_X12_edgeAt x_176 1 SA_1 l8_176 (by omega) (by omega)) rfl (by decide) (by decide) rfl (Nat.le_of_ble_eq_true rfl) dX12_sheet_118 (fun z413 x412 w414 p415 => ?_)
                    obtain ⟨p416, p417, p418, p419, y420⟩ := p415
                    rw [y420]
                    clear y420
                    refine fr_istore (L' := [(0, vr G 0), (1, vi k), (2, vi n), (3, vi u), (4, vi v), (5, vi l5_176), (6, vi l6_176), (7, vi z169), (8, vi l8_176), (9, vi z363), (10, vi 1), (11, vi z413)]) h dX12_sheet_121 (by decide) [1, 2, 3, 4, 5, 6, 7, 8, 9, 10, 11, 0] rfl ?_
                    refine fr_aload_n h rfl 0 rfl dX12_sheet_123 ?_
                    refine fr_getc (z := 1) (iz := 0) h kX12 fX12_9 at_0M rfl rfl rfM_0 (by omega) dX12_sheet_124 ?_
                    refine fr_iload h 11 rfl dX12_sheet_127 ?_
                    refine fr_bipush h rfl dX12_sheet_129 ?_
                    refine fr_idiv h (by omega) (by omega) (by omega) dX12_sheet_131 (fun z421 w422 q423 w424 => ?_)
                    have w425 := w424
                    refine fr_iload h 11 rfl dX12_sheet_132 ?_
                    refine fr_bipush h rfl dX12_sheet_134 ?_
                    refine fr_irem h (by omega) (by omega) (by omega) dX12_sheet_136 (fun z426 w427 q428 w429 => ?_)
                    have w430 := w429
                    refine fr_iload h 10 rfl dX12_sheet_137 ?_
                    have hpos : 0 < x_176 1 (28 + 7 * z421 + z426) := by rw [show z421 = z413 / 7 by omega, show z426 = z413 % 7 by omega]; omega
                    refine fr_csV h wX12_weigh lX12_224 (c_X12_weigh x_176 1 SA_1 z421 z426 1 (by omega) (by omega) (by omega) (by omega) (by omega) (by omega) (by omega) (by omega) (by omega)) rfl (by decide) (by decide) rfl (Nat.le_of_ble_eq_true rfl) dX12_sheet_139 (fun x431 p434 => ?_)
                    obtain ⟨p435, p436, p437, f438⟩ := p434
                    refine fr_iload h 6 rfl dX12_sheet_142 ?_
                    refine fr_iload h 10 rfl dX12_sheet_144 ?_
                    refine fr_iadd h dX12_sheet_146 ?_
                    refine fr_normi (fun z439 w440 q441 => ?_)
                    have w442 : fm_r ((l6_176 + 1)) → z439 = (l6_176 + 1) := fun q => (iI_inj q w440 q441).symm
                    refine fr_istore (L' := [(0, vr G 0), (1, vi k), (2, vi n), (3, vi u), (4, vi v), (5, vi l5_176), (6, vi z439), (7, vi z169), (8, vi l8_176), (9, vi z363), (10, vi 1), (11, vi z413)]) h dX12_sheet_147 (by decide) [1, 2, 3, 4, 5, 6, 0, 7, 8, 9, 10, 11] rfl ?_
                    refine fr_iload h 5 rfl dX12_sheet_149 ?_
                    refine fr_iload h 4 rfl dX12_sheet_151 ?_
                    refine fr_iadd h dX12_sheet_153 ?_
                    refine fr_normi (fun z443 w444 q445 => ?_)
                    have w446 : fm_r ((l5_176 + v)) → z443 = (l5_176 + v) := fun q => (iI_inj q w444 q445).symm
                    refine fr_istore (L' := [(0, vr G 0), (1, vi k), (2, vi n), (3, vi u), (4, vi v), (5, vi z443), (6, vi z439), (7, vi z169), (8, vi l8_176), (9, vi z363), (10, vi 1), (11, vi z413)]) h dX12_sheet_154 (by decide) [1, 2, 3, 4, 5, 0, 6, 7, 8, 9, 10, 11] rfl ?_
                    refine fr_iinc (j := 8) (L' := [(0, vr G 0), (1, vi k), (2, vi n), (3, vi u), (4, vi v), (5, vi z443), (6, vi z439), (7, vi z169), (8, vi (l8_176 + 1)), (9, vi z363), (10, vi 1), (11, vi z413)]) h dX12_sheet_156 rfl (by decide) [1, 2, 3, 4, 5, 6, 7, 8, 0, 9, 10, 11] rfl ?_
                    refine fr_goto (tgt := 52) h dX12_sheet_159 (by decide) ?_
                    refine fr_sub (L' := [(0, vr G 0), (1, vi k), (2, vi n), (3, vi u), (4, vi v), (5, vi z443), (6, vi z439), (7, vi z169), (8, vi (l8_176 + 1))]) [0, 1, 2, 3, 4, 5, 6, 7, 8] rfl ?_
                    exact ih176 z443 z439 (l8_176 + 1) x431 (by omega) (by omega) (by omega) (by omega) (by omega) (MI_weigh (a := z421) (b := z426) (w := 1) g176_5 (by omega) (by omega) (by omega) (by omega) (by omega) (by omega) p435 p436 p437) ((EC_weigh (a := z421) (b := z426) (w := 1) g176_5 (by omega) (by omega) (by omega) (by omega) (by omega) (by omega) (by omega) p435 p436 p437).trans g176_6) (by omega) (fun a k0 => ((f438 a (by omega)).trans (g176_8 a (by omega)))) (by omega)
          exact HL176 ((z169 - 0) + 1 : Int).toNat u 0 0 x1 (by omega) (by omega) (by omega) (by omega) (by omega) (by rw [show x1 1 = x 1 from (fm_up_row m2 (by omega))]; exact e0.1) (by omega) (by omega) (fun a _ => rfl) (by omega)
        ·
          refine fr_bipush h rfl dX12_sheet_31 ?_
          have r447 := (fm_rd_s m2)
          have r448 := (fm_rd_i (a := 0) (b := 12) m2 (by decide))
          exact fr_iret h hq (by omega) ⟨(by omega), ⟨(by rw [show x1 1 = x 1 from (fm_up_row m2 (by omega))]; exact e0.1), (by rw [show x1 8 = x 8 from (fm_up_row m2 (by omega))]; exact e0.2.1), (by rw [show x1 26 = x 26 from (fm_up_row m2 (by omega))]; exact e0.2.2.1), (by have := e0.2.2.2; omega)⟩, (fun a k0 k1 => (fm_up_row m2 (by omega))), (fun i k0 k1 => (fm_rd_i (a := 0) (b := i) m2 (by omega)))⟩ dX12_sheet_33
    ·
      refine fr_iconst h dX12_sheet_20 ?_
      have r449 := (fm_rd_s m2)
      have r450 := (fm_rd_i (a := 0) (b := 12) m2 (by decide))
      exact fr_iret h hq (by omega) ⟨(by omega), ⟨(by rw [show x1 1 = x 1 from (fm_up_row m2 (by omega))]; exact e0.1), (by rw [show x1 8 = x 8 from (fm_up_row m2 (by omega))]; exact e0.2.1), (by rw [show x1 26 = x 26 from (fm_up_row m2 (by omega))]; exact e0.2.2.1), (by have := e0.2.2.2; omega)⟩, (fun a k0 k1 => (fm_up_row m2 (by omega))), (fun i k0 k1 => (fm_rd_i (a := 0) (b := i) m2 (by omega)))⟩ dX12_sheet_21
