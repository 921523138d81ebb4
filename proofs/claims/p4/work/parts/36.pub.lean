set_option maxHeartbeats 200000 in
theorem c_X12_puts (x : Mm) (p : Int) (v : Int) (h_p : fm_r p) (h_v : fm_r v) (e0 : GI x) (e1 : x 0 21 ≤ 2000) : CnI YM yX12_puts cX12_puts 4 .int 3 64 (fun G => [vr G 0, vi p, vi v]) x (fun z y' => (y' 0 5 = 0) ∧ (CHG x y') ∧ (GI y') ∧ (∀ a : Int, (a < 0 ∨ 0 < a) → (a < 1 ∨ 1 < a) → (a < 8 ∨ 8 < a) → y' a = x a) ∧ (∀ i : Int, i ≠ 5 → i ≠ 18 → i ≠ 21 → y' 0 i = x 0 i)) := by
  refine cn_I (by decide) (fun _ => Nat.le_of_ble_eq_true rfl) (fun G C h hq => ?_)
  have h : OK YM G C cX12_puts RX12 4 (some .int) 3 64 := h
  show FW YM G C 4 x 0 [(0, vr G 0), (1, vi p), (2, vi v)] []
  have e12 := e0.2.2.2
  refine fr_aload_n h rfl 0 rfl dX12_puts_0 ?_
  refine fr_iconst h dX12_puts_1 ?_
  refine fr_puti (iz := 5) h kX12 fX12_94 at_0M rfl rfl (by decide) (by decide) rfl (by decide +kernel) rfM_5 (by omega) (by omega) dX12_puts_2 ?_
  refine fr_mem (fun x1 m2 => ?_)
  refine fr_aload_n h rfl 0 rfl dX12_puts_5 ?_
  refine fr_getc (z := 1) (iz := 0) h kX12 fX12_9 at_0M rfl rfl rfM_0 (by omega) dX12_puts_6 ?_
  refine fr_iload_n h rfl 1 rfl dX12_puts_9 ?_
  refine fr_iload_n h rfl 2 rfl dX12_puts_10 ?_
  refine fr_csI h wX12_refusesPut lX12_235 (c_X12_refusesPut x1 1 SA_1 p v (by omega) (by omega)) rfl (by decide) (by decide) rfl (Nat.le_of_ble_eq_true rfl) dX12_puts_11 (fun z4 x3 w5 p6 => ?_)
  obtain ⟨p7, p8, p9, y10⟩ := p6
  rw [y10]
  clear y10
  refine fr_istore_n (L' := [(0, vr G 0), (1, vi p), (2, vi v), (3, vi z4)]) h rfl dX12_puts_14 (by decide) [1, 2, 3, 0] rfl ?_
  refine fr_iload_n h rfl 3 rfl dX12_puts_15 ?_
  refine fr_if_ge (tgt := 21) h dX12_puts_16 (by decide) (by omega) (fun c11 => ?_) (fun c11 => ?_)
  ·
    refine fr_aload_n h rfl 0 rfl dX12_puts_21 ?_
    refine fr_aload_n h rfl 0 rfl dX12_puts_22 ?_
    refine fr_getc (z := 1) (iz := 0) h kX12 fX12_9 at_0M rfl rfl rfM_0 (by omega) dX12_puts_23 ?_
    refine fr_cvV h kX12 at_0M wX12_change lX12_165 (c_X12_change x1 1 SA_1 (by rw [show x1 8 = x 8 from (fm_up_row m2 (by omega))]; exact e0.2.1) (by rw [show x1 1 = x 1 from (fm_up_row m2 (by omega))]; exact e0.1)) rfl (by decide) (by decide) rfl (Nat.le_of_ble_eq_true rfl) dX12_puts_26 (fun x12 p15 => ?_)
    obtain ⟨p16, p17, f18, f19⟩ := p15
    refine fr_aload_n h rfl 0 rfl dX12_puts_29 ?_
    refine fr_getc (z := 1) (iz := 0) h kX12 fX12_9 at_0M rfl rfl rfM_0 (by omega) dX12_puts_30 ?_
    refine fr_iload_n h rfl 1 rfl dX12_puts_33 ?_
    refine fr_iload_n h rfl 2 rfl dX12_puts_34 ?_
    have r20 := (congrFun (f18 1 (by omega) (by omega)) (24 + p))
    have r21 := r20.trans (fm_rd_k (a := 1) (b := (24 + p)) m2 (by omega))
    refine fr_csI h wX12_goPut lX12_169 (c_X12_goPut x12 1 SA_1 p v (by omega) (by omega) (by omega) (by omega) (by omega) (by omega) (by omega)) rfl (by decide) (by decide) rfl (Nat.le_of_ble_eq_true rfl) dX12_puts_35 (fun z23 x22 w24 p25 => ?_)
    obtain ⟨p26, p27, p28, f29⟩ := p25
    have r30 := (congrFun (f29 0 (by omega)) 5)
    have r31 := r30.trans (f19 5 (by decide) (by decide))
    have r32 := r31.trans (fm_rd_s m2)
    have r33 := (congrFun (f29 0 (by omega)) 21)
    have r34 := (fm_rd_i (a := 0) (b := 21) m2 (by decide))
    have r35 := (congrFun (f29 0 (by omega)) 12)
    have r36 := r35.trans (f19 12 (by decide) (by decide))
    have r37 := r36.trans (fm_rd_i (a := 0) (b := 12) m2 (by decide))
    exact fr_iret h hq (by omega) ⟨(by omega), (Or.inr (by omega)), ⟨(MI_cong (by rw [show x12 1 = x1 1 from (f18 1 (by omega) (by omega))]; exact (by rw [show x1 1 = x 1 from (fm_up_row m2 (by omega))]; exact e0.1)) (fun i a b => p28 i (by omega) (by omega))), (by rw [show x22 8 = x12 8 from (f29 8 (by omega))]; exact p16), (by rw [show x22 26 = x 26 from ((f29 26 (by omega)).trans ((f18 26 (by omega) (by omega)).trans (fm_up_row m2 (by omega))))]; exact e0.2.2.1), (by have := e0.2.2.2; omega)⟩, (fun a k0 k1 k2 => ((f29 a (by omega)).trans ((f18 a (by omega) (by omega)).trans (fm_up_row m2 (by omega))))), (fun i k0 k1 k2 => ((congrFun (f29 0 (by omega)) i).trans ((f19 i (by omega) (by omega)).trans (fm_rd_i (a := 0) (b := i) m2 (by omega)))))⟩ dX12_puts_38
  ·
    refine fr_iload_n h rfl 3 rfl dX12_puts_19 ?_
    have r38 := (fm_rd_s m2)
    have r39 := (fm_rd_i (a := 0) (b := 21) m2 (by decide))
    have r40 := (fm_rd_i (a := 0) (b := 12) m2 (by decide))
    exact fr_iret h hq (by omega) ⟨(by omega), (Or.inl ⟨(by omega), (fm_up_row m2 (by omega))⟩), ⟨(by rw [show x1 1 = x 1 from (fm_up_row m2 (by omega))]; exact e0.1), (by rw [show x1 8 = x 8 from (fm_up_row m2 (by omega))]; exact e0.2.1), (by rw [show x1 26 = x 26 from (fm_up_row m2 (by omega))]; exact e0.2.2.1), (by have := e0.2.2.2; omega)⟩, (fun a k0 k1 k2 => (fm_up_row m2 (by omega))), (fun i k0 k1 k2 => (fm_rd_i (a := 0) (b := i) m2 (by omega)))⟩ dX12_puts_20
set_option maxHeartbeats 200000 in
theorem c_X12_takes (x : Mm) (p : Int) (w : Int) (h_p : fm_r p) (h_w : fm_r w) (e0 : GI x) (e1 : x 0 21 ≤ 2000) : CnI YM yX12_takes cX12_takes 3 .int 3 64 (fun G => [vr G 0, vi p, vi w]) x (fun z y' => (y' 0 5 = 0) ∧ (CHG x y') ∧ (GI y') ∧ (∀ a : Int, (a < 0 ∨ 0 < a) → (a < 1 ∨ 1 < a) → (a < 8 ∨ 8 < a) → y' a = x a) ∧ (∀ i : Int, i ≠ 5 → i ≠ 18 → i ≠ 21 → y' 0 i = x 0 i)) := by
  refine cn_I (by decide) (fun _ => Nat.le_of_ble_eq_true rfl) (fun G C h hq => ?_)
  have h : OK YM G C cX12_takes RX12 3 (some .int) 3 64 := h
  show FW YM G C 3 x 0 [(0, vr G 0), (1, vi p), (2, vi w)] []
  have e12 := e0.2.2.2
  refine fr_aload_n h rfl 0 rfl dX12_takes_0 ?_
  refine fr_iconst h dX12_takes_1 ?_
  refine fr_puti (iz := 5) h kX12 fX12_94 at_0M rfl rfl (by decide) (by decide) rfl (by decide +kernel) rfM_5 (by omega) (by omega) dX12_takes_2 ?_
  refine fr_mem (fun x1 m2 => ?_)
  refine fr_aload_n h rfl 0 rfl dX12_takes_5 ?_
  refine fr_getc (z := 1) (iz := 0) h kX12 fX12_9 at_0M rfl rfl rfM_0 (by omega) dX12_takes_6 ?_
  refine fr_iload_n h rfl 1 rfl dX12_takes_9 ?_
  refine fr_iload_n h rfl 2 rfl dX12_takes_10 ?_
  refine fr_csI h wX12_canTake lX12_238 (c_X12_canTake x1 1 SA_1 p w (by omega) (by omega)) rfl (by decide) (by decide) rfl (Nat.le_of_ble_eq_true rfl) dX12_takes_11 (fun z4 x3 w5 p6 => ?_)
  obtain ⟨p7, p8, y9⟩ := p6
  rw [y9]
  clear y9
  refine fr_if_ne (tgt := 19) h dX12_takes_14 (by decide) (by omega) (fun c10 => ?_) (fun c10 => ?_)
  ·
    refine fr_aload_n h rfl 0 rfl dX12_takes_19 ?_
    refine fr_aload_n h rfl 0 rfl dX12_takes_20 ?_
    refine fr_getc (z := 1) (iz := 0) h kX12 fX12_9 at_0M rfl rfl rfM_0 (by omega) dX12_takes_21 ?_
    refine fr_cvV h kX12 at_0M wX12_change lX12_165 (c_X12_change x1 1 SA_1 (by rw [show x1 8 = x 8 from (fm_up_row m2 (by omega))]; exact e0.2.1) (by rw [show x1 1 = x 1 from (fm_up_row m2 (by omega))]; exact e0.1)) rfl (by decide) (by decide) rfl (Nat.le_of_ble_eq_true rfl) dX12_takes_24 (fun x11 p14 => ?_)
    obtain ⟨p15, p16, f17, f18⟩ := p14
    refine fr_aload_n h rfl 0 rfl dX12_takes_27 ?_
    refine fr_getc (z := 1) (iz := 0) h kX12 fX12_9 at_0M rfl rfl rfM_0 (by omega) dX12_takes_28 ?_
    refine fr_iload_n h rfl 1 rfl dX12_takes_31 ?_
    refine fr_iload_n h rfl 2 rfl dX12_takes_32 ?_
    have r19 := (congrFun (f17 1 (by omega) (by omega)) (24 + p))
    have r20 := r19.trans (fm_rd_k (a := 1) (b := (24 + p)) m2 (by omega))
    refine fr_csI h wX12_goTake lX12_242 (c_X12_goTake x11 1 SA_1 p w (by omega) (by omega) (by omega) (by omega) (by omega) (by omega)) rfl (by decide) (by decide) rfl (Nat.le_of_ble_eq_true rfl) dX12_takes_33 (fun z22 x21 w23 p24 => ?_)
    obtain ⟨p25, p26, p27, f28⟩ := p24
    have r29 := (congrFun (f28 0 (by omega)) 5)
    have r30 := r29.trans (f18 5 (by decide) (by decide))
    have r31 := r30.trans (fm_rd_s m2)
    have r32 := (congrFun (f28 0 (by omega)) 21)
    have r33 := (fm_rd_i (a := 0) (b := 21) m2 (by decide))
    have r34 := (congrFun (f28 0 (by omega)) 12)
    have r35 := r34.trans (f18 12 (by decide) (by decide))
    have r36 := r35.trans (fm_rd_i (a := 0) (b := 12) m2 (by decide))
    exact fr_iret h hq (by omega) ⟨(by omega), (Or.inr (by omega)), ⟨(MI_cong (by rw [show x11 1 = x1 1 from (f17 1 (by omega) (by omega))]; exact (by rw [show x1 1 = x 1 from (fm_up_row m2 (by omega))]; exact e0.1)) (fun i a b => p27 i (by omega))), (by rw [show x21 8 = x11 8 from (f28 8 (by omega))]; exact p15), (by rw [show x21 26 = x 26 from ((f28 26 (by omega)).trans ((f17 26 (by omega) (by omega)).trans (fm_up_row m2 (by omega))))]; exact e0.2.2.1), (by have := e0.2.2.2; omega)⟩, (fun a k0 k1 k2 => ((f28 a (by omega)).trans ((f17 a (by omega) (by omega)).trans (fm_up_row m2 (by omega))))), (fun i k0 k1 k2 => ((congrFun (f28 0 (by omega)) i).trans ((f18 i (by omega) (by omega)).trans (fm_rd_i (a := 0) (b := i) m2 (by omega)))))⟩ dX12_takes_36
  ·
    refine fr_iconst h dX12_takes_17 ?_
    have r37 := (fm_rd_s m2)
    have r38 := (fm_rd_i (a := 0) (b := 21) m2 (by decide))
    have r39 := (fm_rd_i (a := 0) (b := 12) m2 (by decide))
    exact fr_iret h hq (by omega) ⟨(by omega), (Or.inl ⟨(by omega), (fm_up_row m2 (by omega))⟩), ⟨(by rw [show x1 1 = x 1 from (fm_up_row m2 (by omega))]; exact e0.1), (by rw [show x1 8 = x 8 from (fm_up_row m2 (by omega))]; exact e0.2.1), (by rw [show x1 26 = x 26 from (fm_up_row m2 (by omega))]; exact e0.2.2.1), (by have := e0.2.2.2; omega)⟩, (fun a k0 k1 k2 => (fm_up_row m2 (by omega))), (fun i k0 k1 k2 => (fm_rd_i (a := 0) (b := i) m2 (by omega)))⟩ dX12_takes_18
set_option maxHeartbeats 200000 in
theorem c_X12_joins (x : Mm) (p : Int) (w : Int) (v : Int) (h_p : fm_r p) (h_w : fm_r w) (h_v : fm_r v) (e0 : GI x) (e1 : x 0 21 ≤ 2000) : CnI YM yX12_joins cX12_joins 5 .int 3 68 (fun G => [vr G 0, vi p, vi w, vi v]) x (fun z y' => (y' 0 5 = 0) ∧ (CHG x y') ∧ (GI y') ∧ (∀ a : Int, (a < 0 ∨ 0 < a) → (a < 1 ∨ 1 < a) → (a < 8 ∨ 8 < a) → y' a = x a) ∧ (∀ i : Int, i ≠ 5 → i ≠ 18 → i ≠ 21 → y' 0 i = x 0 i)) := by
  refine cn_I (by decide) (fun _ => Nat.le_of_ble_eq_true rfl) (fun G C h hq => ?_)
  have h : OK YM G C cX12_joins RX12 5 (some .int) 3 68 := h
  show FW YM G C 5 x 0 [(0, vr G 0), (1, vi p), (2, vi w), (3, vi v)] []
  have e12 := e0.2.2.2
  refine fr_aload_n h rfl 0 rfl dX12_joins_0 ?_
  refine fr_iconst h dX12_joins_1 ?_
  refine fr_puti (iz := 5) h kX12 fX12_94 at_0M rfl rfl (by decide) (by decide) rfl (by decide +kernel) rfM_5 (by omega) (by omega) dX12_joins_2 ?_
  refine fr_mem (fun x1 m2 => ?_)
  refine fr_aload_n h rfl 0 rfl dX12_joins_5 ?_
  refine fr_getc (z := 1) (iz := 0) h kX12 fX12_9 at_0M rfl rfl rfM_0 (by omega) dX12_joins_6 ?_
  refine fr_iload_n h rfl 1 rfl dX12_joins_9 ?_
  refine fr_iload_n h rfl 2 rfl dX12_joins_10 ?_
  refine fr_iload_n h rfl 3 rfl dX12_joins_11 ?_
  refine fr_csI h wX12_refusesJoin lX12_245 (c_X12_refusesJoin x1 1 SA_1 p w v (by omega) (by omega) (by omega)) rfl (by decide) (by decide) rfl (Nat.le_of_ble_eq_true rfl) dX12_joins_12 (fun z4 x3 w5 p6 => ?_)
  obtain ⟨p7, p8, p9, y10⟩ := p6
  rw [y10]
  clear y10
  refine fr_istore (L' := [(0, vr G 0), (1, vi p), (2, vi w), (3, vi v), (4, vi z4)]) h dX12_joins_15 (by decide) [1, 2, 3, 4, 0] rfl ?_
  refine fr_iload h 4 rfl dX12_joins_17 ?_
  refine fr_if_ge (tgt := 25) h dX12_joins_19 (by decide) (by omega) (fun c11 => ?_) (fun c11 => ?_)
  ·
    refine fr_aload_n h rfl 0 rfl dX12_joins_25 ?_
    refine fr_aload_n h rfl 0 rfl dX12_joins_26 ?_
    refine fr_getc (z := 1) (iz := 0) h kX12 fX12_9 at_0M rfl rfl rfM_0 (by omega) dX12_joins_27 ?_
    refine fr_cvV h kX12 at_0M wX12_change lX12_165 (c_X12_change x1 1 SA_1 (by rw [show x1 8 = x 8 from (fm_up_row m2 (by omega))]; exact e0.2.1) (by rw [show x1 1 = x 1 from (fm_up_row m2 (by omega))]; exact e0.1)) rfl (by decide) (by decide) rfl (Nat.le_of_ble_eq_true rfl) dX12_joins_30 (fun x12 p15 => ?_)
    obtain ⟨p16, p17, f18, f19⟩ := p15
    refine fr_aload_n h rfl 0 rfl dX12_joins_33 ?_
    refine fr_getc (z := 1) (iz := 0) h kX12 fX12_9 at_0M rfl rfl rfM_0 (by omega) dX12_joins_34 ?_
    refine fr_iload_n h rfl 1 rfl dX12_joins_37 ?_
    refine fr_iload_n h rfl 2 rfl dX12_joins_38 ?_
    refine fr_iload_n h rfl 3 rfl dX12_joins_39 ?_
    refine fr_csV h wX12_weigh lX12_224 (c_X12_weigh x12 1 SA_1 p w v (by omega) (by omega) (by omega) (by omega) (by omega) (by omega) (by omega) (by omega) (by omega)) rfl (by decide) (by decide) rfl (Nat.le_of_ble_eq_true rfl) dX12_joins_40 (fun x20 p23 => ?_)
    obtain ⟨p24, p25, p26, f27⟩ := p23
    refine fr_aload_n h rfl 0 rfl dX12_joins_43 ?_
    refine fr_getc (z := 1) (iz := 0) h kX12 fX12_9 at_0M rfl rfl rfM_0 (by omega) dX12_joins_44 ?_
    refine fr_csI h wX12_edgesOf lX12_216 (c_X12_edgesOf x20 1 SA_1) rfl (by decide) (by decide) rfl (Nat.le_of_ble_eq_true rfl) dX12_joins_47 (fun z29 x28 w30 p31 => ?_)
    obtain ⟨p32, p33, p34, y35⟩ := p31
    rw [y35]
    clear y35
    have r36 := (congrFun (f27 0 (by omega)) 5)
    have r37 := r36.trans (f19 5 (by decide) (by decide))
    have r38 := r37.trans (fm_rd_s m2)
    have r39 := (congrFun (f27 0 (by omega)) 21)
    have r40 := (fm_rd_i (a := 0) (b := 21) m2 (by decide))
    have r41 := (congrFun (f27 0 (by omega)) 12)
    have r42 := r41.trans (f19 12 (by decide) (by decide))
    have r43 := r42.trans (fm_rd_i (a := 0) (b := 12) m2 (by decide))
    exact fr_iret h hq (by omega) ⟨(by omega), (Or.inr (by omega)), ⟨(MI_weigh (a := p) (b := w) (w := v) (by rw [show x12 1 = x1 1 from (f18 1 (by omega) (by omega))]; exact (by rw [show x1 1 = x 1 from (fm_up_row m2 (by omega))]; exact e0.1)) (by omega) (by omega) (by omega) (by omega) (by omega) (by rw [show x12 1 = x1 1 from (f18 1 (by omega) (by omega))]; omega) p24 p25 p26), (by rw [show x20 8 = x12 8 from (f27 8 (by omega))]; exact p16), (by rw [show x20 26 = x 26 from ((f27 26 (by omega)).trans ((f18 26 (by omega) (by omega)).trans (fm_up_row m2 (by omega))))]; exact e0.2.2.1), (by have := e0.2.2.2; omega)⟩, (fun a k0 k1 k2 => ((f27 a (by omega)).trans ((f18 a (by omega) (by omega)).trans (fm_up_row m2 (by omega))))), (fun i k0 k1 k2 => ((congrFun (f27 0 (by omega)) i).trans ((f19 i (by omega) (by omega)).trans (fm_rd_i (a := 0) (b := i) m2 (by omega)))))⟩ dX12_joins_50
  ·
    refine fr_iload h 4 rfl dX12_joins_22 ?_
    have r44 := (fm_rd_s m2)
    have r45 := (fm_rd_i (a := 0) (b := 21) m2 (by decide))
    have r46 := (fm_rd_i (a := 0) (b := 12) m2 (by decide))
    exact fr_iret h hq (by omega) ⟨(by omega), (Or.inl ⟨(by omega), (fm_up_row m2 (by omega))⟩), ⟨(by rw [show x1 1 = x 1 from (fm_up_row m2 (by omega))]; exact e0.1), (by rw [show x1 8 = x 8 from (fm_up_row m2 (by omega))]; exact e0.2.1), (by rw [show x1 26 = x 26 from (fm_up_row m2 (by omega))]; exact e0.2.2.1), (by have := e0.2.2.2; omega)⟩, (fun a k0 k1 k2 => (fm_up_row m2 (by omega))), (fun i k0 k1 k2 => (fm_rd_i (a := 0) (b := i) m2 (by omega)))⟩ dX12_joins_24
set_option maxHeartbeats 200000 in
theorem c_X12_costs (x : Mm) (p : Int) (w : Int) (v : Int) (h_p : fm_r p) (h_w : fm_r w) (h_v : fm_r v) (e0 : GI x) (e1 : x 0 21 ≤ 2000) : CnI YM yX12_costs cX12_costs 5 .int 2 45 (fun G => [vr G 0, vi p, vi w, vi v]) x (fun z y' => (y' 0 5 = 0) ∧ (CHG x y') ∧ (GI y') ∧ (∀ a : Int, (a < 0 ∨ 0 < a) → (a < 1 ∨ 1 < a) → (a < 8 ∨ 8 < a) → y' a = x a) ∧ (∀ i : Int, i ≠ 5 → i ≠ 18 → i ≠ 21 → y' 0 i = x 0 i)) := by
  refine cn_I (by decide) (fun _ => Nat.le_of_ble_eq_true rfl) (fun G C h hq => ?_)
  have h : OK YM G C cX12_costs RX12 5 (some .int) 2 45 := h
  show FW YM G C 5 x 0 [(0, vr G 0), (1, vi p), (2, vi w), (3, vi v)] []
  have e12 := e0.2.2.2
  refine fr_aload_n h rfl 0 rfl dX12_costs_0 ?_
  refine fr_iconst h dX12_costs_1 ?_
  refine fr_puti (iz := 5) h kX12 fX12_94 at_0M rfl rfl (by decide) (by decide) rfl (by decide +kernel) rfM_5 (by omega) (by omega) dX12_costs_2 ?_
  refine fr_mem (fun x1 m2 => ?_)
  refine fr_iload_n h rfl 1 rfl dX12_costs_5 ?_
  refine fr_iload_n h rfl 2 rfl dX12_costs_6 ?_
  refine fr_iload_n h rfl 3 rfl dX12_costs_7 ?_
  refine fr_csI h wX12_canCost lX12_249 (c_X12_canCost x1 p w v (by omega) (by omega) (by omega)) rfl (by decide) (by decide) rfl (Nat.le_of_ble_eq_true rfl) dX12_costs_8 (fun z4 x3 w5 p6 => ?_)
  obtain ⟨p7, p8, y9⟩ := p6
  rw [y9]
  clear y9
  refine fr_if_ne (tgt := 16) h dX12_costs_11 (by decide) (by omega) (fun c10 => ?_) (fun c10 => ?_)
  ·
    refine fr_aload_n h rfl 0 rfl dX12_costs_16 ?_
    refine fr_aload_n h rfl 0 rfl dX12_costs_17 ?_
    refine fr_getc (z := 1) (iz := 0) h kX12 fX12_9 at_0M rfl rfl rfM_0 (by omega) dX12_costs_18 ?_
    refine fr_cvV h kX12 at_0M wX12_change lX12_165 (c_X12_change x1 1 SA_1 (by rw [show x1 8 = x 8 from (fm_up_row m2 (by omega))]; exact e0.2.1) (by rw [show x1 1 = x 1 from (fm_up_row m2 (by omega))]; exact e0.1)) rfl (by decide) (by decide) rfl (Nat.le_of_ble_eq_true rfl) dX12_costs_21 (fun x11 p14 => ?_)
    obtain ⟨p15, p16, f17, f18⟩ := p14
    refine fr_aload_n h rfl 0 rfl dX12_costs_24 ?_
    refine fr_getc (z := 1) (iz := 0) h kX12 fX12_9 at_0M rfl rfl rfM_0 (by omega) dX12_costs_25 ?_
    refine fr_bipush h rfl dX12_costs_28 ?_
    refine fr_iconst h dX12_costs_30 ?_
    refine fr_iload_n h rfl 1 rfl dX12_costs_31 ?_
    refine fr_imul h dX12_costs_32 ?_
    refine fr_iadd h dX12_costs_33 ?_
    refine fr_iload_n h rfl 2 rfl dX12_costs_34 ?_
    refine fr_iadd h dX12_costs_35 ?_
    refine fr_iald h (SA_a SA_1) (by omega) (by omega) ((SA_r SA_1 ((77 + (5 * p)) + w)).trans (sg_wt (by omega) (by omega))) dX12_costs_36 (fun z19 w20 w21 q22 => ?_)
    have r23 := q22.trans (congrFun (f17 1 (by omega) (by omega)) ((77 + (5 * p)) + w))
    have r24 := r23.trans (fm_rd_k (a := 1) (b := ((77 + (5 * p)) + w)) m2 (by omega))
    refine fr_istore (L' := [(0, vr G 0), (1, vi p), (2, vi w), (3, vi v), (4, vi z19)]) h dX12_costs_37 (by decide) [1, 2, 3, 4, 0] rfl ?_
    refine fr_aload_n h rfl 0 rfl dX12_costs_39 ?_
    refine fr_getc (z := 1) (iz := 0) h kX12 fX12_9 at_0M rfl rfl rfM_0 (by omega) dX12_costs_40 ?_
    refine fr_bipush h rfl dX12_costs_43 ?_
    refine fr_iconst h dX12_costs_45 ?_
    refine fr_iload_n h rfl 1 rfl dX12_costs_46 ?_
    refine fr_imul h dX12_costs_47 ?_
    refine fr_iadd h dX12_costs_48 ?_
    refine fr_iload_n h rfl 2 rfl dX12_costs_49 ?_
    refine fr_iadd h dX12_costs_50 ?_
    refine fr_iload_n h rfl 3 rfl dX12_costs_51 ?_
    refine fr_iast h (SA_a SA_1) (by omega) (by omega) ((SA_r SA_1 ((77 + (5 * p)) + w)).trans (sg_wt (by omega) (by omega))) (by omega) (by omega) dX12_costs_52 ?_
    refine fr_mem (fun x25 m26 => ?_)
    refine fr_iload h 4 rfl dX12_costs_53 ?_
    have r27 := (fm_rd_k (a := 0) (b := 5) m26 (by omega))
    have r28 := r27.trans (f18 5 (by decide) (by decide))
    have r29 := r28.trans (fm_rd_s m2)
    have r30 := (fm_rd_k (a := 0) (b := 21) m26 (by omega))
    have r31 := (fm_rd_i (a := 0) (b := 21) m2 (by decide))
    have r32 := (fm_rd_k (a := 0) (b := 12) m26 (by omega))
    have r33 := r32.trans (f18 12 (by decide) (by decide))
    have r34 := r33.trans (fm_rd_i (a := 0) (b := 12) m2 (by decide))
    exact fr_iret h hq (by omega) ⟨(by omega), (Or.inr (by omega)), ⟨(MI_cong (by rw [show x11 1 = x1 1 from (f17 1 (by omega) (by omega))]; exact (by rw [show x1 1 = x 1 from (fm_up_row m2 (by omega))]; exact e0.1)) (fun i a b => fm_rd_i m26 (by omega))), (by rw [show x25 8 = x11 8 from (fm_up_row m26 (by omega))]; exact p15), (by rw [show x25 26 = x 26 from ((fm_up_row m26 (by omega)).trans ((f17 26 (by omega) (by omega)).trans (fm_up_row m2 (by omega))))]; exact e0.2.2.1), (by have := e0.2.2.2; omega)⟩, (fun a k0 k1 k2 => ((fm_up_row m26 (by omega)).trans ((f17 a (by omega) (by omega)).trans (fm_up_row m2 (by omega))))), (fun i k0 k1 k2 => ((fm_rd_k (a := 0) (b := i) m26 (by omega)).trans ((f18 i (by omega) (by omega)).trans (fm_rd_i (a := 0) (b := i) m2 (by omega)))))⟩ dX12_costs_55
  ·
    refine fr_iconst h dX12_costs_14 ?_
    have r35 := (fm_rd_s m2)
    have r36 := (fm_rd_i (a := 0) (b := 21) m2 (by decide))
    have r37 := (fm_rd_i (a := 0) (b := 12) m2 (by decide))
    exact fr_iret h hq (by omega) ⟨(by omega), (Or.inl ⟨(by omega), (fm_up_row m2 (by omega))⟩), ⟨(by rw [show x1 1 = x 1 from (fm_up_row m2 (by omega))]; exact e0.1), (by rw [show x1 8 = x 8 from (fm_up_row m2 (by omega))]; exact e0.2.1), (by rw [show x1 26 = x 26 from (fm_up_row m2 (by omega))]; exact e0.2.2.1), (by have := e0.2.2.2; omega)⟩, (fun a k0 k1 k2 => (fm_up_row m2 (by omega))), (fun i k0 k1 k2 => (fm_rd_i (a := 0) (b := i) m2 (by omega)))⟩ dX12_costs_15
set_option maxHeartbeats 200000 in
theorem c_X12_ends (x : Mm) (p : Int) (w : Int) (h_p : fm_r p) (h_w : fm_r w) (e0 : GI x) (e1 : x 0 21 ≤ 2000) : CnI YM yX12_ends cX12_ends 4 .int 2 45 (fun G => [vr G 0, vi p, vi w]) x (fun z y' => (y' 0 5 = 0) ∧ (CHG x y') ∧ (GI y') ∧ (∀ a : Int, (a < 0 ∨ 0 < a) → (a < 1 ∨ 1 < a) → (a < 8 ∨ 8 < a) → y' a = x a) ∧ (∀ i : Int, i ≠ 5 → i ≠ 18 → i ≠ 21 → y' 0 i = x 0 i)) := by
  refine cn_I (by decide) (fun _ => Nat.le_of_ble_eq_true rfl) (fun G C h hq => ?_)
  have h : OK YM G C cX12_ends RX12 4 (some .int) 2 45 := h
  show FW YM G C 4 x 0 [(0, vr G 0), (1, vi p), (2, vi w)] []
  have e12 := e0.2.2.2
  refine fr_aload_n h rfl 0 rfl dX12_ends_0 ?_
  refine fr_iconst h dX12_ends_1 ?_
  refine fr_puti (iz := 5) h kX12 fX12_94 at_0M rfl rfl (by decide) (by decide) rfl (by decide +kernel) rfM_5 (by omega) (by omega) dX12_ends_2 ?_
  refine fr_mem (fun x1 m2 => ?_)
  refine fr_iload_n h rfl 1 rfl dX12_ends_5 ?_
  refine fr_iload_n h rfl 2 rfl dX12_ends_6 ?_
  refine fr_csI h wX12_canEnd lX12_255 (c_X12_canEnd x1 p w (by omega) (by omega)) rfl (by decide) (by decide) rfl (Nat.le_of_ble_eq_true rfl) dX12_ends_7 (fun z4 x3 w5 p6 => ?_)
  obtain ⟨p7, p8, y9⟩ := p6
  rw [y9]
  clear y9
  refine fr_if_ne (tgt := 15) h dX12_ends_10 (by decide) (by omega) (fun c10 => ?_) (fun c10 => ?_)
  ·
    refine fr_aload_n h rfl 0 rfl dX12_ends_15 ?_
    refine fr_aload_n h rfl 0 rfl dX12_ends_16 ?_
    refine fr_getc (z := 1) (iz := 0) h kX12 fX12_9 at_0M rfl rfl rfM_0 (by omega) dX12_ends_17 ?_
    refine fr_cvV h kX12 at_0M wX12_change lX12_165 (c_X12_change x1 1 SA_1 (by rw [show x1 8 = x 8 from (fm_up_row m2 (by omega))]; exact e0.2.1) (by rw [show x1 1 = x 1 from (fm_up_row m2 (by omega))]; exact e0.1)) rfl (by decide) (by decide) rfl (Nat.le_of_ble_eq_true rfl) dX12_ends_20 (fun x11 p14 => ?_)
    obtain ⟨p15, p16, f17, f18⟩ := p14
    refine fr_aload_n h rfl 0 rfl dX12_ends_23 ?_
    refine fr_getc (z := 1) (iz := 0) h kX12 fX12_9 at_0M rfl rfl rfM_0 (by omega) dX12_ends_24 ?_
    refine fr_csI h wX12_endsOf lX12_259 (c_X12_endsOf x11 1 SA_1) rfl (by decide) (by decide) rfl (Nat.le_of_ble_eq_true rfl) dX12_ends_27 (fun z20 x19 w21 p22 => ?_)
    obtain ⟨p23, p24, y25⟩ := p22
    rw [y25]
    clear y25
    refine fr_istore_n (L' := [(0, vr G 0), (1, vi p), (2, vi w), (3, vi z20)]) h rfl dX12_ends_30 (by decide) [1, 2, 3, 0] rfl ?_
    refine fr_aload_n h rfl 0 rfl dX12_ends_31 ?_
    refine fr_getc (z := 1) (iz := 0) h kX12 fX12_9 at_0M rfl rfl rfM_0 (by omega) dX12_ends_32 ?_
    refine fr_bipush h rfl dX12_ends_35 ?_
    refine fr_iload_n h rfl 1 rfl dX12_ends_37 ?_
    refine fr_iast h (SA_a SA_1) (by omega) (by omega) ((SA_r SA_1 103).trans sg_e1) (by omega) (by omega) dX12_ends_38 ?_
    refine fr_mem (fun x26 m27 => ?_)
    refine fr_aload_n h rfl 0 rfl dX12_ends_39 ?_
    refine fr_getc (z := 1) (iz := 0) h kX12 fX12_9 at_0M rfl rfl rfM_0 (by omega) dX12_ends_40 ?_
    refine fr_bipush h rfl dX12_ends_43 ?_
    refine fr_iload_n h rfl 2 rfl dX12_ends_45 ?_
    refine fr_iast h (SA_a SA_1) (by omega) (by omega) ((SA_r SA_1 104).trans sg_e2) (by omega) (by omega) dX12_ends_46 ?_
    refine fr_mem (fun x28 m29 => ?_)
    refine fr_iload_n h rfl 3 rfl dX12_ends_47 ?_
    have r30 := (fm_rd_k (a := 0) (b := 5) m29 (by omega))
    have r31 := r30.trans (fm_rd_k (a := 0) (b := 5) m27 (by omega))
    have r32 := r31.trans (f18 5 (by decide) (by decide))
    have r33 := r32.trans (fm_rd_s m2)
    have r34 := (fm_rd_k (a := 0) (b := 21) m29 (by omega))
    have r35 := r34.trans (fm_rd_k (a := 0) (b := 21) m27 (by omega))
    have r36 := (fm_rd_i (a := 0) (b := 21) m2 (by decide))
    have r37 := (fm_rd_k (a := 0) (b := 12) m29 (by omega))
    have r38 := r37.trans (fm_rd_k (a := 0) (b := 12) m27 (by omega))
    have r39 := r38.trans (f18 12 (by decide) (by decide))
    have r40 := r39.trans (fm_rd_i (a := 0) (b := 12) m2 (by decide))
    exact fr_iret h hq (by omega) ⟨(by omega), (Or.inr (by omega)), ⟨(MI_cong (MI_cong (by rw [show x11 1 = x1 1 from (f17 1 (by omega) (by omega))]; exact (by rw [show x1 1 = x 1 from (fm_up_row m2 (by omega))]; exact e0.1)) (fun i a b => fm_rd_i m27 (by omega))) (fun i a b => fm_rd_i m29 (by omega))), (by rw [show x28 8 = x11 8 from ((fm_up_row m29 (by omega)).trans (fm_up_row m27 (by omega)))]; exact p15), (by rw [show x28 26 = x 26 from ((fm_up_row m29 (by omega)).trans ((fm_up_row m27 (by omega)).trans ((f17 26 (by omega) (by omega)).trans (fm_up_row m2 (by omega)))))]; exact e0.2.2.1), (by have := e0.2.2.2; omega)⟩, (fun a k0 k1 k2 => ((fm_up_row m29 (by omega)).trans ((fm_up_row m27 (by omega)).trans ((f17 a (by omega) (by omega)).trans (fm_up_row m2 (by omega)))))), (fun i k0 k1 k2 => ((fm_rd_k (a := 0) (b := i) m29 (by omega)).trans ((fm_rd_k (a := 0) (b := i) m27 (by omega)).trans ((f18 i (by omega) (by omega)).trans (fm_rd_i (a := 0) (b := i) m2 (by omega))))))⟩ dX12_ends_48
  ·
    refine fr_iconst h dX12_ends_13 ?_
    have r41 := (fm_rd_s m2)
    have r42 := (fm_rd_i (a := 0) (b := 21) m2 (by decide))
    have r43 := (fm_rd_i (a := 0) (b := 12) m2 (by decide))
    exact fr_iret h hq (by omega) ⟨(by omega), (Or.inl ⟨(by omega), (fm_up_row m2 (by omega))⟩), ⟨(by rw [show x1 1 = x 1 from (fm_up_row m2 (by omega))]; exact e0.1), (by rw [show x1 8 = x 8 from (fm_up_row m2 (by omega))]; exact e0.2.1), (by rw [show x1 26 = x 26 from (fm_up_row m2 (by omega))]; exact e0.2.2.1), (by have := e0.2.2.2; omega)⟩, (fun a k0 k1 k2 => (fm_up_row m2 (by omega))), (fun i k0 k1 k2 => (fm_rd_i (a := 0) (b := i) m2 (by omega)))⟩ dX12_ends_14
set_option maxHeartbeats 200000 in
theorem c_X12_sets (x : Mm) (p : Int) (v : Int) (h_p : fm_r p) (h_v : fm_r v) (e0 : GI x) (e1 : x 0 21 ≤ 2000) : CnI YM yX12_sets cX12_sets 6 .int 2 45 (fun G => [vr G 0, vi p, vi v]) x (fun z y' => (y' 0 5 = 0) ∧ (CHG x y') ∧ (GI y') ∧ (∀ a : Int, (a < 0 ∨ 0 < a) → (a < 1 ∨ 1 < a) → (a < 8 ∨ 8 < a) → y' a = x a) ∧ (∀ i : Int, i ≠ 5 → i ≠ 18 → i ≠ 21 → y' 0 i = x 0 i)) := by
  refine cn_I (by decide) (fun _ => Nat.le_of_ble_eq_true rfl) (fun G C h hq => ?_)
  have h : OK YM G C cX12_sets RX12 6 (some .int) 2 45 := h
  show FW YM G C 6 x 0 [(0, vr G 0), (1, vi p), (2, vi v)] []
  have e12 := e0.2.2.2
  refine fr_aload_n h rfl 0 rfl dX12_sets_0 ?_
  refine fr_iconst h dX12_sets_1 ?_
  refine fr_puti (iz := 5) h kX12 fX12_94 at_0M rfl rfl (by decide) (by decide) rfl (by decide +kernel) rfM_5 (by omega) (by omega) dX12_sets_2 ?_
  refine fr_mem (fun x1 m2 => ?_)
  refine fr_aload_n h rfl 0 rfl dX12_sets_5 ?_
  refine fr_getc (z := 1) (iz := 0) h kX12 fX12_9 at_0M rfl rfl rfM_0 (by omega) dX12_sets_6 ?_
  refine fr_iload_n h rfl 1 rfl dX12_sets_9 ?_
  refine fr_iload_n h rfl 2 rfl dX12_sets_10 ?_
  refine fr_csI h wX12_refusesSet lX12_252 (c_X12_refusesSet x1 1 SA_1 p v (by omega) (by omega)) rfl (by decide) (by decide) rfl (Nat.le_of_ble_eq_true rfl) dX12_sets_11 (fun z4 x3 w5 p6 => ?_)
  obtain ⟨p7, p8, p9, y10⟩ := p6
  rw [y10]
  clear y10
  refine fr_istore_n (L' := [(0, vr G 0), (1, vi p), (2, vi v), (3, vi z4)]) h rfl dX12_sets_14 (by decide) [1, 2, 3, 0] rfl ?_
  refine fr_iload_n h rfl 3 rfl dX12_sets_15 ?_
  refine fr_if_ge (tgt := 21) h dX12_sets_16 (by decide) (by omega) (fun c11 => ?_) (fun c11 => ?_)
  ·
    refine fr_aload_n h rfl 0 rfl dX12_sets_21 ?_
    refine fr_aload_n h rfl 0 rfl dX12_sets_22 ?_
    refine fr_getc (z := 1) (iz := 0) h kX12 fX12_9 at_0M rfl rfl rfM_0 (by omega) dX12_sets_23 ?_
    refine fr_cvV h kX12 at_0M wX12_change lX12_165 (c_X12_change x1 1 SA_1 (by rw [show x1 8 = x 8 from (fm_up_row m2 (by omega))]; exact e0.2.1) (by rw [show x1 1 = x 1 from (fm_up_row m2 (by omega))]; exact e0.1)) rfl (by decide) (by decide) rfl (Nat.le_of_ble_eq_true rfl) dX12_sets_26 (fun x12 p15 => ?_)
    obtain ⟨p16, p17, f18, f19⟩ := p15
    refine fr_iload_n h rfl 1 rfl dX12_sets_29 ?_
    refine fr_if_ne (tgt := 38) h dX12_sets_30 (by decide) (by omega) (fun c20 => ?_) (fun c20 => ?_)
    ·
      refine fr_bipush h rfl dX12_sets_38 ?_
      refine fr_istore (L' := [(0, vr G 0), (1, vi p), (2, vi v), (3, vi z4), (4, vi 105)]) h dX12_sets_40 (by decide) [1, 2, 3, 4, 0] rfl ?_
      refine fr_aload_n h rfl 0 rfl dX12_sets_42 ?_
      refine fr_getc (z := 1) (iz := 0) h kX12 fX12_9 at_0M rfl rfl rfM_0 (by omega) dX12_sets_43 ?_
      refine fr_iload h 4 rfl dX12_sets_46 ?_
      refine fr_iald h (SA_a SA_1) (by omega) (by omega) ((SA_r SA_1 105).trans sg_pick) dX12_sets_48 (fun z21 w22 w23 q24 => ?_)
      have r25 := q24.trans (congrFun (f18 1 (by omega) (by omega)) 105)
      have r26 := r25.trans (fm_rd_k (a := 1) (b := 105) m2 (by omega))
      refine fr_istore (L' := [(0, vr G 0), (1, vi p), (2, vi v), (3, vi z4), (4, vi 105), (5, vi z21)]) h dX12_sets_49 (by decide) [1, 2, 3, 4, 5, 0] rfl ?_
      refine fr_aload_n h rfl 0 rfl dX12_sets_51 ?_
      refine fr_getc (z := 1) (iz := 0) h kX12 fX12_9 at_0M rfl rfl rfM_0 (by omega) dX12_sets_52 ?_
      refine fr_iload h 4 rfl dX12_sets_55 ?_
      refine fr_iload_n h rfl 2 rfl dX12_sets_57 ?_
      refine fr_iast h (SA_a SA_1) (by omega) (by omega) ((SA_r SA_1 105).trans sg_pick) (by omega) (by omega) dX12_sets_58 ?_
      refine fr_mem (fun x27 m28 => ?_)
      refine fr_bipush h rfl dX12_sets_59 ?_
      refine fr_iload h 5 rfl dX12_sets_61 ?_
      refine fr_iadd h dX12_sets_63 ?_
      have r29 := (fm_rd_k (a := 0) (b := 5) m28 (by omega))
      have r30 := r29.trans (f19 5 (by decide) (by decide))
      have r31 := r30.trans (fm_rd_s m2)
      have r32 := (fm_rd_k (a := 0) (b := 21) m28 (by omega))
      have r33 := (fm_rd_i (a := 0) (b := 21) m2 (by decide))
      have r34 := (fm_rd_k (a := 0) (b := 12) m28 (by omega))
      have r35 := r34.trans (f19 12 (by decide) (by decide))
      have r36 := r35.trans (fm_rd_i (a := 0) (b := 12) m2 (by decide))
      exact fr_iret h hq (by omega) ⟨(by omega), (Or.inr (by omega)), ⟨(MI_cong (by rw [show x12 1 = x1 1 from (f18 1 (by omega) (by omega))]; exact (by rw [show x1 1 = x 1 from (fm_up_row m2 (by omega))]; exact e0.1)) (fun i a b => fm_rd_i m28 (by omega))), (by rw [show x27 8 = x12 8 from (fm_up_row m28 (by omega))]; exact p16), (by rw [show x27 26 = x 26 from ((fm_up_row m28 (by omega)).trans ((f18 26 (by omega) (by omega)).trans (fm_up_row m2 (by omega))))]; exact e0.2.2.1), (by have := e0.2.2.2; omega)⟩, (fun a k0 k1 k2 => ((fm_up_row m28 (by omega)).trans ((f18 a (by omega) (by omega)).trans (fm_up_row m2 (by omega))))), (fun i k0 k1 k2 => ((fm_rd_k (a := 0) (b := i) m28 (by omega)).trans ((f19 i (by omega) (by omega)).trans (fm_rd_i (a := 0) (b := i) m2 (by omega)))))⟩ dX12_sets_64
    ·
      refine fr_bipush h rfl dX12_sets_33 ?_
      refine fr_goto (tgt := 40) h dX12_sets_35 (by decide) ?_
      refine fr_istore (L' := [(0, vr G 0), (1, vi p), (2, vi v), (3, vi z4), (4, vi 102)]) h dX12_sets_40 (by decide) [1, 2, 3, 4, 0] rfl ?_
      refine fr_aload_n h rfl 0 rfl dX12_sets_42 ?_
      refine fr_getc (z := 1) (iz := 0) h kX12 fX12_9 at_0M rfl rfl rfM_0 (by omega) dX12_sets_43 ?_
      refine fr_iload h 4 rfl dX12_sets_46 ?_
      refine fr_iald h (SA_a SA_1) (by omega) (by omega) ((SA_r SA_1 102).trans sg_size) dX12_sets_48 (fun z37 w38 w39 q40 => ?_)
      have r41 := q40.trans (congrFun (f18 1 (by omega) (by omega)) 102)
      have r42 := r41.trans (fm_rd_k (a := 1) (b := 102) m2 (by omega))
      refine fr_istore (L' := [(0, vr G 0), (1, vi p), (2, vi v), (3, vi z4), (4, vi 102), (5, vi z37)]) h dX12_sets_49 (by decide) [1, 2, 3, 4, 5, 0] rfl ?_
      refine fr_aload_n h rfl 0 rfl dX12_sets_51 ?_
      refine fr_getc (z := 1) (iz := 0) h kX12 fX12_9 at_0M rfl rfl rfM_0 (by omega) dX12_sets_52 ?_
      refine fr_iload h 4 rfl dX12_sets_55 ?_
      refine fr_iload_n h rfl 2 rfl dX12_sets_57 ?_
      refine fr_iast h (SA_a SA_1) (by omega) (by omega) ((SA_r SA_1 102).trans sg_size) (by omega) (by omega) dX12_sets_58 ?_
      refine fr_mem (fun x43 m44 => ?_)
      refine fr_bipush h rfl dX12_sets_59 ?_
      refine fr_iload h 5 rfl dX12_sets_61 ?_
      refine fr_iadd h dX12_sets_63 ?_
      have r45 := (fm_rd_k (a := 0) (b := 5) m44 (by omega))
      have r46 := r45.trans (f19 5 (by decide) (by decide))
      have r47 := r46.trans (fm_rd_s m2)
      have r48 := (fm_rd_k (a := 0) (b := 21) m44 (by omega))
      have r49 := (fm_rd_i (a := 0) (b := 21) m2 (by decide))
      have r50 := (fm_rd_k (a := 0) (b := 12) m44 (by omega))
      have r51 := r50.trans (f19 12 (by decide) (by decide))
      have r52 := r51.trans (fm_rd_i (a := 0) (b := 12) m2 (by decide))
      exact fr_iret h hq (by omega) ⟨(by omega), (Or.inr (by omega)), ⟨(MI_cong (by rw [show x12 1 = x1 1 from (f18 1 (by omega) (by omega))]; exact (by rw [show x1 1 = x 1 from (fm_up_row m2 (by omega))]; exact e0.1)) (fun i a b => fm_rd_i m44 (by omega))), (by rw [show x43 8 = x12 8 from (fm_up_row m44 (by omega))]; exact p16), (by rw [show x43 26 = x 26 from ((fm_up_row m44 (by omega)).trans ((f18 26 (by omega) (by omega)).trans (fm_up_row m2 (by omega))))]; exact e0.2.2.1), (by have := e0.2.2.2; omega)⟩, (fun a k0 k1 k2 => ((fm_up_row m44 (by omega)).trans ((f18 a (by omega) (by omega)).trans (fm_up_row m2 (by omega))))), (fun i k0 k1 k2 => ((fm_rd_k (a := 0) (b := i) m44 (by omega)).trans ((f19 i (by omega) (by omega)).trans (fm_rd_i (a := 0) (b := i) m2 (by omega)))))⟩ dX12_sets_64
  ·
    refine fr_iload_n h rfl 3 rfl dX12_sets_19 ?_
    have r53 := (fm_rd_s m2)
    have r54 := (fm_rd_i (a := 0) (b := 21) m2 (by decide))
    have r55 := (fm_rd_i (a := 0) (b := 12) m2 (by decide))
    exact fr_iret h hq (by omega) ⟨(by omega), (Or.inl ⟨(by omega), (fm_up_row m2 (by omega))⟩), ⟨(by rw [show x1 1 = x 1 from (fm_up_row m2 (by omega))]; exact e0.1), (by rw [show x1 8 = x 8 from (fm_up_row m2 (by omega))]; exact e0.2.1), (by rw [show x1 26 = x 26 from (fm_up_row m2 (by omega))]; exact e0.2.2.1), (by have := e0.2.2.2; omega)⟩, (fun a k0 k1 k2 => (fm_up_row m2 (by omega))), (fun i k0 k1 k2 => (fm_rd_i (a := 0) (b := i) m2 (by omega)))⟩ dX12_sets_20
set_option maxHeartbeats 8000000 in
theorem c_X12_sheet (x : Mm) (k : Int) (n : Int) (u : Int) (v : Int) (h_k : fm_r k) (h_n : fm_r n) (h_u : fm_r u) (h_v : fm_r v) (e0 : GI x) (e1 : x 0 21 ≤ 2000) : CnI YM yX12_sheet cX12_sheet 12 .int 2 46 (fun G => [vr G 0, vi k, vi n, vi u, vi v]) x (fun z y' => (y' 0 5 = 0) ∧ (CHG x y') ∧ (GI y') ∧ (∀ a : Int, (a < 0 ∨ 0 < a) → (a < 1 ∨ 1 < a) → y' a = x a) ∧ (∀ i : Int, i ≠ 5 → i ≠ 21 → y' 0 i = x 0 i)) := by
  refine cn_I (by decide) (fun _ => Nat.le_of_ble_eq_true rfl) (fun G C h hq => ?_)
  have h : OK YM G C cX12_sheet RX12 12 (some .int) 2 46 := h
  show FW YM G C 12 x 0 [(0, vr G 0), (1, vi k), (2, vi n), (3, vi u), (4, vi v)] []
  have e12 := e0.2.2.2
  refine fr_aload_n h rfl 0 rfl dX12_sheet_0 ?_
  refine fr_iconst h dX12_sheet_1 ?_
  refine fr_puti (iz := 5) h kX12 fX12_94 at_0M rfl rfl (by decide) (by decide) rfl (by decide +kernel) rfM_5 (by omega) (by omega) dX12_sheet_2 ?_
  refine fr_mem (fun x1 m2 => ?_)
  refine fr_iload_n h rfl 1 rfl dX12_sheet_5 ?_
  refine fr_iconst h dX12_sheet_6 ?_
  refine fr_iconst h dX12_sheet_7 ?_
  refine fr_csI h wX12_in lX12_101 (c_X12_in x1 k 0 3 (by omega) (by omega) (by omega)) rfl (by decide) (by decide) rfl (Nat.le_of_ble_eq_true rfl) dX12_sheet_8 (fun z4 x3 w5 p6 => ?_)
  obtain ⟨p7, p8, y9⟩ := p6
  rw [y9]
  clear y9
  refine fr_if_eq (tgt := 20) h dX12_sheet_11 (by decide) (by omega) (fun c10 => ?_) (fun c10 => ?_)
  ·
    refine fr_iconst h dX12_sheet_20 ?_
    have r11 := (fm_rd_s m2)
    have r12 := (fm_rd_i (a := 0) (b := 21) m2 (by decide))
    have r13 := (fm_rd_i (a := 0) (b := 12) m2 (by decide))
    exact fr_iret h hq (by omega) ⟨(by omega), (Or.inl ⟨(by omega), (fm_up_row m2 (by omega))⟩), ⟨(by rw [show x1 1 = x 1 from (fm_up_row m2 (by omega))]; exact e0.1), (by rw [show x1 8 = x 8 from (fm_up_row m2 (by omega))]; exact e0.2.1), (by rw [show x1 26 = x 26 from (fm_up_row m2 (by omega))]; exact e0.2.2.1), (by have := e0.2.2.2; omega)⟩, (fun a k0 k1 => (fm_up_row m2 (by omega))), (fun i k0 k1 => (fm_rd_i (a := 0) (b := i) m2 (by omega)))⟩ dX12_sheet_21
  ·
    refine fr_iload_n h rfl 2 rfl dX12_sheet_14 ?_
    refine fr_bipush h rfl dX12_sheet_15 ?_
    refine fr_icmp_le (tgt := 22) h dX12_sheet_17 (by decide) (by omega) (by omega) (fun c14 => ?_) (fun c14 => ?_)
    ·
      refine fr_iload_n h rfl 1 rfl dX12_sheet_22 ?_
      refine fr_iconst h dX12_sheet_23 ?_
      refine fr_icmp_ge (tgt := 34) h dX12_sheet_24 (by decide) (by omega) (by omega) (fun c15 => ?_) (fun c15 => ?_)
      ·
        refine fr_iload_n h rfl 3 rfl dX12_sheet_34 ?_
        refine fr_istore (L' := [(0, vr G 0), (1, vi k), (2, vi n), (3, vi u), (4, vi v), (5, vi u)]) h dX12_sheet_35 (by decide) [1, 2, 3, 4, 5, 0] rfl ?_
        refine fr_iconst h dX12_sheet_37 ?_
        refine fr_istore (L' := [(0, vr G 0), (1, vi k), (2, vi n), (3, vi u), (4, vi v), (5, vi u), (6, vi 0)]) h dX12_sheet_38 (by decide) [1, 2, 3, 4, 5, 6, 0] rfl ?_
        refine fr_aload_n h rfl 0 rfl dX12_sheet_40 ?_
        refine fr_getc (z := 1) (iz := 0) h kX12 fX12_9 at_0M rfl rfl rfM_0 (by omega) dX12_sheet_41 ?_
        refine fr_csI h wX12_edgesOf lX12_216 (c_X12_edgesOf x1 1 SA_1) rfl (by decide) (by decide) rfl (Nat.le_of_ble_eq_true rfl) dX12_sheet_44 (fun z17 x16 w18 p19 => ?_)
        obtain ⟨p20, p21, p22, y23⟩ := p19
        rw [y23]
        clear y23
        refine fr_istore (L' := [(0, vr G 0), (1, vi k), (2, vi n), (3, vi u), (4, vi v), (5, vi u), (6, vi 0), (7, vi z17)]) h dX12_sheet_47 (by decide) [1, 2, 3, 4, 5, 6, 7, 0] rfl ?_
        refine fr_iconst h dX12_sheet_49 ?_
        refine fr_istore (L' := [(0, vr G 0), (1, vi k), (2, vi n), (3, vi u), (4, vi v), (5, vi u), (6, vi 0), (7, vi z17), (8, vi 0)]) h dX12_sheet_50 (by decide) [1, 2, 3, 4, 5, 6, 7, 8, 0] rfl ?_
        have HL24 : ∀ (n24 : Nat) (l5_24 l6_24 l8_24 : Int) (x_24 : Mm), fm_r l5_24 → fm_r l6_24 → fm_r l8_24 → 0 ≤ l8_24 → l8_24 ≤ 49 → MI (x_24 1) → ec (x_24 1) 49 = z17 → l8_24 ≤ z17 → (∀ a : Int, (a < 1 ∨ 1 < a) → x_24 a = x1 a) → (z17 - l8_24) < n24 → FW YM G C 12 x_24 52 [(0, vr G 0), (1, vi k), (2, vi n), (3, vi u), (4, vi v), (5, vi l5_24), (6, vi l6_24), (7, vi z17), (8, vi l8_24)] [] := by
          intro n24
          induction n24 with
          | zero =>
            intro l5_24 l6_24 l8_24 x_24 g24_0 g24_1 g24_2 g24_3 g24_4 g24_5 g24_6 g24_7 g24_8 g24_9
            exfalso; omega
          | succ n24 ih24 =>
            intro l5_24 l6_24 l8_24 x_24 g24_0 g24_1 g24_2 g24_3 g24_4 g24_5 g24_6 g24_7 g24_8 g24_9
            refine fr_iload h 8 rfl dX12_sheet_52 ?_
            refine fr_iload h 7 rfl dX12_sheet_54 ?_
            refine fr_icmp_ge (tgt := 162) h dX12_sheet_56 (by decide) (by omega) (by omega) (fun c25 => ?_) (fun c25 => ?_)
            ·
              refine fr_aload_n h rfl 0 rfl dX12_sheet_162 ?_
              refine fr_dup h rfl dX12_sheet_163 ?_
              refine fr_geti (iz := 21) h kX12 fX12_201 at_0M rfl rfl (by decide) (by decide) rfM_21 dX12_sheet_164 (fun z26 w27 w28 q29 => ?_)
              have r30 := q29.trans (congrFun (g24_8 0 (by omega)) 21)
              have r31 := r30.trans (fm_rd_i (a := 0) (b := 21) m2 (by decide))
              refine fr_iconst h dX12_sheet_167 ?_
              refine fr_iadd h dX12_sheet_168 ?_
              refine fr_normi (fun z32 w33 q34 => ?_)
              have w35 : fm_r ((z26 + 1)) → z32 = (z26 + 1) := fun q => (iI_inj q w33 q34).symm
              refine fr_puti (iz := 21) h kX12 fX12_201 at_0M rfl rfl (by decide) (by decide) rfl (by decide +kernel) rfM_21 (by omega) (by omega) dX12_sheet_169 ?_
              refine fr_mem (fun x36 m37 => ?_)
              refine fr_iload_n h rfl 1 rfl dX12_sheet_172 ?_
              refine fr_iconst h dX12_sheet_173 ?_
              refine fr_icmp_ne (tgt := 182) h dX12_sheet_174 (by decide) (by omega) (by omega) (fun c38 => ?_) (fun c38 => ?_)
              ·
                refine fr_iload h 6 rfl dX12_sheet_182 ?_
                have r39 := (fm_rd_i (a := 0) (b := 5) m37 (by decide))
                have r40 := r39.trans (congrFun (g24_8 0 (by omega)) 5)
                have r41 := r40.trans (fm_rd_s m2)
                have r42 := (fm_rd_s m37)
                have r43 := (fm_rd_i (a := 0) (b := 12) m37 (by decide))
                have r44 := r43.trans (congrFun (g24_8 0 (by omega)) 12)
                have r45 := r44.trans (fm_rd_i (a := 0) (b := 12) m2 (by decide))
                exact fr_iret h hq (by omega) ⟨(by omega), (Or.inr (by omega)), ⟨(by rw [show x36 1 = x_24 1 from (fm_up_row m37 (by omega))]; exact g24_5), (by rw [show x36 8 = x 8 from ((fm_up_row m37 (by omega)).trans ((g24_8 8 (by omega)).trans (fm_up_row m2 (by omega))))]; exact e0.2.1), (by rw [show x36 26 = x 26 from ((fm_up_row m37 (by omega)).trans ((g24_8 26 (by omega)).trans (fm_up_row m2 (by omega))))]; exact e0.2.2.1), (by have := e0.2.2.2; omega)⟩, (fun a k0 k1 => ((fm_up_row m37 (by omega)).trans ((g24_8 a (by omega)).trans (fm_up_row m2 (by omega))))), (fun i k0 k1 => ((fm_rd_i (a := 0) (b := i) m37 (by omega)).trans ((congrFun (g24_8 0 (by omega)) i).trans (fm_rd_i (a := 0) (b := i) m2 (by omega)))))⟩ dX12_sheet_184
              ·
                refine fr_bipush h rfl dX12_sheet_177 ?_
                refine fr_goto (tgt := 184) h dX12_sheet_179 (by decide) ?_
                have r46 := (fm_rd_i (a := 0) (b := 5) m37 (by decide))
                have r47 := r46.trans (congrFun (g24_8 0 (by omega)) 5)
                have r48 := r47.trans (fm_rd_s m2)
                have r49 := (fm_rd_s m37)
                have r50 := (fm_rd_i (a := 0) (b := 12) m37 (by decide))
                have r51 := r50.trans (congrFun (g24_8 0 (by omega)) 12)
                have r52 := r51.trans (fm_rd_i (a := 0) (b := 12) m2 (by decide))
                exact fr_iret h hq (by omega) ⟨(by omega), (Or.inr (by omega)), ⟨(by rw [show x36 1 = x_24 1 from (fm_up_row m37 (by omega))]; exact g24_5), (by rw [show x36 8 = x 8 from ((fm_up_row m37 (by omega)).trans ((g24_8 8 (by omega)).trans (fm_up_row m2 (by omega))))]; exact e0.2.1), (by rw [show x36 26 = x 26 from ((fm_up_row m37 (by omega)).trans ((g24_8 26 (by omega)).trans (fm_up_row m2 (by omega))))]; exact e0.2.2.1), (by have := e0.2.2.2; omega)⟩, (fun a k0 k1 => ((fm_up_row m37 (by omega)).trans ((g24_8 a (by omega)).trans (fm_up_row m2 (by omega))))), (fun i k0 k1 => ((fm_rd_i (a := 0) (b := i) m37 (by omega)).trans ((congrFun (g24_8 0 (by omega)) i).trans (fm_rd_i (a := 0) (b := i) m2 (by omega)))))⟩ dX12_sheet_184
            ·
              have HL53 : ∀ (l9_53 l10_53 : Int), fm_r l9_53 → fm_r l10_53 → 1 ≤ l10_53 → l10_53 ≤ 99 → FW YM G C 12 x_24 112 [(0, vr G 0), (1, vi k), (2, vi n), (3, vi u), (4, vi v), (5, vi l5_24), (6, vi l6_24), (7, vi z17), (8, vi l8_24), (9, vi l9_53), (10, vi l10_53)] [] := by
                intro l9_53 l10_53 g53_0 g53_1 g53_2 g53_3
                refine fr_aload_n h rfl 0 rfl dX12_sheet_112 ?_
                refine fr_getc (z := 1) (iz := 0) h kX12 fX12_9 at_0M rfl rfl rfM_0 (by omega) dX12_sheet_113 ?_
                refine fr_iload h 8 rfl dX12_sheet_116 ?_
                refine fr_csI h wX12_edgeAt lX12_220 (c_X12_edgeAt x_24 1 SA_1 l8_24 (by omega) (by omega)) rfl (by decide) (by decide) rfl (Nat.le_of_ble_eq_true rfl) dX12_sheet_118 (fun z55 x54 w56 p57 => ?_)
                obtain ⟨p58, p59, p60, p61, y62⟩ := p57
                rw [y62]
                clear y62
                refine fr_istore (L' := [(0, vr G 0), (1, vi k), (2, vi n), (3, vi u), (4, vi v), (5, vi l5_24), (6, vi l6_24), (7, vi z17), (8, vi l8_24), (9, vi l9_53), (10, vi l10_53), (11, vi z55)]) h dX12_sheet_121 (by decide) [1, 2, 3, 4, 5, 6, 7, 8, 9, 10, 11, 0] rfl ?_
                refine fr_aload_n h rfl 0 rfl dX12_sheet_123 ?_
                refine fr_getc (z := 1) (iz := 0) h kX12 fX12_9 at_0M rfl rfl rfM_0 (by omega) dX12_sheet_124 ?_
                refine fr_iload h 11 rfl dX12_sheet_127 ?_
                refine fr_bipush h rfl dX12_sheet_129 ?_
                refine fr_idiv h (by omega) (by omega) (by omega) dX12_sheet_131 (fun z63 w64 q65 w66 => ?_)
                have w67 := w66
                refine fr_iload h 11 rfl dX12_sheet_132 ?_
                refine fr_bipush h rfl dX12_sheet_134 ?_
                refine fr_irem h (by omega) (by omega) (by omega) dX12_sheet_136 (fun z68 w69 q70 w71 => ?_)
                have w72 := w71
                refine fr_iload h 10 rfl dX12_sheet_137 ?_
                have hpos : 0 < x_24 1 (28 + 7 * z63 + z68) := by rw [show z63 = z55 / 7 by omega, show z68 = z55 % 7 by omega]; omega
                refine fr_csV h wX12_weigh lX12_224 (c_X12_weigh x_24 1 SA_1 z63 z68 l10_53 (by omega) (by omega) (by omega) (by omega) (by omega) (by omega) (by omega) (by omega) (by omega)) rfl (by decide) (by decide) rfl (Nat.le_of_ble_eq_true rfl) dX12_sheet_139 (fun x73 p76 => ?_)
                obtain ⟨p77, p78, p79, f80⟩ := p76
                refine fr_iload h 6 rfl dX12_sheet_142 ?_
                refine fr_iload h 10 rfl dX12_sheet_144 ?_
                refine fr_iadd h dX12_sheet_146 ?_
                refine fr_normi (fun z81 w82 q83 => ?_)
                have w84 : fm_r ((l6_24 + l10_53)) → z81 = (l6_24 + l10_53) := fun q => (iI_inj q w82 q83).symm
                refine fr_istore (L' := [(0, vr G 0), (1, vi k), (2, vi n), (3, vi u), (4, vi v), (5, vi l5_24), (6, vi z81), (7, vi z17), (8, vi l8_24), (9, vi l9_53), (10, vi l10_53), (11, vi z55)]) h dX12_sheet_147 (by decide) [1, 2, 3, 4, 5, 6, 0, 7, 8, 9, 10, 11] rfl ?_
                refine fr_iload h 5 rfl dX12_sheet_149 ?_
                refine fr_iload h 4 rfl dX12_sheet_151 ?_
                refine fr_iadd h dX12_sheet_153 ?_
                refine fr_normi (fun z85 w86 q87 => ?_)
                have w88 : fm_r ((l5_24 + v)) → z85 = (l5_24 + v) := fun q => (iI_inj q w86 q87).symm
                refine fr_istore (L' := [(0, vr G 0), (1, vi k), (2, vi n), (3, vi u), (4, vi v), (5, vi z85), (6, vi z81), (7, vi z17), (8, vi l8_24), (9, vi l9_53), (10, vi l10_53), (11, vi z55)]) h dX12_sheet_154 (by decide) [1, 2, 3, 4, 5, 0, 6, 7, 8, 9, 10, 11] rfl ?_
                refine fr_iinc (j := 8) (L' := [(0, vr G 0), (1, vi k), (2, vi n), (3, vi u), (4, vi v), (5, vi z85), (6, vi z81), (7, vi z17), (8, vi (l8_24 + 1)), (9, vi l9_53), (10, vi l10_53), (11, vi z55)]) h dX12_sheet_156 rfl (by decide) [1, 2, 3, 4, 5, 6, 7, 8, 0, 9, 10, 11] rfl ?_
                refine fr_goto (tgt := 52) h dX12_sheet_159 (by decide) ?_
                refine fr_sub (L' := [(0, vr G 0), (1, vi k), (2, vi n), (3, vi u), (4, vi v), (5, vi z85), (6, vi z81), (7, vi z17), (8, vi (l8_24 + 1))]) [0, 1, 2, 3, 4, 5, 6, 7, 8] rfl ?_
                exact ih24 z85 z81 (l8_24 + 1) x73 (by omega) (by omega) (by omega) (by omega) (by omega) (MI_weigh (a := z63) (b := z68) (w := l10_53) g24_5 (by omega) (by omega) (by omega) (by omega) (by omega) (by omega) p77 p78 p79) ((EC_weigh (a := z63) (b := z68) (w := l10_53) g24_5 (by omega) (by omega) (by omega) (by omega) (by omega) (by omega) (by omega) p77 p78 p79).trans g24_6) (by omega) (fun a k0 => ((f80 a (by omega)).trans (g24_8 a (by omega)))) (by omega)
              refine fr_iload_n h rfl 1 rfl dX12_sheet_59 ?_
              refine fr_if_ne (tgt := 69) h dX12_sheet_60 (by decide) (by omega) (fun c89 => ?_) (fun c89 => by exfalso; omega)
              refine fr_iload_n h rfl 1 rfl dX12_sheet_69 ?_
              refine fr_iconst h dX12_sheet_70 ?_
              refine fr_icmp_ne (tgt := 80) h dX12_sheet_71 (by decide) (by omega) (by omega) (fun c90 => ?_) (fun c90 => by exfalso; omega)
              refine fr_iload h 5 rfl dX12_sheet_80 ?_
              refine fr_istore (L' := [(0, vr G 0), (1, vi k), (2, vi n), (3, vi u), (4, vi v), (5, vi l5_24), (6, vi l6_24), (7, vi z17), (8, vi l8_24), (9, vi l5_24)]) h dX12_sheet_82 (by decide) [1, 2, 3, 4, 5, 6, 7, 8, 9, 0] rfl ?_
              refine fr_iload_n h rfl 1 rfl dX12_sheet_84 ?_
              refine fr_iconst h dX12_sheet_85 ?_
              refine fr_icmp_eq (tgt := 95) h dX12_sheet_86 (by decide) (by omega) (by omega) (fun c91 => ?_) (fun c91 => ?_)
              ·
                refine fr_iconst h dX12_sheet_95 ?_
                refine fr_goto (tgt := 110) h dX12_sheet_96 (by decide) ?_
                refine fr_istore (L' := [(0, vr G 0), (1, vi k), (2, vi n), (3, vi u), (4, vi v), (5, vi l5_24), (6, vi l6_24), (7, vi z17), (8, vi l8_24), (9, vi l5_24), (10, vi 1)]) h dX12_sheet_110 (by decide) [1, 2, 3, 4, 5, 6, 7, 8, 9, 10, 0] rfl ?_
                exact HL53 l5_24 1 (by omega) (by omega) (by omega) (by omega)
              ·
                refine fr_iload h 8 rfl dX12_sheet_89 ?_
                refine fr_iload_n h rfl 2 rfl dX12_sheet_91 ?_
                refine fr_icmp_lt (tgt := 99) h dX12_sheet_92 (by decide) (by omega) (by omega) (fun c92 => ?_) (fun c92 => ?_)
                ·
                  refine fr_iconst h dX12_sheet_99 ?_
                  refine fr_bipush h rfl dX12_sheet_100 ?_
                  refine fr_iload h 9 rfl dX12_sheet_102 ?_
                  refine fr_mmin h (by omega) (by omega) (tb_6 (i := 215) (by decide +kernel) (by decide +kernel)) w_mmin (by decide) (by decide) (Nat.le_of_ble_eq_true rfl) dX12_sheet_104 (fun z93 w94 w95 w96 => ?_)
                  refine fr_mmax h (by omega) (by omega) (tb_6 (i := 216) (by decide +kernel) (by decide +kernel)) w_mmax (by decide) (by decide) (Nat.le_of_ble_eq_true rfl) dX12_sheet_107 (fun z97 w98 w99 w100 => ?_)
                  refine fr_istore (L' := [(0, vr G 0), (1, vi k), (2, vi n), (3, vi u), (4, vi v), (5, vi l5_24), (6, vi l6_24), (7, vi z17), (8, vi l8_24), (9, vi l5_24), (10, vi z97)]) h dX12_sheet_110 (by decide) [1, 2, 3, 4, 5, 6, 7, 8, 9, 10, 0] rfl ?_
                  exact HL53 l5_24 z97 (by omega) (by omega) (by omega) (by omega)
                ·
                  refine fr_iconst h dX12_sheet_95 ?_
                  refine fr_goto (tgt := 110) h dX12_sheet_96 (by decide) ?_
                  refine fr_istore (L' := [(0, vr G 0), (1, vi k), (2, vi n), (3, vi u), (4, vi v), (5, vi l5_24), (6, vi l6_24), (7, vi z17), (8, vi l8_24), (9, vi l5_24), (10, vi 1)]) h dX12_sheet_110 (by decide) [1, 2, 3, 4, 5, 6, 7, 8, 9, 10, 0] rfl ?_
                  exact HL53 l5_24 1 (by omega) (by omega) (by omega) (by omega)
        exact HL24 ((z17 - 0) + 1 : Int).toNat u 0 0 x1 (by omega) (by omega) (by omega) (by omega) (by omega) (by rw [show x1 1 = x 1 from (fm_up_row m2 (by omega))]; exact e0.1) (by omega) (by omega) (fun a _ => rfl) (by omega)
      ·
        refine fr_iload_n h rfl 2 rfl dX12_sheet_27 ?_
        refine fr_if_ge (tgt := 34) h dX12_sheet_28 (by decide) (by omega) (fun c101 => ?_) (fun c101 => ?_)
        ·
          refine fr_iload_n h rfl 3 rfl dX12_sheet_34 ?_
          refine fr_istore (L' := [(0, vr G 0), (1, vi k), (2, vi n), (3, vi u), (4, vi v), (5, vi u)]) h dX12_sheet_35 (by decide) [1, 2, 3, 4, 5, 0] rfl ?_
          refine fr_iconst h dX12_sheet_37 ?_
          refine fr_istore (L' := [(0, vr G 0), (1, vi k), (2, vi n), (3, vi u), (4, vi v), (5, vi u), (6, vi 0)]) h dX12_sheet_38 (by decide) [1, 2, 3, 4, 5, 6, 0] rfl ?_
          refine fr_aload_n h rfl 0 rfl dX12_sheet_40 ?_
          refine fr_getc (z := 1) (iz := 0) h kX12 fX12_9 at_0M rfl rfl rfM_0 (by omega) dX12_sheet_41 ?_
          refine fr_csI h wX12_edgesOf lX12_216 (c_X12_edgesOf x1 1 SA_1) rfl (by decide) (by decide) rfl (Nat.le_of_ble_eq_true rfl) dX12_sheet_44 (fun z103 x102 w104 p105 => ?_)
          obtain ⟨p106, p107, p108, y109⟩ := p105
          rw [y109]
          clear y109
          refine fr_istore (L' := [(0, vr G 0), (1, vi k), (2, vi n), (3, vi u), (4, vi v), (5, vi u), (6, vi 0), (7, vi z103)]) h dX12_sheet_47 (by decide) [1, 2, 3, 4, 5, 6, 7, 0] rfl ?_
          refine fr_iconst h dX12_sheet_49 ?_
          refine fr_istore (L' := [(0, vr G 0), (1, vi k), (2, vi n), (3, vi u), (4, vi v), (5, vi u), (6, vi 0), (7, vi z103), (8, vi 0)]) h dX12_sheet_50 (by decide) [1, 2, 3, 4, 5, 6, 7, 8, 0] rfl ?_
          have HL110 : ∀ (n110 : Nat) (l5_110 l6_110 l8_110 : Int) (x_110 : Mm), fm_r l5_110 → fm_r l6_110 → fm_r l8_110 → 0 ≤ l8_110 → l8_110 ≤ 49 → MI (x_110 1) → ec (x_110 1) 49 = z103 → l8_110 ≤ z103 → (∀ a : Int, (a < 1 ∨ 1 < a) → x_110 a = x1 a) → (z103 - l8_110) < n110 → FW YM G C 12 x_110 52 [(0, vr G 0), (1, vi k), (2, vi n), (3, vi u), (4, vi v), (5, vi l5_110), (6, vi l6_110), (7, vi z103), (8, vi l8_110)] [] := by
            intro n110
            induction n110 with
            | zero =>
              intro l5_110 l6_110 l8_110 x_110 g110_0 g110_1 g110_2 g110_3 g110_4 g110_5 g110_6 g110_7 g110_8 g110_9
              exfalso; omega
            | succ n110 ih110 =>
              intro l5_110 l6_110 l8_110 x_110 g110_0 g110_1 g110_2 g110_3 g110_4 g110_5 g110_6 g110_7 g110_8 g110_9
              refine fr_iload h 8 rfl dX12_sheet_52 ?_
              refine fr_iload h 7 rfl dX12_sheet_54 ?_
              refine fr_icmp_ge (tgt := 162) h dX12_sheet_56 (by decide) (by omega) (by omega) (fun c111 => ?_) (fun c111 => ?_)
              ·
                refine fr_aload_n h rfl 0 rfl dX12_sheet_162 ?_
                refine fr_dup h rfl dX12_sheet_163 ?_
                refine fr_geti (iz := 21) h kX12 fX12_201 at_0M rfl rfl (by decide) (by decide) rfM_21 dX12_sheet_164 (fun z112 w113 w114 q115 => ?_)
                have r116 := q115.trans (congrFun (g110_8 0 (by omega)) 21)
                have r117 := r116.trans (fm_rd_i (a := 0) (b := 21) m2 (by decide))
                refine fr_iconst h dX12_sheet_167 ?_
                refine fr_iadd h dX12_sheet_168 ?_
                refine fr_normi (fun z118 w119 q120 => ?_)
                have w121 : fm_r ((z112 + 1)) → z118 = (z112 + 1) := fun q => (iI_inj q w119 q120).symm
                refine fr_puti (iz := 21) h kX12 fX12_201 at_0M rfl rfl (by decide) (by decide) rfl (by decide +kernel) rfM_21 (by omega) (by omega) dX12_sheet_169 ?_
                refine fr_mem (fun x122 m123 => ?_)
                refine fr_iload_n h rfl 1 rfl dX12_sheet_172 ?_
                refine fr_iconst h dX12_sheet_173 ?_
                refine fr_icmp_ne (tgt := 182) h dX12_sheet_174 (by decide) (by omega) (by omega) (fun c124 => ?_) (fun c124 => by exfalso; omega)
                refine fr_iload h 6 rfl dX12_sheet_182 ?_
                have r125 := (fm_rd_i (a := 0) (b := 5) m123 (by decide))
                have r126 := r125.trans (congrFun (g110_8 0 (by omega)) 5)
                have r127 := r126.trans (fm_rd_s m2)
                have r128 := (fm_rd_s m123)
                have r129 := (fm_rd_i (a := 0) (b := 12) m123 (by decide))
                have r130 := r129.trans (congrFun (g110_8 0 (by omega)) 12)
                have r131 := r130.trans (fm_rd_i (a := 0) (b := 12) m2 (by decide))
                exact fr_iret h hq (by omega) ⟨(by omega), (Or.inr (by omega)), ⟨(by rw [show x122 1 = x_110 1 from (fm_up_row m123 (by omega))]; exact g110_5), (by rw [show x122 8 = x 8 from ((fm_up_row m123 (by omega)).trans ((g110_8 8 (by omega)).trans (fm_up_row m2 (by omega))))]; exact e0.2.1), (by rw [show x122 26 = x 26 from ((fm_up_row m123 (by omega)).trans ((g110_8 26 (by omega)).trans (fm_up_row m2 (by omega))))]; exact e0.2.2.1), (by have := e0.2.2.2; omega)⟩, (fun a k0 k1 => ((fm_up_row m123 (by omega)).trans ((g110_8 a (by omega)).trans (fm_up_row m2 (by omega))))), (fun i k0 k1 => ((fm_rd_i (a := 0) (b := i) m123 (by omega)).trans ((congrFun (g110_8 0 (by omega)) i).trans (fm_rd_i (a := 0) (b := i) m2 (by omega)))))⟩ dX12_sheet_184
              ·
                have HL132 : ∀ (l9_132 l10_132 : Int), fm_r l9_132 → fm_r l10_132 → 1 ≤ l10_132 → l10_132 ≤ 99 → FW YM G C 12 x_110 112 [(0, vr G 0), (1, vi k), (2, vi n), (3, vi u), (4, vi v), (5, vi l5_110), (6, vi l6_110), (7, vi z103), (8, vi l8_110), (9, vi l9_132), (10, vi l10_132)] [] := by
                  intro l9_132 l10_132 g132_0 g132_1 g132_2 g132_3
                  refine fr_aload_n h rfl 0 rfl dX12_sheet_112 ?_
                  refine fr_getc (z := 1) (iz := 0) h kX12 fX12_9 at_0M rfl rfl rfM_0 (by omega) dX12_sheet_113 ?_
                  refine fr_iload h 8 rfl dX12_sheet_116 ?_
                  refine fr_csI h wX12_edgeAt lX12_220 (c_X12_edgeAt x_110 1 SA_1 l8_110 (by omega) (by omega)) rfl (by decide) (by decide) rfl (Nat.le_of_ble_eq_true rfl) dX12_sheet_118 (fun z134 x133 w135 p136 => ?_)
                  obtain ⟨p137, p138, p139, p140, y141⟩ := p136
                  rw [y141]
                  clear y141
                  refine fr_istore (L' := [(0, vr G 0), (1, vi k), (2, vi n), (3, vi u), (4, vi v), (5, vi l5_110), (6, vi l6_110), (7, vi z103), (8, vi l8_110), (9, vi l9_132), (10, vi l10_132), (11, vi z134)]) h dX12_sheet_121 (by decide) [1, 2, 3, 4, 5, 6, 7, 8, 9, 10, 11, 0] rfl ?_
                  refine fr_aload_n h rfl 0 rfl dX12_sheet_123 ?_
                  refine fr_getc (z := 1) (iz := 0) h kX12 fX12_9 at_0M rfl rfl rfM_0 (by omega) dX12_sheet_124 ?_
                  refine fr_iload h 11 rfl dX12_sheet_127 ?_
                  refine fr_bipush h rfl dX12_sheet_129 ?_
                  refine fr_idiv h (by omega) (by omega) (by omega) dX12_sheet_131 (fun z142 w143 q144 w145 => ?_)
                  have w146 := w145
                  refine fr_iload h 11 rfl dX12_sheet_132 ?_
                  refine fr_bipush h rfl dX12_sheet_134 ?_
                  refine fr_irem h (by omega) (by omega) (by omega) dX12_sheet_136 (fun z147 w148 q149 w150 => ?_)
                  have w151 := w150
                  refine fr_iload h 10 rfl dX12_sheet_137 ?_
                  have hpos : 0 < x_110 1 (28 + 7 * z142 + z147) := by rw [show z142 = z134 / 7 by omega, show z147 = z134 % 7 by omega]; omega
                  refine fr_csV h wX12_weigh lX12_224 (c_X12_weigh x_110 1 SA_1 z142 z147 l10_132 (by omega) (by omega) (by omega) (by omega) (by omega) (by omega) (by omega) (by omega) (by omega)) rfl (by decide) (by decide) rfl (Nat.le_of_ble_eq_true rfl) dX12_sheet_139 (fun x152 p155 => ?_)
                  obtain ⟨p156, p157, p158, f159⟩ := p155
                  refine fr_iload h 6 rfl dX12_sheet_142 ?_
                  refine fr_iload h 10 rfl dX12_sheet_144 ?_
                  refine fr_iadd h dX12_sheet_146 ?_
                  refine fr_normi (fun z160 w161 q162 => ?_)
                  have w163 : fm_r ((l6_110 + l10_132)) → z160 = (l6_110 + l10_132) := fun q => (iI_inj q w161 q162).symm
                  refine fr_istore (L' := [(0, vr G 0), (1, vi k), (2, vi n), (3, vi u), (4, vi v), (5, vi l5_110), (6, vi z160), (7, vi z103), (8, vi l8_110), (9, vi l9_132), (10, vi l10_132), (11, vi z134)]) h dX12_sheet_147 (by decide) [1, 2, 3, 4, 5, 6, 0, 7, 8, 9, 10, 11] rfl ?_
                  refine fr_iload h 5 rfl dX12_sheet_149 ?_
                  refine fr_iload h 4 rfl dX12_sheet_151 ?_
                  refine fr_iadd h dX12_sheet_153 ?_
                  refine fr_normi (fun z164 w165 q166 => ?_)
                  have w167 : fm_r ((l5_110 + v)) → z164 = (l5_110 + v) := fun q => (iI_inj q w165 q166).symm
                  refine fr_istore (L' := [(0, vr G 0), (1, vi k), (2, vi n), (3, vi u), (4, vi v), (5, vi z164), (6, vi z160), (7, vi z103), (8, vi l8_110), (9, vi l9_132), (10, vi l10_132), (11, vi z134)]) h dX12_sheet_154 (by decide) [1, 2, 3, 4, 5, 0, 6, 7, 8, 9, 10, 11] rfl ?_
                  refine fr_iinc (j := 8) (L' := [(0, vr G 0), (1, vi k), (2, vi n), (3, vi u), (4, vi v), (5, vi z164), (6, vi z160), (7, vi z103), (8, vi (l8_110 + 1)), (9, vi l9_132), (10, vi l10_132), (11, vi z134)]) h dX12_sheet_156 rfl (by decide) [1, 2, 3, 4, 5, 6, 7, 8, 0, 9, 10, 11] rfl ?_
                  refine fr_goto (tgt := 52) h dX12_sheet_159 (by decide) ?_
                  refine fr_sub (L' := [(0, vr G 0), (1, vi k), (2, vi n), (3, vi u), (4, vi v), (5, vi z164), (6, vi z160), (7, vi z103), (8, vi (l8_110 + 1))]) [0, 1, 2, 3, 4, 5, 6, 7, 8] rfl ?_
                  exact ih110 z164 z160 (l8_110 + 1) x152 (by omega) (by omega) (by omega) (by omega) (by omega) (MI_weigh (a := z142) (b := z147) (w := l10_132) g110_5 (by omega) (by omega) (by omega) (by omega) (by omega) (by omega) p156 p157 p158) ((EC_weigh (a := z142) (b := z147) (w := l10_132) g110_5 (by omega) (by omega) (by omega) (by omega) (by omega) (by omega) (by omega) p156 p157 p158).trans g110_6) (by omega) (fun a k0 => ((f159 a (by omega)).trans (g110_8 a (by omega)))) (by omega)
                refine fr_iload_n h rfl 1 rfl dX12_sheet_59 ?_
                refine fr_if_ne (tgt := 69) h dX12_sheet_60 (by decide) (by omega) (fun c168 => ?_) (fun c168 => ?_)
                ·
                  refine fr_iload_n h rfl 1 rfl dX12_sheet_69 ?_
                  refine fr_iconst h dX12_sheet_70 ?_
                  refine fr_icmp_ne (tgt := 80) h dX12_sheet_71 (by decide) (by omega) (by omega) (fun c169 => ?_) (fun c169 => ?_)
                  ·
                    refine fr_iload h 5 rfl dX12_sheet_80 ?_
                    refine fr_istore (L' := [(0, vr G 0), (1, vi k), (2, vi n), (3, vi u), (4, vi v), (5, vi l5_110), (6, vi l6_110), (7, vi z103), (8, vi l8_110), (9, vi l5_110)]) h dX12_sheet_82 (by decide) [1, 2, 3, 4, 5, 6, 7, 8, 9, 0] rfl ?_
                    refine fr_iload_n h rfl 1 rfl dX12_sheet_84 ?_
                    refine fr_iconst h dX12_sheet_85 ?_
                    refine fr_icmp_eq (tgt := 95) h dX12_sheet_86 (by decide) (by omega) (by omega) (fun c170 => by exfalso; omega) (fun c170 => ?_)
                    refine fr_iload h 8 rfl dX12_sheet_89 ?_
                    refine fr_iload_n h rfl 2 rfl dX12_sheet_91 ?_
                    refine fr_icmp_lt (tgt := 99) h dX12_sheet_92 (by decide) (by omega) (by omega) (fun c171 => ?_) (fun c171 => ?_)
                    ·
                      refine fr_iconst h dX12_sheet_99 ?_
                      refine fr_bipush h rfl dX12_sheet_100 ?_
                      refine fr_iload h 9 rfl dX12_sheet_102 ?_
                      refine fr_mmin h (by omega) (by omega) (tb_6 (i := 215) (by decide +kernel) (by decide +kernel)) w_mmin (by decide) (by decide) (Nat.le_of_ble_eq_true rfl) dX12_sheet_104 (fun z172 w173 w174 w175 => ?_)
                      refine fr_mmax h (by omega) (by omega) (tb_6 (i := 216) (by decide +kernel) (by decide +kernel)) w_mmax (by decide) (by decide) (Nat.le_of_ble_eq_true rfl) dX12_sheet_107 (fun z176 w177 w178 w179 => ?_)
                      refine fr_istore (L' := [(0, vr G 0), (1, vi k), (2, vi n), (3, vi u), (4, vi v), (5, vi l5_110), (6, vi l6_110), (7, vi z103), (8, vi l8_110), (9, vi l5_110), (10, vi z176)]) h dX12_sheet_110 (by decide) [1, 2, 3, 4, 5, 6, 7, 8, 9, 10, 0] rfl ?_
                      exact HL132 l5_110 z176 (by omega) (by omega) (by omega) (by omega)
                    ·
                      refine fr_iconst h dX12_sheet_95 ?_
                      refine fr_goto (tgt := 110) h dX12_sheet_96 (by decide) ?_
                      refine fr_istore (L' := [(0, vr G 0), (1, vi k), (2, vi n), (3, vi u), (4, vi v), (5, vi l5_110), (6, vi l6_110), (7, vi z103), (8, vi l8_110), (9, vi l5_110), (10, vi 1)]) h dX12_sheet_110 (by decide) [1, 2, 3, 4, 5, 6, 7, 8, 9, 10, 0] rfl ?_
                      exact HL132 l5_110 1 (by omega) (by omega) (by omega) (by omega)
                  ·
                    refine fr_iload h 5 rfl dX12_sheet_74 ?_
                    refine fr_i2s h dX12_sheet_76 (fun z180 w181 q182 w183 => ?_)
                    refine fr_goto (tgt := 82) h dX12_sheet_77 (by decide) ?_
                    refine fr_istore (L' := [(0, vr G 0), (1, vi k), (2, vi n), (3, vi u), (4, vi v), (5, vi l5_110), (6, vi l6_110), (7, vi z103), (8, vi l8_110), (9, vi z180)]) h dX12_sheet_82 (by decide) [1, 2, 3, 4, 5, 6, 7, 8, 9, 0] rfl ?_
                    refine fr_iload_n h rfl 1 rfl dX12_sheet_84 ?_
                    refine fr_iconst h dX12_sheet_85 ?_
                    refine fr_icmp_eq (tgt := 95) h dX12_sheet_86 (by decide) (by omega) (by omega) (fun c184 => by exfalso; omega) (fun c184 => ?_)
                    refine fr_iload h 8 rfl dX12_sheet_89 ?_
                    refine fr_iload_n h rfl 2 rfl dX12_sheet_91 ?_
                    refine fr_icmp_lt (tgt := 99) h dX12_sheet_92 (by decide) (by omega) (by omega) (fun c185 => ?_) (fun c185 => ?_)
                    ·
                      refine fr_iconst h dX12_sheet_99 ?_
                      refine fr_bipush h rfl dX12_sheet_100 ?_
                      refine fr_iload h 9 rfl dX12_sheet_102 ?_
                      refine fr_mmin h (by omega) (by omega) (tb_6 (i := 215) (by decide +kernel) (by decide +kernel)) w_mmin (by decide) (by decide) (Nat.le_of_ble_eq_true rfl) dX12_sheet_104 (fun z186 w187 w188 w189 => ?_)
                      refine fr_mmax h (by omega) (by omega) (tb_6 (i := 216) (by decide +kernel) (by decide +kernel)) w_mmax (by decide) (by decide) (Nat.le_of_ble_eq_true rfl) dX12_sheet_107 (fun z190 w191 w192 w193 => ?_)
                      refine fr_istore (L' := [(0, vr G 0), (1, vi k), (2, vi n), (3, vi u), (4, vi v), (5, vi l5_110), (6, vi l6_110), (7, vi z103), (8, vi l8_110), (9, vi z180), (10, vi z190)]) h dX12_sheet_110 (by decide) [1, 2, 3, 4, 5, 6, 7, 8, 9, 10, 0] rfl ?_
                      exact HL132 z180 z190 (by omega) (by omega) (by omega) (by omega)
                    ·
                      refine fr_iconst h dX12_sheet_95 ?_
                      refine fr_goto (tgt := 110) h dX12_sheet_96 (by decide) ?_
                      refine fr_istore (L' := [(0, vr G 0), (1, vi k), (2, vi n), (3, vi u), (4, vi v), (5, vi l5_110), (6, vi l6_110), (7, vi z103), (8, vi l8_110), (9, vi z180), (10, vi 1)]) h dX12_sheet_110 (by decide) [1, 2, 3, 4, 5, 6, 7, 8, 9, 10, 0] rfl ?_
                      exact HL132 z180 1 (by omega) (by omega) (by omega) (by omega)
                ·
                  refine fr_iload h 5 rfl dX12_sheet_63 ?_
                  refine fr_i2b h dX12_sheet_65 (fun z194 w195 q196 w197 => ?_)
                  refine fr_goto (tgt := 82) h dX12_sheet_66 (by decide) ?_
                  refine fr_istore (L' := [(0, vr G 0), (1, vi k), (2, vi n), (3, vi u), (4, vi v), (5, vi l5_110), (6, vi l6_110), (7, vi z103), (8, vi l8_110), (9, vi z194)]) h dX12_sheet_82 (by decide) [1, 2, 3, 4, 5, 6, 7, 8, 9, 0] rfl ?_
                  refine fr_iload_n h rfl 1 rfl dX12_sheet_84 ?_
                  refine fr_iconst h dX12_sheet_85 ?_
                  refine fr_icmp_eq (tgt := 95) h dX12_sheet_86 (by decide) (by omega) (by omega) (fun c198 => by exfalso; omega) (fun c198 => ?_)
                  refine fr_iload h 8 rfl dX12_sheet_89 ?_
                  refine fr_iload_n h rfl 2 rfl dX12_sheet_91 ?_
                  refine fr_icmp_lt (tgt := 99) h dX12_sheet_92 (by decide) (by omega) (by omega) (fun c199 => ?_) (fun c199 => ?_)
                  ·
                    refine fr_iconst h dX12_sheet_99 ?_
                    refine fr_bipush h rfl dX12_sheet_100 ?_
                    refine fr_iload h 9 rfl dX12_sheet_102 ?_
                    refine fr_mmin h (by omega) (by omega) (tb_6 (i := 215) (by decide +kernel) (by decide +kernel)) w_mmin (by decide) (by decide) (Nat.le_of_ble_eq_true rfl) dX12_sheet_104 (fun z200 w201 w202 w203 => ?_)
                    refine fr_mmax h (by omega) (by omega) (tb_6 (i := 216) (by decide +kernel) (by decide +kernel)) w_mmax (by decide) (by decide) (Nat.le_of_ble_eq_true rfl) dX12_sheet_107 (fun z204 w205 w206 w207 => ?_)
                    refine fr_istore (L' := [(0, vr G 0), (1, vi k), (2, vi n), (3, vi u), (4, vi v), (5, vi l5_110), (6, vi l6_110), (7, vi z103), (8, vi l8_110), (9, vi z194), (10, vi z204)]) h dX12_sheet_110 (by decide) [1, 2, 3, 4, 5, 6, 7, 8, 9, 10, 0] rfl ?_
                    exact HL132 z194 z204 (by omega) (by omega) (by omega) (by omega)
                  ·
                    refine fr_iconst h dX12_sheet_95 ?_
                    refine fr_goto (tgt := 110) h dX12_sheet_96 (by decide) ?_
                    refine fr_istore (L' := [(0, vr G 0), (1, vi k), (2, vi n), (3, vi u), (4, vi v), (5, vi l5_110), (6, vi l6_110), (7, vi z103), (8, vi l8_110), (9, vi z194), (10, vi 1)]) h dX12_sheet_110 (by decide) [1, 2, 3, 4, 5, 6, 7, 8, 9, 10, 0] rfl ?_
                    exact HL132 z194 1 (by omega) (by omega) (by omega) (by omega)
          exact HL110 ((z103 - 0) + 1 : Int).toNat u 0 0 x1 (by omega) (by omega) (by omega) (by omega) (by omega) (by rw [show x1 1 = x 1 from (fm_up_row m2 (by omega))]; exact e0.1) (by omega) (by omega) (fun a _ => rfl) (by omega)
        ·
          refine fr_bipush h rfl dX12_sheet_31 ?_
          have r208 := (fm_rd_s m2)
          have r209 := (fm_rd_i (a := 0) (b := 21) m2 (by decide))
          have r210 := (fm_rd_i (a := 0) (b := 12) m2 (by decide))
          exact fr_iret h hq (by omega) ⟨(by omega), (Or.inl ⟨(by omega), (fm_up_row m2 (by omega))⟩), ⟨(by rw [show x1 1 = x 1 from (fm_up_row m2 (by omega))]; exact e0.1), (by rw [show x1 8 = x 8 from (fm_up_row m2 (by omega))]; exact e0.2.1), (by rw [show x1 26 = x 26 from (fm_up_row m2 (by omega))]; exact e0.2.2.1), (by have := e0.2.2.2; omega)⟩, (fun a k0 k1 => (fm_up_row m2 (by omega))), (fun i k0 k1 => (fm_rd_i (a := 0) (b := i) m2 (by omega)))⟩ dX12_sheet_33
    ·
      refine fr_iconst h dX12_sheet_20 ?_
      have r211 := (fm_rd_s m2)
      have r212 := (fm_rd_i (a := 0) (b := 21) m2 (by decide))
      have r213 := (fm_rd_i (a := 0) (b := 12) m2 (by decide))
      exact fr_iret h hq (by omega) ⟨(by omega), (Or.inl ⟨(by omega), (fm_up_row m2 (by omega))⟩), ⟨(by rw [show x1 1 = x 1 from (fm_up_row m2 (by omega))]; exact e0.1), (by rw [show x1 8 = x 8 from (fm_up_row m2 (by omega))]; exact e0.2.1), (by rw [show x1 26 = x 26 from (fm_up_row m2 (by omega))]; exact e0.2.2.1), (by have := e0.2.2.2; omega)⟩, (fun a k0 k1 => (fm_up_row m2 (by omega))), (fun i k0 k1 => (fm_rd_i (a := 0) (b := i) m2 (by omega)))⟩ dX12_sheet_21
