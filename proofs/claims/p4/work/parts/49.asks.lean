set_option maxHeartbeats 200000 in
theorem c_X12_highOf (x : Mm) (p : Int) (h_p : fm_r p) : CnI YM yX12_highOf cX12_highOf 1 .int 0 0 (fun G => [vi p]) x (fun z y' => (8 ≤ z) ∧ (z ≤ 30) ∧ (p = 0 → z = 30) ∧ (p = 3 → z = 8) ∧ (p ≠ 0 → p ≠ 3 → z = 11) ∧ (y' = x)) := by
  refine cn_I (by decide) (fun _ => Nat.le_of_ble_eq_true rfl) (fun G C h hq => ?_)
  have h : OK YM G C cX12_highOf RX12 1 (some .int) 0 0 := h
  show FW YM G C 1 x 0 [(0, vi p)] []
  refine fr_iload_n h rfl 0 rfl dX12_highOf_0 ?_
  refine fr_if_ne (tgt := 9) h dX12_highOf_1 (by decide) (by omega) (fun c1 => ?_) (fun c1 => ?_)
  ·
    refine fr_iload_n h rfl 0 rfl dX12_highOf_9 ?_
    refine fr_iconst h dX12_highOf_10 ?_
    refine fr_icmp_ne (tgt := 19) h dX12_highOf_11 (by decide) (by omega) (by omega) (fun c2 => ?_) (fun c2 => ?_)
    ·
      refine fr_bipush h rfl dX12_highOf_19 ?_
      exact fr_iret h hq (by omega) ⟨(by omega), (by omega), (by omega), (by omega), (by omega), rfl⟩ dX12_highOf_21
    ·
      refine fr_bipush h rfl dX12_highOf_14 ?_
      refine fr_goto (tgt := 21) h dX12_highOf_16 (by decide) ?_
      exact fr_iret h hq (by omega) ⟨(by omega), (by omega), (by omega), (by omega), (by omega), rfl⟩ dX12_highOf_21
  ·
    refine fr_bipush h rfl dX12_highOf_4 ?_
    refine fr_goto (tgt := 21) h dX12_highOf_6 (by decide) ?_
    exact fr_iret h hq (by omega) ⟨(by omega), (by omega), (by omega), (by omega), (by omega), rfl⟩ dX12_highOf_21
set_option maxHeartbeats 1000000 in
theorem c_X12_heard (x : Mm) (p : Int) (v : Int) (h_p : fm_r p) (h_v : fm_r v) (e0 : GI x) : CnI YM yX12_heard cX12_heard 3 .int 1 22 (fun G => [vr G 0, vi p, vi v]) x (fun z y' => (y' 0 5 = 0) ∧ ((z = (-1) ∧ y' 0 37 = x 0 37 ∧ ¬ (0 ≤ p ∧ p < 5 ∧ 0 ≤ v ∧ ((p = 0 ∧ v ≤ 30) ∨ (p = 3 ∧ v ≤ 8) ∨ (p ≠ 0 ∧ p ≠ 3 ∧ v ≤ 11)) ∧ x 0 37 < 10)) ∨ (z = x 0 37 + 1 ∧ y' 0 37 = x 0 37 + 1 ∧ (0 ≤ p ∧ p < 5 ∧ 0 ≤ v ∧ ((p = 0 ∧ v ≤ 30) ∨ (p = 3 ∧ v ≤ 8) ∨ (p ≠ 0 ∧ p ≠ 3 ∧ v ≤ 11)) ∧ x 0 37 < 10))) ∧ (GI y') ∧ (∀ a : Int, (a < 0 ∨ 0 < a) → (a < 23 ∨ 24 < a) → y' a = x a) ∧ (∀ i : Int, i ≠ 5 → i ≠ 37 → y' 0 i = x 0 i)) := by
  refine cn_I (by decide) (fun _ => Nat.le_of_ble_eq_true rfl) (fun G C h hq => ?_)
  have h : OK YM G C cX12_heard RX12 3 (some .int) 1 22 := h
  show FW YM G C 3 x 0 [(0, vr G 0), (1, vi p), (2, vi v)] []
  have e12 := e0.2.2.2
  refine fr_aload_n h rfl 0 rfl dX12_heard_0 ?_
  refine fr_iconst h dX12_heard_1 ?_
  refine fr_puti (iz := 5) h kX12 fX12_94 at_0M rfl rfl (by decide) (by decide) rfl (by decide +kernel) rfM_5 (by omega) (by omega) dX12_heard_2 ?_
  refine fr_mem (fun x1 m2 => ?_)
  refine fr_iload_n h rfl 1 rfl dX12_heard_5 ?_
  refine fr_iconst h dX12_heard_6 ?_
  refine fr_iconst h dX12_heard_7 ?_
  refine fr_csI h wX12_in lX12_101 (c_X12_in x1 p 0 4 (by omega) (by omega) (by omega)) rfl (by decide) (by decide) rfl (Nat.le_of_ble_eq_true rfl) dX12_heard_8 (fun z4 x3 w5 p6 => ?_)
  obtain ⟨p7, p8, y9⟩ := p6
  rw [y9]
  clear y9
  refine fr_if_eq (tgt := 35) h dX12_heard_11 (by decide) (by omega) (fun c10 => ?_) (fun c10 => ?_)
  ·
    refine fr_iconst h dX12_heard_35 ?_
    have r11 := (fm_rd_s m2)
    have r12 := (fm_rd_i (a := 0) (b := 37) m2 (by decide))
    have r13 := (fm_rd_i (a := 0) (b := 37) m2 (by decide))
    have r14 := (fm_rd_i (a := 0) (b := 12) m2 (by decide))
    exact fr_iret h hq (by omega) ⟨(by omega), (by omega), ⟨(by rw [show x1 1 = x 1 from (fm_up_row m2 (by omega))]; exact e0.1), (by rw [show x1 8 = x 8 from (fm_up_row m2 (by omega))]; exact e0.2.1), (by rw [show x1 26 = x 26 from (fm_up_row m2 (by omega))]; exact e0.2.2.1), (by have := e0.2.2.2; omega)⟩, (fun a k0 k1 => (fm_up_row m2 (by omega))), (fun i k0 k1 => (fm_rd_i (a := 0) (b := i) m2 (by omega)))⟩ dX12_heard_36
  ·
    refine fr_iload_n h rfl 2 rfl dX12_heard_14 ?_
    refine fr_iconst h dX12_heard_15 ?_
    refine fr_iload_n h rfl 1 rfl dX12_heard_16 ?_
    refine fr_csI h wX12_highOf lX12_345 (c_X12_highOf x1 p (by omega)) rfl (by decide) (by decide) rfl (Nat.le_of_ble_eq_true rfl) dX12_heard_17 (fun z16 x15 w17 p18 => ?_)
    obtain ⟨p19, p20, p21, p22, p23, y24⟩ := p18
    rw [y24]
    clear y24
    refine fr_csI h wX12_in lX12_101 (c_X12_in x1 v 0 z16 (by omega) (by omega) (by omega)) rfl (by decide) (by decide) rfl (Nat.le_of_ble_eq_true rfl) dX12_heard_20 (fun z26 x25 w27 p28 => ?_)
    obtain ⟨p29, p30, y31⟩ := p28
    rw [y31]
    clear y31
    refine fr_if_eq (tgt := 35) h dX12_heard_23 (by decide) (by omega) (fun c32 => ?_) (fun c32 => ?_)
    ·
      refine fr_iconst h dX12_heard_35 ?_
      have r33 := (fm_rd_s m2)
      have r34 := (fm_rd_i (a := 0) (b := 37) m2 (by decide))
      have r35 := (fm_rd_i (a := 0) (b := 37) m2 (by decide))
      have r36 := (fm_rd_i (a := 0) (b := 12) m2 (by decide))
      exact fr_iret h hq (by omega) ⟨(by omega), (by omega), ⟨(by rw [show x1 1 = x 1 from (fm_up_row m2 (by omega))]; exact e0.1), (by rw [show x1 8 = x 8 from (fm_up_row m2 (by omega))]; exact e0.2.1), (by rw [show x1 26 = x 26 from (fm_up_row m2 (by omega))]; exact e0.2.2.1), (by have := e0.2.2.2; omega)⟩, (fun a k0 k1 => (fm_up_row m2 (by omega))), (fun i k0 k1 => (fm_rd_i (a := 0) (b := i) m2 (by omega)))⟩ dX12_heard_36
    ·
      refine fr_aload_n h rfl 0 rfl dX12_heard_26 ?_
      refine fr_geti (iz := 37) h kX12 fX12_348 at_0M rfl rfl (by decide) (by decide) rfM_37 dX12_heard_27 (fun z37 w38 w39 q40 => ?_)
      have r41 := q40.trans (fm_rd_i (a := 0) (b := 37) m2 (by decide))
      refine fr_bipush h rfl dX12_heard_30 ?_
      refine fr_icmp_ne (tgt := 37) h dX12_heard_32 (by decide) (by omega) (by omega) (fun c42 => ?_) (fun c42 => ?_)
      ·
        refine fr_aload_n h rfl 0 rfl dX12_heard_37 ?_
        refine fr_getc (z := 23) (iz := 35) h kX12 fX12_78 at_0M rfl rfl rfM_35 (by omega) dX12_heard_38 ?_
        refine fr_aload_n h rfl 0 rfl dX12_heard_41 ?_
        refine fr_geti (iz := 37) h kX12 fX12_348 at_0M rfl rfl (by decide) (by decide) rfM_37 dX12_heard_42 (fun z43 w44 w45 q46 => ?_)
        have r47 := q46.trans (fm_rd_i (a := 0) (b := 37) m2 (by decide))
        refine fr_iload_n h rfl 1 rfl dX12_heard_45 ?_
        refine fr_iast h arM_23 (by omega) (by omega) (rrM_23 z43) (by omega) (by omega) dX12_heard_46 ?_
        refine fr_mem (fun x48 m49 => ?_)
        refine fr_aload_n h rfl 0 rfl dX12_heard_47 ?_
        refine fr_getc (z := 24) (iz := 36) h kX12 fX12_81 at_0M rfl rfl rfM_36 (by omega) dX12_heard_48 ?_
        refine fr_aload_n h rfl 0 rfl dX12_heard_51 ?_
        refine fr_geti (iz := 37) h kX12 fX12_348 at_0M rfl rfl (by decide) (by decide) rfM_37 dX12_heard_52 (fun z50 w51 w52 q53 => ?_)
        have r54 := q53.trans (fm_rd_k (a := 0) (b := 37) m49 (by omega))
        have r55 := r54.trans (fm_rd_i (a := 0) (b := 37) m2 (by decide))
        refine fr_iload_n h rfl 2 rfl dX12_heard_55 ?_
        refine fr_iast h arM_24 (by omega) (by omega) (rrM_24 z50) (by omega) (by omega) dX12_heard_56 ?_
        refine fr_mem (fun x56 m57 => ?_)
        refine fr_aload_n h rfl 0 rfl dX12_heard_57 ?_
        refine fr_dup h rfl dX12_heard_58 ?_
        refine fr_geti (iz := 37) h kX12 fX12_348 at_0M rfl rfl (by decide) (by decide) rfM_37 dX12_heard_59 (fun z58 w59 w60 q61 => ?_)
        have r62 := q61.trans (fm_rd_k (a := 0) (b := 37) m57 (by omega))
        have r63 := r62.trans (fm_rd_k (a := 0) (b := 37) m49 (by omega))
        have r64 := r63.trans (fm_rd_i (a := 0) (b := 37) m2 (by decide))
        refine fr_iconst h dX12_heard_62 ?_
        refine fr_iadd h dX12_heard_63 ?_
        refine fr_puti (iz := 37) h kX12 fX12_348 at_0M rfl rfl (by decide) (by decide) rfl (by decide +kernel) rfM_37 (by omega) (by omega) dX12_heard_64 ?_
        refine fr_mem (fun x65 m66 => ?_)
        refine fr_aload_n h rfl 0 rfl dX12_heard_67 ?_
        refine fr_geti (iz := 37) h kX12 fX12_348 at_0M rfl rfl (by decide) (by decide) rfM_37 dX12_heard_68 (fun z67 w68 w69 q70 => ?_)
        have r71 := q70.trans (fm_rd_s m66)
        have r72 := (fm_rd_i (a := 0) (b := 5) m66 (by decide))
        have r73 := r72.trans (fm_rd_k (a := 0) (b := 5) m57 (by omega))
        have r74 := r73.trans (fm_rd_k (a := 0) (b := 5) m49 (by omega))
        have r75 := r74.trans (fm_rd_s m2)
        have r76 := (fm_rd_s m66)
        have r77 := (fm_rd_s m66)
        have r78 := (fm_rd_i (a := 0) (b := 12) m66 (by decide))
        have r79 := r78.trans (fm_rd_k (a := 0) (b := 12) m57 (by omega))
        have r80 := r79.trans (fm_rd_k (a := 0) (b := 12) m49 (by omega))
        have r81 := r80.trans (fm_rd_i (a := 0) (b := 12) m2 (by decide))
        exact fr_iret h hq (by omega) ⟨(by omega), (by omega), ⟨(by rw [show x65 1 = x56 1 from (fm_up_row m66 (by omega))]; exact (by rw [show x56 1 = x48 1 from (fm_up_row m57 (by omega))]; exact (by rw [show x48 1 = x1 1 from (fm_up_row m49 (by omega))]; exact (by rw [show x1 1 = x 1 from (fm_up_row m2 (by omega))]; exact e0.1)))), (by rw [show x65 8 = x 8 from ((fm_up_row m66 (by omega)).trans ((fm_up_row m57 (by omega)).trans ((fm_up_row m49 (by omega)).trans (fm_up_row m2 (by omega)))))]; exact e0.2.1), (by rw [show x65 26 = x 26 from ((fm_up_row m66 (by omega)).trans ((fm_up_row m57 (by omega)).trans ((fm_up_row m49 (by omega)).trans (fm_up_row m2 (by omega)))))]; exact e0.2.2.1), (by have := e0.2.2.2; omega)⟩, (fun a k0 k1 => ((fm_up_row m66 (by omega)).trans ((fm_up_row m57 (by omega)).trans ((fm_up_row m49 (by omega)).trans (fm_up_row m2 (by omega)))))), (fun i k0 k1 => ((fm_rd_i (a := 0) (b := i) m66 (by omega)).trans ((fm_rd_k (a := 0) (b := i) m57 (by omega)).trans ((fm_rd_k (a := 0) (b := i) m49 (by omega)).trans (fm_rd_i (a := 0) (b := i) m2 (by omega))))))⟩ dX12_heard_71
      ·
        refine fr_iconst h dX12_heard_35 ?_
        have r82 := (fm_rd_s m2)
        have r83 := (fm_rd_i (a := 0) (b := 37) m2 (by decide))
        have r84 := (fm_rd_i (a := 0) (b := 37) m2 (by decide))
        have r85 := (fm_rd_i (a := 0) (b := 12) m2 (by decide))
        exact fr_iret h hq (by omega) ⟨(by omega), (by omega), ⟨(by rw [show x1 1 = x 1 from (fm_up_row m2 (by omega))]; exact e0.1), (by rw [show x1 8 = x 8 from (fm_up_row m2 (by omega))]; exact e0.2.1), (by rw [show x1 26 = x 26 from (fm_up_row m2 (by omega))]; exact e0.2.2.1), (by have := e0.2.2.2; omega)⟩, (fun a k0 k1 => (fm_up_row m2 (by omega))), (fun i k0 k1 => (fm_rd_i (a := 0) (b := i) m2 (by omega)))⟩ dX12_heard_36
set_option maxHeartbeats 200000 in
theorem c_X12_forget (x : Mm) (e0 : GI x) : CnI YM yX12_forget cX12_forget 2 .int 0 0 (fun G => [vr G 0]) x (fun z y' => (y' 0 5 = 0) ∧ (z = x 0 37) ∧ (y' 0 37 = 0) ∧ (GI y') ∧ (∀ a : Int, (a < 0 ∨ 0 < a) → y' a = x a) ∧ (∀ i : Int, i ≠ 5 → i ≠ 37 → y' 0 i = x 0 i)) := by
  refine cn_I (by decide) (fun _ => Nat.le_of_ble_eq_true rfl) (fun G C h hq => ?_)
  have h : OK YM G C cX12_forget RX12 2 (some .int) 0 0 := h
  show FW YM G C 2 x 0 [(0, vr G 0)] []
  have e12 := e0.2.2.2
  refine fr_aload_n h rfl 0 rfl dX12_forget_0 ?_
  refine fr_iconst h dX12_forget_1 ?_
  refine fr_puti (iz := 5) h kX12 fX12_94 at_0M rfl rfl (by decide) (by decide) rfl (by decide +kernel) rfM_5 (by omega) (by omega) dX12_forget_2 ?_
  refine fr_mem (fun x1 m2 => ?_)
  refine fr_aload_n h rfl 0 rfl dX12_forget_5 ?_
  refine fr_geti (iz := 37) h kX12 fX12_348 at_0M rfl rfl (by decide) (by decide) rfM_37 dX12_forget_6 (fun z3 w4 w5 q6 => ?_)
  have r7 := q6.trans (fm_rd_i (a := 0) (b := 37) m2 (by decide))
  refine fr_istore_n (L' := [(0, vr G 0), (1, vi z3)]) h rfl dX12_forget_9 (by decide) [1, 0] rfl ?_
  refine fr_aload_n h rfl 0 rfl dX12_forget_10 ?_
  refine fr_iconst h dX12_forget_11 ?_
  refine fr_puti (iz := 37) h kX12 fX12_348 at_0M rfl rfl (by decide) (by decide) rfl (by decide +kernel) rfM_37 (by omega) (by omega) dX12_forget_12 ?_
  refine fr_mem (fun x8 m9 => ?_)
  refine fr_iload_n h rfl 1 rfl dX12_forget_15 ?_
  have r10 := (fm_rd_i (a := 0) (b := 5) m9 (by decide))
  have r11 := r10.trans (fm_rd_s m2)
  have r12 := (fm_rd_s m9)
  have r13 := (fm_rd_i (a := 0) (b := 12) m9 (by decide))
  have r14 := r13.trans (fm_rd_i (a := 0) (b := 12) m2 (by decide))
  exact fr_iret h hq (by omega) ⟨(by omega), (by omega), (by omega), ⟨(by rw [show x8 1 = x1 1 from (fm_up_row m9 (by omega))]; exact (by rw [show x1 1 = x 1 from (fm_up_row m2 (by omega))]; exact e0.1)), (by rw [show x8 8 = x 8 from ((fm_up_row m9 (by omega)).trans (fm_up_row m2 (by omega)))]; exact e0.2.1), (by rw [show x8 26 = x 26 from ((fm_up_row m9 (by omega)).trans (fm_up_row m2 (by omega)))]; exact e0.2.2.1), (by have := e0.2.2.2; omega)⟩, (fun a k0 => ((fm_up_row m9 (by omega)).trans (fm_up_row m2 (by omega)))), (fun i k0 k1 => ((fm_rd_i (a := 0) (b := i) m9 (by omega)).trans (fm_rd_i (a := 0) (b := i) m2 (by omega))))⟩ dX12_forget_16
set_option maxHeartbeats 200000 in
theorem c_X12_isSo (x : Mm) (k : Int) (p : Int) (v : Int) (h_k : fm_r k) (h_p : fm_r p) (h_v : fm_r v) (e0 : 0 ≤ k) (e1 : k ≤ 1299) : CnI YM yX12_isSo cX12_isSo 6 .boolean 0 0 (fun G => [vr G 0, vi k, vi p, vi v]) x (fun z y' => (z = 0 ∨ z = 1) ∧ (y' = x)) := by
  refine cn_I (by decide) (fun _ => Nat.le_of_ble_eq_true rfl) (fun G C h hq => ?_)
  have h : OK YM G C cX12_isSo RX12 6 (some .boolean) 0 0 := h
  show FW YM G C 6 x 0 [(0, vr G 0), (1, vi k), (2, vi p), (3, vi v)] []
  refine fr_aload_n h rfl 0 rfl dX12_isSo_0 ?_
  refine fr_getc (z := 13) (iz := 24) h kX12 fX12_48 at_0M rfl rfl rfM_24 (by omega) dX12_isSo_1 ?_
  refine fr_iload_n h rfl 1 rfl dX12_isSo_4 ?_
  refine fr_iald h arM_13 (by omega) (by omega) (rrM_13 k) dX12_isSo_5 (fun z1 w2 w3 q4 => ?_)
  refine fr_istore (L' := [(0, vr G 0), (1, vi k), (2, vi p), (3, vi v), (4, vi z1)]) h dX12_isSo_6 (by decide) [1, 2, 3, 4, 0] rfl ?_
  refine fr_iload_n h rfl 2 rfl dX12_isSo_8 ?_
  by_cases c6 : p = 0
  ·
    refine fr_tab_in (off := 31) (tgt := 40) h dX12_isSo_9 (by omega) (by omega) (by omega) (by rw [c6]; rfl) (by decide) ?_
    refine fr_aload_n h rfl 0 rfl dX12_isSo_40 ?_
    refine fr_getc (z := 14) (iz := 25) h kX12 fX12_51 at_0M rfl rfl rfM_25 (by omega) dX12_isSo_41 ?_
    refine fr_iload_n h rfl 1 rfl dX12_isSo_44 ?_
    refine fr_iald h arM_14 (by omega) (by omega) (rrM_14 k) dX12_isSo_45 (fun z7 w8 w9 q10 => ?_)
    refine fr_bipush h rfl dX12_isSo_46 ?_
    refine fr_iload_n h rfl 3 rfl dX12_isSo_48 ?_
    refine fr_imul h dX12_isSo_49 ?_
    refine fr_normi (fun z11 w12 q13 => ?_)
    have w14 : fm_r ((10 * v)) → z11 = (10 * v) := fun q => (iI_inj q w12 q13).symm
    refine fr_icmp_lt (tgt := 57) h dX12_isSo_50 (by decide) (by omega) (by omega) (fun c15 => ?_) (fun c15 => ?_)
    ·
      refine fr_iconst h dX12_isSo_57 ?_
      exact fr_zret h rfl hq (by omega) ⟨(by omega), rfl⟩ dX12_isSo_58
    ·
      refine fr_iconst h dX12_isSo_53 ?_
      refine fr_goto (tgt := 58) h dX12_isSo_54 (by decide) ?_
      exact fr_zret h rfl hq (by omega) ⟨(by omega), rfl⟩ dX12_isSo_58
  ·
    by_cases c16 : p = 1
    ·
      refine fr_tab_in (off := 50) (tgt := 59) h dX12_isSo_9 (by omega) (by omega) (by omega) (by rw [c16]; rfl) (by decide) ?_
      refine fr_iload h 4 rfl dX12_isSo_59 ?_
      refine fr_if_le (tgt := 81) h dX12_isSo_61 (by decide) (by omega) (fun c17 => ?_) (fun c17 => ?_)
      ·
        refine fr_iconst h dX12_isSo_81 ?_
        exact fr_zret h rfl hq (by omega) ⟨(by omega), rfl⟩ dX12_isSo_82
      ·
        refine fr_aload_n h rfl 0 rfl dX12_isSo_64 ?_
        refine fr_getc (z := 12) (iz := 23) h kX12 fX12_45 at_0M rfl rfl rfM_23 (by omega) dX12_isSo_65 ?_
        refine fr_bipush h rfl dX12_isSo_68 ?_
        refine fr_iload_n h rfl 1 rfl dX12_isSo_70 ?_
        refine fr_imul h dX12_isSo_71 ?_
        refine fr_iald h arM_12 (by omega) (by omega) (rrM_12 (8 * k)) dX12_isSo_72 (fun z18 w19 w20 q21 => ?_)
        refine fr_iload_n h rfl 3 rfl dX12_isSo_73 ?_
        refine fr_icmp_ne (tgt := 81) h dX12_isSo_74 (by decide) (by omega) (by omega) (fun c22 => ?_) (fun c22 => ?_)
        ·
          refine fr_iconst h dX12_isSo_81 ?_
          exact fr_zret h rfl hq (by omega) ⟨(by omega), rfl⟩ dX12_isSo_82
        ·
          refine fr_iconst h dX12_isSo_77 ?_
          refine fr_goto (tgt := 82) h dX12_isSo_78 (by decide) ?_
          exact fr_zret h rfl hq (by omega) ⟨(by omega), rfl⟩ dX12_isSo_82
    ·
      by_cases c23 : p = 2
      ·
        refine fr_tab_in (off := 74) (tgt := 83) h dX12_isSo_9 (by omega) (by omega) (by omega) (by rw [c23]; rfl) (by decide) ?_
        refine fr_iload h 4 rfl dX12_isSo_83 ?_
        refine fr_if_le (tgt := 110) h dX12_isSo_85 (by decide) (by omega) (fun c24 => ?_) (fun c24 => ?_)
        ·
          refine fr_iconst h dX12_isSo_110 ?_
          exact fr_zret h rfl hq (by omega) ⟨(by omega), rfl⟩ dX12_isSo_111
        ·
          refine fr_aload_n h rfl 0 rfl dX12_isSo_88 ?_
          refine fr_getc (z := 12) (iz := 23) h kX12 fX12_45 at_0M rfl rfl rfM_23 (by omega) dX12_isSo_89 ?_
          refine fr_bipush h rfl dX12_isSo_92 ?_
          refine fr_iload_n h rfl 1 rfl dX12_isSo_94 ?_
          refine fr_imul h dX12_isSo_95 ?_
          refine fr_iload h 4 rfl dX12_isSo_96 ?_
          refine fr_iadd h dX12_isSo_98 ?_
          refine fr_iconst h dX12_isSo_99 ?_
          refine fr_isub h dX12_isSo_100 ?_
          refine fr_iald h arM_12 (by omega) (by omega) (rrM_12 (((8 * k) + z1) - 1)) dX12_isSo_101 (fun z25 w26 w27 q28 => ?_)
          refine fr_iload_n h rfl 3 rfl dX12_isSo_102 ?_
          refine fr_icmp_ne (tgt := 110) h dX12_isSo_103 (by decide) (by omega) (by omega) (fun c29 => ?_) (fun c29 => ?_)
          ·
            refine fr_iconst h dX12_isSo_110 ?_
            exact fr_zret h rfl hq (by omega) ⟨(by omega), rfl⟩ dX12_isSo_111
          ·
            refine fr_iconst h dX12_isSo_106 ?_
            refine fr_goto (tgt := 111) h dX12_isSo_107 (by decide) ?_
            exact fr_zret h rfl hq (by omega) ⟨(by omega), rfl⟩ dX12_isSo_111
      ·
        by_cases c30 : p = 3
        ·
          refine fr_tab_in (off := 103) (tgt := 112) h dX12_isSo_9 (by omega) (by omega) (by omega) (by rw [c30]; rfl) (by decide) ?_
          refine fr_iload h 4 rfl dX12_isSo_112 ?_
          refine fr_iload_n h rfl 3 rfl dX12_isSo_114 ?_
          refine fr_icmp_ne (tgt := 122) h dX12_isSo_115 (by decide) (by omega) (by omega) (fun c31 => ?_) (fun c31 => ?_)
          ·
            refine fr_iconst h dX12_isSo_122 ?_
            exact fr_zret h rfl hq (by omega) ⟨(by omega), rfl⟩ dX12_isSo_123
          ·
            refine fr_iconst h dX12_isSo_118 ?_
            refine fr_goto (tgt := 123) h dX12_isSo_119 (by decide) ?_
            exact fr_zret h rfl hq (by omega) ⟨(by omega), rfl⟩ dX12_isSo_123
        ·
          refine fr_tab_out (tgt := 124) h dX12_isSo_9 (by omega) (by omega) (by decide) ?_
          refine fr_iconst h dX12_isSo_124 ?_
          refine fr_istore (L' := [(0, vr G 0), (1, vi k), (2, vi p), (3, vi v), (4, vi z1), (5, vi 0)]) h dX12_isSo_125 (by decide) [1, 2, 3, 4, 5, 0] rfl ?_
          have HL32 : ∀ (n32 : Nat) (l5_32 : Int), fm_r l5_32 → 0 ≤ l5_32 → l5_32 ≤ 8 → (8 - l5_32) < n32 → FW YM G C 6 x 127 [(0, vr G 0), (1, vi k), (2, vi p), (3, vi v), (4, vi z1), (5, vi l5_32)] [] := by
            intro n32
            induction n32 with
            | zero =>
              intro l5_32 g32_0 g32_1 g32_2 g32_3
              exfalso; omega
            | succ n32 ih32 =>
              intro l5_32 g32_0 g32_1 g32_2 g32_3
              refine fr_iload h 5 rfl dX12_isSo_127 ?_
              refine fr_iload h 4 rfl dX12_isSo_129 ?_
              refine fr_icmp_ge (tgt := 158) h dX12_isSo_131 (by decide) (by omega) (by omega) (fun c33 => ?_) (fun c33 => ?_)
              ·
                refine fr_iconst h dX12_isSo_158 ?_
                exact fr_zret h rfl hq (by omega) ⟨(by omega), rfl⟩ dX12_isSo_159
              ·
                refine fr_aload_n h rfl 0 rfl dX12_isSo_134 ?_
                refine fr_getc (z := 12) (iz := 23) h kX12 fX12_45 at_0M rfl rfl rfM_23 (by omega) dX12_isSo_135 ?_
                refine fr_bipush h rfl dX12_isSo_138 ?_
                refine fr_iload_n h rfl 1 rfl dX12_isSo_140 ?_
                refine fr_imul h dX12_isSo_141 ?_
                refine fr_iload h 5 rfl dX12_isSo_142 ?_
                refine fr_iadd h dX12_isSo_144 ?_
                refine fr_iald h arM_12 (by omega) (by omega) (rrM_12 ((8 * k) + l5_32)) dX12_isSo_145 (fun z34 w35 w36 q37 => ?_)
                refine fr_iload_n h rfl 3 rfl dX12_isSo_146 ?_
                refine fr_icmp_ne (tgt := 152) h dX12_isSo_147 (by decide) (by omega) (by omega) (fun c38 => ?_) (fun c38 => ?_)
                ·
                  refine fr_iinc (j := 5) (L' := [(0, vr G 0), (1, vi k), (2, vi p), (3, vi v), (4, vi z1), (5, vi (l5_32 + 1))]) h dX12_isSo_152 rfl (by decide) [1, 2, 3, 4, 5, 0] rfl ?_
                  refine fr_goto (tgt := 127) h dX12_isSo_155 (by decide) ?_
                  exact ih32 (l5_32 + 1) (by omega) (by omega) (by omega) (by omega)
                ·
                  refine fr_iconst h dX12_isSo_150 ?_
                  exact fr_zret h rfl hq (by omega) ⟨(by omega), rfl⟩ dX12_isSo_151
          exact HL32 ((8 - 0) + 1 : Int).toNat 0 (by omega) (by omega) (by omega) (by omega)
set_option maxHeartbeats 200000 in
theorem c_X12_layFits (x : Mm) (k : Int) (h_k : fm_r k) (e0 : MI (x 1)) : CnI YM yX12_layFits cX12_layFits 6 .int 207 6248 (fun G => [vr G 0, vi k]) x (fun z y' => (0 ≤ z) ∧ (z ≤ 1300) ∧ (∀ a : Int, (a < 0 ∨ 0 < a) → (a < 7 ∨ 7 < a) → (a < 12 ∨ 18 < a) → (a < 25 ∨ 25 < a) → y' a = x a) ∧ (∀ i : Int, i ≠ 6 → i ≠ 7 → i ≠ 8 → i ≠ 9 → i ≠ 10 → i ≠ 15 → i ≠ 26 → y' 0 i = x 0 i)) := by
  refine cn_I (by decide) (fun _ => Nat.le_of_ble_eq_true rfl) (fun G C h hq => ?_)
  have h : OK YM G C cX12_layFits RX12 6 (some .int) 207 6248 := h
  show FW YM G C 6 x 0 [(0, vr G 0), (1, vi k)] []
  refine fr_aload_n h rfl 0 rfl dX12_layFits_0 ?_
  refine fr_aload_n h rfl 0 rfl dX12_layFits_1 ?_
  refine fr_getc (z := 1) (iz := 0) h kX12 fX12_9 at_0M rfl rfl rfM_0 (by omega) dX12_layFits_2 ?_
  refine fr_iload_n h rfl 1 rfl dX12_layFits_5 ?_
  refine fr_cvI h kX12 at_0M wX12_layAll lX12_327 (c_X12_layAll x 1 SA_1 k (by omega) e0) rfl (by decide) (by decide) rfl (Nat.le_of_ble_eq_true rfl) dX12_layFits_6 (fun z2 x1 w3 p4 => ?_)
  obtain ⟨p5, p6, p7, p8, p9, p10, f11, f12⟩ := p4
  refine fr_pop h rfl dX12_layFits_9 ?_
  refine fr_iconst h dX12_layFits_10 ?_
  refine fr_istore_n (L' := [(0, vr G 0), (1, vi k), (2, vi 0)]) h rfl dX12_layFits_11 (by decide) [1, 2, 0] rfl ?_
  refine fr_iconst h dX12_layFits_12 ?_
  refine fr_istore_n (L' := [(0, vr G 0), (1, vi k), (2, vi 0), (3, vi 0)]) h rfl dX12_layFits_13 (by decide) [1, 2, 3, 0] rfl ?_
  have HL13 : ∀ (n13 : Nat) (l2_13 l3_13 : Int) (x_13 : Mm), fm_r l2_13 → 0 ≤ l2_13 → l2_13 ≤ 1300 → fm_r l3_13 → 0 ≤ l3_13 → l3_13 ≤ 1300 → l2_13 ≤ l3_13 → (∀ a : Int, (a < 25 ∨ 25 < a) → x_13 a = x1 a) → (1300 - l3_13) < n13 → FW YM G C 6 x_13 14 [(0, vr G 0), (1, vi k), (2, vi l2_13), (3, vi l3_13)] [] := by
    intro n13
    induction n13 with
    | zero =>
      intro l2_13 l3_13 x_13 g13_0 g13_1 g13_2 g13_3 g13_4 g13_5 g13_6 g13_7 g13_8
      exfalso; omega
    | succ n13 ih13 =>
      intro l2_13 l3_13 x_13 g13_0 g13_1 g13_2 g13_3 g13_4 g13_5 g13_6 g13_7 g13_8
      refine fr_iload_n h rfl 3 rfl dX12_layFits_14 ?_
      refine fr_aload_n h rfl 0 rfl dX12_layFits_15 ?_
      refine fr_geti (iz := 26) h kX12 fX12_276 at_0M rfl rfl (by decide) (by decide) rfM_26 dX12_layFits_16 (fun z14 w15 w16 q17 => ?_)
      have r18 := q17.trans (congrFun (g13_7 0 (by omega)) 26)
      refine fr_icmp_ge (tgt := 96) h dX12_layFits_19 (by decide) (by omega) (by omega) (fun c19 => ?_) (fun c19 => ?_)
      ·
        refine fr_iload_n h rfl 2 rfl dX12_layFits_96 ?_
        exact fr_iret h hq (by omega) ⟨(by omega), (by omega), (fun a k0 k1 k2 k3 => ((g13_7 a (by omega)).trans (f11 a (by omega) (by omega) (by omega)))), (fun i k0 k1 k2 k3 k4 k5 k6 => ((congrFun (g13_7 0 (by omega)) i).trans (f12 i (by omega) (by omega) (by omega) (by omega) (by omega) (by omega) (by omega))))⟩ dX12_layFits_97
      ·
        refine fr_iconst h dX12_layFits_22 ?_
        refine fr_istore (L' := [(0, vr G 0), (1, vi k), (2, vi l2_13), (3, vi l3_13), (4, vi 1)]) h dX12_layFits_23 (by decide) [1, 2, 3, 4, 0] rfl ?_
        refine fr_iconst h dX12_layFits_25 ?_
        refine fr_istore (L' := [(0, vr G 0), (1, vi k), (2, vi l2_13), (3, vi l3_13), (4, vi 1), (5, vi 0)]) h dX12_layFits_26 (by decide) [1, 2, 3, 4, 5, 0] rfl ?_
        have HL20 : ∀ (n20 : Nat) (l4_20 l5_20 : Int), fm_r l4_20 → 0 ≤ l4_20 → l4_20 ≤ 1 → fm_r l5_20 → 0 ≤ l5_20 → l5_20 ≤ 10 → (10 - l5_20) < n20 → FW YM G C 6 x_13 28 [(0, vr G 0), (1, vi k), (2, vi l2_13), (3, vi l3_13), (4, vi l4_20), (5, vi l5_20)] [] := by
          intro n20
          induction n20 with
          | zero =>
            intro l4_20 l5_20 g20_0 g20_1 g20_2 g20_3 g20_4 g20_5 g20_6
            exfalso; omega
          | succ n20 ih20 =>
            intro l4_20 l5_20 g20_0 g20_1 g20_2 g20_3 g20_4 g20_5 g20_6
            refine fr_iload h 5 rfl dX12_layFits_28 ?_
            refine fr_aload_n h rfl 0 rfl dX12_layFits_30 ?_
            refine fr_geti (iz := 37) h kX12 fX12_348 at_0M rfl rfl (by decide) (by decide) rfM_37 dX12_layFits_31 (fun z21 w22 w23 q24 => ?_)
            have r25 := q24.trans (congrFun (g13_7 0 (by omega)) 37)
            have r26 := r25.trans (f12 37 (by decide) (by decide) (by decide) (by decide) (by decide) (by decide) (by decide))
            refine fr_icmp_ge (tgt := 69) h dX12_layFits_34 (by decide) (by omega) (by omega) (fun c27 => ?_) (fun c27 => ?_)
            ·
              refine fr_aload_n h rfl 0 rfl dX12_layFits_69 ?_
              refine fr_getc (z := 25) (iz := 38) h kX12 fX12_84 at_0M rfl rfl rfM_38 (by omega) dX12_layFits_70 ?_
              refine fr_iload_n h rfl 3 rfl dX12_layFits_73 ?_
              refine fr_iload h 4 rfl dX12_layFits_74 ?_
              refine fr_zast h arM_25 (by omega) (by omega) (rrM_25 l3_13) (by omega) (by omega) (by omega) dX12_layFits_76 ?_
              refine fr_mem (fun x28 m29 => ?_)
              refine fr_iload_n h rfl 2 rfl dX12_layFits_77 ?_
              refine fr_iload h 4 rfl dX12_layFits_78 ?_
              refine fr_if_eq (tgt := 87) h dX12_layFits_80 (by decide) (by omega) (fun c30 => ?_) (fun c30 => ?_)
              ·
                refine fr_iconst h dX12_layFits_87 ?_
                refine fr_iadd h dX12_layFits_88 ?_
                refine fr_istore_n (L' := [(0, vr G 0), (1, vi k), (2, vi (l2_13 + 0)), (3, vi l3_13), (4, vi l4_20), (5, vi l5_20)]) h rfl dX12_layFits_89 (by decide) [1, 2, 0, 3, 4, 5] rfl ?_
                refine fr_iinc (j := 3) (L' := [(0, vr G 0), (1, vi k), (2, vi (l2_13 + 0)), (3, vi (l3_13 + 1)), (4, vi l4_20), (5, vi l5_20)]) h dX12_layFits_90 rfl (by decide) [1, 2, 3, 0, 4, 5] rfl ?_
                refine fr_goto (tgt := 14) h dX12_layFits_93 (by decide) ?_
                refine fr_sub (L' := [(0, vr G 0), (1, vi k), (2, vi (l2_13 + 0)), (3, vi (l3_13 + 1))]) [0, 1, 2, 3] rfl ?_
                exact ih13 (l2_13 + 0) (l3_13 + 1) x28 (by omega) (by omega) (by omega) (by omega) (by omega) (by omega) (by omega) (fun a k0 => ((fm_up_row m29 (by omega)).trans (g13_7 a (by omega)))) (by omega)
              ·
                refine fr_iconst h dX12_layFits_83 ?_
                refine fr_goto (tgt := 88) h dX12_layFits_84 (by decide) ?_
                refine fr_iadd h dX12_layFits_88 ?_
                refine fr_istore_n (L' := [(0, vr G 0), (1, vi k), (2, vi (l2_13 + 1)), (3, vi l3_13), (4, vi l4_20), (5, vi l5_20)]) h rfl dX12_layFits_89 (by decide) [1, 2, 0, 3, 4, 5] rfl ?_
                refine fr_iinc (j := 3) (L' := [(0, vr G 0), (1, vi k), (2, vi (l2_13 + 1)), (3, vi (l3_13 + 1)), (4, vi l4_20), (5, vi l5_20)]) h dX12_layFits_90 rfl (by decide) [1, 2, 3, 0, 4, 5] rfl ?_
                refine fr_goto (tgt := 14) h dX12_layFits_93 (by decide) ?_
                refine fr_sub (L' := [(0, vr G 0), (1, vi k), (2, vi (l2_13 + 1)), (3, vi (l3_13 + 1))]) [0, 1, 2, 3] rfl ?_
                exact ih13 (l2_13 + 1) (l3_13 + 1) x28 (by omega) (by omega) (by omega) (by omega) (by omega) (by omega) (by omega) (fun a k0 => ((fm_up_row m29 (by omega)).trans (g13_7 a (by omega)))) (by omega)
            ·
              refine fr_iload h 4 rfl dX12_layFits_37 ?_
              refine fr_if_eq (tgt := 69) h dX12_layFits_39 (by decide) (by omega) (fun c31 => ?_) (fun c31 => ?_)
              ·
                refine fr_aload_n h rfl 0 rfl dX12_layFits_69 ?_
                refine fr_getc (z := 25) (iz := 38) h kX12 fX12_84 at_0M rfl rfl rfM_38 (by omega) dX12_layFits_70 ?_
                refine fr_iload_n h rfl 3 rfl dX12_layFits_73 ?_
                refine fr_iload h 4 rfl dX12_layFits_74 ?_
                refine fr_zast h arM_25 (by omega) (by omega) (rrM_25 l3_13) (by omega) (by omega) (by omega) dX12_layFits_76 ?_
                refine fr_mem (fun x32 m33 => ?_)
                refine fr_iload_n h rfl 2 rfl dX12_layFits_77 ?_
                refine fr_iload h 4 rfl dX12_layFits_78 ?_
                refine fr_if_eq (tgt := 87) h dX12_layFits_80 (by decide) (by omega) (fun c34 => ?_) (fun c34 => by exfalso; omega)
                refine fr_iconst h dX12_layFits_87 ?_
                refine fr_iadd h dX12_layFits_88 ?_
                refine fr_istore_n (L' := [(0, vr G 0), (1, vi k), (2, vi (l2_13 + 0)), (3, vi l3_13), (4, vi l4_20), (5, vi l5_20)]) h rfl dX12_layFits_89 (by decide) [1, 2, 0, 3, 4, 5] rfl ?_
                refine fr_iinc (j := 3) (L' := [(0, vr G 0), (1, vi k), (2, vi (l2_13 + 0)), (3, vi (l3_13 + 1)), (4, vi l4_20), (5, vi l5_20)]) h dX12_layFits_90 rfl (by decide) [1, 2, 3, 0, 4, 5] rfl ?_
                refine fr_goto (tgt := 14) h dX12_layFits_93 (by decide) ?_
                refine fr_sub (L' := [(0, vr G 0), (1, vi k), (2, vi (l2_13 + 0)), (3, vi (l3_13 + 1))]) [0, 1, 2, 3] rfl ?_
                exact ih13 (l2_13 + 0) (l3_13 + 1) x32 (by omega) (by omega) (by omega) (by omega) (by omega) (by omega) (by omega) (fun a k0 => ((fm_up_row m33 (by omega)).trans (g13_7 a (by omega)))) (by omega)
              ·
                refine fr_aload_n h rfl 0 rfl dX12_layFits_42 ?_
                refine fr_iload_n h rfl 3 rfl dX12_layFits_43 ?_
                refine fr_aload_n h rfl 0 rfl dX12_layFits_44 ?_
                refine fr_getc (z := 23) (iz := 35) h kX12 fX12_78 at_0M rfl rfl rfM_35 (by omega) dX12_layFits_45 ?_
                refine fr_iload h 5 rfl dX12_layFits_48 ?_
                refine fr_iald h arM_23 (by omega) (by omega) (rrM_23 l5_20) dX12_layFits_50 (fun z35 w36 w37 q38 => ?_)
                have r39 := q38.trans (congrFun (g13_7 23 (by omega)) l5_20)
                have r40 := r39.trans (congrFun (f11 23 (by omega) (by omega) (by omega)) l5_20)
                refine fr_aload_n h rfl 0 rfl dX12_layFits_51 ?_
                refine fr_getc (z := 24) (iz := 36) h kX12 fX12_81 at_0M rfl rfl rfM_36 (by omega) dX12_layFits_52 ?_
                refine fr_iload h 5 rfl dX12_layFits_55 ?_
                refine fr_iald h arM_24 (by omega) (by omega) (rrM_24 l5_20) dX12_layFits_57 (fun z41 w42 w43 q44 => ?_)
                have r45 := q44.trans (congrFun (g13_7 24 (by omega)) l5_20)
                have r46 := r45.trans (congrFun (f11 24 (by omega) (by omega) (by omega)) l5_20)
                refine fr_cvI h kX12 at_0M wX12_isSo lX12_351 (c_X12_isSo x_13 l3_13 z35 z41 (by omega) (by omega) (by omega) (by omega) (by omega)) rfl (by decide) (by decide) rfl (Nat.le_of_ble_eq_true rfl) dX12_layFits_58 (fun z48 x47 w49 p50 => ?_)
                obtain ⟨p51, y52⟩ := p50
                rw [y52]
                clear y52
                refine fr_istore (L' := [(0, vr G 0), (1, vi k), (2, vi l2_13), (3, vi l3_13), (4, vi z48), (5, vi l5_20)]) h dX12_layFits_61 (by decide) [1, 2, 3, 4, 0, 5] rfl ?_
                refine fr_iinc (j := 5) (L' := [(0, vr G 0), (1, vi k), (2, vi l2_13), (3, vi l3_13), (4, vi z48), (5, vi (l5_20 + 1))]) h dX12_layFits_63 rfl (by decide) [1, 2, 3, 4, 5, 0] rfl ?_
                refine fr_goto (tgt := 28) h dX12_layFits_66 (by decide) ?_
                exact ih20 z48 (l5_20 + 1) (by omega) (by omega) (by omega) (by omega) (by omega) (by omega) (by omega)
        exact HL20 ((10 - 0) + 1 : Int).toNat 1 0 (by omega) (by omega) (by omega) (by omega) (by omega) (by omega) (by omega)
  exact HL13 ((1300 - 0) + 1 : Int).toNat 0 0 x1 (by omega) (by omega) (by omega) (by omega) (by omega) (by omega) (by omega) (fun a _ => rfl) (by omega)
set_option maxHeartbeats 200000 in
theorem c_X12_fits (x : Mm) (k : Int) (h_k : fm_r k) (e0 : GI x) : CnI YM yX12_fits cX12_fits 4 .int 208 6273 (fun G => [vr G 0, vi k]) x (fun z y' => (y' 0 5 = 0) ∧ (GI y') ∧ (∀ a : Int, (a < 0 ∨ 0 < a) → (a < 3 ∨ 3 < a) → (a < 25 ∨ 25 < a) → (a < 7 ∨ 7 < a) → (a < 12 ∨ 18 < a) → y' a = x a) ∧ (∀ i : Int, i ≠ 4 → i ≠ 5 → i ≠ 6 → i ≠ 7 → i ≠ 8 → i ≠ 9 → i ≠ 10 → i ≠ 15 → i ≠ 26 → y' 0 i = x 0 i)) := by
  refine cn_I (by decide) (fun _ => Nat.le_of_ble_eq_true rfl) (fun G C h hq => ?_)
  have h : OK YM G C cX12_fits RX12 4 (some .int) 208 6273 := h
  show FW YM G C 4 x 0 [(0, vr G 0), (1, vi k)] []
  have e12 := e0.2.2.2
  refine fr_aload_n h rfl 0 rfl dX12_fits_0 ?_
  refine fr_iconst h dX12_fits_1 ?_
  refine fr_puti (iz := 5) h kX12 fX12_94 at_0M rfl rfl (by decide) (by decide) rfl (by decide +kernel) rfM_5 (by omega) (by omega) dX12_fits_2 ?_
  refine fr_mem (fun x1 m2 => ?_)
  refine fr_iload_n h rfl 1 rfl dX12_fits_5 ?_
  refine fr_csI h wX12_isKind lX12_324 (c_X12_isKind x1 k (by omega)) rfl (by decide) (by decide) rfl (Nat.le_of_ble_eq_true rfl) dX12_fits_6 (fun z4 x3 w5 p6 => ?_)
  obtain ⟨p7, p8, y9⟩ := p6
  rw [y9]
  clear y9
  refine fr_if_ne (tgt := 14) h dX12_fits_9 (by decide) (by omega) (fun c10 => ?_) (fun c10 => ?_)
  ·
    refine fr_aload_n h rfl 0 rfl dX12_fits_14 ?_
    refine fr_iload_n h rfl 1 rfl dX12_fits_15 ?_
    refine fr_cvI h kX12 at_0M wX12_layFits lX12_354 (c_X12_layFits x1 k (by omega) (by rw [show x1 1 = x 1 from (fm_up_row m2 (by omega))]; exact e0.1)) rfl (by decide) (by decide) rfl (Nat.le_of_ble_eq_true rfl) dX12_fits_16 (fun z12 x11 w13 p14 => ?_)
    obtain ⟨p15, p16, f17, f18⟩ := p14
    refine fr_istore_n (L' := [(0, vr G 0), (1, vi k), (2, vi z12)]) h rfl dX12_fits_19 (by decide) [1, 2, 0] rfl ?_
    refine fr_aload_n h rfl 0 rfl dX12_fits_20 ?_
    refine fr_iconst h dX12_fits_21 ?_
    refine fr_puti (iz := 4) h kX12 fX12_98 at_0M rfl rfl (by decide) (by decide) rfl (by decide +kernel) rfM_4 (by omega) (by omega) dX12_fits_22 ?_
    refine fr_mem (fun x19 m20 => ?_)
    refine fr_iconst h dX12_fits_25 ?_
    refine fr_istore_n (L' := [(0, vr G 0), (1, vi k), (2, vi z12), (3, vi 1)]) h rfl dX12_fits_26 (by decide) [1, 2, 3, 0] rfl ?_
    have HL21 : ∀ (n21 : Nat) (l3_21 : Int) (x_21 : Mm), fm_r l3_21 → 1 ≤ l3_21 → l3_21 ≤ 1301 → (∀ a : Int, (a < 0 ∨ 0 < a) → (a < 3 ∨ 3 < a) → x_21 a = x19 a) → (∀ i : Int, i ≠ 4 → x_21 0 i = x19 0 i) → (1301 - l3_21) < n21 → FW YM G C 4 x_21 27 [(0, vr G 0), (1, vi k), (2, vi z12), (3, vi l3_21)] [] := by
      intro n21
      induction n21 with
      | zero =>
        intro l3_21 x_21 g21_0 g21_1 g21_2 g21_3 g21_4 g21_5
        exfalso; omega
      | succ n21 ih21 =>
        intro l3_21 x_21 g21_0 g21_1 g21_2 g21_3 g21_4 g21_5
        refine fr_iload_n h rfl 3 rfl dX12_fits_27 ?_
        refine fr_aload_n h rfl 0 rfl dX12_fits_28 ?_
        refine fr_geti (iz := 26) h kX12 fX12_276 at_0M rfl rfl (by decide) (by decide) rfM_26 dX12_fits_29 (fun z22 w23 w24 q25 => ?_)
        have r26 := q25.trans (g21_4 26 (by decide))
        have r27 := r26.trans (fm_rd_i (a := 0) (b := 26) m20 (by decide))
        have r28 := (fm_rd_i (a := 0) (b := 26) m2 (by decide))
        refine fr_icmp_gt (tgt := 70) h dX12_fits_32 (by decide) (by omega) (by omega) (fun c29 => ?_) (fun c29 => ?_)
        ·
          refine fr_iload_n h rfl 2 rfl dX12_fits_70 ?_
          have r30 := (g21_4 5 (by decide))
          have r31 := r30.trans (fm_rd_i (a := 0) (b := 5) m20 (by decide))
          have r32 := r31.trans (f18 5 (by decide) (by decide) (by decide) (by decide) (by decide) (by decide) (by decide))
          have r33 := r32.trans (fm_rd_s m2)
          have r34 := (g21_4 12 (by decide))
          have r35 := r34.trans (fm_rd_i (a := 0) (b := 12) m20 (by decide))
          have r36 := r35.trans (f18 12 (by decide) (by decide) (by decide) (by decide) (by decide) (by decide) (by decide))
          have r37 := r36.trans (fm_rd_i (a := 0) (b := 12) m2 (by decide))
          exact fr_iret h hq (by omega) ⟨(by omega), ⟨(by rw [show x_21 1 = x19 1 from (g21_3 1 (by omega) (by omega))]; exact (by rw [show x19 1 = x11 1 from (fm_up_row m20 (by omega))]; exact (by rw [show x11 1 = x1 1 from (f17 1 (by omega) (by omega) (by omega) (by omega))]; exact (by rw [show x1 1 = x 1 from (fm_up_row m2 (by omega))]; exact e0.1)))), (by rw [show x_21 8 = x 8 from ((g21_3 8 (by omega) (by omega)).trans ((fm_up_row m20 (by omega)).trans ((f17 8 (by omega) (by omega) (by omega) (by omega)).trans (fm_up_row m2 (by omega)))))]; exact e0.2.1), (by rw [show x_21 26 = x 26 from ((g21_3 26 (by omega) (by omega)).trans ((fm_up_row m20 (by omega)).trans ((f17 26 (by omega) (by omega) (by omega) (by omega)).trans (fm_up_row m2 (by omega)))))]; exact e0.2.2.1), (by have := e0.2.2.2; omega)⟩, (fun a k0 k1 k2 k3 k4 => ((g21_3 a (by omega) (by omega)).trans ((fm_up_row m20 (by omega)).trans ((f17 a (by omega) (by omega) (by omega) (by omega)).trans (fm_up_row m2 (by omega)))))), (fun i k0 k1 k2 k3 k4 k5 k6 k7 k8 => ((g21_4 i (by omega)).trans ((fm_rd_i (a := 0) (b := i) m20 (by omega)).trans ((f18 i (by omega) (by omega) (by omega) (by omega) (by omega) (by omega) (by omega)).trans (fm_rd_i (a := 0) (b := i) m2 (by omega))))))⟩ dX12_fits_71
        ·
          refine fr_aload_n h rfl 0 rfl dX12_fits_35 ?_
          refine fr_geti (iz := 4) h kX12 fX12_98 at_0M rfl rfl (by decide) (by decide) rfM_4 dX12_fits_36 (fun z38 w39 w40 q41 => ?_)
          have r42 := (fm_rd_s m20)
          refine fr_if_ne (tgt := 70) h dX12_fits_39 (by decide) (by omega) (fun c43 => ?_) (fun c43 => ?_)
          ·
            refine fr_iload_n h rfl 2 rfl dX12_fits_70 ?_
            have r44 := (g21_4 5 (by decide))
            have r45 := r44.trans (fm_rd_i (a := 0) (b := 5) m20 (by decide))
            have r46 := r45.trans (f18 5 (by decide) (by decide) (by decide) (by decide) (by decide) (by decide) (by decide))
            have r47 := r46.trans (fm_rd_s m2)
            have r48 := (g21_4 12 (by decide))
            have r49 := r48.trans (fm_rd_i (a := 0) (b := 12) m20 (by decide))
            have r50 := r49.trans (f18 12 (by decide) (by decide) (by decide) (by decide) (by decide) (by decide) (by decide))
            have r51 := r50.trans (fm_rd_i (a := 0) (b := 12) m2 (by decide))
            exact fr_iret h hq (by omega) ⟨(by omega), ⟨(by rw [show x_21 1 = x19 1 from (g21_3 1 (by omega) (by omega))]; exact (by rw [show x19 1 = x11 1 from (fm_up_row m20 (by omega))]; exact (by rw [show x11 1 = x1 1 from (f17 1 (by omega) (by omega) (by omega) (by omega))]; exact (by rw [show x1 1 = x 1 from (fm_up_row m2 (by omega))]; exact e0.1)))), (by rw [show x_21 8 = x 8 from ((g21_3 8 (by omega) (by omega)).trans ((fm_up_row m20 (by omega)).trans ((f17 8 (by omega) (by omega) (by omega) (by omega)).trans (fm_up_row m2 (by omega)))))]; exact e0.2.1), (by rw [show x_21 26 = x 26 from ((g21_3 26 (by omega) (by omega)).trans ((fm_up_row m20 (by omega)).trans ((f17 26 (by omega) (by omega) (by omega) (by omega)).trans (fm_up_row m2 (by omega)))))]; exact e0.2.2.1), (by have := e0.2.2.2; omega)⟩, (fun a k0 k1 k2 k3 k4 => ((g21_3 a (by omega) (by omega)).trans ((fm_up_row m20 (by omega)).trans ((f17 a (by omega) (by omega) (by omega) (by omega)).trans (fm_up_row m2 (by omega)))))), (fun i k0 k1 k2 k3 k4 k5 k6 k7 k8 => ((g21_4 i (by omega)).trans ((fm_rd_i (a := 0) (b := i) m20 (by omega)).trans ((f18 i (by omega) (by omega) (by omega) (by omega) (by omega) (by omega) (by omega)).trans (fm_rd_i (a := 0) (b := i) m2 (by omega))))))⟩ dX12_fits_71
          ·
            refine fr_aload_n h rfl 0 rfl dX12_fits_42 ?_
            refine fr_getc (z := 25) (iz := 38) h kX12 fX12_84 at_0M rfl rfl rfM_38 (by omega) dX12_fits_43 ?_
            refine fr_aload_n h rfl 0 rfl dX12_fits_46 ?_
            refine fr_getc (z := 15) (iz := 27) h kX12 fX12_54 at_0M rfl rfl rfM_27 (by omega) dX12_fits_47 ?_
            refine fr_iload_n h rfl 3 rfl dX12_fits_50 ?_
            refine fr_iconst h dX12_fits_51 ?_
            refine fr_isub h dX12_fits_52 ?_
            refine fr_iald h arM_15 (by omega) (by omega) (rrM_15 (l3_21 - 1)) dX12_fits_53 (fun z52 w53 w54 q55 => ?_)
            have r56 := q55.trans (congrFun (g21_3 15 (by omega) (by omega)) (l3_21 - 1))
            have r57 := r56.trans (fm_rd_k (a := 15) (b := (l3_21 - 1)) m20 (by omega))
            have r58 := (fm_rd_k (a := 15) (b := (l3_21 - 1)) m2 (by omega))
            refine fr_zald h arM_25 (by omega) (by omega) (rrM_25 z52) dX12_fits_54 (fun z59 w60 w61 q62 => ?_)
            have r63 := q62.trans (congrFun (g21_3 25 (by omega) (by omega)) z52)
            have r64 := r63.trans (fm_rd_k (a := 25) (b := z52) m20 (by omega))
            have r65 := (fm_rd_k (a := 25) (b := z52) m2 (by omega))
            refine fr_if_eq (tgt := 64) h dX12_fits_55 (by decide) (by omega) (fun c66 => ?_) (fun c66 => ?_)
            ·
              refine fr_iinc (j := 3) (L' := [(0, vr G 0), (1, vi k), (2, vi z12), (3, vi (l3_21 + 1))]) h dX12_fits_64 rfl (by decide) [1, 2, 3, 0] rfl ?_
              refine fr_goto (tgt := 27) h dX12_fits_67 (by decide) ?_
              exact ih21 (l3_21 + 1) x_21 (by omega) (by omega) (by omega) (fun a k0 k1 => (g21_3 a (by omega) (by omega))) (fun i k0 => (g21_4 i (by omega))) (by omega)
            ·
              refine fr_aload_n h rfl 0 rfl dX12_fits_58 ?_
              refine fr_iload_n h rfl 3 rfl dX12_fits_59 ?_
              refine fr_i2l h (by omega) dX12_fits_60 ?_
              have r67 := (fm_rd_s m20)
              refine fr_cvV h kX12 at_0M wX12_tell lX12_269 (c_X12_tell x_21 l3_21 (by omega) (by omega)) rfl (by decide) (by decide) rfl (Nat.le_of_ble_eq_true rfl) dX12_fits_61 (fun x68 p71 => ?_)
              obtain ⟨p72, f73, f74⟩ := p71
              refine fr_iinc (j := 3) (L' := [(0, vr G 0), (1, vi k), (2, vi z12), (3, vi (l3_21 + 1))]) h dX12_fits_64 rfl (by decide) [1, 2, 3, 0] rfl ?_
              refine fr_goto (tgt := 27) h dX12_fits_67 (by decide) ?_
              exact ih21 (l3_21 + 1) x68 (by omega) (by omega) (by omega) (fun a k0 k1 => ((f73 a (by omega) (by omega)).trans (g21_3 a (by omega) (by omega)))) (fun i k0 => ((f74 i (by omega)).trans (g21_4 i (by omega)))) (by omega)
    exact HL21 ((1301 - 1) + 1 : Int).toNat 1 x19 (by omega) (by omega) (by omega) (fun a _ _ => rfl) (fun i _ => rfl) (by omega)
  ·
    refine fr_iconst h dX12_fits_12 ?_
    have r75 := (fm_rd_s m2)
    have r76 := (fm_rd_i (a := 0) (b := 12) m2 (by decide))
    exact fr_iret h hq (by omega) ⟨(by omega), ⟨(by rw [show x1 1 = x 1 from (fm_up_row m2 (by omega))]; exact e0.1), (by rw [show x1 8 = x 8 from (fm_up_row m2 (by omega))]; exact e0.2.1), (by rw [show x1 26 = x 26 from (fm_up_row m2 (by omega))]; exact e0.2.2.1), (by have := e0.2.2.2; omega)⟩, (fun a k0 k1 k2 k3 k4 => (fm_up_row m2 (by omega))), (fun i k0 k1 k2 k3 k4 k5 k6 k7 k8 => (fm_rd_i (a := 0) (b := i) m2 (by omega)))⟩ dX12_fits_13
set_option maxHeartbeats 2000000 in
theorem c_X12_asks (x : Mm) (k : Int) (h_k : fm_r k) (e0 : GI x) : CnI YM yX12_asks cX12_asks 9 .int 208 6273 (fun G => [vr G 0, vi k]) x (fun z y' => (y' 0 5 = 0) ∧ (GI y') ∧ (∀ a : Int, (a < 0 ∨ 0 < a) → (a < 3 ∨ 3 < a) → (a < 25 ∨ 25 < a) → (a < 7 ∨ 7 < a) → (a < 12 ∨ 18 < a) → y' a = x a) ∧ (∀ i : Int, i ≠ 4 → i ≠ 5 → i ≠ 6 → i ≠ 7 → i ≠ 8 → i ≠ 9 → i ≠ 10 → i ≠ 15 → i ≠ 26 → y' 0 i = x 0 i)) := by
  refine cn_I (by decide) (fun _ => Nat.le_of_ble_eq_true rfl) (fun G C h hq => ?_)
  have h : OK YM G C cX12_asks RX12 9 (some .int) 208 6273 := h
  show FW YM G C 9 x 0 [(0, vr G 0), (1, vi k)] []
  have e12 := e0.2.2.2
  refine fr_aload_n h rfl 0 rfl dX12_asks_0 ?_
  refine fr_iconst h dX12_asks_1 ?_
  refine fr_puti (iz := 5) h kX12 fX12_94 at_0M rfl rfl (by decide) (by decide) rfl (by decide +kernel) rfM_5 (by omega) (by omega) dX12_asks_2 ?_
  refine fr_mem (fun x1 m2 => ?_)
  refine fr_iload_n h rfl 1 rfl dX12_asks_5 ?_
  refine fr_csI h wX12_isKind lX12_324 (c_X12_isKind x1 k (by omega)) rfl (by decide) (by decide) rfl (Nat.le_of_ble_eq_true rfl) dX12_asks_6 (fun z4 x3 w5 p6 => ?_)
  obtain ⟨p7, p8, y9⟩ := p6
  rw [y9]
  clear y9
  refine fr_if_ne (tgt := 14) h dX12_asks_9 (by decide) (by omega) (fun c10 => ?_) (fun c10 => ?_)
  ·
    refine fr_aload_n h rfl 0 rfl dX12_asks_14 ?_
    refine fr_iload_n h rfl 1 rfl dX12_asks_15 ?_
    refine fr_cvI h kX12 at_0M wX12_layFits lX12_354 (c_X12_layFits x1 k (by omega) (by rw [show x1 1 = x 1 from (fm_up_row m2 (by omega))]; exact e0.1)) rfl (by decide) (by decide) rfl (Nat.le_of_ble_eq_true rfl) dX12_asks_16 (fun z12 x11 w13 p14 => ?_)
    obtain ⟨p15, p16, f17, f18⟩ := p14
    refine fr_istore_n (L' := [(0, vr G 0), (1, vi k), (2, vi z12)]) h rfl dX12_asks_19 (by decide) [1, 2, 0] rfl ?_
    refine fr_iload_n h rfl 2 rfl dX12_asks_20 ?_
    refine fr_if_ne (tgt := 27) h dX12_asks_21 (by decide) (by omega) (fun c19 => ?_) (fun c19 => ?_)
    ·
      refine fr_iconst h dX12_asks_27 ?_
      refine fr_istore_n (L' := [(0, vr G 0), (1, vi k), (2, vi z12), (3, vi (-1))]) h rfl dX12_asks_28 (by decide) [1, 2, 3, 0] rfl ?_
      refine fr_ldcw (z := 1000000) h (by exact tb_7 (i := 201) (by decide +kernel) (by decide +kernel)) rfl dX12_asks_29 ?_
      refine fr_istore (L' := [(0, vr G 0), (1, vi k), (2, vi z12), (3, vi (-1)), (4, vi 1000000)]) h dX12_asks_32 (by decide) [1, 2, 3, 4, 0] rfl ?_
      refine fr_iconst h dX12_asks_34 ?_
      refine fr_istore (L' := [(0, vr G 0), (1, vi k), (2, vi z12), (3, vi (-1)), (4, vi 1000000), (5, vi 0)]) h dX12_asks_35 (by decide) [1, 2, 3, 4, 5, 0] rfl ?_
      have HL20 : ∀ (n20 : Nat) (l3_20 l4_20 l5_20 : Int), fm_r l3_20 → (-1) ≤ l3_20 → l3_20 ≤ 430 → fm_r l4_20 → (-1300) ≤ l4_20 → l4_20 ≤ 1000000 → fm_r l5_20 → 0 ≤ l5_20 → l5_20 ≤ 5 → (5 - l5_20) < n20 → FW YM G C 9 x11 37 [(0, vr G 0), (1, vi k), (2, vi z12), (3, vi l3_20), (4, vi l4_20), (5, vi l5_20)] [] := by
        intro n20
        induction n20 with
        | zero =>
          intro l3_20 l4_20 l5_20 g20_0 g20_1 g20_2 g20_3 g20_4 g20_5 g20_6 g20_7 g20_8 g20_9
          exfalso; omega
        | succ n20 ih20 =>
          intro l3_20 l4_20 l5_20 g20_0 g20_1 g20_2 g20_3 g20_4 g20_5 g20_6 g20_7 g20_8 g20_9
          refine fr_iload h 5 rfl dX12_asks_37 ?_
          refine fr_iconst h dX12_asks_39 ?_
          refine fr_icmp_ge (tgt := 156) h dX12_asks_40 (by decide) (by omega) (by omega) (fun c21 => ?_) (fun c21 => ?_)
          ·
            refine fr_aload_n h rfl 0 rfl dX12_asks_156 ?_
            refine fr_iconst h dX12_asks_157 ?_
            refine fr_puti (iz := 4) h kX12 fX12_98 at_0M rfl rfl (by decide) (by decide) rfl (by decide +kernel) rfM_4 (by omega) (by omega) dX12_asks_158 ?_
            refine fr_mem (fun x22 m23 => ?_)
            refine fr_aload_n h rfl 0 rfl dX12_asks_161 ?_
            refine fr_iload h 4 rfl dX12_asks_162 ?_
            refine fr_i2l h (by omega) dX12_asks_164 ?_
            have r24 := (fm_rd_s m23)
            refine fr_cvV h kX12 at_0M wX12_tell lX12_269 (c_X12_tell x22 l4_20 (by omega) (by omega)) rfl (by decide) (by decide) rfl (Nat.le_of_ble_eq_true rfl) dX12_asks_165 (fun x25 p28 => ?_)
            obtain ⟨p29, f30, f31⟩ := p28
            refine fr_iload_n h rfl 3 rfl dX12_asks_168 ?_
            have r32 := (f31 5 (by decide))
            have r33 := r32.trans (fm_rd_i (a := 0) (b := 5) m23 (by decide))
            have r34 := r33.trans (f18 5 (by decide) (by decide) (by decide) (by decide) (by decide) (by decide) (by decide))
            have r35 := r34.trans (fm_rd_s m2)
            have r36 := (f31 12 (by decide))
            have r37 := r36.trans (fm_rd_i (a := 0) (b := 12) m23 (by decide))
            have r38 := r37.trans (f18 12 (by decide) (by decide) (by decide) (by decide) (by decide) (by decide) (by decide))
            have r39 := r38.trans (fm_rd_i (a := 0) (b := 12) m2 (by decide))
            exact fr_iret h hq (by omega) ⟨(by omega), ⟨(by rw [show x25 1 = x22 1 from (f30 1 (by omega) (by omega))]; exact (by rw [show x22 1 = x11 1 from (fm_up_row m23 (by omega))]; exact (by rw [show x11 1 = x1 1 from (f17 1 (by omega) (by omega) (by omega) (by omega))]; exact (by rw [show x1 1 = x 1 from (fm_up_row m2 (by omega))]; exact e0.1)))), (by rw [show x25 8 = x 8 from ((f30 8 (by omega) (by omega)).trans ((fm_up_row m23 (by omega)).trans ((f17 8 (by omega) (by omega) (by omega) (by omega)).trans (fm_up_row m2 (by omega)))))]; exact e0.2.1), (by rw [show x25 26 = x 26 from ((f30 26 (by omega) (by omega)).trans ((fm_up_row m23 (by omega)).trans ((f17 26 (by omega) (by omega) (by omega) (by omega)).trans (fm_up_row m2 (by omega)))))]; exact e0.2.2.1), (by have := e0.2.2.2; omega)⟩, (fun a k0 k1 k2 k3 k4 => ((f30 a (by omega) (by omega)).trans ((fm_up_row m23 (by omega)).trans ((f17 a (by omega) (by omega) (by omega) (by omega)).trans (fm_up_row m2 (by omega)))))), (fun i k0 k1 k2 k3 k4 k5 k6 k7 k8 => ((f31 i (by omega)).trans ((fm_rd_i (a := 0) (b := i) m23 (by omega)).trans ((f18 i (by omega) (by omega) (by omega) (by omega) (by omega) (by omega) (by omega)).trans (fm_rd_i (a := 0) (b := i) m2 (by omega))))))⟩ dX12_asks_169
          ·
            refine fr_iconst h dX12_asks_43 ?_
            refine fr_istore (L' := [(0, vr G 0), (1, vi k), (2, vi z12), (3, vi l3_20), (4, vi l4_20), (5, vi l5_20), (6, vi 0)]) h dX12_asks_44 (by decide) [1, 2, 3, 4, 5, 6, 0] rfl ?_
            have HL40 : ∀ (n40 : Nat) (l3_40 l4_40 l6_40 : Int), fm_r l3_40 → (-1) ≤ l3_40 → l3_40 ≤ 430 → fm_r l4_40 → (-1300) ≤ l4_40 → l4_40 ≤ 1000000 → fm_r l6_40 → 0 ≤ l6_40 → l6_40 ≤ 31 → (31 - l6_40) < n40 → FW YM G C 9 x11 46 [(0, vr G 0), (1, vi k), (2, vi z12), (3, vi l3_40), (4, vi l4_40), (5, vi l5_20), (6, vi l6_40)] [] := by
              intro n40
              induction n40 with
              | zero =>
                intro l3_40 l4_40 l6_40 g40_0 g40_1 g40_2 g40_3 g40_4 g40_5 g40_6 g40_7 g40_8 g40_9
                exfalso; omega
              | succ n40 ih40 =>
                intro l3_40 l4_40 l6_40 g40_0 g40_1 g40_2 g40_3 g40_4 g40_5 g40_6 g40_7 g40_8 g40_9
                refine fr_iload h 6 rfl dX12_asks_46 ?_
                refine fr_iload h 5 rfl dX12_asks_48 ?_
                refine fr_csI h wX12_highOf lX12_345 (c_X12_highOf x11 l5_20 (by omega)) rfl (by decide) (by decide) rfl (Nat.le_of_ble_eq_true rfl) dX12_asks_50 (fun z42 x41 w43 p44 => ?_)
                obtain ⟨p45, p46, p47, p48, p49, y50⟩ := p44
                rw [y50]
                clear y50
                refine fr_icmp_gt (tgt := 150) h dX12_asks_53 (by decide) (by omega) (by omega) (fun c51 => ?_) (fun c51 => ?_)
                ·
                  refine fr_iinc (j := 5) (L' := [(0, vr G 0), (1, vi k), (2, vi z12), (3, vi l3_40), (4, vi l4_40), (5, vi (l5_20 + 1)), (6, vi l6_40)]) h dX12_asks_150 rfl (by decide) [1, 2, 3, 4, 5, 0, 6] rfl ?_
                  refine fr_goto (tgt := 37) h dX12_asks_153 (by decide) ?_
                  refine fr_sub (L' := [(0, vr G 0), (1, vi k), (2, vi z12), (3, vi l3_40), (4, vi l4_40), (5, vi (l5_20 + 1))]) [0, 1, 2, 3, 4, 5] rfl ?_
                  exact ih20 l3_40 l4_40 (l5_20 + 1) (by omega) (by omega) (by omega) (by omega) (by omega) (by omega) (by omega) (by omega) (by omega) (by omega)
                ·
                  refine fr_iconst h dX12_asks_56 ?_
                  refine fr_istore (L' := [(0, vr G 0), (1, vi k), (2, vi z12), (3, vi l3_40), (4, vi l4_40), (5, vi l5_20), (6, vi l6_40), (7, vi 0)]) h dX12_asks_57 (by decide) [1, 2, 3, 4, 5, 6, 7, 0] rfl ?_
                  refine fr_iconst h dX12_asks_59 ?_
                  refine fr_istore (L' := [(0, vr G 0), (1, vi k), (2, vi z12), (3, vi l3_40), (4, vi l4_40), (5, vi l5_20), (6, vi l6_40), (7, vi 0), (8, vi 0)]) h dX12_asks_60 (by decide) [1, 2, 3, 4, 5, 6, 7, 8, 0] rfl ?_
                  have HL52 : ∀ (n52 : Nat) (l7_52 l8_52 : Int), fm_r l7_52 → 0 ≤ l7_52 → l7_52 ≤ 1300 → fm_r l8_52 → 0 ≤ l8_52 → l8_52 ≤ 1300 → l7_52 ≤ l8_52 → (1300 - l8_52) < n52 → FW YM G C 9 x11 62 [(0, vr G 0), (1, vi k), (2, vi z12), (3, vi l3_40), (4, vi l4_40), (5, vi l5_20), (6, vi l6_40), (7, vi l7_52), (8, vi l8_52)] [] := by
                    intro n52
                    induction n52 with
                    | zero =>
                      intro l7_52 l8_52 g52_0 g52_1 g52_2 g52_3 g52_4 g52_5 g52_6 g52_7
                      exfalso; omega
                    | succ n52 ih52 =>
                      intro l7_52 l8_52 g52_0 g52_1 g52_2 g52_3 g52_4 g52_5 g52_6 g52_7
                      refine fr_iload h 8 rfl dX12_asks_62 ?_
                      refine fr_aload_n h rfl 0 rfl dX12_asks_64 ?_
                      refine fr_geti (iz := 26) h kX12 fX12_276 at_0M rfl rfl (by decide) (by decide) rfM_26 dX12_asks_65 (fun z53 w54 w55 q56 => ?_)
                      have r57 := (fm_rd_i (a := 0) (b := 26) m2 (by decide))
                      refine fr_icmp_ge (tgt := 110) h dX12_asks_68 (by decide) (by omega) (by omega) (fun c58 => ?_) (fun c58 => ?_)
                      ·
                        refine fr_iload h 7 rfl dX12_asks_110 ?_
                        refine fr_iload_n h rfl 2 rfl dX12_asks_112 ?_
                        refine fr_iload h 7 rfl dX12_asks_113 ?_
                        refine fr_isub h dX12_asks_115 ?_
                        refine fr_mmax h (by omega) (by omega) (tb_6 (i := 216) (by decide +kernel) (by decide +kernel)) w_mmax (by decide) (by decide) (Nat.le_of_ble_eq_true rfl) dX12_asks_116 (fun z59 w60 w61 w62 => ?_)
                        refine fr_istore (L' := [(0, vr G 0), (1, vi k), (2, vi z12), (3, vi l3_40), (4, vi l4_40), (5, vi l5_20), (6, vi l6_40), (7, vi l7_52), (8, vi z59)]) h dX12_asks_119 (by decide) [1, 2, 3, 4, 5, 6, 7, 8, 0] rfl ?_
                        refine fr_iload h 8 rfl dX12_asks_121 ?_
                        refine fr_iload h 4 rfl dX12_asks_123 ?_
                        refine fr_icmp_lt (tgt := 131) h dX12_asks_125 (by decide) (by omega) (by omega) (fun c63 => ?_) (fun c63 => ?_)
                        ·
                          refine fr_bipush h rfl dX12_asks_131 ?_
                          refine fr_iload h 5 rfl dX12_asks_133 ?_
                          refine fr_imul h dX12_asks_135 ?_
                          refine fr_iload h 6 rfl dX12_asks_136 ?_
                          refine fr_iadd h dX12_asks_138 ?_
                          refine fr_istore_n (L' := [(0, vr G 0), (1, vi k), (2, vi z12), (3, vi ((100 * l5_20) + l6_40)), (4, vi l4_40), (5, vi l5_20), (6, vi l6_40), (7, vi l7_52), (8, vi z59)]) h rfl dX12_asks_139 (by decide) [1, 2, 3, 0, 4, 5, 6, 7, 8] rfl ?_
                          refine fr_iload h 8 rfl dX12_asks_140 ?_
                          refine fr_istore (L' := [(0, vr G 0), (1, vi k), (2, vi z12), (3, vi ((100 * l5_20) + l6_40)), (4, vi z59), (5, vi l5_20), (6, vi l6_40), (7, vi l7_52), (8, vi z59)]) h dX12_asks_142 (by decide) [1, 2, 3, 4, 0, 5, 6, 7, 8] rfl ?_
                          refine fr_iinc (j := 6) (L' := [(0, vr G 0), (1, vi k), (2, vi z12), (3, vi ((100 * l5_20) + l6_40)), (4, vi z59), (5, vi l5_20), (6, vi (l6_40 + 1)), (7, vi l7_52), (8, vi z59)]) h dX12_asks_144 rfl (by decide) [1, 2, 3, 4, 5, 6, 0, 7, 8] rfl ?_
                          refine fr_goto (tgt := 46) h dX12_asks_147 (by decide) ?_
                          refine fr_sub (L' := [(0, vr G 0), (1, vi k), (2, vi z12), (3, vi ((100 * l5_20) + l6_40)), (4, vi z59), (5, vi l5_20), (6, vi (l6_40 + 1))]) [0, 1, 2, 3, 4, 5, 6] rfl ?_
                          exact ih40 ((100 * l5_20) + l6_40) z59 (l6_40 + 1) (by omega) (by omega) (by omega) (by omega) (by omega) (by omega) (by omega) (by omega) (by omega) (by omega)
                        ·
                          refine fr_goto (tgt := 144) h dX12_asks_128 (by decide) ?_
                          refine fr_iinc (j := 6) (L' := [(0, vr G 0), (1, vi k), (2, vi z12), (3, vi l3_40), (4, vi l4_40), (5, vi l5_20), (6, vi (l6_40 + 1)), (7, vi l7_52), (8, vi z59)]) h dX12_asks_144 rfl (by decide) [1, 2, 3, 4, 5, 6, 0, 7, 8] rfl ?_
                          refine fr_goto (tgt := 46) h dX12_asks_147 (by decide) ?_
                          refine fr_sub (L' := [(0, vr G 0), (1, vi k), (2, vi z12), (3, vi l3_40), (4, vi l4_40), (5, vi l5_20), (6, vi (l6_40 + 1))]) [0, 1, 2, 3, 4, 5, 6] rfl ?_
                          exact ih40 l3_40 l4_40 (l6_40 + 1) (by omega) (by omega) (by omega) (by omega) (by omega) (by omega) (by omega) (by omega) (by omega) (by omega)
                      ·
                        refine fr_iload h 7 rfl dX12_asks_71 ?_
                        refine fr_aload_n h rfl 0 rfl dX12_asks_73 ?_
                        refine fr_getc (z := 25) (iz := 38) h kX12 fX12_84 at_0M rfl rfl rfM_38 (by omega) dX12_asks_74 ?_
                        refine fr_iload h 8 rfl dX12_asks_77 ?_
                        refine fr_zald h arM_25 (by omega) (by omega) (rrM_25 l8_52) dX12_asks_79 (fun z64 w65 w66 q67 => ?_)
                        have r68 := (fm_rd_k (a := 25) (b := l8_52) m2 (by omega))
                        refine fr_if_eq (tgt := 100) h dX12_asks_80 (by decide) (by omega) (fun c69 => ?_) (fun c69 => ?_)
                        ·
                          refine fr_iconst h dX12_asks_100 ?_
                          refine fr_iadd h dX12_asks_101 ?_
                          refine fr_istore (L' := [(0, vr G 0), (1, vi k), (2, vi z12), (3, vi l3_40), (4, vi l4_40), (5, vi l5_20), (6, vi l6_40), (7, vi (l7_52 + 0)), (8, vi l8_52)]) h dX12_asks_102 (by decide) [1, 2, 3, 4, 5, 6, 7, 0, 8] rfl ?_
                          refine fr_iinc (j := 8) (L' := [(0, vr G 0), (1, vi k), (2, vi z12), (3, vi l3_40), (4, vi l4_40), (5, vi l5_20), (6, vi l6_40), (7, vi (l7_52 + 0)), (8, vi (l8_52 + 1))]) h dX12_asks_104 rfl (by decide) [1, 2, 3, 4, 5, 6, 7, 8, 0] rfl ?_
                          refine fr_goto (tgt := 62) h dX12_asks_107 (by decide) ?_
                          exact ih52 (l7_52 + 0) (l8_52 + 1) (by omega) (by omega) (by omega) (by omega) (by omega) (by omega) (by omega) (by omega)
                        ·
                          refine fr_aload_n h rfl 0 rfl dX12_asks_83 ?_
                          refine fr_iload h 8 rfl dX12_asks_84 ?_
                          refine fr_iload h 5 rfl dX12_asks_86 ?_
                          refine fr_iload h 6 rfl dX12_asks_88 ?_
                          refine fr_cvI h kX12 at_0M wX12_isSo lX12_351 (c_X12_isSo x11 l8_52 l5_20 l6_40 (by omega) (by omega) (by omega) (by omega) (by omega)) rfl (by decide) (by decide) rfl (Nat.le_of_ble_eq_true rfl) dX12_asks_90 (fun z71 x70 w72 p73 => ?_)
                          obtain ⟨p74, y75⟩ := p73
                          rw [y75]
                          clear y75
                          refine fr_if_eq (tgt := 100) h dX12_asks_93 (by decide) (by omega) (fun c76 => ?_) (fun c76 => ?_)
                          ·
                            refine fr_iconst h dX12_asks_100 ?_
                            refine fr_iadd h dX12_asks_101 ?_
                            refine fr_istore (L' := [(0, vr G 0), (1, vi k), (2, vi z12), (3, vi l3_40), (4, vi l4_40), (5, vi l5_20), (6, vi l6_40), (7, vi (l7_52 + 0)), (8, vi l8_52)]) h dX12_asks_102 (by decide) [1, 2, 3, 4, 5, 6, 7, 0, 8] rfl ?_
                            refine fr_iinc (j := 8) (L' := [(0, vr G 0), (1, vi k), (2, vi z12), (3, vi l3_40), (4, vi l4_40), (5, vi l5_20), (6, vi l6_40), (7, vi (l7_52 + 0)), (8, vi (l8_52 + 1))]) h dX12_asks_104 rfl (by decide) [1, 2, 3, 4, 5, 6, 7, 8, 0] rfl ?_
                            refine fr_goto (tgt := 62) h dX12_asks_107 (by decide) ?_
                            exact ih52 (l7_52 + 0) (l8_52 + 1) (by omega) (by omega) (by omega) (by omega) (by omega) (by omega) (by omega) (by omega)
                          ·
                            refine fr_iconst h dX12_asks_96 ?_
                            refine fr_goto (tgt := 101) h dX12_asks_97 (by decide) ?_
                            refine fr_iadd h dX12_asks_101 ?_
                            refine fr_istore (L' := [(0, vr G 0), (1, vi k), (2, vi z12), (3, vi l3_40), (4, vi l4_40), (5, vi l5_20), (6, vi l6_40), (7, vi (l7_52 + 1)), (8, vi l8_52)]) h dX12_asks_102 (by decide) [1, 2, 3, 4, 5, 6, 7, 0, 8] rfl ?_
                            refine fr_iinc (j := 8) (L' := [(0, vr G 0), (1, vi k), (2, vi z12), (3, vi l3_40), (4, vi l4_40), (5, vi l5_20), (6, vi l6_40), (7, vi (l7_52 + 1)), (8, vi (l8_52 + 1))]) h dX12_asks_104 rfl (by decide) [1, 2, 3, 4, 5, 6, 7, 8, 0] rfl ?_
                            refine fr_goto (tgt := 62) h dX12_asks_107 (by decide) ?_
                            exact ih52 (l7_52 + 1) (l8_52 + 1) (by omega) (by omega) (by omega) (by omega) (by omega) (by omega) (by omega) (by omega)
                  exact HL52 ((1300 - 0) + 1 : Int).toNat 0 0 (by omega) (by omega) (by omega) (by omega) (by omega) (by omega) (by omega) (by omega)
            exact HL40 ((31 - 0) + 1 : Int).toNat l3_20 l4_20 0 (by omega) (by omega) (by omega) (by omega) (by omega) (by omega) (by omega) (by omega) (by omega) (by omega)
      exact HL20 ((5 - 0) + 1 : Int).toNat (-1) 1000000 0 (by omega) (by omega) (by omega) (by omega) (by omega) (by omega) (by omega) (by omega) (by omega) (by omega)
    ·
      refine fr_bipush h rfl dX12_asks_24 ?_
      have r77 := (f18 5 (by decide) (by decide) (by decide) (by decide) (by decide) (by decide) (by decide))
      have r78 := r77.trans (fm_rd_s m2)
      have r79 := (f18 12 (by decide) (by decide) (by decide) (by decide) (by decide) (by decide) (by decide))
      have r80 := r79.trans (fm_rd_i (a := 0) (b := 12) m2 (by decide))
      exact fr_iret h hq (by omega) ⟨(by omega), ⟨(by rw [show x11 1 = x1 1 from (f17 1 (by omega) (by omega) (by omega) (by omega))]; exact (by rw [show x1 1 = x 1 from (fm_up_row m2 (by omega))]; exact e0.1)), (by rw [show x11 8 = x 8 from ((f17 8 (by omega) (by omega) (by omega) (by omega)).trans (fm_up_row m2 (by omega)))]; exact e0.2.1), (by rw [show x11 26 = x 26 from ((f17 26 (by omega) (by omega) (by omega) (by omega)).trans (fm_up_row m2 (by omega)))]; exact e0.2.2.1), (by have := e0.2.2.2; omega)⟩, (fun a k0 k1 k2 k3 k4 => ((f17 a (by omega) (by omega) (by omega) (by omega)).trans (fm_up_row m2 (by omega)))), (fun i k0 k1 k2 k3 k4 k5 k6 k7 k8 => ((f18 i (by omega) (by omega) (by omega) (by omega) (by omega) (by omega) (by omega)).trans (fm_rd_i (a := 0) (b := i) m2 (by omega))))⟩ dX12_asks_26
  ·
    refine fr_iconst h dX12_asks_12 ?_
    have r81 := (fm_rd_s m2)
    have r82 := (fm_rd_i (a := 0) (b := 12) m2 (by decide))
    exact fr_iret h hq (by omega) ⟨(by omega), ⟨(by rw [show x1 1 = x 1 from (fm_up_row m2 (by omega))]; exact e0.1), (by rw [show x1 8 = x 8 from (fm_up_row m2 (by omega))]; exact e0.2.1), (by rw [show x1 26 = x 26 from (fm_up_row m2 (by omega))]; exact e0.2.2.1), (by have := e0.2.2.2; omega)⟩, (fun a k0 k1 k2 k3 k4 => (fm_up_row m2 (by omega))), (fun i k0 k1 k2 k3 k4 k5 k6 k7 k8 => (fm_rd_i (a := 0) (b := i) m2 (by omega)))⟩ dX12_asks_13
