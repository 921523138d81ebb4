set_option maxHeartbeats 200000 in
theorem c_X12_sign (x : Mm) (v : Int) (h_v : fm_r v) : CnI YM yX12_sign cX12_sign 3 .int 0 0 (fun G => [vr G 0, vi v]) x (fun z y' => (x 0 2 ≤ 76 → z = x 0 2 + 4 ∧ y' 0 2 = x 0 2 + 4) ∧ (76 < x 0 2 → z = (-1) ∧ y' 0 2 = x 0 2) ∧ (y' 0 5 = 0) ∧ (∀ a : Int, (a < 0 ∨ 0 < a) → (a < 2 ∨ 2 < a) → y' a = x a) ∧ (∀ i : Int, i ≠ 2 → i ≠ 5 → y' 0 i = x 0 i)) := by
  refine cn_I (by decide) (fun _ => Nat.le_of_ble_eq_true rfl) (fun G C h hq => ?_)
  have h : OK YM G C cX12_sign RX12 3 (some .int) 0 0 := h
  show FW YM G C 3 x 0 [(0, vr G 0), (1, vi v)] []
  refine fr_aload_n h rfl 0 rfl dX12_sign_0 ?_
  refine fr_iconst h dX12_sign_1 ?_
  refine fr_puti (iz := 5) h kX12 fX12_94 at_0M rfl rfl (by decide) (by decide) rfl (by decide +kernel) rfM_5 (by omega) (by omega) dX12_sign_2 ?_
  refine fr_mem (fun x1 m2 => ?_)
  refine fr_aload_n h rfl 0 rfl dX12_sign_5 ?_
  refine fr_geti (iz := 2) h kX12 fX12_109 at_0M rfl rfl (by decide) (by decide) rfM_2 dX12_sign_6 (fun z3 w4 w5 q6 => ?_)
  have r7 := q6.trans (fm_rd_i (a := 0) (b := 2) m2 (by decide))
  refine fr_iconst h dX12_sign_9 ?_
  refine fr_iadd h dX12_sign_10 ?_
  refine fr_bipush h rfl dX12_sign_11 ?_
  refine fr_icmp_le (tgt := 18) h dX12_sign_13 (by decide) (by omega) (by omega) (fun c8 => ?_) (fun c8 => ?_)
  ·
    refine fr_iconst h dX12_sign_18 ?_
    refine fr_istore_n (L' := [(0, vr G 0), (1, vi v), (2, vi 3)]) h rfl dX12_sign_19 (by decide) [1, 2, 0] rfl ?_
    have HL9 : ∀ (n9 : Nat) (l2_9 : Int) (x_9 : Mm), fm_r l2_9 → (-1) ≤ l2_9 → l2_9 ≤ 3 → x 0 2 ≤ 76 → x_9 0 2 + l2_9 = x 0 2 + 3 → (∀ a : Int, (a < 0 ∨ 0 < a) → (a < 2 ∨ 2 < a) → x_9 a = x1 a) → (∀ i : Int, i ≠ 2 → x_9 0 i = x1 0 i) → (l2_9 + 1) < n9 → FW YM G C 3 x_9 20 [(0, vr G 0), (1, vi v), (2, vi l2_9)] [] := by
      intro n9
      induction n9 with
      | zero =>
        intro l2_9 x_9 g9_0 g9_1 g9_2 g9_3 g9_4 g9_5 g9_6 g9_7
        exfalso; omega
      | succ n9 ih9 =>
        intro l2_9 x_9 g9_0 g9_1 g9_2 g9_3 g9_4 g9_5 g9_6 g9_7
        refine fr_iload_n h rfl 2 rfl dX12_sign_20 ?_
        refine fr_if_lt (tgt := 53) h dX12_sign_21 (by decide) (by omega) (fun c10 => ?_) (fun c10 => ?_)
        ·
          refine fr_aload_n h rfl 0 rfl dX12_sign_53 ?_
          refine fr_geti (iz := 2) h kX12 fX12_109 at_0M rfl rfl (by decide) (by decide) rfM_2 dX12_sign_54 (fun z11 w12 w13 q14 => ?_)
          have r15 := (fm_rd_i (a := 0) (b := 2) m2 (by decide))
          have r16 := (fm_rd_i (a := 0) (b := 2) m2 (by decide))
          have r17 := (fm_rd_i (a := 0) (b := 2) m2 (by decide))
          have r18 := (g9_6 5 (by decide))
          have r19 := r18.trans (fm_rd_s m2)
          exact fr_iret h hq (by omega) ⟨(by omega), (by omega), (by omega), (fun a k0 k1 => ((g9_5 a (by omega) (by omega)).trans (fm_up_row m2 (by omega)))), (fun i k0 k1 => ((g9_6 i (by omega)).trans (fm_rd_i (a := 0) (b := i) m2 (by omega))))⟩ dX12_sign_57
        ·
          refine fr_aload_n h rfl 0 rfl dX12_sign_24 ?_
          refine fr_getc (z := 2) (iz := 1) h kX12 fX12_13 at_0M rfl rfl rfM_1 (by omega) dX12_sign_25 ?_
          refine fr_aload_n h rfl 0 rfl dX12_sign_28 ?_
          refine fr_dup h rfl dX12_sign_29 ?_
          refine fr_geti (iz := 2) h kX12 fX12_109 at_0M rfl rfl (by decide) (by decide) rfM_2 dX12_sign_30 (fun z20 w21 w22 q23 => ?_)
          have r24 := (fm_rd_i (a := 0) (b := 2) m2 (by decide))
          refine fr_dup_x1 h rfl rfl dX12_sign_33 ?_
          refine fr_iconst h dX12_sign_34 ?_
          refine fr_iadd h dX12_sign_35 ?_
          refine fr_puti (iz := 2) h kX12 fX12_109 at_0M rfl rfl (by decide) (by decide) rfl (by decide +kernel) rfM_2 (by omega) (by omega) dX12_sign_36 ?_
          refine fr_mem (fun x25 m26 => ?_)
          refine fr_iload_n h rfl 1 rfl dX12_sign_39 ?_
          refine fr_bipush h rfl dX12_sign_40 ?_
          refine fr_iload_n h rfl 2 rfl dX12_sign_42 ?_
          refine fr_imul h dX12_sign_43 ?_
          refine fr_ishr h dX12_sign_44 (fun z27 w28 q29 w30 => ?_)
          refine fr_i2b h dX12_sign_45 (fun z31 w32 q33 w34 => ?_)
          refine fr_bast h (RB_a (Or.inl ⟨rfl, rfl⟩)) (by omega) (by omega) (RB_r (Or.inl ⟨rfl, rfl⟩) z20) (by omega) (by omega) (by omega) dX12_sign_46 ?_
          refine fr_mem (fun x35 m36 => ?_)
          refine fr_iinc (j := 2) (L' := [(0, vr G 0), (1, vi v), (2, vi (l2_9 + (-1)))]) h dX12_sign_47 rfl (by decide) [1, 2, 0] rfl ?_
          refine fr_goto (tgt := 20) h dX12_sign_50 (by decide) ?_
          have r37 := (fm_rd_k (a := 0) (b := 2) m36 (by omega))
          have r38 := r37.trans (fm_rd_s m26)
          exact ih9 (l2_9 + (-1)) x35 (by omega) (by omega) (by omega) (by omega) (by omega) (fun a k0 k1 => ((fm_up_row m36 (by omega)).trans ((fm_up_row m26 (by omega)).trans (g9_5 a (by omega) (by omega))))) (fun i k0 => ((fm_rd_k (a := 0) (b := i) m36 (by omega)).trans ((fm_rd_i (a := 0) (b := i) m26 (by omega)).trans (g9_6 i (by omega))))) (by omega)
    have r39 := (fm_rd_i (a := 0) (b := 2) m2 (by decide))
    exact HL9 ((3 + 1) + 1 : Int).toNat 3 x1 (by omega) (by omega) (by omega) (by omega) (by omega) (fun a _ _ => rfl) (fun i _ => rfl) (by omega)
  ·
    refine fr_iconst h dX12_sign_16 ?_
    have r40 := (fm_rd_i (a := 0) (b := 2) m2 (by decide))
    have r41 := (fm_rd_i (a := 0) (b := 2) m2 (by decide))
    have r42 := (fm_rd_s m2)
    exact fr_iret h hq (by omega) ⟨(by omega), (by omega), (by omega), (fun a k0 k1 => (fm_up_row m2 (by omega))), (fun i k0 k1 => (fm_rd_i (a := 0) (b := i) m2 (by omega)))⟩ dX12_sign_17
set_option maxHeartbeats 200000 in
theorem c_X12_end (x : Mm) (n : Int) (h_n : fm_r n) : CnI YM yX12_end cX12_end 2 .boolean 1 22 (fun G => [vr G 0, vi n]) x (fun z y' => (z = 0 ∨ z = 1) ∧ ((z = 1 ↔ 0 ≤ n ∧ n ≤ x 0 2)) ∧ (z = 1 → y' 0 2 = n) ∧ (z = 0 → y' 0 2 = x 0 2) ∧ (y' 0 5 = 0) ∧ (∀ a : Int, (a < 0 ∨ 0 < a) → y' a = x a) ∧ (∀ i : Int, i ≠ 2 → i ≠ 5 → y' 0 i = x 0 i)) := by
  refine cn_I (by decide) (fun _ => Nat.le_of_ble_eq_true rfl) (fun G C h hq => ?_)
  have h : OK YM G C cX12_end RX12 2 (some .boolean) 1 22 := h
  show FW YM G C 2 x 0 [(0, vr G 0), (1, vi n)] []
  refine fr_aload_n h rfl 0 rfl dX12_end_0 ?_
  refine fr_iconst h dX12_end_1 ?_
  refine fr_puti (iz := 5) h kX12 fX12_94 at_0M rfl rfl (by decide) (by decide) rfl (by decide +kernel) rfM_5 (by omega) (by omega) dX12_end_2 ?_
  refine fr_mem (fun x1 m2 => ?_)
  refine fr_iload_n h rfl 1 rfl dX12_end_5 ?_
  refine fr_iconst h dX12_end_6 ?_
  refine fr_aload_n h rfl 0 rfl dX12_end_7 ?_
  refine fr_geti (iz := 2) h kX12 fX12_109 at_0M rfl rfl (by decide) (by decide) rfM_2 dX12_end_8 (fun z3 w4 w5 q6 => ?_)
  have r7 := q6.trans (fm_rd_i (a := 0) (b := 2) m2 (by decide))
  refine fr_csI h wX12_in lX12_101 (c_X12_in x1 n 0 z3 (by omega) (by omega) (by omega)) rfl (by decide) (by decide) rfl (Nat.le_of_ble_eq_true rfl) dX12_end_11 (fun z9 x8 w10 p11 => ?_)
  obtain ⟨p12, p13, y14⟩ := p11
  rw [y14]
  clear y14
  refine fr_if_ne (tgt := 19) h dX12_end_14 (by decide) (by omega) (fun c15 => ?_) (fun c15 => ?_)
  ·
    refine fr_aload_n h rfl 0 rfl dX12_end_19 ?_
    refine fr_iload_n h rfl 1 rfl dX12_end_20 ?_
    refine fr_puti (iz := 2) h kX12 fX12_109 at_0M rfl rfl (by decide) (by decide) rfl (by decide +kernel) rfM_2 (by omega) (by omega) dX12_end_21 ?_
    refine fr_mem (fun x16 m17 => ?_)
    refine fr_iconst h dX12_end_24 ?_
    have r18 := (fm_rd_s m17)
    have r19 := (fm_rd_s m17)
    have r20 := (fm_rd_i (a := 0) (b := 5) m17 (by decide))
    have r21 := r20.trans (fm_rd_s m2)
    exact fr_zret h rfl hq (by omega) ⟨(by omega), (by omega), (by omega), (by omega), (by omega), (fun a k0 => ((fm_up_row m17 (by omega)).trans (fm_up_row m2 (by omega)))), (fun i k0 k1 => ((fm_rd_i (a := 0) (b := i) m17 (by omega)).trans (fm_rd_i (a := 0) (b := i) m2 (by omega))))⟩ dX12_end_25
  ·
    refine fr_iconst h dX12_end_17 ?_
    have r22 := (fm_rd_i (a := 0) (b := 2) m2 (by decide))
    have r23 := (fm_rd_i (a := 0) (b := 2) m2 (by decide))
    have r24 := (fm_rd_s m2)
    exact fr_zret h rfl hq (by omega) ⟨(by omega), (by omega), (by omega), (by omega), (by omega), (fun a k0 => (fm_up_row m2 (by omega))), (fun i k0 k1 => (fm_rd_i (a := 0) (b := i) m2 (by omega)))⟩ dX12_end_18
set_option maxHeartbeats 200000 in
theorem c_X12_begin (x : Mm) (rb : Int) (rn : Nat) (hrb : RBN rb rn) (u : Int) (v : Int) (h_u : fm_r u) (h_v : fm_r v) (e0 : 0 ≤ u) (e1 : u ≤ 80) (e2 : 0 ≤ v) (e3 : v ≤ rn) : CnV YM yX12_begin cX12_begin 4 0 0 (fun G => [vr G 0, vr G rb, vi u, vi v]) x (fun y' => (y' 0 6 = rb) ∧ (y' 0 7 = u) ∧ (y' 0 8 = v) ∧ (y' 0 9 = 0) ∧ (y' 0 10 = (-1)) ∧ (∀ a : Int, (a < 0 ∨ 0 < a) → y' a = x a) ∧ (∀ i : Int, i ≠ 6 → i ≠ 7 → i ≠ 8 → i ≠ 9 → i ≠ 10 → y' 0 i = x 0 i)) := by
  refine cn_V (by decide) (fun _ => Nat.le_of_ble_eq_true rfl) (fun G C h hq => ?_)
  have h : OK YM G C cX12_begin RX12 4 none 0 0 := h
  show FW YM G C 4 x 0 [(0, vr G 0), (1, vr G rb), (2, vi u), (3, vi v)] []
  have h_rb := RBN_b hrb
  refine fr_aload_n h rfl 0 rfl dX12_begin_0 ?_
  refine fr_aload_n h rfl 1 rfl dX12_begin_1 ?_
  refine fr_putr (tf := (.array .byte)) (iz := 6) h kX12 fX12_112 at_0M rfl rfl rfl (by decide +kernel) (fun _ => rfl) (fun _ => rfl) rfM_6 (by omega) (by omega) (by omega) dX12_begin_2 ?_
  refine fr_mem (fun x1 m2 => ?_)
  refine fr_aload_n h rfl 0 rfl dX12_begin_5 ?_
  refine fr_iload_n h rfl 2 rfl dX12_begin_6 ?_
  refine fr_puti (iz := 7) h kX12 fX12_115 at_0M rfl rfl (by decide) (by decide) rfl (by decide +kernel) rfM_7 (by omega) (by omega) dX12_begin_7 ?_
  refine fr_mem (fun x3 m4 => ?_)
  refine fr_aload_n h rfl 0 rfl dX12_begin_10 ?_
  refine fr_iload_n h rfl 3 rfl dX12_begin_11 ?_
  refine fr_puti (iz := 8) h kX12 fX12_118 at_0M rfl rfl (by decide) (by decide) rfl (by decide +kernel) rfM_8 (by omega) (by omega) dX12_begin_12 ?_
  refine fr_mem (fun x5 m6 => ?_)
  refine fr_aload_n h rfl 0 rfl dX12_begin_15 ?_
  refine fr_iconst h dX12_begin_16 ?_
  refine fr_puti (iz := 9) h kX12 fX12_121 at_0M rfl rfl (by decide) (by decide) rfl (by decide +kernel) rfM_9 (by omega) (by omega) dX12_begin_17 ?_
  refine fr_mem (fun x7 m8 => ?_)
  refine fr_aload_n h rfl 0 rfl dX12_begin_20 ?_
  refine fr_iconst h dX12_begin_21 ?_
  refine fr_puti (iz := 10) h kX12 fX12_124 at_0M rfl rfl (by decide) (by decide) rfl (by decide +kernel) rfM_10 (by omega) (by omega) dX12_begin_22 ?_
  refine fr_mem (fun x9 m10 => ?_)
  have r11 := (fm_rd_i (a := 0) (b := 6) m10 (by decide))
  have r12 := r11.trans (fm_rd_i (a := 0) (b := 6) m8 (by decide))
  have r13 := r12.trans (fm_rd_i (a := 0) (b := 6) m6 (by decide))
  have r14 := r13.trans (fm_rd_i (a := 0) (b := 6) m4 (by decide))
  have r15 := r14.trans (fm_rd_s m2)
  have r16 := (fm_rd_i (a := 0) (b := 7) m10 (by decide))
  have r17 := r16.trans (fm_rd_i (a := 0) (b := 7) m8 (by decide))
  have r18 := r17.trans (fm_rd_i (a := 0) (b := 7) m6 (by decide))
  have r19 := r18.trans (fm_rd_s m4)
  have r20 := (fm_rd_i (a := 0) (b := 8) m10 (by decide))
  have r21 := r20.trans (fm_rd_i (a := 0) (b := 8) m8 (by decide))
  have r22 := r21.trans (fm_rd_s m6)
  have r23 := (fm_rd_i (a := 0) (b := 9) m10 (by decide))
  have r24 := r23.trans (fm_rd_s m8)
  have r25 := (fm_rd_s m10)
  exact fr_vret h hq ⟨(by omega), (by omega), (by omega), (by omega), (by omega), (fun a k0 => ((fm_up_row m10 (by omega)).trans ((fm_up_row m8 (by omega)).trans ((fm_up_row m6 (by omega)).trans ((fm_up_row m4 (by omega)).trans (fm_up_row m2 (by omega))))))), (fun i k0 k1 k2 k3 k4 => ((fm_rd_i (a := 0) (b := i) m10 (by omega)).trans ((fm_rd_i (a := 0) (b := i) m8 (by omega)).trans ((fm_rd_i (a := 0) (b := i) m6 (by omega)).trans ((fm_rd_i (a := 0) (b := i) m4 (by omega)).trans (fm_rd_i (a := 0) (b := i) m2 (by omega)))))))⟩ dX12_begin_25
set_option maxHeartbeats 200000 in
theorem c_X12_beginText (x : Mm) (p : Int) (h_p : fm_r p) (e0 : 0 ≤ p) (e1 : p ≤ 80) : CnV YM yX12_beginText cX12_beginText 2 1 23 (fun G => [vr G 0, vi p]) x (fun y' => (y' 0 6 = 2) ∧ (y' 0 7 = x 0 2) ∧ (y' 0 8 = p) ∧ (y' 0 9 = 0) ∧ (y' 0 10 = (-1)) ∧ (y' 0 2 = 0) ∧ (∀ a : Int, (a < 0 ∨ 0 < a) → y' a = x a) ∧ (∀ i : Int, i ≠ 2 → i ≠ 6 → i ≠ 7 → i ≠ 8 → i ≠ 9 → i ≠ 10 → y' 0 i = x 0 i)) := by
  refine cn_V (by decide) (fun _ => Nat.le_of_ble_eq_true rfl) (fun G C h hq => ?_)
  have h : OK YM G C cX12_beginText RX12 2 none 1 23 := h
  show FW YM G C 2 x 0 [(0, vr G 0), (1, vi p)] []
  refine fr_aload_n h rfl 0 rfl dX12_beginText_0 ?_
  refine fr_aload_n h rfl 0 rfl dX12_beginText_1 ?_
  refine fr_getc (z := 2) (iz := 1) h kX12 fX12_13 at_0M rfl rfl rfM_1 (by omega) dX12_beginText_2 ?_
  refine fr_aload_n h rfl 0 rfl dX12_beginText_5 ?_
  refine fr_geti (iz := 2) h kX12 fX12_109 at_0M rfl rfl (by decide) (by decide) rfM_2 dX12_beginText_6 (fun z1 w2 w3 q4 => ?_)
  refine fr_iload_n h rfl 1 rfl dX12_beginText_9 ?_
  refine fr_cvV h kX12 at_0M wX12_begin lX12_127 (c_X12_begin x 2 80 (Or.inl ⟨rfl, rfl⟩) z1 p (by omega) (by omega) (by omega) (by omega) (by omega) (by omega)) rfl (by decide) (by decide) rfl (Nat.le_of_ble_eq_true rfl) dX12_beginText_10 (fun x5 p8 => ?_)
  obtain ⟨p9, p10, p11, p12, p13, f14, f15⟩ := p8
  refine fr_aload_n h rfl 0 rfl dX12_beginText_13 ?_
  refine fr_iconst h dX12_beginText_14 ?_
  refine fr_puti (iz := 2) h kX12 fX12_109 at_0M rfl rfl (by decide) (by decide) rfl (by decide +kernel) rfM_2 (by omega) (by omega) dX12_beginText_15 ?_
  refine fr_mem (fun x16 m17 => ?_)
  have r18 := (fm_rd_i (a := 0) (b := 6) m17 (by decide))
  have r19 := (fm_rd_i (a := 0) (b := 7) m17 (by decide))
  have r20 := (fm_rd_i (a := 0) (b := 8) m17 (by decide))
  have r21 := (fm_rd_i (a := 0) (b := 9) m17 (by decide))
  have r22 := (fm_rd_i (a := 0) (b := 10) m17 (by decide))
  have r23 := (fm_rd_s m17)
  exact fr_vret h hq ⟨(by omega), (by omega), (by omega), (by omega), (by omega), (by omega), (fun a k0 => ((fm_up_row m17 (by omega)).trans (f14 a (by omega)))), (fun i k0 k1 k2 k3 k4 k5 => ((fm_rd_i (a := 0) (b := i) m17 (by omega)).trans (f15 i (by omega) (by omega) (by omega) (by omega) (by omega))))⟩ dX12_beginText_18
set_option maxHeartbeats 200000 in
theorem c_X12_here (x : Mm) (e0 : ((x 0 6 = 2 ∧ x 0 8 ≤ 80) ∨ (x 0 6 = 5 ∧ x 0 8 ≤ 40) ∨ (x 0 6 = 6 ∧ x 0 8 ≤ 40)) ∧ x 0 9 ≤ x 0 8) : CnI YM yX12_here cX12_here 1 .int 0 0 (fun G => [vr G 0]) x (fun z y' => ((-1) ≤ z) ∧ (z ≤ 255) ∧ (0 ≤ z → x 0 9 < x 0 7 ∧ x 0 9 < x 0 8) ∧ (0 ≤ z → (0 ≤ x (x 0 6) (x 0 9) → z = x (x 0 6) (x 0 9)) ∧ (x (x 0 6) (x 0 9) < 0 → z = x (x 0 6) (x 0 9) + 256)) ∧ (y' = x)) := by
  refine cn_I (by decide) (fun _ => Nat.le_of_ble_eq_true rfl) (fun G C h hq => ?_)
  have h : OK YM G C cX12_here RX12 1 (some .int) 0 0 := h
  show FW YM G C 1 x 0 [(0, vr G 0)] []
  obtain ⟨rb, rn, hrb, er, et⟩ := RI_ex e0
  have h_rb := RBN_b hrb
  refine fr_aload_n h rfl 0 rfl dX12_here_0 ?_
  refine fr_geti (iz := 9) h kX12 fX12_121 at_0M rfl rfl (by decide) (by decide) rfM_9 dX12_here_1 (fun z1 w2 w3 q4 => ?_)
  subst q4
  refine fr_aload_n h rfl 0 rfl dX12_here_4 ?_
  refine fr_geti (iz := 7) h kX12 fX12_115 at_0M rfl rfl (by decide) (by decide) rfM_7 dX12_here_5 (fun z5 w6 w7 q8 => ?_)
  subst q8
  refine fr_icmp_ge (tgt := 38) h dX12_here_8 (by decide) (by omega) (by omega) (fun c9 => ?_) (fun c9 => ?_)
  ·
    refine fr_iconst h dX12_here_38 ?_
    exact fr_iret h hq (by omega) ⟨(by omega), (by omega), (by omega), (by omega), rfl⟩ dX12_here_39
  ·
    refine fr_aload_n h rfl 0 rfl dX12_here_11 ?_
    refine fr_geti (iz := 9) h kX12 fX12_121 at_0M rfl rfl (by decide) (by decide) rfM_9 dX12_here_12 (fun z10 w11 w12 q13 => ?_)
    subst q13
    refine fr_aload_n h rfl 0 rfl dX12_here_15 ?_
    refine fr_geti (iz := 8) h kX12 fX12_118 at_0M rfl rfl (by decide) (by decide) rfM_8 dX12_here_16 (fun z14 w15 w16 q17 => ?_)
    subst q17
    refine fr_icmp_ge (tgt := 38) h dX12_here_19 (by decide) (by omega) (by omega) (fun c18 => ?_) (fun c18 => ?_)
    ·
      refine fr_iconst h dX12_here_38 ?_
      exact fr_iret h hq (by omega) ⟨(by omega), (by omega), (by omega), (by omega), rfl⟩ dX12_here_39
    ·
      refine fr_aload_n h rfl 0 rfl dX12_here_22 ?_
      refine fr_getr (z := rb) (iz := 6) h kX12 fX12_112 at_0M rfl rfl er (by omega) dX12_here_23 ?_
      refine fr_aload_n h rfl 0 rfl dX12_here_26 ?_
      refine fr_geti (iz := 9) h kX12 fX12_121 at_0M rfl rfl (by decide) (by decide) rfM_9 dX12_here_27 (fun z19 w20 w21 q22 => ?_)
      subst q22
      refine fr_bald h (RB_a hrb) (by omega) (by omega) (RB_r hrb (x 0 9)) dX12_here_30 (fun z23 w24 w25 q26 => ?_)
      refine fr_sipush h rfl dX12_here_31 ?_
      refine fr_iand h dX12_here_34 (fun z27 w28 q29 w30 => ?_)
      have w31 := w30 (by omega) (by omega)
      have w32 := b255 (by omega) w28 q29
      refine fr_goto (tgt := 39) h dX12_here_35 (by decide) ?_
      exact fr_iret h hq (by omega) ⟨(by omega), (by omega), (by omega), (by rw [er]; omega), rfl⟩ dX12_here_39
set_option maxHeartbeats 200000 in
theorem c_X12_fine (x : Mm) : CnI YM yX12_fine cX12_fine 1 .boolean 0 0 (fun G => [vr G 0]) x (fun z y' => (z = 0 ∨ z = 1) ∧ ((z = 1 ↔ x 0 10 = (-1))) ∧ (y' = x)) := by
  refine cn_I (by decide) (fun _ => Nat.le_of_ble_eq_true rfl) (fun G C h hq => ?_)
  have h : OK YM G C cX12_fine RX12 1 (some .boolean) 0 0 := h
  show FW YM G C 1 x 0 [(0, vr G 0)] []
  refine fr_aload_n h rfl 0 rfl dX12_fine_0 ?_
  refine fr_geti (iz := 10) h kX12 fX12_124 at_0M rfl rfl (by decide) (by decide) rfM_10 dX12_fine_1 (fun z1 w2 w3 q4 => ?_)
  refine fr_iconst h dX12_fine_4 ?_
  refine fr_icmp_ne (tgt := 12) h dX12_fine_5 (by decide) (by omega) (by omega) (fun c5 => ?_) (fun c5 => ?_)
  ·
    refine fr_iconst h dX12_fine_12 ?_
    exact fr_zret h rfl hq (by omega) ⟨(by omega), (by omega), rfl⟩ dX12_fine_13
  ·
    refine fr_iconst h dX12_fine_8 ?_
    refine fr_goto (tgt := 13) h dX12_fine_9 (by decide) ?_
    exact fr_zret h rfl hq (by omega) ⟨(by omega), (by omega), rfl⟩ dX12_fine_13
set_option maxHeartbeats 200000 in
theorem c_X12_fault (x : Mm) (p : Int) (h_p : fm_r p) (e0 : 0 ≤ p) (e1 : p ≤ 80) : CnV YM yX12_fault cX12_fault 2 1 20 (fun G => [vr G 0, vi p]) x (fun y' => (y' 0 10 ≠ (-1)) ∧ (∀ a : Int, (a < 0 ∨ 0 < a) → y' a = x a) ∧ (∀ i : Int, i ≠ 10 → y' 0 i = x 0 i)) := by
  refine cn_V (by decide) (fun _ => Nat.le_of_ble_eq_true rfl) (fun G C h hq => ?_)
  have h : OK YM G C cX12_fault RX12 2 none 1 20 := h
  show FW YM G C 2 x 0 [(0, vr G 0), (1, vi p)] []
  refine fr_aload_n h rfl 0 rfl dX12_fault_0 ?_
  refine fr_cvI h kX12 at_0M wX12_fine lX12_131 (c_X12_fine x) rfl (by decide) (by decide) rfl (Nat.le_of_ble_eq_true rfl) dX12_fault_1 (fun z2 x1 w3 p4 => ?_)
  obtain ⟨p5, p6, y7⟩ := p4
  rw [y7]
  clear y7
  refine fr_if_eq (tgt := 12) h dX12_fault_4 (by decide) (by omega) (fun c8 => ?_) (fun c8 => ?_)
  ·
    exact fr_vret h hq ⟨(by omega), (fun a _ => rfl), (fun i _ => rfl)⟩ dX12_fault_12
  ·
    refine fr_aload_n h rfl 0 rfl dX12_fault_7 ?_
    refine fr_iload_n h rfl 1 rfl dX12_fault_8 ?_
    refine fr_puti (iz := 10) h kX12 fX12_124 at_0M rfl rfl (by decide) (by decide) rfl (by decide +kernel) rfM_10 (by omega) (by omega) dX12_fault_9 ?_
    refine fr_mem (fun x9 m10 => ?_)
    have r11 := (fm_rd_s m10)
    exact fr_vret h hq ⟨(by omega), (fun a k0 => (fm_up_row m10 (by omega))), (fun i k0 => (fm_rd_i (a := 0) (b := i) m10 (by omega)))⟩ dX12_fault_12
set_option maxHeartbeats 200000 in
theorem c_X12_passes (x : Mm) (p : Int) (h_p : fm_r p) (e0 : ((x 0 6 = 2 ∧ x 0 8 ≤ 80) ∨ (x 0 6 = 5 ∧ x 0 8 ≤ 40) ∨ (x 0 6 = 6 ∧ x 0 8 ≤ 40)) ∧ x 0 9 ≤ x 0 8) (e1 : 0 ≤ p) (e2 : p ≤ 255) : CnI YM yX12_passes cX12_passes 2 .boolean 1 20 (fun G => [vr G 0, vi p]) x (fun z y' => (z = 0 ∨ z = 1) ∧ (z = 1 → y' 0 9 = x 0 9 + 1 ∧ x 0 9 < x 0 8 ∧ x 0 9 < x 0 7 ∧ x 0 10 = (-1)) ∧ (z = 0 → y' 0 9 = x 0 9) ∧ (∀ a : Int, (a < 0 ∨ 0 < a) → y' a = x a) ∧ (∀ i : Int, i ≠ 9 → y' 0 i = x 0 i)) := by
  refine cn_I (by decide) (fun _ => Nat.le_of_ble_eq_true rfl) (fun G C h hq => ?_)
  have h : OK YM G C cX12_passes RX12 2 (some .boolean) 1 20 := h
  show FW YM G C 2 x 0 [(0, vr G 0), (1, vi p)] []
  refine fr_aload_n h rfl 0 rfl dX12_passes_0 ?_
  refine fr_cvI h kX12 at_0M wX12_fine lX12_131 (c_X12_fine x) rfl (by decide) (by decide) rfl (Nat.le_of_ble_eq_true rfl) dX12_passes_1 (fun z2 x1 w3 p4 => ?_)
  obtain ⟨p5, p6, y7⟩ := p4
  rw [y7]
  clear y7
  refine fr_if_eq (tgt := 15) h dX12_passes_4 (by decide) (by omega) (fun c8 => ?_) (fun c8 => ?_)
  ·
    refine fr_iconst h dX12_passes_15 ?_
    exact fr_zret h rfl hq (by omega) ⟨(by omega), (by omega), (by omega), (fun a _ => rfl), (fun i _ => rfl)⟩ dX12_passes_16
  ·
    refine fr_aload_n h rfl 0 rfl dX12_passes_7 ?_
    refine fr_cvI h kX12 at_0M wX12_here lX12_135 (c_X12_here x (by omega)) rfl (by decide) (by decide) rfl (Nat.le_of_ble_eq_true rfl) dX12_passes_8 (fun z10 x9 w11 p12 => ?_)
    obtain ⟨p13, p14, p15, p16, y17⟩ := p12
    rw [y17]
    clear y17
    refine fr_iload_n h rfl 1 rfl dX12_passes_11 ?_
    refine fr_icmp_eq (tgt := 17) h dX12_passes_12 (by decide) (by omega) (by omega) (fun c18 => ?_) (fun c18 => ?_)
    ·
      refine fr_aload_n h rfl 0 rfl dX12_passes_17 ?_
      refine fr_dup h rfl dX12_passes_18 ?_
      refine fr_geti (iz := 9) h kX12 fX12_121 at_0M rfl rfl (by decide) (by decide) rfM_9 dX12_passes_19 (fun z19 w20 w21 q22 => ?_)
      refine fr_iconst h dX12_passes_22 ?_
      refine fr_iadd h dX12_passes_23 ?_
      refine fr_puti (iz := 9) h kX12 fX12_121 at_0M rfl rfl (by decide) (by decide) rfl (by decide +kernel) rfM_9 (by omega) (by omega) dX12_passes_24 ?_
      refine fr_mem (fun x23 m24 => ?_)
      refine fr_iconst h dX12_passes_27 ?_
      have r25 := (fm_rd_s m24)
      have r26 := (fm_rd_s m24)
      exact fr_zret h rfl hq (by omega) ⟨(by omega), (by omega), (by omega), (fun a k0 => (fm_up_row m24 (by omega))), (fun i k0 => (fm_rd_i (a := 0) (b := i) m24 (by omega)))⟩ dX12_passes_28
    ·
      refine fr_iconst h dX12_passes_15 ?_
      exact fr_zret h rfl hq (by omega) ⟨(by omega), (by omega), (by omega), (fun a _ => rfl), (fun i _ => rfl)⟩ dX12_passes_16
set_option maxHeartbeats 200000 in
theorem c_X12_need (x : Mm) (p : Int) (h_p : fm_r p) (e0 : ((x 0 6 = 2 ∧ x 0 8 ≤ 80) ∨ (x 0 6 = 5 ∧ x 0 8 ≤ 40) ∨ (x 0 6 = 6 ∧ x 0 8 ≤ 40)) ∧ x 0 9 ≤ x 0 8) (e1 : 0 ≤ p) (e2 : p ≤ 255) : CnV YM yX12_need cX12_need 2 2 41 (fun G => [vr G 0, vi p]) x (fun y' => (x 0 9 ≤ y' 0 9) ∧ (y' 0 9 ≤ x 0 8) ∧ (∀ a : Int, (a < 0 ∨ 0 < a) → y' a = x a) ∧ (∀ i : Int, i ≠ 9 → i ≠ 10 → y' 0 i = x 0 i)) := by
  refine cn_V (by decide) (fun _ => Nat.le_of_ble_eq_true rfl) (fun G C h hq => ?_)
  have h : OK YM G C cX12_need RX12 2 none 2 41 := h
  show FW YM G C 2 x 0 [(0, vr G 0), (1, vi p)] []
  refine fr_aload_n h rfl 0 rfl dX12_need_0 ?_
  refine fr_iload_n h rfl 1 rfl dX12_need_1 ?_
  refine fr_cvI h kX12 at_0M wX12_passes lX12_139 (c_X12_passes x p (by omega) (by omega) (by omega) (by omega)) rfl (by decide) (by decide) rfl (Nat.le_of_ble_eq_true rfl) dX12_need_2 (fun z2 x1 w3 p4 => ?_)
  obtain ⟨p5, p6, p7, f8, f9⟩ := p4
  refine fr_if_ne (tgt := 16) h dX12_need_5 (by decide) (by omega) (fun c10 => ?_) (fun c10 => ?_)
  ·
    exact fr_vret h hq ⟨(by omega), (by omega), (fun a k0 => (f8 a (by omega))), (fun i k0 k1 => (f9 i (by omega)))⟩ dX12_need_16
  ·
    refine fr_aload_n h rfl 0 rfl dX12_need_8 ?_
    refine fr_aload_n h rfl 0 rfl dX12_need_9 ?_
    refine fr_geti (iz := 9) h kX12 fX12_121 at_0M rfl rfl (by decide) (by decide) rfM_9 dX12_need_10 (fun z11 w12 w13 q14 => ?_)
    refine fr_cvV h kX12 at_0M wX12_fault lX12_143 (c_X12_fault x1 z11 (by omega) (by omega) (by omega)) rfl (by decide) (by decide) rfl (Nat.le_of_ble_eq_true rfl) dX12_need_13 (fun x15 p18 => ?_)
    obtain ⟨p19, f20, f21⟩ := p18
    have r22 := (f21 9 (by decide))
    have r23 := (f21 9 (by decide))
    exact fr_vret h hq ⟨(by omega), (by omega), (fun a k0 => ((f20 a (by omega)).trans (f8 a (by omega)))), (fun i k0 k1 => ((f21 i (by omega)).trans (f9 i (by omega))))⟩ dX12_need_16
set_option maxHeartbeats 200000 in
theorem c_X12_oneOf (x : Mm) (p : Int) (w : Int) (h_p : fm_r p) (h_w : fm_r w) (e0 : ((x 0 6 = 2 ∧ x 0 8 ≤ 80) ∨ (x 0 6 = 5 ∧ x 0 8 ≤ 40) ∨ (x 0 6 = 6 ∧ x 0 8 ≤ 40)) ∧ x 0 9 ≤ x 0 8) (e1 : 0 ≤ p) (e2 : p ≤ 97) (e3 : 1 ≤ w) (e4 : w ≤ 12) : CnI YM yX12_oneOf cX12_oneOf 3 .int 2 41 (fun G => [vr G 0, vi p, vi w]) x (fun z y' => (0 ≤ z) ∧ (z < w) ∧ (x 0 9 ≤ y' 0 9) ∧ (y' 0 9 ≤ x 0 8) ∧ (x 0 10 ≠ (-1) → y' 0 10 ≠ (-1)) ∧ (∀ a : Int, (a < 0 ∨ 0 < a) → y' a = x a) ∧ (∀ i : Int, i ≠ 9 → i ≠ 10 → y' 0 i = x 0 i)) := by
  refine cn_I (by decide) (fun _ => Nat.le_of_ble_eq_true rfl) (fun G C h hq => ?_)
  have h : OK YM G C cX12_oneOf RX12 3 (some .int) 2 41 := h
  show FW YM G C 3 x 0 [(0, vr G 0), (1, vi p), (2, vi w)] []
  obtain ⟨rb, rn, hrb, er, et⟩ := RI_ex e0
  have h_rb := RBN_b hrb
  refine fr_aload_n h rfl 0 rfl dX12_oneOf_0 ?_
  refine fr_cvI h kX12 at_0M wX12_fine lX12_131 (c_X12_fine x) rfl (by decide) (by decide) rfl (Nat.le_of_ble_eq_true rfl) dX12_oneOf_1 (fun z2 x1 w3 p4 => ?_)
  obtain ⟨p5, p6, y7⟩ := p4
  rw [y7]
  clear y7
  refine fr_if_ne (tgt := 9) h dX12_oneOf_4 (by decide) (by omega) (fun c8 => ?_) (fun c8 => ?_)
  ·
    refine fr_aload_n h rfl 0 rfl dX12_oneOf_9 ?_
    refine fr_cvI h kX12 at_0M wX12_here lX12_135 (c_X12_here x (by omega)) rfl (by decide) (by decide) rfl (Nat.le_of_ble_eq_true rfl) dX12_oneOf_10 (fun z10 x9 w11 p12 => ?_)
    obtain ⟨p13, p14, p15, p16, y17⟩ := p12
    rw [y17]
    clear y17
    refine fr_iload_n h rfl 1 rfl dX12_oneOf_13 ?_
    refine fr_iload_n h rfl 1 rfl dX12_oneOf_14 ?_
    refine fr_iload_n h rfl 2 rfl dX12_oneOf_15 ?_
    refine fr_iadd h dX12_oneOf_16 ?_
    refine fr_iconst h dX12_oneOf_17 ?_
    refine fr_isub h dX12_oneOf_18 ?_
    refine fr_csI h wX12_in lX12_101 (c_X12_in x z10 p ((p + w) - 1) (by omega) (by omega) (by omega)) rfl (by decide) (by decide) rfl (Nat.le_of_ble_eq_true rfl) dX12_oneOf_19 (fun z19 x18 w20 p21 => ?_)
    obtain ⟨p22, p23, y24⟩ := p21
    rw [y24]
    clear y24
    refine fr_if_ne (tgt := 35) h dX12_oneOf_22 (by decide) (by omega) (fun c25 => ?_) (fun c25 => ?_)
    ·
      refine fr_aload_n h rfl 0 rfl dX12_oneOf_35 ?_
      refine fr_dup h rfl dX12_oneOf_36 ?_
      refine fr_geti (iz := 9) h kX12 fX12_121 at_0M rfl rfl (by decide) (by decide) rfM_9 dX12_oneOf_37 (fun z26 w27 w28 q29 => ?_)
      subst q29
      refine fr_iconst h dX12_oneOf_40 ?_
      refine fr_iadd h dX12_oneOf_41 ?_
      refine fr_puti (iz := 9) h kX12 fX12_121 at_0M rfl rfl (by decide) (by decide) rfl (by decide +kernel) rfM_9 (by omega) (by omega) dX12_oneOf_42 ?_
      refine fr_mem (fun x30 m31 => ?_)
      refine fr_aload_n h rfl 0 rfl dX12_oneOf_45 ?_
      refine fr_getr (z := rb) (iz := 6) h kX12 fX12_112 at_0M rfl rfl ((fm_rd_i (a := 0) (b := 6) m31 (by decide)).trans er) (by omega) dX12_oneOf_46 ?_
      refine fr_aload_n h rfl 0 rfl dX12_oneOf_49 ?_
      refine fr_geti (iz := 9) h kX12 fX12_121 at_0M rfl rfl (by decide) (by decide) rfM_9 dX12_oneOf_50 (fun z32 w33 w34 q35 => ?_)
      have r36 := q35.trans (fm_rd_s m31)
      subst q35
      refine fr_iconst h dX12_oneOf_53 ?_
      refine fr_isub h dX12_oneOf_54 ?_
      refine fr_bald h (RB_a hrb) (by omega) (by omega) (RB_r hrb ((x30 0 9) - 1)) dX12_oneOf_55 (fun z37 w38 w39 q40 => ?_)
      have kk : x30 rb (x30 0 9 - 1) = x rb (x 0 9) := (fm_rd_k m31 (by omega)).trans (by rw [show x30 0 9 - 1 = x 0 9 by omega])
      have er2 : x (x 0 6) (x 0 9) = x rb (x 0 9) := by rw [er]
      refine fr_iload_n h rfl 1 rfl dX12_oneOf_56 ?_
      refine fr_isub h dX12_oneOf_57 ?_
      have r41 := (fm_rd_s m31)
      have r42 := (fm_rd_s m31)
      have r43 := (fm_rd_i (a := 0) (b := 10) m31 (by decide))
      exact fr_iret h hq (by omega) ⟨(by omega), (by omega), (by omega), (by omega), (by omega), (fun a k0 => (fm_up_row m31 (by omega))), (fun i k0 k1 => (fm_rd_i (a := 0) (b := i) m31 (by omega)))⟩ dX12_oneOf_58
    ·
      refine fr_aload_n h rfl 0 rfl dX12_oneOf_25 ?_
      refine fr_aload_n h rfl 0 rfl dX12_oneOf_26 ?_
      refine fr_geti (iz := 9) h kX12 fX12_121 at_0M rfl rfl (by decide) (by decide) rfM_9 dX12_oneOf_27 (fun z44 w45 w46 q47 => ?_)
      subst q47
      refine fr_cvV h kX12 at_0M wX12_fault lX12_143 (c_X12_fault x (x 0 9) (by omega) (by omega) (by omega)) rfl (by decide) (by decide) rfl (Nat.le_of_ble_eq_true rfl) dX12_oneOf_30 (fun x48 p51 => ?_)
      obtain ⟨p52, f53, f54⟩ := p51
      refine fr_iconst h dX12_oneOf_33 ?_
      have r55 := (f54 9 (by decide))
      have r56 := (f54 9 (by decide))
      exact fr_iret h hq (by omega) ⟨(by omega), (by omega), (by omega), (by omega), (by omega), (fun a k0 => (f53 a (by omega))), (fun i k0 k1 => (f54 i (by omega)))⟩ dX12_oneOf_34
  ·
    refine fr_iconst h dX12_oneOf_7 ?_
    exact fr_iret h hq (by omega) ⟨(by omega), (by omega), (by omega), (by omega), (by omega), (fun a _ => rfl), (fun i _ _ => rfl)⟩ dX12_oneOf_8
set_option maxHeartbeats 200000 in
theorem c_X12_number (x : Mm) (p : Int) (h_p : fm_r p) (e0 : ((x 0 6 = 2 ∧ x 0 8 ≤ 80) ∨ (x 0 6 = 5 ∧ x 0 8 ≤ 40) ∨ (x 0 6 = 6 ∧ x 0 8 ≤ 40)) ∧ x 0 9 ≤ x 0 8) (e1 : 2 ≤ p) (e2 : p ≤ 3) : CnI YM yX12_number cX12_number 4 .int 3 63 (fun G => [vr G 0, vi p]) x (fun z y' => (0 ≤ z) ∧ (z ≤ 999) ∧ (p = 2 → z ≤ 99) ∧ (x 0 9 ≤ y' 0 9) ∧ (y' 0 9 ≤ x 0 8) ∧ (∀ a : Int, (a < 0 ∨ 0 < a) → y' a = x a) ∧ (∀ i : Int, i ≠ 9 → i ≠ 10 → y' 0 i = x 0 i)) := by
  refine cn_I (by decide) (fun _ => Nat.le_of_ble_eq_true rfl) (fun G C h hq => ?_)
  have h : OK YM G C cX12_number RX12 4 (some .int) 3 63 := h
  show FW YM G C 4 x 0 [(0, vr G 0), (1, vi p)] []
  refine fr_aload_n h rfl 0 rfl dX12_number_0 ?_
  refine fr_bipush h rfl dX12_number_1 ?_
  refine fr_bipush h rfl dX12_number_3 ?_
  refine fr_cvI h kX12 at_0M wX12_oneOf lX12_147 (c_X12_oneOf x 48 10 (by omega) (by omega) (by omega) (by omega) (by omega) (by omega) (by omega)) rfl (by decide) (by decide) rfl (Nat.le_of_ble_eq_true rfl) dX12_number_5 (fun z2 x1 w3 p4 => ?_)
  obtain ⟨p5, p6, p7, p8, p9, f10, f11⟩ := p4
  refine fr_istore_n (L' := [(0, vr G 0), (1, vi p), (2, vi z2)]) h rfl dX12_number_8 (by decide) [1, 2, 0] rfl ?_
  refine fr_iconst h dX12_number_9 ?_
  refine fr_istore_n (L' := [(0, vr G 0), (1, vi p), (2, vi z2), (3, vi 1)]) h rfl dX12_number_10 (by decide) [1, 2, 3, 0] rfl ?_
  have HL12 : ∀ (n12 : Nat) (l2_12 l3_12 : Int) (x_12 : Mm), fm_r l2_12 → 0 ≤ l2_12 → l2_12 ≤ 999 → fm_r l3_12 → 1 ≤ l3_12 → l3_12 ≤ 3 → 1 ≤ l3_12 → (l3_12 = 1 → l2_12 ≤ 9) → (l3_12 = 2 → l2_12 ≤ 99) → l3_12 ≤ p → x 0 9 ≤ x_12 0 9 → x_12 0 9 ≤ x 0 8 → (∀ a : Int, (a < 0 ∨ 0 < a) → x_12 a = x1 a) → (∀ i : Int, i ≠ 9 → i ≠ 10 → x_12 0 i = x1 0 i) → (3 - l3_12) < n12 → FW YM G C 4 x_12 11 [(0, vr G 0), (1, vi p), (2, vi l2_12), (3, vi l3_12)] [] := by
    intro n12
    induction n12 with
    | zero =>
      intro l2_12 l3_12 x_12 g12_0 g12_1 g12_2 g12_3 g12_4 g12_5 g12_6 g12_7 g12_8 g12_9 g12_10 g12_11 g12_12 g12_13 g12_14
      exfalso; omega
    | succ n12 ih12 =>
      intro l2_12 l3_12 x_12 g12_0 g12_1 g12_2 g12_3 g12_4 g12_5 g12_6 g12_7 g12_8 g12_9 g12_10 g12_11 g12_12 g12_13 g12_14
      refine fr_iload_n h rfl 3 rfl dX12_number_11 ?_
      refine fr_iload_n h rfl 1 rfl dX12_number_12 ?_
      refine fr_icmp_ge (tgt := 57) h dX12_number_13 (by decide) (by omega) (by omega) (fun c13 => ?_) (fun c13 => ?_)
      ·
        refine fr_iload_n h rfl 2 rfl dX12_number_57 ?_
        exact fr_iret h hq (by omega) ⟨(by omega), (by omega), (by omega), (by omega), (by omega), (fun a k0 => ((g12_12 a (by omega)).trans (f10 a (by omega)))), (fun i k0 k1 => ((g12_13 i (by omega) (by omega)).trans (f11 i (by omega) (by omega))))⟩ dX12_number_58
      ·
        refine fr_aload_n h rfl 0 rfl dX12_number_16 ?_
        refine fr_cvI h kX12 at_0M wX12_fine lX12_131 (c_X12_fine x_12) rfl (by decide) (by decide) rfl (Nat.le_of_ble_eq_true rfl) dX12_number_17 (fun z15 x14 w16 p17 => ?_)
        obtain ⟨p18, p19, y20⟩ := p17
        rw [y20]
        clear y20
        refine fr_if_eq (tgt := 57) h dX12_number_20 (by decide) (by omega) (fun c21 => ?_) (fun c21 => ?_)
        ·
          refine fr_iload_n h rfl 2 rfl dX12_number_57 ?_
          exact fr_iret h hq (by omega) ⟨(by omega), (by omega), (by omega), (by omega), (by omega), (fun a k0 => ((g12_12 a (by omega)).trans (f10 a (by omega)))), (fun i k0 k1 => ((g12_13 i (by omega) (by omega)).trans (f11 i (by omega) (by omega))))⟩ dX12_number_58
        ·
          refine fr_aload_n h rfl 0 rfl dX12_number_23 ?_
          have r22 := (g12_13 6 (by decide) (by decide))
          have r23 := r22.trans (f11 6 (by decide) (by decide))
          have r24 := (g12_13 8 (by decide) (by decide))
          have r25 := r24.trans (f11 8 (by decide) (by decide))
          have r26 := (g12_13 6 (by decide) (by decide))
          have r27 := r26.trans (f11 6 (by decide) (by decide))
          have r28 := (g12_13 8 (by decide) (by decide))
          have r29 := r28.trans (f11 8 (by decide) (by decide))
          have r30 := (g12_13 6 (by decide) (by decide))
          have r31 := r30.trans (f11 6 (by decide) (by decide))
          have r32 := (g12_13 8 (by decide) (by decide))
          have r33 := r32.trans (f11 8 (by decide) (by decide))
          have r34 := (g12_13 8 (by decide) (by decide))
          have r35 := r34.trans (f11 8 (by decide) (by decide))
          refine fr_cvI h kX12 at_0M wX12_here lX12_135 (c_X12_here x_12 (by omega)) rfl (by decide) (by decide) rfl (Nat.le_of_ble_eq_true rfl) dX12_number_24 (fun z37 x36 w38 p39 => ?_)
          obtain ⟨p40, p41, p42, p43, y44⟩ := p39
          rw [y44]
          clear y44
          refine fr_bipush h rfl dX12_number_27 ?_
          refine fr_bipush h rfl dX12_number_29 ?_
          refine fr_csI h wX12_in lX12_101 (c_X12_in x_12 z37 48 57 (by omega) (by omega) (by omega)) rfl (by decide) (by decide) rfl (Nat.le_of_ble_eq_true rfl) dX12_number_31 (fun z46 x45 w47 p48 => ?_)
          obtain ⟨p49, p50, y51⟩ := p48
          rw [y51]
          clear y51
          refine fr_if_eq (tgt := 57) h dX12_number_34 (by decide) (by omega) (fun c52 => ?_) (fun c52 => ?_)
          ·
            refine fr_iload_n h rfl 2 rfl dX12_number_57 ?_
            exact fr_iret h hq (by omega) ⟨(by omega), (by omega), (by omega), (by omega), (by omega), (fun a k0 => ((g12_12 a (by omega)).trans (f10 a (by omega)))), (fun i k0 k1 => ((g12_13 i (by omega) (by omega)).trans (f11 i (by omega) (by omega))))⟩ dX12_number_58
          ·
            refine fr_bipush h rfl dX12_number_37 ?_
            refine fr_iload_n h rfl 2 rfl dX12_number_39 ?_
            refine fr_imul h dX12_number_40 ?_
            refine fr_aload_n h rfl 0 rfl dX12_number_41 ?_
            refine fr_bipush h rfl dX12_number_42 ?_
            refine fr_bipush h rfl dX12_number_44 ?_
            have r53 := (g12_13 6 (by decide) (by decide))
            have r54 := r53.trans (f11 6 (by decide) (by decide))
            have r55 := (g12_13 8 (by decide) (by decide))
            have r56 := r55.trans (f11 8 (by decide) (by decide))
            have r57 := (g12_13 6 (by decide) (by decide))
            have r58 := r57.trans (f11 6 (by decide) (by decide))
            have r59 := (g12_13 8 (by decide) (by decide))
            have r60 := r59.trans (f11 8 (by decide) (by decide))
            have r61 := (g12_13 6 (by decide) (by decide))
            have r62 := r61.trans (f11 6 (by decide) (by decide))
            have r63 := (g12_13 8 (by decide) (by decide))
            have r64 := r63.trans (f11 8 (by decide) (by decide))
            have r65 := (g12_13 8 (by decide) (by decide))
            have r66 := r65.trans (f11 8 (by decide) (by decide))
            refine fr_cvI h kX12 at_0M wX12_oneOf lX12_147 (c_X12_oneOf x_12 48 10 (by omega) (by omega) (by omega) (by omega) (by omega) (by omega) (by omega)) rfl (by decide) (by decide) rfl (Nat.le_of_ble_eq_true rfl) dX12_number_46 (fun z68 x67 w69 p70 => ?_)
            obtain ⟨p71, p72, p73, p74, p75, f76, f77⟩ := p70
            refine fr_iadd h dX12_number_49 ?_
            refine fr_istore_n (L' := [(0, vr G 0), (1, vi p), (2, vi ((10 * l2_12) + z68)), (3, vi l3_12)]) h rfl dX12_number_50 (by decide) [1, 2, 0, 3] rfl ?_
            refine fr_iinc (j := 3) (L' := [(0, vr G 0), (1, vi p), (2, vi ((10 * l2_12) + z68)), (3, vi (l3_12 + 1))]) h dX12_number_51 rfl (by decide) [1, 2, 3, 0] rfl ?_
            refine fr_goto (tgt := 11) h dX12_number_54 (by decide) ?_
            exact ih12 ((10 * l2_12) + z68) (l3_12 + 1) x67 (by omega) (by omega) (by omega) (by omega) (by omega) (by omega) (by omega) (by omega) (by omega) (by omega) (by omega) (by omega) (fun a k0 => ((f76 a (by omega)).trans (g12_12 a (by omega)))) (fun i k0 k1 => ((f77 i (by omega) (by omega)).trans (g12_13 i (by omega) (by omega)))) (by omega)
  exact HL12 ((3 - 1) + 1 : Int).toNat z2 1 x1 (by omega) (by omega) (by omega) (by omega) (by omega) (by omega) (by omega) (by omega) (by omega) (by omega) (by omega) (by omega) (fun a _ => rfl) (fun i _ _ => rfl) (by omega)
set_option maxHeartbeats 200000 in
theorem c_X12_wasRight (x : Mm) : CnI YM yX12_wasRight cX12_wasRight 1 .boolean 2 41 (fun G => [vr G 0]) x (fun z y' => (z = 0 ∨ z = 1) ∧ (z = 1 → x 0 7 ≤ x 0 9 ∧ x 0 10 = (-1) ∧ y' 0 10 = (-1)) ∧ (z = 0 → y' 0 10 ≠ (-1)) ∧ (∀ a : Int, (a < 0 ∨ 0 < a) → y' a = x a) ∧ (∀ i : Int, i ≠ 10 → y' 0 i = x 0 i)) := by
  refine cn_I (by decide) (fun _ => Nat.le_of_ble_eq_true rfl) (fun G C h hq => ?_)
  have h : OK YM G C cX12_wasRight RX12 1 (some .boolean) 2 41 := h
  show FW YM G C 1 x 0 [(0, vr G 0)] []
  refine fr_aload_n h rfl 0 rfl dX12_wasRight_0 ?_
  refine fr_geti (iz := 9) h kX12 fX12_121 at_0M rfl rfl (by decide) (by decide) rfM_9 dX12_wasRight_1 (fun z1 w2 w3 q4 => ?_)
  refine fr_aload_n h rfl 0 rfl dX12_wasRight_4 ?_
  refine fr_geti (iz := 7) h kX12 fX12_115 at_0M rfl rfl (by decide) (by decide) rfM_7 dX12_wasRight_5 (fun z5 w6 w7 q8 => ?_)
  refine fr_icmp_ge (tgt := 19) h dX12_wasRight_8 (by decide) (by omega) (by omega) (fun c9 => ?_) (fun c9 => ?_)
  ·
    refine fr_aload_n h rfl 0 rfl dX12_wasRight_19 ?_
    refine fr_cvI h kX12 at_0M wX12_fine lX12_131 (c_X12_fine x) rfl (by decide) (by decide) rfl (Nat.le_of_ble_eq_true rfl) dX12_wasRight_20 (fun z11 x10 w12 p13 => ?_)
    obtain ⟨p14, p15, y16⟩ := p13
    rw [y16]
    clear y16
    exact fr_zret h (nr_z (by omega) (by omega)) hq (by omega) ⟨(by omega), (by omega), (by omega), (fun a _ => rfl), (fun i _ => rfl)⟩ dX12_wasRight_23
  ·
    refine fr_aload_n h rfl 0 rfl dX12_wasRight_11 ?_
    refine fr_aload_n h rfl 0 rfl dX12_wasRight_12 ?_
    refine fr_geti (iz := 9) h kX12 fX12_121 at_0M rfl rfl (by decide) (by decide) rfM_9 dX12_wasRight_13 (fun z17 w18 w19 q20 => ?_)
    refine fr_cvV h kX12 at_0M wX12_fault lX12_143 (c_X12_fault x z17 (by omega) (by omega) (by omega)) rfl (by decide) (by decide) rfl (Nat.le_of_ble_eq_true rfl) dX12_wasRight_16 (fun x21 p24 => ?_)
    obtain ⟨p25, f26, f27⟩ := p24
    refine fr_aload_n h rfl 0 rfl dX12_wasRight_19 ?_
    refine fr_cvI h kX12 at_0M wX12_fine lX12_131 (c_X12_fine x21) rfl (by decide) (by decide) rfl (Nat.le_of_ble_eq_true rfl) dX12_wasRight_20 (fun z29 x28 w30 p31 => ?_)
    obtain ⟨p32, p33, y34⟩ := p31
    rw [y34]
    clear y34
    exact fr_zret h (nr_z (by omega) (by omega)) hq (by omega) ⟨(by omega), (by omega), (by omega), (fun a k0 => (f26 a (by omega))), (fun i k0 => (f27 i (by omega)))⟩ dX12_wasRight_23
