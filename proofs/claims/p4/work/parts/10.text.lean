set_option maxHeartbeats 200000 in
theorem c_X9_length (x : Mm) : CnI YC yX9_length cX9_length 1 .int 0 0 (fun G => [vr G 1]) x (fun z y' => (0 ≤ z) ∧ (z ≤ 80) ∧ (z = x 1 1) ∧ (y' = x)) := by
  refine cn_I (by decide) (fun _ => Nat.le_of_ble_eq_true rfl) (fun G C h hq => ?_)
  have h : OK YC G C cX9_length RX9 1 (some .int) 0 0 := h
  show FW YC G C 1 x 0 [(0, vr G 1)] []
  refine fr_aload_n h rfl 0 rfl dX9_length_0 ?_
  refine fr_geti (iz := 1) h kX9 fX9_15 at_1 rfl rfl (by decide) (by decide) rf_1_1 dX9_length_1 (fun z1 w2 w3 q4 => ?_)
  exact fr_iret h hq (by omega) ⟨(by omega), (by omega), (by omega), rfl⟩ dX9_length_4
set_option maxHeartbeats 200000 in
theorem c_X9_at (x : Mm) (p : Int) (h_p : fm_r p) : CnI YC yX9_at cX9_at 2 .char 0 0 (fun G => [vr G 1, vi p]) x (fun z y' => (0 ≤ z) ∧ (z ≤ 255) ∧ (0 ≤ p → p < x 1 1 → z = x 2 p) ∧ (p < 0 ∨ x 1 1 ≤ p → z = 0) ∧ (y' = x)) := by
  refine cn_I (by decide) (fun _ => Nat.le_of_ble_eq_true rfl) (fun G C h hq => ?_)
  have h : OK YC G C cX9_at RX9 2 (some .char) 0 0 := h
  show FW YC G C 2 x 0 [(0, vr G 1), (1, vi p)] []
  refine fr_iload_n h rfl 1 rfl dX9_at_0 ?_
  refine fr_if_lt (tgt := 21) h dX9_at_1 (by decide) (by omega) (fun c1 => ?_) (fun c1 => ?_)
  ·
    refine fr_iconst h dX9_at_21 ?_
    exact fr_zret h (nr_c (by omega) (by omega)) hq (by omega) ⟨(by omega), (by omega), (by omega), (by omega), rfl⟩ dX9_at_22
  ·
    refine fr_iload_n h rfl 1 rfl dX9_at_4 ?_
    refine fr_aload_n h rfl 0 rfl dX9_at_5 ?_
    refine fr_geti (iz := 1) h kX9 fX9_15 at_1 rfl rfl (by decide) (by decide) rf_1_1 dX9_at_6 (fun z2 w3 w4 q5 => ?_)
    refine fr_icmp_ge (tgt := 21) h dX9_at_9 (by decide) (by omega) (by omega) (fun c6 => ?_) (fun c6 => ?_)
    ·
      refine fr_iconst h dX9_at_21 ?_
      exact fr_zret h (nr_c (by omega) (by omega)) hq (by omega) ⟨(by omega), (by omega), (by omega), (by omega), rfl⟩ dX9_at_22
    ·
      refine fr_aload_n h rfl 0 rfl dX9_at_12 ?_
      refine fr_getc (z := 2) (iz := 0) h kX9 fX9_9 at_1 rfl rfl rf_1_0 (by omega) dX9_at_13 ?_
      refine fr_iload_n h rfl 1 rfl dX9_at_16 ?_
      refine fr_cald h ar_2 (by omega) (by omega) (rr_2 p) dX9_at_17 (fun z7 w8 w9 q10 => ?_)
      refine fr_goto (tgt := 22) h dX9_at_18 (by decide) ?_
      exact fr_zret h (nr_c (by omega) (by omega)) hq (by omega) ⟨(by omega), (by omega), (by omega), (by omega), rfl⟩ dX9_at_22
set_option maxHeartbeats 200000 in
theorem c_X9_append (x : Mm) (v : Int) (h_v : fm_r v) : CnI YC yX9_append cX9_append 3 .boolean 0 0 (fun G => [vr G 1, vi v]) x (fun z y' => (z = 0 ∨ z = 1) ∧ (76 < x 1 1 → z = 0 ∧ y' 1 1 = x 1 1) ∧ (x 1 1 ≤ 76 → z = 1 ∧ y' 1 1 = x 1 1 + 4) ∧ (∀ a : Int, (a < 1 ∨ 2 < a) → y' a = x a)) := by
  refine cn_I (by decide) (fun _ => Nat.le_of_ble_eq_true rfl) (fun G C h hq => ?_)
  have h : OK YC G C cX9_append RX9 3 (some .boolean) 0 0 := h
  show FW YC G C 3 x 0 [(0, vr G 1), (1, vi v)] []
  refine fr_aload_n h rfl 0 rfl dX9_append_0 ?_
  refine fr_geti (iz := 1) h kX9 fX9_15 at_1 rfl rfl (by decide) (by decide) rf_1_1 dX9_append_1 (fun z1 w2 w3 q4 => ?_)
  refine fr_iconst h dX9_append_4 ?_
  refine fr_iadd h dX9_append_5 ?_
  refine fr_bipush h rfl dX9_append_6 ?_
  refine fr_icmp_le (tgt := 13) h dX9_append_8 (by decide) (by omega) (by omega) (fun c5 => ?_) (fun c5 => ?_)
  ·
    refine fr_bipush h rfl dX9_append_13 ?_
    refine fr_istore_n (L' := [(0, vr G 1), (1, vi v), (2, vi 24)]) h rfl dX9_append_15 (by decide) [1, 2, 0] rfl ?_
    have HL6 : ∀ (n6 : Nat) (l2_6 : Int) (x_6 : Mm), fm_r l2_6 → (-8) ≤ l2_6 → l2_6 ≤ 24 → -8 ≤ l2_6 → l2_6 ≤ 24 → x 1 1 ≤ 76 → 8 * x_6 1 1 + l2_6 = 8 * x 1 1 + 24 → (∀ a : Int, (a < 1 ∨ 2 < a) → x_6 a = x a) → (l2_6 + 8) < n6 → FW YC G C 3 x_6 16 [(0, vr G 1), (1, vi v), (2, vi l2_6)] [] := by
      intro n6
      induction n6 with
      | zero =>
        intro l2_6 x_6 g6_0 g6_1 g6_2 g6_3 g6_4 g6_5 g6_6 g6_7 g6_8
        exfalso; omega
      | succ n6 ih6 =>
        intro l2_6 x_6 g6_0 g6_1 g6_2 g6_3 g6_4 g6_5 g6_6 g6_7 g6_8
        refine fr_iload_n h rfl 2 rfl dX9_append_16 ?_
        refine fr_if_lt (tgt := 53) h dX9_append_17 (by decide) (by omega) (fun c7 => ?_) (fun c7 => ?_)
        ·
          refine fr_iconst h dX9_append_53 ?_
          exact fr_zret h rfl hq (by omega) ⟨(by omega), (by omega), (by omega), (fun a k0 => (g6_7 a (by omega)))⟩ dX9_append_54
        ·
          refine fr_aload_n h rfl 0 rfl dX9_append_20 ?_
          refine fr_getc (z := 2) (iz := 0) h kX9 fX9_9 at_1 rfl rfl rf_1_0 (by omega) dX9_append_21 ?_
          refine fr_aload_n h rfl 0 rfl dX9_append_24 ?_
          refine fr_geti (iz := 1) h kX9 fX9_15 at_1 rfl rfl (by decide) (by decide) rf_1_1 dX9_append_25 (fun z8 w9 w10 q11 => ?_)
          refine fr_iload_n h rfl 1 rfl dX9_append_28 ?_
          refine fr_iload_n h rfl 2 rfl dX9_append_29 ?_
          refine fr_iushr h dX9_append_30 (fun z12 w13 q14 w15 => ?_)
          refine fr_sipush h rfl dX9_append_31 ?_
          refine fr_iand h dX9_append_34 (fun z16 w17 q18 w19 => ?_)
          have w20 := w19 (by omega) (by omega)
          refine fr_i2c h dX9_append_35 (fun z21 w22 q23 w24 => ?_)
          refine fr_cast h ar_2 (by omega) (by omega) (rr_2 z8) (by omega) (by omega) (by omega) dX9_append_36 ?_
          refine fr_mem (fun x25 m26 => ?_)
          refine fr_aload_n h rfl 0 rfl dX9_append_37 ?_
          refine fr_dup h rfl dX9_append_38 ?_
          refine fr_geti (iz := 1) h kX9 fX9_15 at_1 rfl rfl (by decide) (by decide) rf_1_1 dX9_append_39 (fun z27 w28 w29 q30 => ?_)
          have r31 := q30.trans (fm_rd_k (a := 1) (b := 1) m26 (by omega))
          refine fr_iconst h dX9_append_42 ?_
          refine fr_iadd h dX9_append_43 ?_
          refine fr_puti (iz := 1) h kX9 fX9_15 at_1 rfl rfl (by decide) (by decide) rfl (by decide +kernel) rf_1_1 (by omega) (by omega) dX9_append_44 ?_
          refine fr_mem (fun x32 m33 => ?_)
          refine fr_iinc (j := 2) (L' := [(0, vr G 1), (1, vi v), (2, vi (l2_6 + (-8)))]) h dX9_append_47 rfl (by decide) [1, 2, 0] rfl ?_
          refine fr_goto (tgt := 16) h dX9_append_50 (by decide) ?_
          have r34 := (fm_rd_s m33)
          exact ih6 (l2_6 + (-8)) x32 (by omega) (by omega) (by omega) (by omega) (by omega) (by omega) (by omega) (fun a k0 => ((fm_up_row m33 (by omega)).trans ((fm_up_row m26 (by omega)).trans (g6_7 a (by omega))))) (by omega)
    exact HL6 ((24 + 8) + 1 : Int).toNat 24 x (by omega) (by omega) (by omega) (by omega) (by omega) (by omega) (by omega) (fun a _ => rfl) (by omega)
  ·
    refine fr_iconst h dX9_append_11 ?_
    exact fr_zret h rfl hq (by omega) ⟨(by omega), (by omega), (by omega), (fun a _ => rfl)⟩ dX9_append_12
set_option maxHeartbeats 200000 in
theorem c_X9_cut (x : Mm) (n : Int) (h_n : fm_r n) : CnI YC yX9_cut cX9_cut 2 .boolean 0 0 (fun G => [vr G 1, vi n]) x (fun z y' => (z = 0 ∨ z = 1) ∧ ((z = 1 ↔ 0 ≤ n ∧ n ≤ x 1 1)) ∧ (z = 1 → y' 1 1 = n) ∧ (z = 0 → y' 1 1 = x 1 1) ∧ (∀ a : Int, (a < 1 ∨ 2 < a) → y' a = x a)) := by
  refine cn_I (by decide) (fun _ => Nat.le_of_ble_eq_true rfl) (fun G C h hq => ?_)
  have h : OK YC G C cX9_cut RX9 2 (some .boolean) 0 0 := h
  show FW YC G C 2 x 0 [(0, vr G 1), (1, vi n)] []
  refine fr_iload_n h rfl 1 rfl dX9_cut_0 ?_
  refine fr_if_lt (tgt := 12) h dX9_cut_1 (by decide) (by omega) (fun c1 => ?_) (fun c1 => ?_)
  ·
    refine fr_iconst h dX9_cut_12 ?_
    exact fr_zret h rfl hq (by omega) ⟨(by omega), (by omega), (by omega), (by omega), (fun a _ => rfl)⟩ dX9_cut_13
  ·
    refine fr_iload_n h rfl 1 rfl dX9_cut_4 ?_
    refine fr_aload_n h rfl 0 rfl dX9_cut_5 ?_
    refine fr_geti (iz := 1) h kX9 fX9_15 at_1 rfl rfl (by decide) (by decide) rf_1_1 dX9_cut_6 (fun z2 w3 w4 q5 => ?_)
    refine fr_icmp_le (tgt := 14) h dX9_cut_9 (by decide) (by omega) (by omega) (fun c6 => ?_) (fun c6 => ?_)
    ·
      refine fr_aload_n h rfl 0 rfl dX9_cut_14 ?_
      refine fr_iload_n h rfl 1 rfl dX9_cut_15 ?_
      refine fr_puti (iz := 1) h kX9 fX9_15 at_1 rfl rfl (by decide) (by decide) rfl (by decide +kernel) rf_1_1 (by omega) (by omega) dX9_cut_16 ?_
      refine fr_mem (fun x7 m8 => ?_)
      refine fr_iconst h dX9_cut_19 ?_
      have r9 := (fm_rd_s m8)
      have r10 := (fm_rd_s m8)
      exact fr_zret h rfl hq (by omega) ⟨(by omega), (by omega), (by omega), (by omega), (fun a k0 => (fm_up_row m8 (by omega)))⟩ dX9_cut_20
    ·
      refine fr_iconst h dX9_cut_12 ?_
      exact fr_zret h rfl hq (by omega) ⟨(by omega), (by omega), (by omega), (by omega), (fun a _ => rfl)⟩ dX9_cut_13
set_option maxHeartbeats 200000 in
theorem c_X9_clear (x : Mm) : CnV YC yX9_clear cX9_clear 1 0 0 (fun G => [vr G 1]) x (fun y' => (y' 1 1 = 0) ∧ (∀ a : Int, (a < 1 ∨ 2 < a) → y' a = x a)) := by
  refine cn_V (by decide) (fun _ => Nat.le_of_ble_eq_true rfl) (fun G C h hq => ?_)
  have h : OK YC G C cX9_clear RX9 1 none 0 0 := h
  show FW YC G C 1 x 0 [(0, vr G 1)] []
  refine fr_aload_n h rfl 0 rfl dX9_clear_0 ?_
  refine fr_iconst h dX9_clear_1 ?_
  refine fr_puti (iz := 1) h kX9 fX9_15 at_1 rfl rfl (by decide) (by decide) rfl (by decide +kernel) rf_1_1 (by omega) (by omega) dX9_clear_2 ?_
  refine fr_mem (fun x1 m2 => ?_)
  have r3 := (fm_rd_s m2)
  exact fr_vret h hq ⟨(by omega), (fun a k0 => (fm_up_row m2 (by omega)))⟩ dX9_clear_5
set_option maxHeartbeats 200000 in
theorem c_X9_hasDigit (x : Mm) (p : Int) (h_p : fm_r p) : CnI YC yX9_hasDigit cX9_hasDigit 2 .boolean 1 21 (fun G => [vr G 1, vi p]) x (fun z y' => (z = 0 ∨ z = 1) ∧ ((z = 1 ↔ 0 ≤ p ∧ p < x 1 1 ∧ 48 ≤ x 2 p ∧ x 2 p ≤ 57)) ∧ (y' = x)) := by
  refine cn_I (by decide) (fun _ => Nat.le_of_ble_eq_true rfl) (fun G C h hq => ?_)
  have h : OK YC G C cX9_hasDigit RX9 2 (some .boolean) 1 21 := h
  show FW YC G C 2 x 0 [(0, vr G 1), (1, vi p)] []
  refine fr_aload_n h rfl 0 rfl dX9_hasDigit_0 ?_
  refine fr_iload_n h rfl 1 rfl dX9_hasDigit_1 ?_
  refine fr_cvI h kX9 at_1 wX9_at lX9_19 (c_X9_at x p (by omega)) rfl (by decide) (by decide) rfl (Nat.le_of_ble_eq_true rfl) dX9_hasDigit_2 (fun z2 x1 w3 p4 => ?_)
  obtain ⟨p5, p6, p7, p8, y9⟩ := p4
  rw [y9]
  clear y9
  refine fr_bipush h rfl dX9_hasDigit_5 ?_
  refine fr_icmp_lt (tgt := 24) h dX9_hasDigit_7 (by decide) (by omega) (by omega) (fun c10 => ?_) (fun c10 => ?_)
  ·
    refine fr_iconst h dX9_hasDigit_24 ?_
    exact fr_zret h rfl hq (by omega) ⟨(by omega), (by omega), rfl⟩ dX9_hasDigit_25
  ·
    refine fr_aload_n h rfl 0 rfl dX9_hasDigit_10 ?_
    refine fr_iload_n h rfl 1 rfl dX9_hasDigit_11 ?_
    refine fr_cvI h kX9 at_1 wX9_at lX9_19 (c_X9_at x p (by omega)) rfl (by decide) (by decide) rfl (Nat.le_of_ble_eq_true rfl) dX9_hasDigit_12 (fun z12 x11 w13 p14 => ?_)
    obtain ⟨p15, p16, p17, p18, y19⟩ := p14
    rw [y19]
    clear y19
    refine fr_bipush h rfl dX9_hasDigit_15 ?_
    refine fr_icmp_gt (tgt := 24) h dX9_hasDigit_17 (by decide) (by omega) (by omega) (fun c20 => ?_) (fun c20 => ?_)
    ·
      refine fr_iconst h dX9_hasDigit_24 ?_
      exact fr_zret h rfl hq (by omega) ⟨(by omega), (by omega), rfl⟩ dX9_hasDigit_25
    ·
      refine fr_iconst h dX9_hasDigit_20 ?_
      refine fr_goto (tgt := 25) h dX9_hasDigit_21 (by decide) ?_
      exact fr_zret h rfl hq (by omega) ⟨(by omega), (by omega), rfl⟩ dX9_hasDigit_25
set_option maxHeartbeats 200000 in
theorem c_X9_digit (x : Mm) (p : Int) (h_p : fm_r p) : CnI YC yX9_digit cX9_digit 2 .int 1 21 (fun G => [vr G 1, vi p]) x (fun z y' => ((-48) ≤ z) ∧ (z ≤ 207) ∧ (0 ≤ p → p < x 1 1 → z = x 2 p - 48) ∧ (y' = x)) := by
  refine cn_I (by decide) (fun _ => Nat.le_of_ble_eq_true rfl) (fun G C h hq => ?_)
  have h : OK YC G C cX9_digit RX9 2 (some .int) 1 21 := h
  show FW YC G C 2 x 0 [(0, vr G 1), (1, vi p)] []
  refine fr_aload_n h rfl 0 rfl dX9_digit_0 ?_
  refine fr_iload_n h rfl 1 rfl dX9_digit_1 ?_
  refine fr_cvI h kX9 at_1 wX9_at lX9_19 (c_X9_at x p (by omega)) rfl (by decide) (by decide) rfl (Nat.le_of_ble_eq_true rfl) dX9_digit_2 (fun z2 x1 w3 p4 => ?_)
  obtain ⟨p5, p6, p7, p8, y9⟩ := p4
  rw [y9]
  clear y9
  refine fr_bipush h rfl dX9_digit_5 ?_
  refine fr_isub h dX9_digit_7 ?_
  exact fr_iret h hq (by omega) ⟨(by omega), (by omega), (by omega), rfl⟩ dX9_digit_8
set_option maxHeartbeats 200000 in
theorem c_X9_twoDigits (x : Mm) (p : Int) (h_p : fm_r p) : CnI YC yX9_twoDigits cX9_twoDigits 2 .int 2 42 (fun G => [vr G 1, vi p]) x (fun z y' => ((-1000) ≤ z) ∧ (z ≤ 3000) ∧ (y' = x)) := by
  refine cn_I (by decide) (fun _ => Nat.le_of_ble_eq_true rfl) (fun G C h hq => ?_)
  have h : OK YC G C cX9_twoDigits RX9 2 (some .int) 2 42 := h
  show FW YC G C 2 x 0 [(0, vr G 1), (1, vi p)] []
  refine fr_bipush h rfl dX9_twoDigits_0 ?_
  refine fr_aload_n h rfl 0 rfl dX9_twoDigits_2 ?_
  refine fr_iload_n h rfl 1 rfl dX9_twoDigits_3 ?_
  refine fr_cvI h kX9 at_1 wX9_digit lX9_23 (c_X9_digit x p (by omega)) rfl (by decide) (by decide) rfl (Nat.le_of_ble_eq_true rfl) dX9_twoDigits_4 (fun z2 x1 w3 p4 => ?_)
  obtain ⟨p5, p6, p7, y8⟩ := p4
  rw [y8]
  clear y8
  refine fr_imul h dX9_twoDigits_7 ?_
  refine fr_aload_n h rfl 0 rfl dX9_twoDigits_8 ?_
  refine fr_iload_n h rfl 1 rfl dX9_twoDigits_9 ?_
  refine fr_iconst h dX9_twoDigits_10 ?_
  refine fr_iadd h dX9_twoDigits_11 ?_
  refine fr_normi (fun z9 w10 q11 => ?_)
  have w12 : fm_r ((p + 1)) → z9 = (p + 1) := fun q => (iI_inj q w10 q11).symm
  refine fr_cvI h kX9 at_1 wX9_digit lX9_23 (c_X9_digit x z9 (by omega)) rfl (by decide) (by decide) rfl (Nat.le_of_ble_eq_true rfl) dX9_twoDigits_12 (fun z14 x13 w15 p16 => ?_)
  obtain ⟨p17, p18, p19, y20⟩ := p16
  rw [y20]
  clear y20
  refine fr_iadd h dX9_twoDigits_15 ?_
  exact fr_iret h hq (by omega) ⟨(by omega), (by omega), rfl⟩ dX9_twoDigits_16
set_option maxHeartbeats 200000 in
theorem c_X9_node (x : Mm) (p : Int) (h_p : fm_r p) : CnI YC yX9_node cX9_node 2 .int 1 21 (fun G => [vr G 1, vi p]) x (fun z y' => ((-97) ≤ z) ∧ (z ≤ 158) ∧ (y' = x)) := by
  refine cn_I (by decide) (fun _ => Nat.le_of_ble_eq_true rfl) (fun G C h hq => ?_)
  have h : OK YC G C cX9_node RX9 2 (some .int) 1 21 := h
  show FW YC G C 2 x 0 [(0, vr G 1), (1, vi p)] []
  refine fr_aload_n h rfl 0 rfl dX9_node_0 ?_
  refine fr_iload_n h rfl 1 rfl dX9_node_1 ?_
  refine fr_cvI h kX9 at_1 wX9_at lX9_19 (c_X9_at x p (by omega)) rfl (by decide) (by decide) rfl (Nat.le_of_ble_eq_true rfl) dX9_node_2 (fun z2 x1 w3 p4 => ?_)
  obtain ⟨p5, p6, p7, p8, y9⟩ := p4
  rw [y9]
  clear y9
  refine fr_bipush h rfl dX9_node_5 ?_
  refine fr_isub h dX9_node_7 ?_
  exact fr_iret h hq (by omega) ⟨(by omega), (by omega), rfl⟩ dX9_node_8
set_option maxHeartbeats 200000 in
theorem c_X8_size (x : Mm) (b : Int) (hb : isSt b) : CnI YC yX8_size cX8_size 1 .int 0 0 (fun G => [vr G b]) x (fun z y' => (0 ≤ z) ∧ (z ≤ 5) ∧ (z = x b 4) ∧ (y' = x)) := by
  refine cn_I (by decide) (fun _ => Nat.le_of_ble_eq_true rfl) (fun G C h hq => ?_)
  have h : OK YC G C cX8_size RX8 1 (some .int) 0 0 := h
  show FW YC G C 1 x 0 [(0, vr G b)] []
  have h_b := St_b hb
  refine fr_aload_n h rfl 0 rfl dX8_size_0 ?_
  refine fr_geti (iz := 4) h kX8 fX8_34 (St_at hb) rfl rfl (by decide) (by decide) (St_f4 hb) dX8_size_1 (fun z1 w2 w3 q4 => ?_)
  exact fr_iret h hq (by omega) ⟨(by omega), (by omega), (by omega), rfl⟩ dX8_size_4
set_option maxHeartbeats 200000 in
theorem c_X8_picked (x : Mm) (b : Int) (hb : isSt b) : CnI YC yX8_picked cX8_picked 1 .int 0 0 (fun G => [vr G b]) x (fun z y' => (0 ≤ z) ∧ (z ≤ 3) ∧ (z = x b 5) ∧ (y' = x)) := by
  refine cn_I (by decide) (fun _ => Nat.le_of_ble_eq_true rfl) (fun G C h hq => ?_)
  have h : OK YC G C cX8_picked RX8 1 (some .int) 0 0 := h
  show FW YC G C 1 x 0 [(0, vr G b)] []
  have h_b := St_b hb
  refine fr_aload_n h rfl 0 rfl dX8_picked_0 ?_
  refine fr_geti (iz := 5) h kX8 fX8_37 (St_at hb) rfl rfl (by decide) (by decide) (St_f5 hb) dX8_picked_1 (fun z1 w2 w3 q4 => ?_)
  exact fr_iret h hq (by omega) ⟨(by omega), (by omega), (by omega), rfl⟩ dX8_picked_4
set_option maxHeartbeats 200000 in
theorem c_X8_firstEnd (x : Mm) (b : Int) (hb : isSt b) : CnI YC yX8_firstEnd cX8_firstEnd 1 .int 0 0 (fun G => [vr G b]) x (fun z y' => (0 ≤ z) ∧ (z ≤ 6) ∧ (z = x b 6) ∧ (y' = x)) := by
  refine cn_I (by decide) (fun _ => Nat.le_of_ble_eq_true rfl) (fun G C h hq => ?_)
  have h : OK YC G C cX8_firstEnd RX8 1 (some .int) 0 0 := h
  show FW YC G C 1 x 0 [(0, vr G b)] []
  have h_b := St_b hb
  refine fr_aload_n h rfl 0 rfl dX8_firstEnd_0 ?_
  refine fr_geti (iz := 6) h kX8 fX8_40 (St_at hb) rfl rfl (by decide) (by decide) (St_f6 hb) dX8_firstEnd_1 (fun z1 w2 w3 q4 => ?_)
  exact fr_iret h hq (by omega) ⟨(by omega), (by omega), (by omega), rfl⟩ dX8_firstEnd_4
set_option maxHeartbeats 200000 in
theorem c_X8_secondEnd (x : Mm) (b : Int) (hb : isSt b) : CnI YC yX8_secondEnd cX8_secondEnd 1 .int 0 0 (fun G => [vr G b]) x (fun z y' => (0 ≤ z) ∧ (z ≤ 6) ∧ (z = x b 7) ∧ (y' = x)) := by
  refine cn_I (by decide) (fun _ => Nat.le_of_ble_eq_true rfl) (fun G C h hq => ?_)
  have h : OK YC G C cX8_secondEnd RX8 1 (some .int) 0 0 := h
  show FW YC G C 1 x 0 [(0, vr G b)] []
  have h_b := St_b hb
  refine fr_aload_n h rfl 0 rfl dX8_secondEnd_0 ?_
  refine fr_geti (iz := 7) h kX8 fX8_24 (St_at hb) rfl rfl (by decide) (by decide) (St_f7 hb) dX8_secondEnd_1 (fun z1 w2 w3 q4 => ?_)
  exact fr_iret h hq (by omega) ⟨(by omega), (by omega), (by omega), rfl⟩ dX8_secondEnd_4
set_option maxHeartbeats 200000 in
theorem c_X8_isBelow (x : Mm) (v : Int) (w : Int) (h_v : fm_r v) (h_w : fm_r w) : CnI YC yX8_isBelow cX8_isBelow 2 .boolean 0 0 (fun G => [vi v, vi w]) x (fun z y' => (z = 0 ∨ z = 1) ∧ ((z = 1 ↔ 0 ≤ v ∧ v < w)) ∧ (y' = x)) := by
  refine cn_I (by decide) (fun _ => Nat.le_of_ble_eq_true rfl) (fun G C h hq => ?_)
  have h : OK YC G C cX8_isBelow RX8 2 (some .boolean) 0 0 := h
  show FW YC G C 2 x 0 [(0, vi v), (1, vi w)] []
  refine fr_iload_n h rfl 0 rfl dX8_isBelow_0 ?_
  refine fr_if_lt (tgt := 13) h dX8_isBelow_1 (by decide) (by omega) (fun c1 => ?_) (fun c1 => ?_)
  ·
    refine fr_iconst h dX8_isBelow_13 ?_
    exact fr_zret h rfl hq (by omega) ⟨(by omega), (by omega), rfl⟩ dX8_isBelow_14
  ·
    refine fr_iload_n h rfl 0 rfl dX8_isBelow_4 ?_
    refine fr_iload_n h rfl 1 rfl dX8_isBelow_5 ?_
    refine fr_icmp_ge (tgt := 13) h dX8_isBelow_6 (by decide) (by omega) (by omega) (fun c2 => ?_) (fun c2 => ?_)
    ·
      refine fr_iconst h dX8_isBelow_13 ?_
      exact fr_zret h rfl hq (by omega) ⟨(by omega), (by omega), rfl⟩ dX8_isBelow_14
    ·
      refine fr_iconst h dX8_isBelow_9 ?_
      refine fr_goto (tgt := 14) h dX8_isBelow_10 (by decide) ?_
      exact fr_zret h rfl hq (by omega) ⟨(by omega), (by omega), rfl⟩ dX8_isBelow_14
set_option maxHeartbeats 200000 in
theorem c_X8_areTwoNodes (x : Mm) (v : Int) (w : Int) (h_v : fm_r v) (h_w : fm_r w) : CnI YC yX8_areTwoNodes cX8_areTwoNodes 2 .boolean 1 21 (fun G => [vi v, vi w]) x (fun z y' => (z = 0 ∨ z = 1) ∧ ((z = 1 ↔ 0 ≤ v ∧ v < 7 ∧ 0 ≤ w ∧ w < 7 ∧ v ≠ w)) ∧ (y' = x)) := by
  refine cn_I (by decide) (fun _ => Nat.le_of_ble_eq_true rfl) (fun G C h hq => ?_)
  have h : OK YC G C cX8_areTwoNodes RX8 2 (some .boolean) 1 21 := h
  show FW YC G C 2 x 0 [(0, vi v), (1, vi w)] []
  refine fr_iload_n h rfl 0 rfl dX8_areTwoNodes_0 ?_
  refine fr_bipush h rfl dX8_areTwoNodes_1 ?_
  refine fr_csI h wX8_isBelow lX8_43 (c_X8_isBelow x v 7 (by omega) (by omega)) rfl (by decide) (by decide) rfl (Nat.le_of_ble_eq_true rfl) dX8_areTwoNodes_3 (fun z2 x1 w3 p4 => ?_)
  obtain ⟨p5, p6, y7⟩ := p4
  rw [y7]
  clear y7
  refine fr_if_eq (tgt := 27) h dX8_areTwoNodes_6 (by decide) (by omega) (fun c8 => ?_) (fun c8 => ?_)
  ·
    refine fr_iconst h dX8_areTwoNodes_27 ?_
    exact fr_zret h rfl hq (by omega) ⟨(by omega), (by omega), rfl⟩ dX8_areTwoNodes_28
  ·
    refine fr_iload_n h rfl 1 rfl dX8_areTwoNodes_9 ?_
    refine fr_bipush h rfl dX8_areTwoNodes_10 ?_
    refine fr_csI h wX8_isBelow lX8_43 (c_X8_isBelow x w 7 (by omega) (by omega)) rfl (by decide) (by decide) rfl (Nat.le_of_ble_eq_true rfl) dX8_areTwoNodes_12 (fun z10 x9 w11 p12 => ?_)
    obtain ⟨p13, p14, y15⟩ := p12
    rw [y15]
    clear y15
    refine fr_if_eq (tgt := 27) h dX8_areTwoNodes_15 (by decide) (by omega) (fun c16 => ?_) (fun c16 => ?_)
    ·
      refine fr_iconst h dX8_areTwoNodes_27 ?_
      exact fr_zret h rfl hq (by omega) ⟨(by omega), (by omega), rfl⟩ dX8_areTwoNodes_28
    ·
      refine fr_iload_n h rfl 0 rfl dX8_areTwoNodes_18 ?_
      refine fr_iload_n h rfl 1 rfl dX8_areTwoNodes_19 ?_
      refine fr_icmp_eq (tgt := 27) h dX8_areTwoNodes_20 (by decide) (by omega) (by omega) (fun c17 => ?_) (fun c17 => ?_)
      ·
        refine fr_iconst h dX8_areTwoNodes_27 ?_
        exact fr_zret h rfl hq (by omega) ⟨(by omega), (by omega), rfl⟩ dX8_areTwoNodes_28
      ·
        refine fr_iconst h dX8_areTwoNodes_23 ?_
        refine fr_goto (tgt := 28) h dX8_areTwoNodes_24 (by decide) ?_
        exact fr_zret h rfl hq (by omega) ⟨(by omega), (by omega), rfl⟩ dX8_areTwoNodes_28
set_option maxHeartbeats 200000 in
theorem c_X8_pairOf (x : Mm) (v : Int) (w : Int) (h_v : fm_r v) (h_w : fm_r w) (e0 : 0 ≤ v) (e1 : v < 7) (e2 : 0 ≤ w) (e3 : w < 7) : CnI YC yX8_pairOf cX8_pairOf 2 .int 1 21 (fun G => [vi v, vi w]) x (fun z y' => (0 ≤ z) ∧ (z < 49) ∧ (y' = x)) := by
  refine cn_I (by decide) (fun _ => Nat.le_of_ble_eq_true rfl) (fun G C h hq => ?_)
  have h : OK YC G C cX8_pairOf RX8 2 (some .int) 1 21 := h
  show FW YC G C 2 x 0 [(0, vi v), (1, vi w)] []
  refine fr_iload_n h rfl 0 rfl dX8_pairOf_0 ?_
  refine fr_iload_n h rfl 1 rfl dX8_pairOf_1 ?_
  refine fr_mmin h (by omega) (by omega) (tb_2 (i := 207) (by decide +kernel) (by decide +kernel)) w_mmin (by decide) (by decide) (Nat.le_of_ble_eq_true rfl) dX8_pairOf_2 (fun z1 w2 w3 w4 => ?_)
  refine fr_bipush h rfl dX8_pairOf_5 ?_
  refine fr_imul h dX8_pairOf_7 ?_
  refine fr_normi (fun z5 w6 q7 => ?_)
  have w8 : fm_r ((z1 * 7)) → z5 = (z1 * 7) := fun q => (iI_inj q w6 q7).symm
  refine fr_iload_n h rfl 0 rfl dX8_pairOf_8 ?_
  refine fr_iload_n h rfl 1 rfl dX8_pairOf_9 ?_
  refine fr_mmax h (by omega) (by omega) (tb_2 (i := 208) (by decide +kernel) (by decide +kernel)) w_mmax (by decide) (by decide) (Nat.le_of_ble_eq_true rfl) dX8_pairOf_10 (fun z9 w10 w11 w12 => ?_)
  refine fr_iadd h dX8_pairOf_13 ?_
  refine fr_normi (fun z13 w14 q15 => ?_)
  have w16 : fm_r ((z5 + z9)) → z13 = (z5 + z9) := fun q => (iI_inj q w14 q15).symm
  exact fr_iret h hq (by omega) ⟨(by omega), (by omega), rfl⟩ dX8_pairOf_14
set_option maxHeartbeats 200000 in
theorem c_X8_endsAsNumber (x : Mm) (b : Int) (hb : isSt b) : CnI YC yX8_endsAsNumber cX8_endsAsNumber 1 .int 0 0 (fun G => [vr G b]) x (fun z y' => (0 ≤ z) ∧ (z ≤ 66) ∧ (y' = x)) := by
  refine cn_I (by decide) (fun _ => Nat.le_of_ble_eq_true rfl) (fun G C h hq => ?_)
  have h : OK YC G C cX8_endsAsNumber RX8 1 (some .int) 0 0 := h
  show FW YC G C 1 x 0 [(0, vr G b)] []
  have h_b := St_b hb
  refine fr_bipush h rfl dX8_endsAsNumber_0 ?_
  refine fr_aload_n h rfl 0 rfl dX8_endsAsNumber_2 ?_
  refine fr_geti (iz := 6) h kX8 fX8_40 (St_at hb) rfl rfl (by decide) (by decide) (St_f6 hb) dX8_endsAsNumber_3 (fun z1 w2 w3 q4 => ?_)
  refine fr_imul h dX8_endsAsNumber_6 ?_
  refine fr_aload_n h rfl 0 rfl dX8_endsAsNumber_7 ?_
  refine fr_geti (iz := 7) h kX8 fX8_24 (St_at hb) rfl rfl (by decide) (by decide) (St_f7 hb) dX8_endsAsNumber_8 (fun z5 w6 w7 q8 => ?_)
  refine fr_iadd h dX8_endsAsNumber_11 ?_
  exact fr_iret h hq (by omega) ⟨(by omega), (by omega), rfl⟩ dX8_endsAsNumber_12
set_option maxHeartbeats 200000 in
theorem c_X8_sizeOf (x : Mm) (b : Int) (hb : isSt b) (p : Int) (h_p : fm_r p) : CnI YC yX8_sizeOf cX8_sizeOf 2 .int 1 21 (fun G => [vr G b, vi p]) x (fun z y' => (0 ≤ z) ∧ (z ≤ 6) ∧ (0 < z → 0 ≤ p ∧ p < 4) ∧ (0 ≤ p → p < 4 → z = x (b + 1) p) ∧ (y' = x)) := by
  refine cn_I (by decide) (fun _ => Nat.le_of_ble_eq_true rfl) (fun G C h hq => ?_)
  have h : OK YC G C cX8_sizeOf RX8 2 (some .int) 1 21 := h
  show FW YC G C 2 x 0 [(0, vr G b), (1, vi p)] []
  have h_b := St_b hb
  refine fr_iload_n h rfl 1 rfl dX8_sizeOf_0 ?_
  refine fr_iconst h dX8_sizeOf_1 ?_
  refine fr_csI h wX8_isBelow lX8_43 (c_X8_isBelow x p 4 (by omega) (by omega)) rfl (by decide) (by decide) rfl (Nat.le_of_ble_eq_true rfl) dX8_sizeOf_2 (fun z2 x1 w3 p4 => ?_)
  obtain ⟨p5, p6, y7⟩ := p4
  rw [y7]
  clear y7
  refine fr_if_eq (tgt := 17) h dX8_sizeOf_5 (by decide) (by omega) (fun c8 => ?_) (fun c8 => ?_)
  ·
    refine fr_iconst h dX8_sizeOf_17 ?_
    exact fr_iret h hq (by omega) ⟨(by omega), (by omega), (by omega), (by omega), rfl⟩ dX8_sizeOf_18
  ·
    refine fr_aload_n h rfl 0 rfl dX8_sizeOf_8 ?_
    refine fr_getc (z := (b + 1)) (iz := 0) h kX8 fX8_9 (St_at hb) rfl rfl (St_f0 hb) (by omega) dX8_sizeOf_9 ?_
    refine fr_iload_n h rfl 1 rfl dX8_sizeOf_12 ?_
    refine fr_iald h (St_a1 hb) (by omega) (by omega) (St_r1 hb p) dX8_sizeOf_13 (fun z9 w10 w11 q12 => ?_)
    refine fr_goto (tgt := 18) h dX8_sizeOf_14 (by decide) ?_
    exact fr_iret h hq (by omega) ⟨(by omega), (by omega), (by omega), (by omega), rfl⟩ dX8_sizeOf_18
set_option maxHeartbeats 200000 in
theorem c_X8_numberAt (x : Mm) (b : Int) (hb : isSt b) (p : Int) (w : Int) (h_p : fm_r p) (h_w : fm_r w) : CnI YC yX8_numberAt cX8_numberAt 3 .int 2 42 (fun G => [vr G b, vi p, vi w]) x (fun z y' => ((-1) ≤ z) ∧ (z ≤ 99) ∧ (0 ≤ z → 0 ≤ p ∧ p < 4 ∧ 0 ≤ w ∧ w < 6 ∧ w < x (b + 1) p) ∧ (y' = x)) := by
  refine cn_I (by decide) (fun _ => Nat.le_of_ble_eq_true rfl) (fun G C h hq => ?_)
  have h : OK YC G C cX8_numberAt RX8 3 (some .int) 2 42 := h
  show FW YC G C 3 x 0 [(0, vr G b), (1, vi p), (2, vi w)] []
  have h_b := St_b hb
  refine fr_iload_n h rfl 2 rfl dX8_numberAt_0 ?_
  refine fr_aload_n h rfl 0 rfl dX8_numberAt_1 ?_
  refine fr_iload_n h rfl 1 rfl dX8_numberAt_2 ?_
  refine fr_cvI h kX8 (St_at hb) wX8_sizeOf lX8_47 (c_X8_sizeOf x b hb p (by omega)) rfl (by decide) (by decide) rfl (Nat.le_of_ble_eq_true rfl) dX8_numberAt_3 (fun z2 x1 w3 p4 => ?_)
  obtain ⟨p5, p6, p7, p8, y9⟩ := p4
  rw [y9]
  clear y9
  refine fr_csI h wX8_isBelow lX8_43 (c_X8_isBelow x w z2 (by omega) (by omega)) rfl (by decide) (by decide) rfl (Nat.le_of_ble_eq_true rfl) dX8_numberAt_6 (fun z11 x10 w12 p13 => ?_)
  obtain ⟨p14, p15, y16⟩ := p13
  rw [y16]
  clear y16
  refine fr_if_eq (tgt := 26) h dX8_numberAt_9 (by decide) (by omega) (fun c17 => ?_) (fun c17 => ?_)
  ·
    refine fr_iconst h dX8_numberAt_26 ?_
    exact fr_iret h hq (by omega) ⟨(by omega), (by omega), (by omega), rfl⟩ dX8_numberAt_27
  ·
    refine fr_aload_n h rfl 0 rfl dX8_numberAt_12 ?_
    refine fr_getc (z := (b + 2)) (iz := 1) h kX8 fX8_15 (St_at hb) rfl rfl (St_f1 hb) (by omega) dX8_numberAt_13 ?_
    refine fr_iload_n h rfl 1 rfl dX8_numberAt_16 ?_
    refine fr_bipush h rfl dX8_numberAt_17 ?_
    refine fr_imul h dX8_numberAt_19 ?_
    refine fr_normi (fun z18 w19 q20 => ?_)
    have w21 : fm_r ((p * 6)) → z18 = (p * 6) := fun q => (iI_inj q w19 q20).symm
    refine fr_iload_n h rfl 2 rfl dX8_numberAt_20 ?_
    refine fr_iadd h dX8_numberAt_21 ?_
    refine fr_normi (fun z22 w23 q24 => ?_)
    have w25 : fm_r ((z18 + w)) → z22 = (z18 + w) := fun q => (iI_inj q w23 q24).symm
    refine fr_iald h (St_a2 hb) (by omega) (by omega) (St_r2 hb z22) dX8_numberAt_22 (fun z26 w27 w28 q29 => ?_)
    refine fr_goto (tgt := 27) h dX8_numberAt_23 (by decide) ?_
    exact fr_iret h hq (by omega) ⟨(by omega), (by omega), (by omega), rfl⟩ dX8_numberAt_27
