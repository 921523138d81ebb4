set_option maxHeartbeats 200000 in
theorem c_X3_open (x : Mm) (b : Int) (hb : isCu b) (k : Int) (h_k : fm_r k) (e0 : 0 ≤ k) (e1 : k ≤ 4) : CnV YC yX3_open cX3_open 2 0 0 (fun G => [vr G b, vi k]) x (fun y' => (∀ a : Int, (a < b ∨ b < a) → y' a = x a)) := by
  refine cn_V (by decide) (fun _ => Nat.le_of_ble_eq_true rfl) (fun G C h hq => ?_)
  have h : OK YC G C cX3_open RX3 2 none 0 0 := h
  show FW YC G C 2 x 0 [(0, vr G b), (1, vi k)] []
  have h_b := Cu_b hb
  refine fr_aload_n h rfl 0 rfl dX3_open_0 ?_
  refine fr_iload_n h rfl 1 rfl dX3_open_1 ?_
  refine fr_puti (iz := 0) h kX3 fX3_9 (Cu_at hb) rfl rfl (by decide) (by decide) rfl (by decide +kernel) (Cu_f0 hb) (by omega) (by omega) dX3_open_2 ?_
  refine fr_mem (fun x1 m2 => ?_)
  refine fr_aload_n h rfl 0 rfl dX3_open_5 ?_
  refine fr_iconst h dX3_open_6 ?_
  refine fr_puti (iz := 1) h kX3 fX3_15 (Cu_at hb) rfl rfl (by decide) (by decide) rfl (by decide +kernel) (Cu_f1 hb) (by omega) (by omega) dX3_open_7 ?_
  refine fr_mem (fun x3 m4 => ?_)
  refine fr_aload_n h rfl 0 rfl dX3_open_10 ?_
  refine fr_iconst h dX3_open_11 ?_
  refine fr_putz (iz := 2) h kX3 fX3_18 (Cu_at hb) rfl rfl (by decide) (by decide) rfl (by decide +kernel) (Cu_f2 hb) (by omega) (by omega) (by omega) dX3_open_12 ?_
  refine fr_mem (fun x5 m6 => ?_)
  refine fr_aload_n h rfl 0 rfl dX3_open_15 ?_
  refine fr_iconst h dX3_open_16 ?_
  refine fr_putz (iz := 3) h kX3 fX3_22 (Cu_at hb) rfl rfl (by decide) (by decide) rfl (by decide +kernel) (Cu_f3 hb) (by omega) (by omega) (by omega) dX3_open_17 ?_
  refine fr_mem (fun x7 m8 => ?_)
  exact fr_vret h hq (fun a k0 => ((fm_up_row m8 (by omega)).trans ((fm_up_row m6 (by omega)).trans ((fm_up_row m4 (by omega)).trans (fm_up_row m2 (by omega)))))) dX3_open_20
set_option maxHeartbeats 200000 in
theorem c_X3_outdate (x : Mm) (b : Int) (hb : isCu b) : CnV YC yX3_outdate cX3_outdate 1 0 0 (fun G => [vr G b]) x (fun y' => (∀ a : Int, (a < b ∨ b < a) → y' a = x a)) := by
  refine cn_V (by decide) (fun _ => Nat.le_of_ble_eq_true rfl) (fun G C h hq => ?_)
  have h : OK YC G C cX3_outdate RX3 1 none 0 0 := h
  show FW YC G C 1 x 0 [(0, vr G b)] []
  have h_b := Cu_b hb
  refine fr_aload_n h rfl 0 rfl dX3_outdate_0 ?_
  refine fr_iconst h dX3_outdate_1 ?_
  refine fr_putz (iz := 3) h kX3 fX3_22 (Cu_at hb) rfl rfl (by decide) (by decide) rfl (by decide +kernel) (Cu_f3 hb) (by omega) (by omega) (by omega) dX3_outdate_2 ?_
  refine fr_mem (fun x1 m2 => ?_)
  exact fr_vret h hq (fun a k0 => (fm_up_row m2 (by omega))) dX3_outdate_5
set_option maxHeartbeats 200000 in
theorem c_X3_isUsable (x : Mm) (b : Int) (hb : isCu b) : CnI YC yX3_isUsable cX3_isUsable 1 .boolean 0 0 (fun G => [vr G b]) x (fun z y' => (z = 0 ∨ z = 1) ∧ (y' = x)) := by
  refine cn_I (by decide) (fun _ => Nat.le_of_ble_eq_true rfl) (fun G C h hq => ?_)
  have h : OK YC G C cX3_isUsable RX3 1 (some .boolean) 0 0 := h
  show FW YC G C 1 x 0 [(0, vr G b)] []
  have h_b := Cu_b hb
  refine fr_aload_n h rfl 0 rfl dX3_isUsable_0 ?_
  refine fr_geti (iz := 2) h kX3 fX3_18 (Cu_at hb) rfl rfl (by decide) (by decide) (Cu_f2 hb) dX3_isUsable_1 (fun z1 w2 w3 q4 => ?_)
  refine fr_if_eq (tgt := 18) h dX3_isUsable_4 (by decide) (by omega) (fun c5 => ?_) (fun c5 => ?_)
  ·
    refine fr_iconst h dX3_isUsable_18 ?_
    exact fr_zret h rfl hq (by omega) ⟨(by omega), rfl⟩ dX3_isUsable_19
  ·
    refine fr_aload_n h rfl 0 rfl dX3_isUsable_7 ?_
    refine fr_geti (iz := 3) h kX3 fX3_22 (Cu_at hb) rfl rfl (by decide) (by decide) (Cu_f3 hb) dX3_isUsable_8 (fun z6 w7 w8 q9 => ?_)
    refine fr_if_ne (tgt := 18) h dX3_isUsable_11 (by decide) (by omega) (fun c10 => ?_) (fun c10 => ?_)
    ·
      refine fr_iconst h dX3_isUsable_18 ?_
      exact fr_zret h rfl hq (by omega) ⟨(by omega), rfl⟩ dX3_isUsable_19
    ·
      refine fr_iconst h dX3_isUsable_14 ?_
      refine fr_goto (tgt := 19) h dX3_isUsable_15 (by decide) ?_
      exact fr_zret h rfl hq (by omega) ⟨(by omega), rfl⟩ dX3_isUsable_19
set_option maxHeartbeats 200000 in
theorem c_X3_refusal (x : Mm) (b : Int) (hb : isCu b) : CnI YC yX3_refusal cX3_refusal 1 .int 0 0 (fun G => [vr G b]) x (fun z y' => ((-4) ≤ z) ∧ (z ≤ (-3)) ∧ (y' = x)) := by
  refine cn_I (by decide) (fun _ => Nat.le_of_ble_eq_true rfl) (fun G C h hq => ?_)
  have h : OK YC G C cX3_refusal RX3 1 (some .int) 0 0 := h
  show FW YC G C 1 x 0 [(0, vr G b)] []
  have h_b := Cu_b hb
  refine fr_aload_n h rfl 0 rfl dX3_refusal_0 ?_
  refine fr_geti (iz := 2) h kX3 fX3_18 (Cu_at hb) rfl rfl (by decide) (by decide) (Cu_f2 hb) dX3_refusal_1 (fun z1 w2 w3 q4 => ?_)
  refine fr_if_eq (tgt := 12) h dX3_refusal_4 (by decide) (by omega) (fun c5 => ?_) (fun c5 => ?_)
  ·
    refine fr_bipush h rfl dX3_refusal_12 ?_
    exact fr_iret h hq (by omega) ⟨(by omega), (by omega), rfl⟩ dX3_refusal_14
  ·
    refine fr_bipush h rfl dX3_refusal_7 ?_
    refine fr_goto (tgt := 14) h dX3_refusal_9 (by decide) ?_
    exact fr_iret h hq (by omega) ⟨(by omega), (by omega), rfl⟩ dX3_refusal_14
set_option maxHeartbeats 200000 in
theorem c_X3_kind (x : Mm) (b : Int) (hb : isCu b) : CnI YC yX3_kind cX3_kind 1 .int 0 0 (fun G => [vr G b]) x (fun z y' => (0 ≤ z) ∧ (z ≤ 4) ∧ (y' = x)) := by
  refine cn_I (by decide) (fun _ => Nat.le_of_ble_eq_true rfl) (fun G C h hq => ?_)
  have h : OK YC G C cX3_kind RX3 1 (some .int) 0 0 := h
  show FW YC G C 1 x 0 [(0, vr G b)] []
  have h_b := Cu_b hb
  refine fr_aload_n h rfl 0 rfl dX3_kind_0 ?_
  refine fr_geti (iz := 0) h kX3 fX3_9 (Cu_at hb) rfl rfl (by decide) (by decide) (Cu_f0 hb) dX3_kind_1 (fun z1 w2 w3 q4 => ?_)
  exact fr_iret h hq (by omega) ⟨(by omega), (by omega), rfl⟩ dX3_kind_4
set_option maxHeartbeats 200000 in
theorem c_X3_passed (x : Mm) (b : Int) (hb : isCu b) : CnI YC yX3_passed cX3_passed 1 .int 0 0 (fun G => [vr G b]) x (fun z y' => (0 ≤ z) ∧ (z ≤ 1296) ∧ (z = x b 1) ∧ (y' = x)) := by
  refine cn_I (by decide) (fun _ => Nat.le_of_ble_eq_true rfl) (fun G C h hq => ?_)
  have h : OK YC G C cX3_passed RX3 1 (some .int) 0 0 := h
  show FW YC G C 1 x 0 [(0, vr G b)] []
  have h_b := Cu_b hb
  refine fr_aload_n h rfl 0 rfl dX3_passed_0 ?_
  refine fr_geti (iz := 1) h kX3 fX3_15 (Cu_at hb) rfl rfl (by decide) (by decide) (Cu_f1 hb) dX3_passed_1 (fun z1 w2 w3 q4 => ?_)
  exact fr_iret h hq (by omega) ⟨(by omega), (by omega), (by omega), rfl⟩ dX3_passed_4
set_option maxHeartbeats 200000 in
theorem c_X3_move (x : Mm) (b : Int) (hb : isCu b) (n : Int) (k : Int) (h_n : fm_r n) (h_k : fm_r k) (e0 : 0 ≤ n) (e1 : n ≤ 400) (e2 : 0 ≤ k) (e3 : k ≤ 1296) : CnV YC yX3_move cX3_move 3 1 21 (fun G => [vr G b, vi n, vi k]) x (fun y' => (y' b 1 ≤ k) ∧ (∀ a : Int, (a < b ∨ b < a) → y' a = x a)) := by
  refine cn_V (by decide) (fun _ => Nat.le_of_ble_eq_true rfl) (fun G C h hq => ?_)
  have h : OK YC G C cX3_move RX3 3 none 1 21 := h
  show FW YC G C 3 x 0 [(0, vr G b), (1, vi n), (2, vi k)] []
  have h_b := Cu_b hb
  refine fr_aload_n h rfl 0 rfl dX3_move_0 ?_
  refine fr_aload_n h rfl 0 rfl dX3_move_1 ?_
  refine fr_geti (iz := 1) h kX3 fX3_15 (Cu_at hb) rfl rfl (by decide) (by decide) (Cu_f1 hb) dX3_move_2 (fun z1 w2 w3 q4 => ?_)
  refine fr_iload_n h rfl 1 rfl dX3_move_5 ?_
  refine fr_iadd h dX3_move_6 ?_
  refine fr_normi (fun z5 w6 q7 => ?_)
  have w8 : fm_r ((z1 + n)) → z5 = (z1 + n) := fun q => (iI_inj q w6 q7).symm
  refine fr_iload_n h rfl 2 rfl dX3_move_7 ?_
  refine fr_mmin h (by omega) (by omega) (tb_4 (i := 190) (by decide +kernel) (by decide +kernel)) w_mmin (by decide) (by decide) (Nat.le_of_ble_eq_true rfl) dX3_move_8 (fun z9 w10 w11 w12 => ?_)
  refine fr_puti (iz := 1) h kX3 fX3_15 (Cu_at hb) rfl rfl (by decide) (by decide) rfl (by decide +kernel) (Cu_f1 hb) (by omega) (by omega) dX3_move_11 ?_
  refine fr_mem (fun x13 m14 => ?_)
  have r15 := (fm_rd_s m14)
  exact fr_vret h hq ⟨(by omega), (fun a k0 => (fm_up_row m14 (by omega)))⟩ dX3_move_14
set_option maxHeartbeats 200000 in
theorem c_X10_size (x : Mm) : CnI YC yX10_size cX10_size 1 .int 0 0 (fun G => [vr G 107]) x (fun z y' => (0 ≤ z) ∧ (z ≤ 8) ∧ (z = x 107 1) ∧ (y' = x)) := by
  refine cn_I (by decide) (fun _ => Nat.le_of_ble_eq_true rfl) (fun G C h hq => ?_)
  have h : OK YC G C cX10_size RX10 1 (some .int) 0 0 := h
  show FW YC G C 1 x 0 [(0, vr G 107)] []
  refine fr_aload_n h rfl 0 rfl dX10_size_0 ?_
  refine fr_geti (iz := 1) h kX10 fX10_15 at_107 rfl rfl (by decide) (by decide) rf_107_1 dX10_size_1 (fun z1 w2 w3 q4 => ?_)
  exact fr_iret h hq (by omega) ⟨(by omega), (by omega), (by omega), rfl⟩ dX10_size_4
set_option maxHeartbeats 200000 in
theorem c_X10_at (x : Mm) (p : Int) (h_p : fm_r p) : CnL YC yX10_at cX10_at 2 0 0 (fun G => [vr G 107, vi p]) x (fun z y' => (y' = x)) := by
  refine cn_L (by decide) (fun _ => Nat.le_of_ble_eq_true rfl) (fun G C h hq => ?_)
  have h : OK YC G C cX10_at RX10 2 (some .long) 0 0 := h
  show FW YC G C 2 x 0 [(0, vr G 107), (1, vi p)] []
  refine fr_iload_n h rfl 1 rfl dX10_at_0 ?_
  refine fr_if_lt (tgt := 21) h dX10_at_1 (by decide) (by omega) (fun c1 => ?_) (fun c1 => ?_)
  ·
    refine fr_lconst (z := 0) h rfl dX10_at_21 ?_
    exact fr_lret h hq (by omega) rfl dX10_at_22
  ·
    refine fr_iload_n h rfl 1 rfl dX10_at_4 ?_
    refine fr_aload_n h rfl 0 rfl dX10_at_5 ?_
    refine fr_geti (iz := 1) h kX10 fX10_15 at_107 rfl rfl (by decide) (by decide) rf_107_1 dX10_at_6 (fun z2 w3 w4 q5 => ?_)
    refine fr_icmp_ge (tgt := 21) h dX10_at_9 (by decide) (by omega) (by omega) (fun c6 => ?_) (fun c6 => ?_)
    ·
      refine fr_lconst (z := 0) h rfl dX10_at_21 ?_
      exact fr_lret h hq (by omega) rfl dX10_at_22
    ·
      refine fr_aload_n h rfl 0 rfl dX10_at_12 ?_
      refine fr_getc (z := 108) (iz := 0) h kX10 fX10_9 at_107 rfl rfl rf_107_0 (by omega) dX10_at_13 ?_
      refine fr_iload_n h rfl 1 rfl dX10_at_16 ?_
      refine fr_lald h ar_108 (by omega) (by omega) (rr_108 p) dX10_at_17 (fun z7 w8 w9 q10 => ?_)
      refine fr_goto (tgt := 22) h dX10_at_18 (by decide) ?_
      exact fr_lret h hq (by omega) rfl dX10_at_22
set_option maxHeartbeats 200000 in
theorem c_X10_clear (x : Mm) : CnV YC yX10_clear cX10_clear 1 0 0 (fun G => [vr G 107]) x (fun y' => (∀ a : Int, (a < 107 ∨ 108 < a) → y' a = x a)) := by
  refine cn_V (by decide) (fun _ => Nat.le_of_ble_eq_true rfl) (fun G C h hq => ?_)
  have h : OK YC G C cX10_clear RX10 1 none 0 0 := h
  show FW YC G C 1 x 0 [(0, vr G 107)] []
  refine fr_aload_n h rfl 0 rfl dX10_clear_0 ?_
  refine fr_iconst h dX10_clear_1 ?_
  refine fr_puti (iz := 1) h kX10 fX10_15 at_107 rfl rfl (by decide) (by decide) rfl (by decide +kernel) rf_107_1 (by omega) (by omega) dX10_clear_2 ?_
  refine fr_mem (fun x1 m2 => ?_)
  exact fr_vret h hq (fun a k0 => (fm_up_row m2 (by omega))) dX10_clear_5
set_option maxHeartbeats 200000 in
theorem c_X10_add (x : Mm) (v : Int) (h_v : fm_l v) : CnV YC yX10_add cX10_add 3 0 0 (fun G => [vr G 107, vj v]) x (fun y' => (∀ a : Int, (a < 107 ∨ 108 < a) → y' a = x a)) := by
  refine cn_V (by decide) (fun _ => Nat.le_of_ble_eq_true rfl) (fun G C h hq => ?_)
  have h : OK YC G C cX10_add RX10 3 none 0 0 := h
  show FW YC G C 3 x 0 [(0, vr G 107), (1, vj v)] []
  refine fr_aload_n h rfl 0 rfl dX10_add_0 ?_
  refine fr_geti (iz := 1) h kX10 fX10_15 at_107 rfl rfl (by decide) (by decide) rf_107_1 dX10_add_1 (fun z1 w2 w3 q4 => ?_)
  refine fr_bipush h rfl dX10_add_4 ?_
  refine fr_icmp_ge (tgt := 29) h dX10_add_6 (by decide) (by omega) (by omega) (fun c5 => ?_) (fun c5 => ?_)
  ·
    exact fr_vret h hq (fun a _ => rfl) dX10_add_29
  ·
    refine fr_aload_n h rfl 0 rfl dX10_add_9 ?_
    refine fr_getc (z := 108) (iz := 0) h kX10 fX10_9 at_107 rfl rfl rf_107_0 (by omega) dX10_add_10 ?_
    refine fr_aload_n h rfl 0 rfl dX10_add_13 ?_
    refine fr_geti (iz := 1) h kX10 fX10_15 at_107 rfl rfl (by decide) (by decide) rf_107_1 dX10_add_14 (fun z6 w7 w8 q9 => ?_)
    refine fr_lload_n h rfl 1 rfl dX10_add_17 ?_
    refine fr_last h ar_108 (by omega) (by omega) (rr_108 z6) (by omega) (by omega) dX10_add_18 ?_
    refine fr_mem (fun x10 m11 => ?_)
    refine fr_aload_n h rfl 0 rfl dX10_add_19 ?_
    refine fr_dup h rfl dX10_add_20 ?_
    refine fr_geti (iz := 1) h kX10 fX10_15 at_107 rfl rfl (by decide) (by decide) rf_107_1 dX10_add_21 (fun z12 w13 w14 q15 => ?_)
    have r16 := q15.trans (fm_rd_k (a := 107) (b := 1) m11 (by omega))
    refine fr_iconst h dX10_add_24 ?_
    refine fr_iadd h dX10_add_25 ?_
    refine fr_puti (iz := 1) h kX10 fX10_15 at_107 rfl rfl (by decide) (by decide) rfl (by decide +kernel) rf_107_1 (by omega) (by omega) dX10_add_26 ?_
    refine fr_mem (fun x17 m18 => ?_)
    exact fr_vret h hq (fun a k0 => ((fm_up_row m18 (by omega)).trans (fm_up_row m11 (by omega)))) dX10_add_29
set_option maxHeartbeats 200000 in
theorem c_X10_only (x : Mm) (v : Int) (h_v : fm_l v) : CnV YC yX10_only cX10_only 3 1 22 (fun G => [vr G 107, vj v]) x (fun y' => (∀ a : Int, (a < 107 ∨ 108 < a) → y' a = x a)) := by
  refine cn_V (by decide) (fun _ => Nat.le_of_ble_eq_true rfl) (fun G C h hq => ?_)
  have h : OK YC G C cX10_only RX10 3 none 1 22 := h
  show FW YC G C 3 x 0 [(0, vr G 107), (1, vj v)] []
  refine fr_aload_n h rfl 0 rfl dX10_only_0 ?_
  refine fr_cvV h kX10 at_107 wX10_clear lX10_19 (c_X10_clear x) rfl (by decide) (by decide) rfl (Nat.le_of_ble_eq_true rfl) dX10_only_1 (fun x1 p4 => ?_)
  have f5 := p4
  refine fr_aload_n h rfl 0 rfl dX10_only_4 ?_
  refine fr_lload_n h rfl 1 rfl dX10_only_5 ?_
  refine fr_cvV h kX10 at_107 wX10_add lX10_22 (c_X10_add x1 v (by omega)) rfl (by decide) (by decide) rfl (Nat.le_of_ble_eq_true rfl) dX10_only_6 (fun x6 p9 => ?_)
  have f10 := p9
  exact fr_vret h hq (fun a k0 => ((f10 a (by omega)).trans (f5 a (by omega)))) dX10_only_9
set_option maxHeartbeats 200000 in
theorem c_X2_with (x : Mm) (v : Int) (p : Int) (w : Int) (h_v : fm_l v) (h_p : fm_r p) (h_w : fm_r w) : CnL YC yX2_with cX2_with 4 0 0 (fun G => [vj v, vi p, vi w]) x (fun z y' => (y' = x)) := by
  refine cn_L (by decide) (fun _ => Nat.le_of_ble_eq_true rfl) (fun G C h hq => ?_)
  have h : OK YC G C cX2_with RX2 4 (some .long) 0 0 := h
  show FW YC G C 4 x 0 [(0, vj v), (2, vi p), (3, vi w)] []
  refine fr_lload_n h rfl 0 rfl dX2_with_0 ?_
  refine fr_iload_n h rfl 2 rfl dX2_with_1 ?_
  refine fr_iconst h dX2_with_2 ?_
  refine fr_iadd h dX2_with_3 ?_
  refine fr_normi (fun z1 w2 q3 => ?_)
  have w4 : fm_r ((w + 1)) → z1 = (w + 1) := fun q => (iI_inj q w2 q3).symm
  refine fr_i2l h (by omega) dX2_with_4 ?_
  refine fr_bipush h rfl dX2_with_5 ?_
  refine fr_iconst h dX2_with_7 ?_
  refine fr_iload_n h rfl 1 rfl dX2_with_8 ?_
  refine fr_imul h dX2_with_9 ?_
  refine fr_normi (fun z5 w6 q7 => ?_)
  have w8 : fm_r ((4 * p)) → z5 = (4 * p) := fun q => (iI_inj q w6 q7).symm
  refine fr_isub h dX2_with_10 ?_
  refine fr_normi (fun z9 w10 q11 => ?_)
  have w12 : fm_r ((28 - z5)) → z9 = (28 - z5) := fun q => (iI_inj q w10 q11).symm
  refine fr_lshl h dX2_with_11 (fun z13 w14 q15 w16 => ?_)
  refine fr_lor h dX2_with_12 (fun z17 w18 q19 w20 => ?_)
  exact fr_lret h hq (by omega) rfl dX2_with_13
set_option maxHeartbeats 200000 in
theorem c_X2_numberAt (x : Mm) (v : Int) (p : Int) (h_v : fm_l v) (h_p : fm_r p) : CnI YC yX2_numberAt cX2_numberAt 3 .int 0 0 (fun G => [vj v, vi p]) x (fun z y' => ((-1) ≤ z) ∧ (z ≤ 14) ∧ (y' = x)) := by
  refine cn_I (by decide) (fun _ => Nat.le_of_ble_eq_true rfl) (fun G C h hq => ?_)
  have h : OK YC G C cX2_numberAt RX2 3 (some .int) 0 0 := h
  show FW YC G C 3 x 0 [(0, vj v), (2, vi p)] []
  refine fr_lload_n h rfl 0 rfl dX2_numberAt_0 ?_
  refine fr_bipush h rfl dX2_numberAt_1 ?_
  refine fr_iconst h dX2_numberAt_3 ?_
  refine fr_iload_n h rfl 1 rfl dX2_numberAt_4 ?_
  refine fr_imul h dX2_numberAt_5 ?_
  refine fr_normi (fun z1 w2 q3 => ?_)
  have w4 : fm_r ((4 * p)) → z1 = (4 * p) := fun q => (iI_inj q w2 q3).symm
  refine fr_isub h dX2_numberAt_6 ?_
  refine fr_normi (fun z5 w6 q7 => ?_)
  have w8 : fm_r ((28 - z1)) → z5 = (28 - z1) := fun q => (iI_inj q w6 q7).symm
  refine fr_lushr h dX2_numberAt_7 (fun z9 w10 q11 w12 => ?_)
  refine fr_ldc2 (z := 15) h (by exact tb_4 (i := 78) (by decide +kernel) (by decide +kernel)) rfl dX2_numberAt_8 ?_
  refine fr_land h dX2_numberAt_11 (fun z13 w14 q15 w16 => ?_)
  have w17 : (0 : Int) ≤ 15 → (15 : Int) ≤ 9223372036854775807 → 0 ≤ z13 ∧ z13 ≤ 15 := w16
  refine fr_l2i h dX2_numberAt_12 (fun z18 w19 q20 w21 => ?_)
  refine fr_iconst h dX2_numberAt_13 ?_
  refine fr_isub h dX2_numberAt_14 ?_
  refine fr_normi (fun z22 w23 q24 => ?_)
  have w25 : fm_r ((z18 - 1)) → z22 = (z18 - 1) := fun q => (iI_inj q w23 q24).symm
  exact fr_iret h hq (by omega) ⟨(by omega), (by omega), rfl⟩ dX2_numberAt_15
set_option maxHeartbeats 200000 in
theorem c_X2_lengthOf (x : Mm) (v : Int) (h_v : fm_l v) : CnI YC yX2_lengthOf cX2_lengthOf 3 .int 1 22 (fun G => [vj v]) x (fun z y' => (0 ≤ z) ∧ (z ≤ 8) ∧ (y' = x)) := by
  refine cn_I (by decide) (fun _ => Nat.le_of_ble_eq_true rfl) (fun G C h hq => ?_)
  have h : OK YC G C cX2_lengthOf RX2 3 (some .int) 1 22 := h
  show FW YC G C 3 x 0 [(0, vj v)] []
  refine fr_iconst h dX2_lengthOf_0 ?_
  refine fr_istore_n (L' := [(0, vj v), (2, vi 0)]) h rfl dX2_lengthOf_1 (by decide) [1, 0] rfl ?_
  have HL1 : ∀ (n1 : Nat) (l2_1 : Int), fm_r l2_1 → 0 ≤ l2_1 → l2_1 ≤ 8 → (8 - l2_1) < n1 → FW YC G C 3 x 2 [(0, vj v), (2, vi l2_1)] [] := by
    intro n1
    induction n1 with
    | zero =>
      intro l2_1 g1_0 g1_1 g1_2 g1_3
      exfalso; omega
    | succ n1 ih1 =>
      intro l2_1 g1_0 g1_1 g1_2 g1_3
      refine fr_iload_n h rfl 1 rfl dX2_lengthOf_2 ?_
      refine fr_bipush h rfl dX2_lengthOf_3 ?_
      refine fr_icmp_ge (tgt := 22) h dX2_lengthOf_5 (by decide) (by omega) (by omega) (fun c2 => ?_) (fun c2 => ?_)
      ·
        refine fr_iload_n h rfl 1 rfl dX2_lengthOf_22 ?_
        exact fr_iret h hq (by omega) ⟨(by omega), (by omega), rfl⟩ dX2_lengthOf_23
      ·
        refine fr_lload_n h rfl 0 rfl dX2_lengthOf_8 ?_
        refine fr_iload_n h rfl 1 rfl dX2_lengthOf_9 ?_
        refine fr_csI h wX2_numberAt lX2_13 (c_X2_numberAt x v l2_1 (by omega) (by omega)) rfl (by decide) (by decide) rfl (Nat.le_of_ble_eq_true rfl) dX2_lengthOf_10 (fun z4 x3 w5 p6 => ?_)
        obtain ⟨p7, p8, y9⟩ := p6
        rw [y9]
        clear y9
        refine fr_if_lt (tgt := 22) h dX2_lengthOf_13 (by decide) (by omega) (fun c10 => ?_) (fun c10 => ?_)
        ·
          refine fr_iload_n h rfl 1 rfl dX2_lengthOf_22 ?_
          exact fr_iret h hq (by omega) ⟨(by omega), (by omega), rfl⟩ dX2_lengthOf_23
        ·
          refine fr_iinc (j := 1) (L' := [(0, vj v), (2, vi (l2_1 + 1))]) h dX2_lengthOf_16 rfl (by decide) [1, 0] rfl ?_
          refine fr_goto (tgt := 2) h dX2_lengthOf_19 (by decide) ?_
          exact ih1 (l2_1 + 1) (by omega) (by omega) (by omega) (by omega)
  exact HL1 ((8 - 0) + 1 : Int).toNat 0 (by omega) (by omega) (by omega) (by omega)
set_option maxHeartbeats 200000 in
theorem c_X2_differences (x : Mm) (v : Int) (w : Int) (h_v : fm_l v) (h_w : fm_l w) : CnI YC yX2_differences cX2_differences 6 .int 1 22 (fun G => [vj v, vj w]) x (fun z y' => (y' = x)) := by
  refine cn_I (by decide) (fun _ => Nat.le_of_ble_eq_true rfl) (fun G C h hq => ?_)
  have h : OK YC G C cX2_differences RX2 6 (some .int) 1 22 := h
  show FW YC G C 6 x 0 [(0, vj v), (2, vj w)] []
  refine fr_iconst h dX2_differences_0 ?_
  refine fr_istore (L' := [(0, vj v), (2, vj w), (4, vi 0)]) h dX2_differences_1 (by decide) [1, 2, 0] rfl ?_
  refine fr_iconst h dX2_differences_3 ?_
  refine fr_istore (L' := [(0, vj v), (2, vj w), (4, vi 0), (5, vi 0)]) h dX2_differences_4 (by decide) [1, 2, 3, 0] rfl ?_
  have HL1 : ∀ (n1 : Nat) (l4_1 l5_1 : Int), fm_r l4_1 → fm_r l5_1 → 0 ≤ l5_1 → l5_1 ≤ 8 → (8 - l5_1) < n1 → FW YC G C 6 x 6 [(0, vj v), (2, vj w), (4, vi l4_1), (5, vi l5_1)] [] := by
    intro n1
    induction n1 with
    | zero =>
      intro l4_1 l5_1 g1_0 g1_1 g1_2 g1_3 g1_4
      exfalso; omega
    | succ n1 ih1 =>
      intro l4_1 l5_1 g1_0 g1_1 g1_2 g1_3 g1_4
      refine fr_iload h 3 rfl dX2_differences_6 ?_
      refine fr_bipush h rfl dX2_differences_8 ?_
      refine fr_icmp_ge (tgt := 43) h dX2_differences_10 (by decide) (by omega) (by omega) (fun c2 => ?_) (fun c2 => ?_)
      ·
        refine fr_iload h 2 rfl dX2_differences_43 ?_
        exact fr_iret h hq (by omega) rfl dX2_differences_45
      ·
        refine fr_lload_n h rfl 0 rfl dX2_differences_13 ?_
        refine fr_iload h 3 rfl dX2_differences_14 ?_
        refine fr_csI h wX2_numberAt lX2_13 (c_X2_numberAt x v l5_1 (by omega) (by omega)) rfl (by decide) (by decide) rfl (Nat.le_of_ble_eq_true rfl) dX2_differences_16 (fun z4 x3 w5 p6 => ?_)
        obtain ⟨p7, p8, y9⟩ := p6
        rw [y9]
        clear y9
        refine fr_lload_n h rfl 1 rfl dX2_differences_19 ?_
        refine fr_iload h 3 rfl dX2_differences_20 ?_
        refine fr_csI h wX2_numberAt lX2_13 (c_X2_numberAt x w l5_1 (by omega) (by omega)) rfl (by decide) (by decide) rfl (Nat.le_of_ble_eq_true rfl) dX2_differences_22 (fun z11 x10 w12 p13 => ?_)
        obtain ⟨p14, p15, y16⟩ := p13
        rw [y16]
        clear y16
        refine fr_icmp_eq (tgt := 37) h dX2_differences_25 (by decide) (by omega) (by omega) (fun c17 => ?_) (fun c17 => ?_)
        ·
          refine fr_iinc (j := 3) (L' := [(0, vj v), (2, vj w), (4, vi l4_1), (5, vi (l5_1 + 1))]) h dX2_differences_37 rfl (by decide) [1, 2, 3, 0] rfl ?_
          refine fr_goto (tgt := 6) h dX2_differences_40 (by decide) ?_
          exact ih1 l4_1 (l5_1 + 1) (by omega) (by omega) (by omega) (by omega) (by omega)
        ·
          refine fr_iload h 2 rfl dX2_differences_28 ?_
          refine fr_iconst h dX2_differences_30 ?_
          refine fr_iload h 3 rfl dX2_differences_31 ?_
          refine fr_ishl h dX2_differences_33 (fun z18 w19 q20 w21 => ?_)
          refine fr_ior h dX2_differences_34 (fun z22 w23 q24 w25 => ?_)
          refine fr_istore (L' := [(0, vj v), (2, vj w), (4, vi z22), (5, vi l5_1)]) h dX2_differences_35 (by decide) [1, 2, 0, 3] rfl ?_
          refine fr_iinc (j := 3) (L' := [(0, vj v), (2, vj w), (4, vi z22), (5, vi (l5_1 + 1))]) h dX2_differences_37 rfl (by decide) [1, 2, 3, 0] rfl ?_
          refine fr_goto (tgt := 6) h dX2_differences_40 (by decide) ?_
          exact ih1 z22 (l5_1 + 1) (by omega) (by omega) (by omega) (by omega) (by omega)
  exact HL1 ((8 - 0) + 1 : Int).toNat 0 0 (by omega) (by omega) (by omega) (by omega) (by omega)
set_option maxHeartbeats 200000 in
theorem c_X2_firstOf (x : Mm) (p : Int) (h_p : fm_r p) : CnI YC yX2_firstOf cX2_firstOf 2 .int 0 0 (fun G => [vi p]) x (fun z y' => (0 ≤ z) ∧ (z ≤ 8) ∧ (y' = x)) := by
  refine cn_I (by decide) (fun _ => Nat.le_of_ble_eq_true rfl) (fun G C h hq => ?_)
  have h : OK YC G C cX2_firstOf RX2 2 (some .int) 0 0 := h
  show FW YC G C 2 x 0 [(0, vi p)] []
  refine fr_iconst h dX2_firstOf_0 ?_
  refine fr_istore_n (L' := [(0, vi p), (1, vi 0)]) h rfl dX2_firstOf_1 (by decide) [1, 0] rfl ?_
  have HL1 : ∀ (n1 : Nat) (l1_1 : Int), fm_r l1_1 → 0 ≤ l1_1 → l1_1 ≤ 8 → (8 - l1_1) < n1 → FW YC G C 2 x 2 [(0, vi p), (1, vi l1_1)] [] := by
    intro n1
    induction n1 with
    | zero =>
      intro l1_1 g1_0 g1_1 g1_2 g1_3
      exfalso; omega
    | succ n1 ih1 =>
      intro l1_1 g1_0 g1_1 g1_2 g1_3
      refine fr_iload_n h rfl 1 rfl dX2_firstOf_2 ?_
      refine fr_bipush h rfl dX2_firstOf_3 ?_
      refine fr_icmp_ge (tgt := 22) h dX2_firstOf_5 (by decide) (by omega) (by omega) (fun c2 => ?_) (fun c2 => ?_)
      ·
        refine fr_iload_n h rfl 1 rfl dX2_firstOf_22 ?_
        exact fr_iret h hq (by omega) ⟨(by omega), (by omega), rfl⟩ dX2_firstOf_23
      ·
        refine fr_iload_n h rfl 0 rfl dX2_firstOf_8 ?_
        refine fr_iconst h dX2_firstOf_9 ?_
        refine fr_iload_n h rfl 1 rfl dX2_firstOf_10 ?_
        refine fr_ishl h dX2_firstOf_11 (fun z3 w4 q5 w6 => ?_)
        refine fr_iand h dX2_firstOf_12 (fun z7 w8 q9 w10 => ?_)
        refine fr_if_ne (tgt := 22) h dX2_firstOf_13 (by decide) (by omega) (fun c11 => ?_) (fun c11 => ?_)
        ·
          refine fr_iload_n h rfl 1 rfl dX2_firstOf_22 ?_
          exact fr_iret h hq (by omega) ⟨(by omega), (by omega), rfl⟩ dX2_firstOf_23
        ·
          refine fr_iinc (j := 1) (L' := [(0, vi p), (1, vi (l1_1 + 1))]) h dX2_firstOf_16 rfl (by decide) [1, 0] rfl ?_
          refine fr_goto (tgt := 2) h dX2_firstOf_19 (by decide) ?_
          exact ih1 (l1_1 + 1) (by omega) (by omega) (by omega) (by omega)
  exact HL1 ((8 - 0) + 1 : Int).toNat 0 (by omega) (by omega) (by omega) (by omega)
set_option maxHeartbeats 200000 in
theorem c_X2_numbersOf (x : Mm) (v : Int) (h_v : fm_l v) : CnI YC yX2_numbersOf cX2_numbersOf 5 .int 2 44 (fun G => [vj v]) x (fun z y' => (y' = x)) := by
  refine cn_I (by decide) (fun _ => Nat.le_of_ble_eq_true rfl) (fun G C h hq => ?_)
  have h : OK YC G C cX2_numbersOf RX2 5 (some .int) 2 44 := h
  show FW YC G C 5 x 0 [(0, vj v)] []
  refine fr_iconst h dX2_numbersOf_0 ?_
  refine fr_istore_n (L' := [(0, vj v), (2, vi 0)]) h rfl dX2_numbersOf_1 (by decide) [1, 0] rfl ?_
  refine fr_lload_n h rfl 0 rfl dX2_numbersOf_2 ?_
  refine fr_csI h wX2_lengthOf lX2_17 (c_X2_lengthOf x v (by omega)) rfl (by decide) (by decide) rfl (Nat.le_of_ble_eq_true rfl) dX2_numbersOf_3 (fun z2 x1 w3 p4 => ?_)
  obtain ⟨p5, p6, y7⟩ := p4
  rw [y7]
  clear y7
  refine fr_istore_n (L' := [(0, vj v), (2, vi 0), (3, vi z2)]) h rfl dX2_numbersOf_6 (by decide) [1, 2, 0] rfl ?_
  refine fr_iconst h dX2_numbersOf_7 ?_
  refine fr_istore (L' := [(0, vj v), (2, vi 0), (3, vi z2), (4, vi 0)]) h dX2_numbersOf_8 (by decide) [1, 2, 3, 0] rfl ?_
  have HL8 : ∀ (n8 : Nat) (l2_8 l4_8 : Int), fm_r l2_8 → fm_r l4_8 → 0 ≤ l4_8 → l4_8 ≤ 8 → l4_8 ≤ z2 → (z2 - l4_8) < n8 → FW YC G C 5 x 10 [(0, vj v), (2, vi l2_8), (3, vi z2), (4, vi l4_8)] [] := by
    intro n8
    induction n8 with
    | zero =>
      intro l2_8 l4_8 g8_0 g8_1 g8_2 g8_3 g8_4 g8_5
      exfalso; omega
    | succ n8 ih8 =>
      intro l2_8 l4_8 g8_0 g8_1 g8_2 g8_3 g8_4 g8_5
      refine fr_iload h 3 rfl dX2_numbersOf_10 ?_
      refine fr_iload_n h rfl 2 rfl dX2_numbersOf_12 ?_
      refine fr_icmp_ge (tgt := 33) h dX2_numbersOf_13 (by decide) (by omega) (by omega) (fun c9 => ?_) (fun c9 => ?_)
      ·
        refine fr_iload_n h rfl 1 rfl dX2_numbersOf_33 ?_
        exact fr_iret h hq (by omega) rfl dX2_numbersOf_34
      ·
        refine fr_iload_n h rfl 1 rfl dX2_numbersOf_16 ?_
        refine fr_iconst h dX2_numbersOf_17 ?_
        refine fr_lload_n h rfl 0 rfl dX2_numbersOf_18 ?_
        refine fr_iload h 3 rfl dX2_numbersOf_19 ?_
        refine fr_csI h wX2_numberAt lX2_13 (c_X2_numberAt x v l4_8 (by omega) (by omega)) rfl (by decide) (by decide) rfl (Nat.le_of_ble_eq_true rfl) dX2_numbersOf_21 (fun z11 x10 w12 p13 => ?_)
        obtain ⟨p14, p15, y16⟩ := p13
        rw [y16]
        clear y16
        refine fr_ishl h dX2_numbersOf_24 (fun z17 w18 q19 w20 => ?_)
        refine fr_ior h dX2_numbersOf_25 (fun z21 w22 q23 w24 => ?_)
        refine fr_istore_n (L' := [(0, vj v), (2, vi z21), (3, vi z2), (4, vi l4_8)]) h rfl dX2_numbersOf_26 (by decide) [1, 0, 2, 3] rfl ?_
        refine fr_iinc (j := 3) (L' := [(0, vj v), (2, vi z21), (3, vi z2), (4, vi (l4_8 + 1))]) h dX2_numbersOf_27 rfl (by decide) [1, 2, 3, 0] rfl ?_
        refine fr_goto (tgt := 10) h dX2_numbersOf_30 (by decide) ?_
        exact ih8 z21 (l4_8 + 1) (by omega) (by omega) (by omega) (by omega) (by omega) (by omega)
  exact HL8 ((z2 - 0) + 1 : Int).toNat 0 0 (by omega) (by omega) (by omega) (by omega) (by omega) (by omega)
set_option maxHeartbeats 200000 in
theorem c_X2_fault (x : Mm) : CnI YC yX2_fault cX2_fault 2 .int 1 21 (fun G => [vr G 1]) x (fun z y' => ((-1) ≤ z) ∧ (z ≤ 80) ∧ (y' = x)) := by
  refine cn_I (by decide) (fun _ => Nat.le_of_ble_eq_true rfl) (fun G C h hq => ?_)
  have h : OK YC G C cX2_fault RX2 2 (some .int) 1 21 := h
  show FW YC G C 2 x 0 [(0, vr G 1)] []
  refine fr_iconst h dX2_fault_0 ?_
  refine fr_istore_n (L' := [(0, vr G 1), (1, vi 0)]) h rfl dX2_fault_1 (by decide) [1, 0] rfl ?_
  have HL1 : ∀ (n1 : Nat) (l1_1 : Int), fm_r l1_1 → 0 ≤ l1_1 → l1_1 ≤ 80 → (80 - l1_1) < n1 → FW YC G C 2 x 2 [(0, vr G 1), (1, vi l1_1)] [] := by
    intro n1
    induction n1 with
    | zero =>
      intro l1_1 g1_0 g1_1 g1_2 g1_3
      exfalso; omega
    | succ n1 ih1 =>
      intro l1_1 g1_0 g1_1 g1_2 g1_3
      refine fr_iload_n h rfl 1 rfl dX2_fault_2 ?_
      refine fr_aload_n h rfl 0 rfl dX2_fault_3 ?_
      refine fr_cvI h kX9 at_1 wX9_length lX2_21 (c_X9_length x) rfl (by decide) (by decide) rfl (Nat.le_of_ble_eq_true rfl) dX2_fault_4 (fun z3 x2 w4 p5 => ?_)
      obtain ⟨p6, p7, p8, y9⟩ := p5
      rw [y9]
      clear y9
      refine fr_icmp_ge (tgt := 44) h dX2_fault_7 (by decide) (by omega) (by omega) (fun c10 => ?_) (fun c10 => ?_)
      ·
        refine fr_iconst h dX2_fault_44 ?_
        exact fr_iret h hq (by omega) ⟨(by omega), (by omega), rfl⟩ dX2_fault_45
      ·
        refine fr_iload_n h rfl 1 rfl dX2_fault_10 ?_
        refine fr_bipush h rfl dX2_fault_11 ?_
        refine fr_icmp_ge (tgt := 36) h dX2_fault_13 (by decide) (by omega) (by omega) (fun c11 => ?_) (fun c11 => ?_)
        ·
          refine fr_iload_n h rfl 1 rfl dX2_fault_36 ?_
          exact fr_iret h hq (by omega) ⟨(by omega), (by omega), rfl⟩ dX2_fault_37
        ·
          refine fr_aload_n h rfl 0 rfl dX2_fault_16 ?_
          refine fr_iload_n h rfl 1 rfl dX2_fault_17 ?_
          refine fr_cvI h kX9 at_1 wX9_at lX2_27 (c_X9_at x l1_1 (by omega)) rfl (by decide) (by decide) rfl (Nat.le_of_ble_eq_true rfl) dX2_fault_18 (fun z13 x12 w14 p15 => ?_)
          obtain ⟨p16, p17, p18, p19, y20⟩ := p15
          rw [y20]
          clear y20
          refine fr_bipush h rfl dX2_fault_21 ?_
          refine fr_icmp_lt (tgt := 36) h dX2_fault_23 (by decide) (by omega) (by omega) (fun c21 => ?_) (fun c21 => ?_)
          ·
            refine fr_iload_n h rfl 1 rfl dX2_fault_36 ?_
            exact fr_iret h hq (by omega) ⟨(by omega), (by omega), rfl⟩ dX2_fault_37
          ·
            refine fr_aload_n h rfl 0 rfl dX2_fault_26 ?_
            refine fr_iload_n h rfl 1 rfl dX2_fault_27 ?_
            refine fr_cvI h kX9 at_1 wX9_at lX2_27 (c_X9_at x l1_1 (by omega)) rfl (by decide) (by decide) rfl (Nat.le_of_ble_eq_true rfl) dX2_fault_28 (fun z23 x22 w24 p25 => ?_)
            obtain ⟨p26, p27, p28, p29, y30⟩ := p25
            rw [y30]
            clear y30
            refine fr_bipush h rfl dX2_fault_31 ?_
            refine fr_icmp_lt (tgt := 38) h dX2_fault_33 (by decide) (by omega) (by omega) (fun c31 => ?_) (fun c31 => ?_)
            ·
              refine fr_iinc (j := 1) (L' := [(0, vr G 1), (1, vi (l1_1 + 1))]) h dX2_fault_38 rfl (by decide) [1, 0] rfl ?_
              refine fr_goto (tgt := 2) h dX2_fault_41 (by decide) ?_
              exact ih1 (l1_1 + 1) (by omega) (by omega) (by omega) (by omega)
            ·
              refine fr_iload_n h rfl 1 rfl dX2_fault_36 ?_
              exact fr_iret h hq (by omega) ⟨(by omega), (by omega), rfl⟩ dX2_fault_37
  exact HL1 ((80 - 0) + 1 : Int).toNat 0 (by omega) (by omega) (by omega) (by omega)
set_option maxHeartbeats 200000 in
theorem c_X2_of (x : Mm) : CnL YC yX2_of cX2_of 5 1 23 (fun G => [vr G 1]) x (fun z y' => (y' = x)) := by
  refine cn_L (by decide) (fun _ => Nat.le_of_ble_eq_true rfl) (fun G C h hq => ?_)
  have h : OK YC G C cX2_of RX2 5 (some .long) 1 23 := h
  show FW YC G C 5 x 0 [(0, vr G 1)] []
  refine fr_lconst (z := 0) h rfl dX2_of_0 ?_
  refine fr_lstore_n (L' := [(0, vr G 1), (1, vj 0)]) h rfl dX2_of_1 (by decide) [1, 0] rfl ?_
  refine fr_aload_n h rfl 0 rfl dX2_of_2 ?_
  refine fr_cvI h kX9 at_1 wX9_length lX2_21 (c_X9_length x) rfl (by decide) (by decide) rfl (Nat.le_of_ble_eq_true rfl) dX2_of_3 (fun z2 x1 w3 p4 => ?_)
  obtain ⟨p5, p6, p7, y8⟩ := p4
  rw [y8]
  clear y8
  refine fr_bipush h rfl dX2_of_6 ?_
  refine fr_mmin h (by omega) (by omega) (tb_4 (i := 113) (by decide +kernel) (by decide +kernel)) w_mmin (by decide) (by decide) (Nat.le_of_ble_eq_true rfl) dX2_of_8 (fun z9 w10 w11 w12 => ?_)
  refine fr_istore_n (L' := [(0, vr G 1), (1, vj 0), (3, vi z9)]) h rfl dX2_of_11 (by decide) [1, 2, 0] rfl ?_
  refine fr_iconst h dX2_of_12 ?_
  refine fr_istore (L' := [(0, vr G 1), (1, vj 0), (3, vi z9), (4, vi 0)]) h dX2_of_13 (by decide) [1, 2, 3, 0] rfl ?_
  have HL13 : ∀ (n13 : Nat) (l1_13 l4_13 : Int), fm_l l1_13 → fm_r l4_13 → 0 ≤ l4_13 → l4_13 ≤ 8 → l4_13 ≤ z9 → (z9 - l4_13) < n13 → FW YC G C 5 x 15 [(0, vr G 1), (1, vj l1_13), (3, vi z9), (4, vi l4_13)] [] := by
    intro n13
    induction n13 with
    | zero =>
      intro l1_13 l4_13 g13_0 g13_1 g13_2 g13_3 g13_4 g13_5
      exfalso; omega
    | succ n13 ih13 =>
      intro l1_13 l4_13 g13_0 g13_1 g13_2 g13_3 g13_4 g13_5
      refine fr_iload h 3 rfl dX2_of_15 ?_
      refine fr_iload_n h rfl 2 rfl dX2_of_17 ?_
      refine fr_icmp_ge (tgt := 43) h dX2_of_18 (by decide) (by omega) (by omega) (fun c14 => ?_) (fun c14 => ?_)
      ·
        refine fr_lload_n h rfl 1 rfl dX2_of_43 ?_
        exact fr_lret h hq (by omega) rfl dX2_of_44
      ·
        refine fr_lload_n h rfl 1 rfl dX2_of_21 ?_
        refine fr_iload h 3 rfl dX2_of_22 ?_
        refine fr_aload_n h rfl 0 rfl dX2_of_24 ?_
        refine fr_iload h 3 rfl dX2_of_25 ?_
        refine fr_cvI h kX9 at_1 wX9_at lX2_27 (c_X9_at x l4_13 (by omega)) rfl (by decide) (by decide) rfl (Nat.le_of_ble_eq_true rfl) dX2_of_27 (fun z16 x15 w17 p18 => ?_)
        obtain ⟨p19, p20, p21, p22, y23⟩ := p18
        rw [y23]
        clear y23
        refine fr_bipush h rfl dX2_of_30 ?_
        refine fr_isub h dX2_of_32 ?_
        refine fr_csL h wX2_with lX2_37 (c_X2_with x l1_13 l4_13 (z16 - 97) (by omega) (by omega) (by omega)) rfl (by decide) (by decide) rfl (Nat.le_of_ble_eq_true rfl) dX2_of_33 (fun z25 x24 w26 p27 => ?_)
        have y28 := p27
        rw [y28]
        clear y28
        refine fr_lstore_n (L' := [(0, vr G 1), (1, vj z25), (3, vi z9), (4, vi l4_13)]) h rfl dX2_of_36 (by decide) [1, 0, 2, 3] rfl ?_
        refine fr_iinc (j := 3) (L' := [(0, vr G 1), (1, vj z25), (3, vi z9), (4, vi (l4_13 + 1))]) h dX2_of_37 rfl (by decide) [1, 2, 3, 0] rfl ?_
        refine fr_goto (tgt := 15) h dX2_of_40 (by decide) ?_
        exact ih13 z25 (l4_13 + 1) (by omega) (by omega) (by omega) (by omega) (by omega) (by omega)
  exact HL13 ((z9 - 0) + 1 : Int).toNat 0 0 (by omega) (by omega) (by omega) (by omega) (by omega) (by omega)
