set_option maxHeartbeats 200000 in
theorem c_X5_size (x : Mm) : CnI YC yX5_size cX5_size 1 .int 0 0 (fun G => [vr G 14]) x (fun z y' => (0 ≤ z) ∧ (z ≤ 10) ∧ (z = x 14 2) ∧ (y' = x)) := by
  refine cn_I (by decide) (fun _ => Nat.le_of_ble_eq_true rfl) (fun G C h hq => ?_)
  have h : OK YC G C cX5_size RX5 1 (some .int) 0 0 := h
  show FW YC G C 1 x 0 [(0, vr G 14)] []
  refine fr_aload_n h rfl 0 rfl dX5_size_0 ?_
  refine fr_geti (iz := 2) h kX5 fX5_18 at_14 rfl rfl (by decide) (by decide) rf_14_2 dX5_size_1 (fun z1 w2 w3 q4 => ?_)
  exact fr_iret h hq (by omega) ⟨(by omega), (by omega), (by omega), rfl⟩ dX5_size_4
set_option maxHeartbeats 200000 in
theorem c_X5_clear (x : Mm) : CnV YC yX5_clear cX5_clear 1 0 0 (fun G => [vr G 14]) x (fun y' => (∀ a : Int, (a < 14 ∨ 65 < a) → y' a = x a)) := by
  refine cn_V (by decide) (fun _ => Nat.le_of_ble_eq_true rfl) (fun G C h hq => ?_)
  have h : OK YC G C cX5_clear RX5 1 none 0 0 := h
  show FW YC G C 1 x 0 [(0, vr G 14)] []
  refine fr_aload_n h rfl 0 rfl dX5_clear_0 ?_
  refine fr_iconst h dX5_clear_1 ?_
  refine fr_puti (iz := 2) h kX5 fX5_18 at_14 rfl rfl (by decide) (by decide) rfl (by decide +kernel) rf_14_2 (by omega) (by omega) dX5_clear_2 ?_
  refine fr_mem (fun x1 m2 => ?_)
  exact fr_vret h hq (fun a k0 => (fm_up_row m2 (by omega))) dX5_clear_5
set_option maxHeartbeats 200000 in
theorem c_X5_add (x : Mm) (b : Int) (hb : isSt b) : CnV YC yX5_add cX5_add 2 2 47 (fun G => [vr G 14, vr G b]) x (fun y' => (∀ a : Int, (a < 14 ∨ 65 < a) → y' a = x a)) := by
  refine cn_V (by decide) (fun _ => Nat.le_of_ble_eq_true rfl) (fun G C h hq => ?_)
  have h : OK YC G C cX5_add RX5 2 none 2 47 := h
  show FW YC G C 2 x 0 [(0, vr G 14), (1, vr G b)] []
  have h_b := St_b hb
  refine fr_aload_n h rfl 0 rfl dX5_add_0 ?_
  refine fr_geti (iz := 2) h kX5 fX5_18 at_14 rfl rfl (by decide) (by decide) rf_14_2 dX5_add_1 (fun z1 w2 w3 q4 => ?_)
  refine fr_bipush h rfl dX5_add_4 ?_
  refine fr_icmp_ne (tgt := 32) h dX5_add_6 (by decide) (by omega) (by omega) (fun c5 => ?_) (fun c5 => ?_)
  ·
    refine fr_aload_n h rfl 0 rfl dX5_add_32 ?_
    refine fr_getc (z := 15) (iz := 0) h kX5 fX5_11 at_14 rfl rfl rf_14_0 (by omega) dX5_add_33 ?_
    refine fr_aload_n h rfl 0 rfl dX5_add_36 ?_
    refine fr_geti (iz := 1) h kX5 fX5_22 at_14 rfl rfl (by decide) (by decide) rf_14_1 dX5_add_37 (fun z6 w7 w8 q9 => ?_)
    refine fr_aload_n h rfl 0 rfl dX5_add_40 ?_
    refine fr_geti (iz := 2) h kX5 fX5_18 at_14 rfl rfl (by decide) (by decide) rf_14_2 dX5_add_41 (fun z10 w11 w12 q13 => ?_)
    refine fr_iadd h dX5_add_44 ?_
    refine fr_bipush h rfl dX5_add_45 ?_
    refine fr_irem h (by omega) (by omega) (by omega) dX5_add_47 (fun z14 w15 q16 w17 => ?_)
    have w18 := w17
    refine fr_aaldc5 h ar_15 (by omega) (by omega) (rx_15 (by omega) (by omega)) (by omega) dX5_add_48 (fun q19 w20 => ?_)
    have i21 : isSt q19 := by rw [w20]; exact St_ix15 (by omega) (by omega)
    have h_q19 := St_b i21
    refine fr_aload_n h rfl 1 rfl dX5_add_49 ?_
    refine fr_cvV h kX8 (St_at i21) wX8_copyFrom lX5_25 (c_X8_copyFrom x q19 i21 b hb) rfl (by decide) (by decide) rfl (Nat.le_of_ble_eq_true rfl) dX5_add_50 (fun x22 p25 => ?_)
    have f26 := p25
    refine fr_aload_n h rfl 0 rfl dX5_add_53 ?_
    refine fr_dup h rfl dX5_add_54 ?_
    refine fr_geti (iz := 2) h kX5 fX5_18 at_14 rfl rfl (by decide) (by decide) rf_14_2 dX5_add_55 (fun z27 w28 w29 q30 => ?_)
    have r31 := q30.trans (congrFun (f26 14 (by omega)) 2)
    refine fr_iconst h dX5_add_58 ?_
    refine fr_iadd h dX5_add_59 ?_
    refine fr_puti (iz := 2) h kX5 fX5_18 at_14 rfl rfl (by decide) (by decide) rfl (by decide +kernel) rf_14_2 (by omega) (by omega) dX5_add_60 ?_
    refine fr_mem (fun x32 m33 => ?_)
    exact fr_vret h hq (fun a k0 => ((fm_up_row m33 (by omega)).trans (f26 a (by omega)))) dX5_add_63
  ·
    refine fr_aload_n h rfl 0 rfl dX5_add_9 ?_
    refine fr_aload_n h rfl 0 rfl dX5_add_10 ?_
    refine fr_geti (iz := 1) h kX5 fX5_22 at_14 rfl rfl (by decide) (by decide) rf_14_1 dX5_add_11 (fun z34 w35 w36 q37 => ?_)
    refine fr_iconst h dX5_add_14 ?_
    refine fr_iadd h dX5_add_15 ?_
    refine fr_bipush h rfl dX5_add_16 ?_
    refine fr_irem h (by omega) (by omega) (by omega) dX5_add_18 (fun z38 w39 q40 w41 => ?_)
    have w42 := w41
    refine fr_puti (iz := 1) h kX5 fX5_22 at_14 rfl rfl (by decide) (by decide) rfl (by decide +kernel) rf_14_1 (by omega) (by omega) dX5_add_19 ?_
    refine fr_mem (fun x43 m44 => ?_)
    refine fr_aload_n h rfl 0 rfl dX5_add_22 ?_
    refine fr_dup h rfl dX5_add_23 ?_
    refine fr_geti (iz := 2) h kX5 fX5_18 at_14 rfl rfl (by decide) (by decide) rf_14_2 dX5_add_24 (fun z45 w46 w47 q48 => ?_)
    have r49 := q48.trans (fm_rd_i (a := 14) (b := 2) m44 (by decide))
    refine fr_iconst h dX5_add_27 ?_
    refine fr_isub h dX5_add_28 ?_
    refine fr_puti (iz := 2) h kX5 fX5_18 at_14 rfl rfl (by decide) (by decide) rfl (by decide +kernel) rf_14_2 (by omega) (by omega) dX5_add_29 ?_
    refine fr_mem (fun x50 m51 => ?_)
    refine fr_aload_n h rfl 0 rfl dX5_add_32 ?_
    refine fr_getc (z := 15) (iz := 0) h kX5 fX5_11 at_14 rfl rfl rf_14_0 (by omega) dX5_add_33 ?_
    refine fr_aload_n h rfl 0 rfl dX5_add_36 ?_
    refine fr_geti (iz := 1) h kX5 fX5_22 at_14 rfl rfl (by decide) (by decide) rf_14_1 dX5_add_37 (fun z52 w53 w54 q55 => ?_)
    have r56 := q55.trans (fm_rd_i (a := 14) (b := 1) m51 (by decide))
    have r57 := r56.trans (fm_rd_s m44)
    refine fr_aload_n h rfl 0 rfl dX5_add_40 ?_
    refine fr_geti (iz := 2) h kX5 fX5_18 at_14 rfl rfl (by decide) (by decide) rf_14_2 dX5_add_41 (fun z58 w59 w60 q61 => ?_)
    have r62 := q61.trans (fm_rd_s m51)
    refine fr_iadd h dX5_add_44 ?_
    refine fr_bipush h rfl dX5_add_45 ?_
    refine fr_irem h (by omega) (by omega) (by omega) dX5_add_47 (fun z63 w64 q65 w66 => ?_)
    have w67 := w66
    refine fr_aaldc5 h ar_15 (by omega) (by omega) (rx_15 (by omega) (by omega)) (by omega) dX5_add_48 (fun q68 w69 => ?_)
    have i70 : isSt q68 := by rw [w69]; exact St_ix15 (by omega) (by omega)
    have h_q68 := St_b i70
    refine fr_aload_n h rfl 1 rfl dX5_add_49 ?_
    refine fr_cvV h kX8 (St_at i70) wX8_copyFrom lX5_25 (c_X8_copyFrom x50 q68 i70 b hb) rfl (by decide) (by decide) rfl (Nat.le_of_ble_eq_true rfl) dX5_add_50 (fun x71 p74 => ?_)
    have f75 := p74
    refine fr_aload_n h rfl 0 rfl dX5_add_53 ?_
    refine fr_dup h rfl dX5_add_54 ?_
    refine fr_geti (iz := 2) h kX5 fX5_18 at_14 rfl rfl (by decide) (by decide) rf_14_2 dX5_add_55 (fun z76 w77 w78 q79 => ?_)
    have r80 := q79.trans (congrFun (f75 14 (by omega)) 2)
    have r81 := r80.trans (fm_rd_s m51)
    refine fr_iconst h dX5_add_58 ?_
    refine fr_iadd h dX5_add_59 ?_
    refine fr_puti (iz := 2) h kX5 fX5_18 at_14 rfl rfl (by decide) (by decide) rfl (by decide +kernel) rf_14_2 (by omega) (by omega) dX5_add_60 ?_
    refine fr_mem (fun x82 m83 => ?_)
    exact fr_vret h hq (fun a k0 => ((fm_up_row m83 (by omega)).trans ((f75 a (by omega)).trans ((fm_up_row m51 (by omega)).trans (fm_up_row m44 (by omega)))))) dX5_add_63
set_option maxHeartbeats 200000 in
theorem c_X5_takeLatest (x : Mm) (b : Int) (hb : isSt b) : CnI YC yX5_takeLatest cX5_takeLatest 2 .boolean 2 47 (fun G => [vr G 14, vr G b]) x (fun z y' => (z = 0 ∨ z = 1) ∧ (∀ a : Int, (a < 14 ∨ 65 < a) → (a < b ∨ b + 4 < a) → y' a = x a)) := by
  refine cn_I (by decide) (fun _ => Nat.le_of_ble_eq_true rfl) (fun G C h hq => ?_)
  have h : OK YC G C cX5_takeLatest RX5 2 (some .boolean) 2 47 := h
  show FW YC G C 2 x 0 [(0, vr G 14), (1, vr G b)] []
  have h_b := St_b hb
  refine fr_aload_n h rfl 0 rfl dX5_takeLatest_0 ?_
  refine fr_geti (iz := 2) h kX5 fX5_18 at_14 rfl rfl (by decide) (by decide) rf_14_2 dX5_takeLatest_1 (fun z1 w2 w3 q4 => ?_)
  refine fr_if_ne (tgt := 9) h dX5_takeLatest_4 (by decide) (by omega) (fun c5 => ?_) (fun c5 => ?_)
  ·
    refine fr_aload_n h rfl 0 rfl dX5_takeLatest_9 ?_
    refine fr_dup h rfl dX5_takeLatest_10 ?_
    refine fr_geti (iz := 2) h kX5 fX5_18 at_14 rfl rfl (by decide) (by decide) rf_14_2 dX5_takeLatest_11 (fun z6 w7 w8 q9 => ?_)
    refine fr_iconst h dX5_takeLatest_14 ?_
    refine fr_isub h dX5_takeLatest_15 ?_
    refine fr_puti (iz := 2) h kX5 fX5_18 at_14 rfl rfl (by decide) (by decide) rfl (by decide +kernel) rf_14_2 (by omega) (by omega) dX5_takeLatest_16 ?_
    refine fr_mem (fun x10 m11 => ?_)
    refine fr_aload_n h rfl 1 rfl dX5_takeLatest_19 ?_
    refine fr_aload_n h rfl 0 rfl dX5_takeLatest_20 ?_
    refine fr_getc (z := 15) (iz := 0) h kX5 fX5_11 at_14 rfl rfl rf_14_0 (by omega) dX5_takeLatest_21 ?_
    refine fr_aload_n h rfl 0 rfl dX5_takeLatest_24 ?_
    refine fr_geti (iz := 1) h kX5 fX5_22 at_14 rfl rfl (by decide) (by decide) rf_14_1 dX5_takeLatest_25 (fun z12 w13 w14 q15 => ?_)
    have r16 := q15.trans (fm_rd_i (a := 14) (b := 1) m11 (by decide))
    refine fr_aload_n h rfl 0 rfl dX5_takeLatest_28 ?_
    refine fr_geti (iz := 2) h kX5 fX5_18 at_14 rfl rfl (by decide) (by decide) rf_14_2 dX5_takeLatest_29 (fun z17 w18 w19 q20 => ?_)
    have r21 := q20.trans (fm_rd_s m11)
    refine fr_iadd h dX5_takeLatest_32 ?_
    refine fr_bipush h rfl dX5_takeLatest_33 ?_
    refine fr_irem h (by omega) (by omega) (by omega) dX5_takeLatest_35 (fun z22 w23 q24 w25 => ?_)
    have w26 := w25
    refine fr_aaldc5 h ar_15 (by omega) (by omega) (rx_15 (by omega) (by omega)) (by omega) dX5_takeLatest_36 (fun q27 w28 => ?_)
    have i29 : isSt q27 := by rw [w28]; exact St_ix15 (by omega) (by omega)
    have h_q27 := St_b i29
    refine fr_cvV h kX8 (St_at hb) wX8_copyFrom lX5_25 (c_X8_copyFrom x10 b hb q27 i29) rfl (by decide) (by decide) rfl (Nat.le_of_ble_eq_true rfl) dX5_takeLatest_37 (fun x30 p33 => ?_)
    have f34 := p33
    refine fr_iconst h dX5_takeLatest_40 ?_
    exact fr_zret h rfl hq (by omega) ⟨(by omega), (fun a k0 k1 => ((f34 a (by omega)).trans (fm_up_row m11 (by omega))))⟩ dX5_takeLatest_41
  ·
    refine fr_iconst h dX5_takeLatest_7 ?_
    exact fr_zret h rfl hq (by omega) ⟨(by omega), (fun a _ _ => rfl)⟩ dX5_takeLatest_8
set_option maxHeartbeats 200000 in
theorem c_X1_size (x : Mm) : CnI YC yX1_size cX1_size 1 .int 0 0 (fun G => [vr G 98]) x (fun z y' => (0 ≤ z) ∧ (z ≤ 10) ∧ (z = x 98 3) ∧ (y' = x)) := by
  refine cn_I (by decide) (fun _ => Nat.le_of_ble_eq_true rfl) (fun G C h hq => ?_)
  have h : OK YC G C cX1_size RX1 1 (some .int) 0 0 := h
  show FW YC G C 1 x 0 [(0, vr G 98)] []
  refine fr_aload_n h rfl 0 rfl dX1_size_0 ?_
  refine fr_geti (iz := 3) h kX1 fX1_23 at_98 rfl rfl (by decide) (by decide) rf_98_3 dX1_size_1 (fun z1 w2 w3 q4 => ?_)
  exact fr_iret h hq (by omega) ⟨(by omega), (by omega), (by omega), rfl⟩ dX1_size_4
set_option maxHeartbeats 200000 in
theorem c_X1_clear (x : Mm) : CnV YC yX1_clear cX1_clear 1 0 0 (fun G => [vr G 98]) x (fun y' => (y' 98 3 = 0) ∧ (∀ a : Int, (a < 98 ∨ 106 < a) → y' a = x a)) := by
  refine cn_V (by decide) (fun _ => Nat.le_of_ble_eq_true rfl) (fun G C h hq => ?_)
  have h : OK YC G C cX1_clear RX1 1 none 0 0 := h
  show FW YC G C 1 x 0 [(0, vr G 98)] []
  refine fr_aload_n h rfl 0 rfl dX1_clear_0 ?_
  refine fr_iconst h dX1_clear_1 ?_
  refine fr_puti (iz := 3) h kX1 fX1_23 at_98 rfl rfl (by decide) (by decide) rfl (by decide +kernel) rf_98_3 (by omega) (by omega) dX1_clear_2 ?_
  refine fr_mem (fun x1 m2 => ?_)
  have r3 := (fm_rd_s m2)
  exact fr_vret h hq ⟨(by omega), (fun a k0 => (fm_up_row m2 (by omega)))⟩ dX1_clear_5
set_option maxHeartbeats 200000 in
theorem c_X1_add (x : Mm) (p : Int) (v : Int) (h_p : fm_r p) (h_v : fm_r v) : CnI YC yX1_add cX1_add 3 .boolean 0 0 (fun G => [vr G 98, vi p, vi v]) x (fun z y' => (z = 0 ∨ z = 1) ∧ (z = 1 → y' 98 3 = x 98 3 + 1) ∧ (z = 0 → y' 98 3 = x 98 3) ∧ ((z = 1 ↔ 0 ≤ p ∧ p < 5 ∧ 0 ≤ v ∧ ((p = 0 ∧ v ≤ 30) ∨ (p = 3 ∧ v ≤ 8) ∨ (p ≠ 0 ∧ p ≠ 3 ∧ v ≤ 11)) ∧ x 98 3 < 10)) ∧ (∀ a : Int, (a < 98 ∨ 106 < a) → y' a = x a)) := by
  refine cn_I (by decide) (fun _ => Nat.le_of_ble_eq_true rfl) (fun G C h hq => ?_)
  have h : OK YC G C cX1_add RX1 3 (some .boolean) 0 0 := h
  show FW YC G C 3 x 0 [(0, vr G 98), (1, vi p), (2, vi v)] []
  refine fr_iload_n h rfl 1 rfl dX1_add_0 ?_
  refine fr_if_lt (tgt := 31) h dX1_add_1 (by decide) (by omega) (fun c1 => ?_) (fun c1 => ?_)
  ·
    refine fr_iconst h dX1_add_31 ?_
    exact fr_zret h rfl hq (by omega) ⟨(by omega), (by omega), (by omega), (by omega), (fun a _ => rfl)⟩ dX1_add_32
  ·
    refine fr_iload_n h rfl 1 rfl dX1_add_4 ?_
    refine fr_iconst h dX1_add_5 ?_
    refine fr_icmp_ge (tgt := 31) h dX1_add_6 (by decide) (by omega) (by omega) (fun c2 => ?_) (fun c2 => ?_)
    ·
      refine fr_iconst h dX1_add_31 ?_
      exact fr_zret h rfl hq (by omega) ⟨(by omega), (by omega), (by omega), (by omega), (fun a _ => rfl)⟩ dX1_add_32
    ·
      refine fr_iload_n h rfl 2 rfl dX1_add_9 ?_
      refine fr_if_lt (tgt := 31) h dX1_add_10 (by decide) (by omega) (fun c3 => ?_) (fun c3 => ?_)
      ·
        refine fr_iconst h dX1_add_31 ?_
        exact fr_zret h rfl hq (by omega) ⟨(by omega), (by omega), (by omega), (by omega), (fun a _ => rfl)⟩ dX1_add_32
      ·
        refine fr_iload_n h rfl 2 rfl dX1_add_13 ?_
        refine fr_gst2 h dX1_add_14 (fun t4 s5 => ?_)
        refine fr_iload_n h rfl 1 rfl dX1_add_17 ?_
        refine fr_sld h s5 (by decide) (by omega) (by omega) dX1_add_18 (fun z6 q7 => ?_)
        have w8 := zt_2_v (by omega) (by omega) q7
        refine fr_icmp_gt (tgt := 31) h dX1_add_19 (by decide) (by omega) (by omega) (fun c9 => ?_) (fun c9 => ?_)
        ·
          refine fr_iconst h dX1_add_31 ?_
          exact fr_zret h rfl hq (by omega) ⟨(by omega), (by omega), (by omega), (by omega), (fun a _ => rfl)⟩ dX1_add_32
        ·
          refine fr_aload_n h rfl 0 rfl dX1_add_22 ?_
          refine fr_geti (iz := 3) h kX1 fX1_23 at_98 rfl rfl (by decide) (by decide) rf_98_3 dX1_add_23 (fun z10 w11 w12 q13 => ?_)
          refine fr_bipush h rfl dX1_add_26 ?_
          refine fr_icmp_lt (tgt := 33) h dX1_add_28 (by decide) (by omega) (by omega) (fun c14 => ?_) (fun c14 => ?_)
          ·
            refine fr_aload_n h rfl 0 rfl dX1_add_33 ?_
            refine fr_getc (z := 99) (iz := 0) h kX1 fX1_9 at_98 rfl rfl rf_98_0 (by omega) dX1_add_34 ?_
            refine fr_aload_n h rfl 0 rfl dX1_add_37 ?_
            refine fr_geti (iz := 3) h kX1 fX1_23 at_98 rfl rfl (by decide) (by decide) rf_98_3 dX1_add_38 (fun z15 w16 w17 q18 => ?_)
            refine fr_iload_n h rfl 1 rfl dX1_add_41 ?_
            refine fr_iast h ar_99 (by omega) (by omega) (rr_99 z15) (by omega) (by omega) dX1_add_42 ?_
            refine fr_mem (fun x19 m20 => ?_)
            refine fr_aload_n h rfl 0 rfl dX1_add_43 ?_
            refine fr_getc (z := 100) (iz := 1) h kX1 fX1_15 at_98 rfl rfl rf_98_1 (by omega) dX1_add_44 ?_
            refine fr_aload_n h rfl 0 rfl dX1_add_47 ?_
            refine fr_geti (iz := 3) h kX1 fX1_23 at_98 rfl rfl (by decide) (by decide) rf_98_3 dX1_add_48 (fun z21 w22 w23 q24 => ?_)
            have r25 := q24.trans (fm_rd_k (a := 98) (b := 3) m20 (by omega))
            refine fr_iload_n h rfl 2 rfl dX1_add_51 ?_
            refine fr_iast h ar_100 (by omega) (by omega) (rr_100 z21) (by omega) (by omega) dX1_add_52 ?_
            refine fr_mem (fun x26 m27 => ?_)
            refine fr_aload_n h rfl 0 rfl dX1_add_53 ?_
            refine fr_dup h rfl dX1_add_54 ?_
            refine fr_geti (iz := 3) h kX1 fX1_23 at_98 rfl rfl (by decide) (by decide) rf_98_3 dX1_add_55 (fun z28 w29 w30 q31 => ?_)
            have r32 := q31.trans (fm_rd_k (a := 98) (b := 3) m27 (by omega))
            have r33 := r32.trans (fm_rd_k (a := 98) (b := 3) m20 (by omega))
            refine fr_iconst h dX1_add_58 ?_
            refine fr_iadd h dX1_add_59 ?_
            refine fr_puti (iz := 3) h kX1 fX1_23 at_98 rfl rfl (by decide) (by decide) rfl (by decide +kernel) rf_98_3 (by omega) (by omega) dX1_add_60 ?_
            refine fr_mem (fun x34 m35 => ?_)
            refine fr_iconst h dX1_add_63 ?_
            have r36 := (fm_rd_s m35)
            have r37 := (fm_rd_s m35)
            exact fr_zret h rfl hq (by omega) ⟨(by omega), (by omega), (by omega), (by omega), (fun a k0 => ((fm_up_row m35 (by omega)).trans ((fm_up_row m27 (by omega)).trans (fm_up_row m20 (by omega)))))⟩ dX1_add_64
          ·
            refine fr_iconst h dX1_add_31 ?_
            exact fr_zret h rfl hq (by omega) ⟨(by omega), (by omega), (by omega), (by omega), (fun a _ => rfl)⟩ dX1_add_32
set_option maxHeartbeats 200000 in
theorem c_X1_lastOf (x : Mm) (v : Int) (h_v : fm_l v) : CnI YC yX1_lastOf cX1_lastOf 3 .int 2 44 (fun G => [vj v]) x (fun z y' => ((-1) ≤ z) ∧ (z ≤ 14) ∧ (y' = x)) := by
  refine cn_I (by decide) (fun _ => Nat.le_of_ble_eq_true rfl) (fun G C h hq => ?_)
  have h : OK YC G C cX1_lastOf RX1 3 (some .int) 2 44 := h
  show FW YC G C 3 x 0 [(0, vj v)] []
  refine fr_lload_n h rfl 0 rfl dX1_lastOf_0 ?_
  refine fr_csI h wX2_lengthOf lX1_44 (c_X2_lengthOf x v (by omega)) rfl (by decide) (by decide) rfl (Nat.le_of_ble_eq_true rfl) dX1_lastOf_1 (fun z2 x1 w3 p4 => ?_)
  obtain ⟨p5, p6, y7⟩ := p4
  rw [y7]
  clear y7
  refine fr_istore_n (L' := [(0, vj v), (2, vi z2)]) h rfl dX1_lastOf_4 (by decide) [1, 0] rfl ?_
  refine fr_iload_n h rfl 1 rfl dX1_lastOf_5 ?_
  refine fr_if_ne (tgt := 13) h dX1_lastOf_6 (by decide) (by omega) (fun c8 => ?_) (fun c8 => ?_)
  ·
    refine fr_lload_n h rfl 0 rfl dX1_lastOf_13 ?_
    refine fr_iload_n h rfl 1 rfl dX1_lastOf_14 ?_
    refine fr_iconst h dX1_lastOf_15 ?_
    refine fr_isub h dX1_lastOf_16 ?_
    refine fr_csI h wX2_numberAt lX1_34 (c_X2_numberAt x v (z2 - 1) (by omega) (by omega)) rfl (by decide) (by decide) rfl (Nat.le_of_ble_eq_true rfl) dX1_lastOf_17 (fun z10 x9 w11 p12 => ?_)
    obtain ⟨p13, p14, y15⟩ := p12
    rw [y15]
    clear y15
    exact fr_iret h hq (by omega) ⟨(by omega), (by omega), rfl⟩ dX1_lastOf_20
  ·
    refine fr_iconst h dX1_lastOf_9 ?_
    refine fr_goto (tgt := 20) h dX1_lastOf_10 (by decide) ?_
    exact fr_iret h hq (by omega) ⟨(by omega), (by omega), rfl⟩ dX1_lastOf_20
set_option maxHeartbeats 200000 in
theorem c_X1_isSo (x : Mm) (p : Int) (w : Int) (u : Int) (v : Int) (h_p : fm_r p) (h_w : fm_r w) (h_u : fm_r u) (h_v : fm_l v) : CnI YC yX1_isSo cX1_isSo 5 .boolean 3 68 (fun G => [vi p, vi w, vi u, vj v]) x (fun z y' => (z = 0 ∨ z = 1) ∧ (y' = x)) := by
  refine cn_I (by decide) (fun _ => Nat.le_of_ble_eq_true rfl) (fun G C h hq => ?_)
  have h : OK YC G C cX1_isSo RX1 5 (some .boolean) 3 68 := h
  show FW YC G C 5 x 0 [(0, vi p), (1, vi w), (2, vi u), (3, vj v)] []
  refine fr_iload_n h rfl 0 rfl dX1_isSo_0 ?_
  by_cases c2 : p = 0
  ·
    refine fr_tab_in (off := 31) (tgt := 32) h dX1_isSo_1 (by omega) (by omega) (by omega) (by rw [c2]; rfl) (by decide) ?_
    refine fr_iload_n h rfl 2 rfl dX1_isSo_32 ?_
    refine fr_bipush h rfl dX1_isSo_33 ?_
    refine fr_iload_n h rfl 1 rfl dX1_isSo_35 ?_
    refine fr_imul h dX1_isSo_36 ?_
    refine fr_normi (fun z3 w4 q5 => ?_)
    have w6 : fm_r ((10 * w)) → z3 = (10 * w) := fun q => (iI_inj q w4 q5).symm
    refine fr_icmp_lt (tgt := 44) h dX1_isSo_37 (by decide) (by omega) (by omega) (fun c7 => ?_) (fun c7 => ?_)
    ·
      refine fr_iconst h dX1_isSo_44 ?_
      exact fr_zret h rfl hq (by omega) ⟨(by omega), rfl⟩ dX1_isSo_45
    ·
      refine fr_iconst h dX1_isSo_40 ?_
      refine fr_goto (tgt := 45) h dX1_isSo_41 (by decide) ?_
      exact fr_zret h rfl hq (by omega) ⟨(by omega), rfl⟩ dX1_isSo_45
  ·
    by_cases c8 : p = 1
    ·
      refine fr_tab_in (off := 45) (tgt := 46) h dX1_isSo_1 (by omega) (by omega) (by omega) (by rw [c8]; rfl) (by decide) ?_
      refine fr_lload_n h rfl 3 rfl dX1_isSo_46 ?_
      refine fr_iconst h dX1_isSo_47 ?_
      refine fr_csI h wX2_numberAt lX1_34 (c_X2_numberAt x v 0 (by omega) (by omega)) rfl (by decide) (by decide) rfl (Nat.le_of_ble_eq_true rfl) dX1_isSo_48 (fun z10 x9 w11 p12 => ?_)
      obtain ⟨p13, p14, y15⟩ := p12
      rw [y15]
      clear y15
      refine fr_iload_n h rfl 1 rfl dX1_isSo_51 ?_
      refine fr_icmp_ne (tgt := 59) h dX1_isSo_52 (by decide) (by omega) (by omega) (fun c16 => ?_) (fun c16 => ?_)
      ·
        refine fr_iconst h dX1_isSo_59 ?_
        exact fr_zret h rfl hq (by omega) ⟨(by omega), rfl⟩ dX1_isSo_60
      ·
        refine fr_iconst h dX1_isSo_55 ?_
        refine fr_goto (tgt := 60) h dX1_isSo_56 (by decide) ?_
        exact fr_zret h rfl hq (by omega) ⟨(by omega), rfl⟩ dX1_isSo_60
    ·
      by_cases c17 : p = 2
      ·
        refine fr_tab_in (off := 60) (tgt := 61) h dX1_isSo_1 (by omega) (by omega) (by omega) (by rw [c17]; rfl) (by decide) ?_
        refine fr_lload_n h rfl 3 rfl dX1_isSo_61 ?_
        refine fr_csI h wX1_lastOf lX1_40 (c_X1_lastOf x v (by omega)) rfl (by decide) (by decide) rfl (Nat.le_of_ble_eq_true rfl) dX1_isSo_62 (fun z19 x18 w20 p21 => ?_)
        obtain ⟨p22, p23, y24⟩ := p21
        rw [y24]
        clear y24
        refine fr_iload_n h rfl 1 rfl dX1_isSo_65 ?_
        refine fr_icmp_ne (tgt := 73) h dX1_isSo_66 (by decide) (by omega) (by omega) (fun c25 => ?_) (fun c25 => ?_)
        ·
          refine fr_iconst h dX1_isSo_73 ?_
          exact fr_zret h rfl hq (by omega) ⟨(by omega), rfl⟩ dX1_isSo_74
        ·
          refine fr_iconst h dX1_isSo_69 ?_
          refine fr_goto (tgt := 74) h dX1_isSo_70 (by decide) ?_
          exact fr_zret h rfl hq (by omega) ⟨(by omega), rfl⟩ dX1_isSo_74
      ·
        by_cases c26 : p = 3
        ·
          refine fr_tab_in (off := 74) (tgt := 75) h dX1_isSo_1 (by omega) (by omega) (by omega) (by rw [c26]; rfl) (by decide) ?_
          refine fr_lload_n h rfl 3 rfl dX1_isSo_75 ?_
          refine fr_csI h wX2_lengthOf lX1_44 (c_X2_lengthOf x v (by omega)) rfl (by decide) (by decide) rfl (Nat.le_of_ble_eq_true rfl) dX1_isSo_76 (fun z28 x27 w29 p30 => ?_)
          obtain ⟨p31, p32, y33⟩ := p30
          rw [y33]
          clear y33
          refine fr_iload_n h rfl 1 rfl dX1_isSo_79 ?_
          refine fr_icmp_ne (tgt := 87) h dX1_isSo_80 (by decide) (by omega) (by omega) (fun c34 => ?_) (fun c34 => ?_)
          ·
            refine fr_iconst h dX1_isSo_87 ?_
            exact fr_zret h rfl hq (by omega) ⟨(by omega), rfl⟩ dX1_isSo_88
          ·
            refine fr_iconst h dX1_isSo_83 ?_
            refine fr_goto (tgt := 88) h dX1_isSo_84 (by decide) ?_
            exact fr_zret h rfl hq (by omega) ⟨(by omega), rfl⟩ dX1_isSo_88
        ·
          refine fr_tab_out (tgt := 89) h dX1_isSo_1 (by omega) (by omega) (by decide) ?_
          refine fr_lload_n h rfl 3 rfl dX1_isSo_89 ?_
          refine fr_csI h wX2_numbersOf lX1_47 (c_X2_numbersOf x v (by omega)) rfl (by decide) (by decide) rfl (Nat.le_of_ble_eq_true rfl) dX1_isSo_90 (fun z36 x35 w37 p38 => ?_)
          have y39 := p38
          rw [y39]
          clear y39
          refine fr_iconst h dX1_isSo_93 ?_
          refine fr_iload_n h rfl 1 rfl dX1_isSo_94 ?_
          refine fr_ishl h dX1_isSo_95 (fun z40 w41 q42 w43 => ?_)
          refine fr_iand h dX1_isSo_96 (fun z44 w45 q46 w47 => ?_)
          refine fr_if_eq (tgt := 104) h dX1_isSo_97 (by decide) (by omega) (fun c48 => ?_) (fun c48 => ?_)
          ·
            refine fr_iconst h dX1_isSo_104 ?_
            exact fr_zret h rfl hq (by omega) ⟨(by omega), rfl⟩ dX1_isSo_105
          ·
            refine fr_iconst h dX1_isSo_100 ?_
            refine fr_goto (tgt := 105) h dX1_isSo_101 (by decide) ?_
            exact fr_zret h rfl hq (by omega) ⟨(by omega), rfl⟩ dX1_isSo_105
set_option maxHeartbeats 200000 in
theorem c_X1_allow (x : Mm) (p : Int) (v : Int) (h_p : fm_r p) (h_v : fm_l v) : CnI YC yX1_allow cX1_allow 5 .boolean 4 92 (fun G => [vr G 98, vi p, vj v]) x (fun z y' => (z = 0 ∨ z = 1) ∧ (y' = x)) := by
  refine cn_I (by decide) (fun _ => Nat.le_of_ble_eq_true rfl) (fun G C h hq => ?_)
  have h : OK YC G C cX1_allow RX1 5 (some .boolean) 4 92 := h
  show FW YC G C 5 x 0 [(0, vr G 98), (1, vi p), (2, vj v)] []
  refine fr_iconst h dX1_allow_0 ?_
  refine fr_istore (L' := [(0, vr G 98), (1, vi p), (2, vj v), (4, vi 0)]) h dX1_allow_1 (by decide) [1, 2, 3, 0] rfl ?_
  have HL1 : ∀ (n1 : Nat) (l4_1 : Int), fm_r l4_1 → 0 ≤ l4_1 → l4_1 ≤ 10 → (10 - l4_1) < n1 → FW YC G C 5 x 3 [(0, vr G 98), (1, vi p), (2, vj v), (4, vi l4_1)] [] := by
    intro n1
    induction n1 with
    | zero =>
      intro l4_1 g1_0 g1_1 g1_2 g1_3
      exfalso; omega
    | succ n1 ih1 =>
      intro l4_1 g1_0 g1_1 g1_2 g1_3
      refine fr_iload h 3 rfl dX1_allow_3 ?_
      refine fr_aload_n h rfl 0 rfl dX1_allow_5 ?_
      refine fr_geti (iz := 3) h kX1 fX1_23 at_98 rfl rfl (by decide) (by decide) rf_98_3 dX1_allow_6 (fun z2 w3 w4 q5 => ?_)
      refine fr_icmp_ge (tgt := 42) h dX1_allow_9 (by decide) (by omega) (by omega) (fun c6 => ?_) (fun c6 => ?_)
      ·
        refine fr_iconst h dX1_allow_42 ?_
        exact fr_zret h rfl hq (by omega) ⟨(by omega), rfl⟩ dX1_allow_43
      ·
        refine fr_aload_n h rfl 0 rfl dX1_allow_12 ?_
        refine fr_getc (z := 99) (iz := 0) h kX1 fX1_9 at_98 rfl rfl rf_98_0 (by omega) dX1_allow_13 ?_
        refine fr_iload h 3 rfl dX1_allow_16 ?_
        refine fr_iald h ar_99 (by omega) (by omega) (rr_99 l4_1) dX1_allow_18 (fun z7 w8 w9 q10 => ?_)
        refine fr_aload_n h rfl 0 rfl dX1_allow_19 ?_
        refine fr_getc (z := 100) (iz := 1) h kX1 fX1_15 at_98 rfl rfl rf_98_1 (by omega) dX1_allow_20 ?_
        refine fr_iload h 3 rfl dX1_allow_23 ?_
        refine fr_iald h ar_100 (by omega) (by omega) (rr_100 l4_1) dX1_allow_25 (fun z11 w12 w13 q14 => ?_)
        refine fr_iload_n h rfl 1 rfl dX1_allow_26 ?_
        refine fr_lload_n h rfl 2 rfl dX1_allow_27 ?_
        refine fr_csI h wX1_isSo lX1_30 (c_X1_isSo x z7 z11 p v (by omega) (by omega) (by omega) (by omega)) rfl (by decide) (by decide) rfl (Nat.le_of_ble_eq_true rfl) dX1_allow_28 (fun z16 x15 w17 p18 => ?_)
        obtain ⟨p19, y20⟩ := p18
        rw [y20]
        clear y20
        refine fr_if_ne (tgt := 36) h dX1_allow_31 (by decide) (by omega) (fun c21 => ?_) (fun c21 => ?_)
        ·
          refine fr_iinc (j := 3) (L' := [(0, vr G 98), (1, vi p), (2, vj v), (4, vi (l4_1 + 1))]) h dX1_allow_36 rfl (by decide) [1, 2, 3, 0] rfl ?_
          refine fr_goto (tgt := 3) h dX1_allow_39 (by decide) ?_
          exact ih1 (l4_1 + 1) (by omega) (by omega) (by omega) (by omega)
        ·
          refine fr_iconst h dX1_allow_34 ?_
          exact fr_zret h rfl hq (by omega) ⟨(by omega), rfl⟩ dX1_allow_35
  exact HL1 ((10 - 0) + 1 : Int).toNat 0 (by omega) (by omega) (by omega) (by omega)
set_option maxHeartbeats 200000 in
theorem c_X1_addTo (x : Mm) (p : Int) (v : Int) (h_p : fm_r p) (h_v : fm_r v) (e0 : 0 ≤ p) (e1 : p < 5) : CnV YC yX1_addTo cX1_addTo 3 0 0 (fun G => [vr G 98, vi p, vi v]) x (fun y' => (y' 98 3 = x 98 3) ∧ (∀ a : Int, (a < 98 ∨ 106 < a) → y' a = x a)) := by
  refine cn_V (by decide) (fun _ => Nat.le_of_ble_eq_true rfl) (fun G C h hq => ?_)
  have h : OK YC G C cX1_addTo RX1 3 none 0 0 := h
  show FW YC G C 3 x 0 [(0, vr G 98), (1, vi p), (2, vi v)] []
  refine fr_iload_n h rfl 2 rfl dX1_addTo_0 ?_
  refine fr_if_lt (tgt := 27) h dX1_addTo_1 (by decide) (by omega) (fun c1 => ?_) (fun c1 => ?_)
  ·
    exact fr_vret h hq ⟨(by omega), (fun a _ => rfl)⟩ dX1_addTo_27
  ·
    refine fr_iload_n h rfl 2 rfl dX1_addTo_4 ?_
    refine fr_aload_n h rfl 0 rfl dX1_addTo_5 ?_
    refine fr_getc (z := 101) (iz := 2) h kX1 fX1_20 at_98 rfl rfl rf_98_2 (by omega) dX1_addTo_6 ?_
    refine fr_iload_n h rfl 1 rfl dX1_addTo_9 ?_
    refine fr_aaldc8 h ar_101 (by omega) (by omega) (rx_101 (by omega) (by omega)) (by omega) dX1_addTo_10 (fun q2 w3 => ?_)
    have i4 : isTy q2 := by rw [w3]; exact Ty_ix101 (by omega) (by omega)
    have h_q2 := Ty_b i4
    refine fr_aleni h (Ty_a i4) (by decide) dX1_addTo_11 ?_
    show FW YC G C 3 x 12 [(0, vr G 98), (1, vi p), (2, vi v)] [vi 31, vi v]
    refine fr_icmp_ge (tgt := 27) h dX1_addTo_12 (by decide) (by omega) (by omega) (fun c5 => ?_) (fun c5 => ?_)
    ·
      exact fr_vret h hq ⟨(by omega), (fun a _ => rfl)⟩ dX1_addTo_27
    ·
      refine fr_aload_n h rfl 0 rfl dX1_addTo_15 ?_
      refine fr_getc (z := 101) (iz := 2) h kX1 fX1_20 at_98 rfl rfl rf_98_2 (by omega) dX1_addTo_16 ?_
      refine fr_iload_n h rfl 1 rfl dX1_addTo_19 ?_
      refine fr_aaldc8 h ar_101 (by omega) (by omega) (rx_101 (by omega) (by omega)) (by omega) dX1_addTo_20 (fun q6 w7 => ?_)
      have i8 : isTy q6 := by rw [w7]; exact Ty_ix101 (by omega) (by omega)
      have h_q6 := Ty_b i8
      refine fr_iload_n h rfl 2 rfl dX1_addTo_21 ?_
      refine fr_dup2_11 h rfl rfl dX1_addTo_22 ?_
      refine fr_iald h (Ty_a i8) (by omega) (by omega) (Ty_r i8 v) dX1_addTo_23 (fun z9 w10 w11 q12 => ?_)
      refine fr_iconst h dX1_addTo_24 ?_
      refine fr_iadd h dX1_addTo_25 ?_
      refine fr_normi (fun z13 w14 q15 => ?_)
      have w16 : fm_r ((z9 + 1)) → z13 = (z9 + 1) := fun q => (iI_inj q w14 q15).symm
      refine fr_iast h (Ty_a i8) (by omega) (by omega) (Ty_r i8 v) (by omega) (by omega) dX1_addTo_26 ?_
      refine fr_mem (fun x17 m18 => ?_)
      have r19 := (fm_rd_k (a := 98) (b := 3) m18 (by omega))
      exact fr_vret h hq ⟨(by omega), (fun a k0 => (fm_up_row m18 (by omega)))⟩ dX1_addTo_27
