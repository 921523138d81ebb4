set_option maxHeartbeats 200000 in
theorem g_X12_refusesPut (x : Mm) (b : Int) (hb : isSA b) (p : Int) (v : Int) (h_p : fm_r p) (h_v : fm_r v) : CnI YM yX12_refusesPut cX12_refusesPut 3 .int 2 42 (fun G => [vr G b, vi p, vi v]) x (fun z y' => ((-2) ≤ z) ∧ (z ≤ 0) ∧ (z = 0 → 0 ≤ p ∧ p ≤ 3 ∧ 0 ≤ v ∧ v ≤ 99 ∧ x b (24 + p) ≤ 5) ∧ (z ≠ 0 → 0 ≤ p → p ≤ 3 → 0 ≤ v → v ≤ 99 → 6 ≤ x b (24 + p)) ∧ (y' = x)) := by
  refine cn_I (by decide) (fun _ => Nat.le_of_ble_eq_true rfl) (fun G C h hq => ?_)
  have h : OK YM G C cX12_refusesPut RX12 3 (some .int) 2 42 := h
  show FW YM G C 3 x 0 [(0, vr G b), (1, vi p), (2, vi v)] []
  have h_b := SA_b hb
  have hs_b : b = 1 ∨ b = 9 ∨ b = 10 := hb
  refine fr_iload_n h rfl 1 rfl dX12_refusesPut_0 ?_
  refine fr_csI h wX12_isList lX12_161 (c_X12_isList x p (by omega)) rfl (by decide) (by decide) rfl (Nat.le_of_ble_eq_true rfl) dX12_refusesPut_1 (fun z2 x1 w3 p4 => ?_)
  obtain ⟨p5, p6, y7⟩ := p4
  rw [y7]
  clear y7
  refine fr_if_eq (tgt := 17) h dX12_refusesPut_4 (by decide) (by omega) (fun c8 => ?_) (fun c8 => ?_)
  ·
    refine fr_iconst h dX12_refusesPut_17 ?_
    exact fr_iret h hq (by omega) ⟨(by omega), (by omega), (by omega), (by omega), rfl⟩ dX12_refusesPut_18
  ·
    refine fr_iload_n h rfl 2 rfl dX12_refusesPut_7 ?_
    refine fr_iconst h dX12_refusesPut_8 ?_
    refine fr_bipush h rfl dX12_refusesPut_9 ?_
    refine fr_csI h wX12_in lX12_101 (c_X12_in x v 0 99 (by omega) (by omega) (by omega)) rfl (by decide) (by decide) rfl (Nat.le_of_ble_eq_true rfl) dX12_refusesPut_11 (fun z10 x9 w11 p12 => ?_)
    obtain ⟨p13, p14, y15⟩ := p12
    rw [y15]
    clear y15
    refine fr_if_ne (tgt := 19) h dX12_refusesPut_14 (by decide) (by omega) (fun c16 => ?_) (fun c16 => ?_)
    ·
      refine fr_aload_n h rfl 0 rfl dX12_refusesPut_19 ?_
      refine fr_bipush h rfl dX12_refusesPut_20 ?_
      refine fr_iload_n h rfl 1 rfl dX12_refusesPut_22 ?_
      refine fr_iadd h dX12_refusesPut_23 ?_
      refine fr_iald h (SA_a hb) (by omega) (by omega) ((SA_r hb (24 + p)).trans (sg_len (by omega) (by omega))) dX12_refusesPut_24 (fun z17 w18 w19 q20 => ?_)
      refine fr_bipush h rfl dX12_refusesPut_25 ?_
      refine fr_icmp_ne (tgt := 35) h dX12_refusesPut_27 (by decide) (by omega) (by omega) (fun c21 => ?_) (fun c21 => ?_)
      ·
        refine fr_iconst h dX12_refusesPut_35 ?_
        exact fr_iret h hq (by omega) ⟨(by omega), (by omega), (by omega), (by omega), rfl⟩ dX12_refusesPut_36
      ·
        refine fr_bipush h rfl dX12_refusesPut_30 ?_
        refine fr_goto (tgt := 36) h dX12_refusesPut_32 (by decide) ?_
        exact fr_iret h hq (by omega) ⟨(by omega), (by omega), (by omega), (by omega), rfl⟩ dX12_refusesPut_36
    ·
      refine fr_iconst h dX12_refusesPut_17 ?_
      exact fr_iret h hq (by omega) ⟨(by omega), (by omega), (by omega), (by omega), rfl⟩ dX12_refusesPut_18
set_option maxHeartbeats 200000 in
theorem g_X12_canTake (x : Mm) (b : Int) (hb : isSA b) (p : Int) (w : Int) (h_p : fm_r p) (h_w : fm_r w) : CnI YM yX12_canTake cX12_canTake 3 .boolean 2 42 (fun G => [vr G b, vi p, vi w]) x (fun z y' => (z = 0 ∨ z = 1) ∧ (z = 1 → 0 ≤ p ∧ p ≤ 3 ∧ 0 ≤ w ∧ w < x b (24 + p)) ∧ (z = 0 → 0 ≤ p → p ≤ 3 → 0 ≤ w → x b (24 + p) ≤ w) ∧ (y' = x)) := by
  refine cn_I (by decide) (fun _ => Nat.le_of_ble_eq_true rfl) (fun G C h hq => ?_)
  have h : OK YM G C cX12_canTake RX12 3 (some .boolean) 2 42 := h
  show FW YM G C 3 x 0 [(0, vr G b), (1, vi p), (2, vi w)] []
  have h_b := SA_b hb
  have hs_b : b = 1 ∨ b = 9 ∨ b = 10 := hb
  refine fr_iload_n h rfl 1 rfl dX12_canTake_0 ?_
  refine fr_csI h wX12_isList lX12_161 (c_X12_isList x p (by omega)) rfl (by decide) (by decide) rfl (Nat.le_of_ble_eq_true rfl) dX12_canTake_1 (fun z2 x1 w3 p4 => ?_)
  obtain ⟨p5, p6, y7⟩ := p4
  rw [y7]
  clear y7
  refine fr_if_eq (tgt := 27) h dX12_canTake_4 (by decide) (by omega) (fun c8 => ?_) (fun c8 => ?_)
  ·
    refine fr_iconst h dX12_canTake_27 ?_
    exact fr_zret h rfl hq (by omega) ⟨(by omega), (by omega), (by omega), rfl⟩ dX12_canTake_28
  ·
    refine fr_iload_n h rfl 2 rfl dX12_canTake_7 ?_
    refine fr_iconst h dX12_canTake_8 ?_
    refine fr_aload_n h rfl 0 rfl dX12_canTake_9 ?_
    refine fr_bipush h rfl dX12_canTake_10 ?_
    refine fr_iload_n h rfl 1 rfl dX12_canTake_12 ?_
    refine fr_iadd h dX12_canTake_13 ?_
    refine fr_iald h (SA_a hb) (by omega) (by omega) ((SA_r hb (24 + p)).trans (sg_len (by omega) (by omega))) dX12_canTake_14 (fun z9 w10 w11 q12 => ?_)
    refine fr_iconst h dX12_canTake_15 ?_
    refine fr_isub h dX12_canTake_16 ?_
    refine fr_csI h wX12_in lX12_101 (c_X12_in x w 0 (z9 - 1) (by omega) (by omega) (by omega)) rfl (by decide) (by decide) rfl (Nat.le_of_ble_eq_true rfl) dX12_canTake_17 (fun z14 x13 w15 p16 => ?_)
    obtain ⟨p17, p18, y19⟩ := p16
    rw [y19]
    clear y19
    refine fr_if_eq (tgt := 27) h dX12_canTake_20 (by decide) (by omega) (fun c20 => ?_) (fun c20 => ?_)
    ·
      refine fr_iconst h dX12_canTake_27 ?_
      exact fr_zret h rfl hq (by omega) ⟨(by omega), (by omega), (by omega), rfl⟩ dX12_canTake_28
    ·
      refine fr_iconst h dX12_canTake_23 ?_
      refine fr_goto (tgt := 28) h dX12_canTake_24 (by decide) ?_
      exact fr_zret h rfl hq (by omega) ⟨(by omega), (by omega), (by omega), rfl⟩ dX12_canTake_28
set_option maxHeartbeats 1000000 in
theorem g_X12_goTake (x : Mm) (b : Int) (hb : isSA b) (p : Int) (w : Int) (h_p : fm_r p) (h_w : fm_r w) (e0 : 0 ≤ p) (e1 : p ≤ 3) (e2 : 0 ≤ w) (e3 : w < x b (24 + p)) : CnI YM yX12_goTake cX12_goTake 5 .int 0 0 (fun G => [vr G b, vi p, vi w]) x (fun z y' => (0 ≤ z) ∧ (z ≤ 99) ∧ (∀ i : Int, 28 ≤ i → y' b i = x b i) ∧ (y' b (24 + p) = x b (24 + p) - 1) ∧ (∀ i : Int, 24 ≤ i → i ≠ 24 + p → y' b i = x b i) ∧ (∀ a : Int, (a < b ∨ b < a) → y' a = x a)) := by
  refine cn_I (by decide) (fun _ => Nat.le_of_ble_eq_true rfl) (fun G C h hq => ?_)
  have h : OK YM G C cX12_goTake RX12 5 (some .int) 0 0 := h
  show FW YM G C 5 x 0 [(0, vr G b), (1, vi p), (2, vi w)] []
  have h_b := SA_b hb
  have hs_b : b = 1 ∨ b = 9 ∨ b = 10 := hb
  refine fr_rng (fun hR => ?_)
  have hw : 0 ≤ x b (24 + p) ∧ x b (24 + p) ≤ 6 := by have q := hR b (24 + p); rw [SA_r hb, sg_len (by omega) (by omega)] at q; exact q
  refine fr_aload_n h rfl 0 rfl dX12_goTake_0 ?_
  refine fr_bipush h rfl dX12_goTake_1 ?_
  refine fr_iload_n h rfl 1 rfl dX12_goTake_3 ?_
  refine fr_imul h dX12_goTake_4 ?_
  refine fr_iload_n h rfl 2 rfl dX12_goTake_5 ?_
  refine fr_iadd h dX12_goTake_6 ?_
  refine fr_iald h (SA_a hb) (by omega) (by omega) ((SA_r hb ((6 * p) + w)).trans (sg_num (by omega) (by omega))) dX12_goTake_7 (fun z1 w2 w3 q4 => ?_)
  refine fr_istore_n (L' := [(0, vr G b), (1, vi p), (2, vi w), (3, vi z1)]) h rfl dX12_goTake_8 (by decide) [1, 2, 3, 0] rfl ?_
  refine fr_aload_n h rfl 0 rfl dX12_goTake_9 ?_
  refine fr_bipush h rfl dX12_goTake_10 ?_
  refine fr_iload_n h rfl 1 rfl dX12_goTake_12 ?_
  refine fr_iadd h dX12_goTake_13 ?_
  refine fr_dup2_11 h rfl rfl dX12_goTake_14 ?_
  refine fr_iald h (SA_a hb) (by omega) (by omega) ((SA_r hb (24 + p)).trans (sg_len (by omega) (by omega))) dX12_goTake_15 (fun z5 w6 w7 q8 => ?_)
  refine fr_iconst h dX12_goTake_16 ?_
  refine fr_isub h dX12_goTake_17 ?_
  refine fr_iast h (SA_a hb) (by omega) (by omega) ((SA_r hb (24 + p)).trans (sg_len (by omega) (by omega))) (by omega) (by omega) dX12_goTake_18 ?_
  refine fr_mem (fun x9 m10 => ?_)
  refine fr_iload_n h rfl 2 rfl dX12_goTake_19 ?_
  refine fr_istore (L' := [(0, vr G b), (1, vi p), (2, vi w), (3, vi z1), (4, vi w)]) h dX12_goTake_20 (by decide) [1, 2, 3, 4, 0] rfl ?_
  have HL11 : ∀ (n11 : Nat) (l4_11 : Int) (x_11 : Mm), fm_r l4_11 → 0 ≤ l4_11 → l4_11 ≤ 6 → (∀ i : Int, 24 ≤ i → x_11 b i = x9 b i) → (∀ a : Int, (a < b ∨ b < a) → x_11 a = x9 a) → (6 - l4_11) < n11 → FW YM G C 5 x_11 22 [(0, vr G b), (1, vi p), (2, vi w), (3, vi z1), (4, vi l4_11)] [] := by
    intro n11
    induction n11 with
    | zero =>
      intro l4_11 x_11 g11_0 g11_1 g11_2 g11_3 g11_4 g11_5
      exfalso; omega
    | succ n11 ih11 =>
      intro l4_11 x_11 g11_0 g11_1 g11_2 g11_3 g11_4 g11_5
      refine fr_iload h 4 rfl dX12_goTake_22 ?_
      refine fr_aload_n h rfl 0 rfl dX12_goTake_24 ?_
      refine fr_bipush h rfl dX12_goTake_25 ?_
      refine fr_iload_n h rfl 1 rfl dX12_goTake_27 ?_
      refine fr_iadd h dX12_goTake_28 ?_
      refine fr_iald h (SA_a hb) (by omega) (by omega) ((SA_r hb (24 + p)).trans (sg_len (by omega) (by omega))) dX12_goTake_29 (fun z12 w13 w14 q15 => ?_)
      have r16 := (fm_rd_s m10)
      have k24 := g11_3 (24 + p) (by omega)
      refine fr_icmp_ge (tgt := 59) h dX12_goTake_30 (by decide) (by omega) (by omega) (fun c17 => ?_) (fun c17 => ?_)
      ·
        refine fr_iload_n h rfl 3 rfl dX12_goTake_59 ?_
        have r18 := (fm_rd_s m10)
        exact fr_iret h hq (by omega) ⟨(by omega), (by omega), (fun i a => (g11_3 i (by omega)).trans (fm_rd_i m10 (by omega))), ((g11_3 (24 + p) (by omega)).trans ((fm_rd_s m10).trans (by omega))), (fun i a c => (g11_3 i a).trans (fm_rd_i m10 (by omega))), (fun a k0 => ((g11_4 a (by omega)).trans (fm_up_row m10 (by omega))))⟩ dX12_goTake_60
      ·
        refine fr_aload_n h rfl 0 rfl dX12_goTake_33 ?_
        refine fr_bipush h rfl dX12_goTake_34 ?_
        refine fr_iload_n h rfl 1 rfl dX12_goTake_36 ?_
        refine fr_imul h dX12_goTake_37 ?_
        refine fr_iload h 4 rfl dX12_goTake_38 ?_
        refine fr_iadd h dX12_goTake_40 ?_
        refine fr_aload_n h rfl 0 rfl dX12_goTake_41 ?_
        refine fr_bipush h rfl dX12_goTake_42 ?_
        refine fr_iload_n h rfl 1 rfl dX12_goTake_44 ?_
        refine fr_imul h dX12_goTake_45 ?_
        refine fr_iload h 4 rfl dX12_goTake_46 ?_
        refine fr_iadd h dX12_goTake_48 ?_
        refine fr_iconst h dX12_goTake_49 ?_
        refine fr_iadd h dX12_goTake_50 ?_
        refine fr_iald h (SA_a hb) (by omega) (by omega) ((SA_r hb (((6 * p) + l4_11) + 1)).trans (sg_num (by omega) (by omega))) dX12_goTake_51 (fun z19 w20 w21 q22 => ?_)
        have r23 := fm_rd_b (b := (((6 * p) + l4_11) + 1)) m10
        refine fr_iast h (SA_a hb) (by omega) (by omega) ((SA_r hb ((6 * p) + l4_11)).trans (sg_num (by omega) (by omega))) (by omega) (by omega) dX12_goTake_52 ?_
        refine fr_mem (fun x24 m25 => ?_)
        refine fr_iinc (j := 4) (L' := [(0, vr G b), (1, vi p), (2, vi w), (3, vi z1), (4, vi (l4_11 + 1))]) h dX12_goTake_53 rfl (by decide) [1, 2, 3, 4, 0] rfl ?_
        refine fr_goto (tgt := 22) h dX12_goTake_56 (by decide) ?_
        exact ih11 (l4_11 + 1) x24 (by omega) (by omega) (by omega) (fun i a => (fm_rd_i m25 (by omega)).trans (g11_3 i a)) (fun a k0 => ((fm_up_row m25 (by omega)).trans (g11_4 a (by omega)))) (by omega)
  exact HL11 ((6 - w) + 1 : Int).toNat w x9 (by omega) (by omega) (by omega) (fun i a => rfl) (fun a _ => rfl) (by omega)
set_option maxHeartbeats 200000 in
theorem g_X12_draw (x : Mm) (n : Int) (h_n : fm_r n) (e0 : 1 ≤ n) (e1 : n ≤ 100) : CnI YM yX12_draw cX12_draw 2 .int 0 0 (fun G => [vr G 0, vi n]) x (fun z y' => (0 ≤ z) ∧ (z < n) ∧ (y' 0 39 = nxS (x 0 39)) ∧ (z = dvS (nxS (x 0 39)) n) ∧ (∀ a : Int, (a < 0 ∨ 0 < a) → y' a = x a) ∧ (∀ i : Int, i ≠ 39 → y' 0 i = x 0 i)) := by
  refine cn_I (by decide) (fun _ => Nat.le_of_ble_eq_true rfl) (fun G C h hq => ?_)
  have h : OK YM G C cX12_draw RX12 2 (some .int) 0 0 := h
  show FW YM G C 2 x 0 [(0, vr G 0), (1, vi n)] []
  refine fr_aload_n h rfl 0 rfl dX12_draw_0 ?_
  refine fr_aload_n h rfl 0 rfl dX12_draw_1 ?_
  refine fr_geti (iz := 39) h kX12 fX12_366 at_0M rfl rfl (by decide) (by decide) rfM_39 dX12_draw_2 (fun z1 w2 w3 q4 => ?_)
  subst q4
  refine fr_ldcw (z := 1103515245) h (by exact tb_7 (i := 237) (by decide +kernel) (by decide +kernel)) rfl dX12_draw_5 ?_
  refine fr_imul h dX12_draw_8 ?_
  refine fr_normi (fun z5 w6 q7 => ?_)
  have w8 : fm_r (((x 0 39) * 1103515245)) → z5 = ((x 0 39) * 1103515245) := fun q => (iI_inj q w6 q7).symm
  refine fr_sipush h rfl dX12_draw_9 ?_
  refine fr_iadd h dX12_draw_12 ?_
  refine fr_normi (fun z9 w10 q11 => ?_)
  have w12 : fm_r ((z5 + 12345)) → z9 = (z5 + 12345) := fun q => (iI_inj q w10 q11).symm
  have hnx : z9 = nxS (x 0 39) := nx_of q7 q11 w10
  refine fr_puti (iz := 39) h kX12 fX12_366 at_0M rfl rfl (by decide) (by decide) rfl (by decide +kernel) rfM_39 (by omega) (by omega) dX12_draw_13 ?_
  refine fr_mem (fun x13 m14 => ?_)
  refine fr_aload_n h rfl 0 rfl dX12_draw_16 ?_
  refine fr_geti (iz := 39) h kX12 fX12_366 at_0M rfl rfl (by decide) (by decide) rfM_39 dX12_draw_17 (fun z15 w16 w17 q18 => ?_)
  have r19 := q18.trans (fm_rd_s m14)
  subst q18
  refine fr_bipush h rfl dX12_draw_20 ?_
  refine fr_iushr h dX12_draw_22 (fun z20 w21 q22 w23 => ?_)
  have w24 := w23 rfl
  have hru : z20 = nxS (x 0 39) % 4294967296 / 65536 := by rw [← hnx, ← fm_rd_s m14]; exact ush16 (by omega) (by first | exact q22 | (rw [fm_rd_s m14]; exact q22) | (rw [fm_rd_s m14] at q22; exact q22))
  refine fr_iload_n h rfl 1 rfl dX12_draw_23 ?_
  refine fr_irem h (by omega) (by omega) (by omega) dX12_draw_24 (fun z25 w26 q27 w28 => ?_)
  have w29 : 0 < n → 0 ≤ z20 % n ∧ z20 % n < n := fun q => ⟨Int.emod_nonneg _ (by omega), Int.emod_lt_of_pos _ q⟩
  have w30 := w28
  have r31 := (fm_rd_s m14)
  exact fr_iret h hq (by omega) ⟨(by omega), (by omega), (by omega), ((w28 (by omega) (by omega)).trans (by rw [hru]; rfl)), (fun a k0 => (fm_up_row m14 (by omega))), (fun i k0 => (fm_rd_i (a := 0) (b := i) m14 (by omega)))⟩ dX12_draw_25
set_option maxHeartbeats 8000000 in
theorem g_X12_goDrawn (x : Mm) (b : Int) (hb : isSA b) (e0 : MI (x b)) : CnV YM yX12_goDrawn cX12_goDrawn 5 3 68 (fun G => [vr G 0, vr G b]) x (fun y' => (MI (y' b)) ∧ (y' 0 39 = yrR (x 0 39)) ∧ (LQ (fun j => y' b (24 + j)) (yrL (x 0 39) (fun j => x b (24 + j)))) ∧ (∀ a : Int, (a < 0 ∨ 0 < a) → (a < b ∨ b < a) → y' a = x a) ∧ (∀ i : Int, i ≠ 39 → y' 0 i = x 0 i)) := by
  refine cn_V (by decide) (fun _ => Nat.le_of_ble_eq_true rfl) (fun G C h hq => ?_)
  have h : OK YM G C cX12_goDrawn RX12 5 none 3 68 := h
  show FW YM G C 5 x 0 [(0, vr G 0), (1, vr G b)] []
  have h_b := SA_b hb
  have hs_b : b = 1 ∨ b = 9 ∨ b = 10 := hb
  refine fr_aload_n h rfl 0 rfl dX12_goDrawn_0 ?_
  refine fr_iconst h dX12_goDrawn_1 ?_
  refine fr_cvI h kX12 at_0M wX12_draw lX12_370 (g_X12_draw x 4 (by omega) (by omega) (by omega)) rfl (by decide) (by decide) rfl (Nat.le_of_ble_eq_true rfl) dX12_goDrawn_2 (fun z2 x1 w3 p4 => ?_)
  obtain ⟨p5, p6, p7, p8, f9, f10⟩ := p4
  have hs1 : x1 0 39 = nxS (x 0 39) := by rw [p7, show x 0 39 = x 0 39 by omega]
  have hd1 : z2 = dvS (nxS (x 0 39)) 4 := by rw [p8, show x 0 39 = x 0 39 by omega]
  by_cases c12 : z2 = 0
  ·
    refine fr_tab_in (off := 27) (tgt := 32) h dX12_goDrawn_5 (by omega) (by omega) (by omega) (by rw [c12]; rfl) (by decide) ?_
    skip
    refine fr_aload_n h rfl 0 rfl dX12_goDrawn_32 ?_
    refine fr_iconst h dX12_goDrawn_33 ?_
    refine fr_cvI h kX12 at_0M wX12_draw lX12_370 (g_X12_draw x1 4 (by omega) (by omega) (by omega)) rfl (by decide) (by decide) rfl (Nat.le_of_ble_eq_true rfl) dX12_goDrawn_34 (fun z14 x13 w15 p16 => ?_)
    obtain ⟨p17, p18, p19, p20, f21, f22⟩ := p16
    have hs2 : x13 0 39 = nxS (nxS (x 0 39)) := by rw [p19, show x1 0 39 = nxS (x 0 39) by omega]
    have hd2 : z14 = dvS (nxS (nxS (x 0 39))) 4 := by rw [p20, show x1 0 39 = nxS (x 0 39) by omega]
    refine fr_istore_n (L' := [(0, vr G 0), (1, vr G b), (2, vi z14)]) h rfl dX12_goDrawn_37 (by decide) [1, 2, 0] rfl ?_
    refine fr_aload_n h rfl 0 rfl dX12_goDrawn_38 ?_
    refine fr_bipush h rfl dX12_goDrawn_39 ?_
    refine fr_cvI h kX12 at_0M wX12_draw lX12_370 (g_X12_draw x13 100 (by omega) (by omega) (by omega)) rfl (by decide) (by decide) rfl (Nat.le_of_ble_eq_true rfl) dX12_goDrawn_41 (fun z24 x23 w25 p26 => ?_)
    obtain ⟨p27, p28, p29, p30, f31, f32⟩ := p26
    have hs3 : x23 0 39 = nxS (nxS (nxS (x 0 39))) := by rw [p29, show x13 0 39 = nxS (nxS (x 0 39)) by omega]
    have hd3 : z24 = dvS (nxS (nxS (nxS (x 0 39)))) 100 := by rw [p30, show x13 0 39 = nxS (nxS (x 0 39)) by omega]
    refine fr_istore_n (L' := [(0, vr G 0), (1, vr G b), (2, vi z14), (3, vi z24)]) h rfl dX12_goDrawn_44 (by decide) [1, 2, 3, 0] rfl ?_
    skip
    refine fr_aload_n h rfl 1 rfl dX12_goDrawn_45 ?_
    refine fr_iload_n h rfl 2 rfl dX12_goDrawn_46 ?_
    refine fr_iload_n h rfl 3 rfl dX12_goDrawn_47 ?_
    refine fr_csI h wX12_refusesPut lX12_235 (g_X12_refusesPut x23 b hb z14 z24 (by omega) (by omega)) rfl (by decide) (by decide) rfl (Nat.le_of_ble_eq_true rfl) dX12_goDrawn_48 (fun z34 x33 w35 p36 => ?_)
    obtain ⟨p37, p38, p39, p40, y41⟩ := p36
    rw [y41]
    clear y41
    refine fr_if_ne (tgt := 61) h dX12_goDrawn_51 (by decide) (by omega) (fun c42 => ?_) (fun c42 => ?_)
    ·
      have hyr := @yr_0 (x 0 39) (fun j => x b (24 + j)) (by omega)
      exact fr_vret h hq ⟨(by rw [show x23 b = x13 b from (f31 b (by omega))]; exact (by rw [show x13 b = x1 b from (f21 b (by omega))]; exact (by rw [show x1 b = x b from (f9 b (by omega))]; exact e0))), (by omega), (fun j a d => by rw [hyr.2]; show x23 b (24 + j) = if j = _ ∧ _ then _ else _; rw [if_neg (fun q9 => by have q8 : x b (24 + dvS (nxS (nxS (x 0 39))) 4) < 6 := q9.2; rw [show dvS (nxS (nxS (x 0 39))) 4 = z14 by omega, ← show x23 b = x b from ((f31 b (by omega)).trans ((f21 b (by omega)).trans (f9 b (by omega))))] at q8; omega), show x23 b = x b from ((f31 b (by omega)).trans ((f21 b (by omega)).trans (f9 b (by omega))))]), (fun a k0 k1 => ((f31 a (by omega)).trans ((f21 a (by omega)).trans (f9 a (by omega))))), (fun i k0 => ((f32 i (by omega)).trans ((f22 i (by omega)).trans (f10 i (by omega)))))⟩ dX12_goDrawn_61
    ·
      refine fr_aload_n h rfl 1 rfl dX12_goDrawn_54 ?_
      refine fr_iload_n h rfl 2 rfl dX12_goDrawn_55 ?_
      refine fr_iload_n h rfl 3 rfl dX12_goDrawn_56 ?_
      have r43 := (congrFun (f31 b (by omega)) (24 + z14))
      have r44 := r43.trans (congrFun (f21 b (by omega)) (24 + z14))
      have r45 := r44.trans (congrFun (f9 b (by omega)) (24 + z14))
      refine fr_csI h wX12_goPut lX12_169 (c_X12_goPut x23 b hb z14 z24 (by omega) (by omega) (by omega) (by omega) (by omega) (by omega) (by omega)) rfl (by decide) (by decide) rfl (Nat.le_of_ble_eq_true rfl) dX12_goDrawn_57 (fun z47 x46 w48 p49 => ?_)
      obtain ⟨p50, p51, p52, f53⟩ := p49
      refine fr_pop h rfl dX12_goDrawn_60 ?_
      have hyr := @yr_0 (x 0 39) (fun j => x b (24 + j)) (by omega)
      have r54 := (congrFun (f53 0 (by omega)) 39)
      exact fr_vret h hq ⟨(MI_cong (by rw [show x23 b = x13 b from (f31 b (by omega))]; exact (by rw [show x13 b = x1 b from (f21 b (by omega))]; exact (by rw [show x1 b = x b from (f9 b (by omega))]; exact e0))) (fun i a b => p52 i (by omega) (by omega))), (by omega), (fun j a d => by rw [hyr.2]; show x46 b (24 + j) = if j = _ ∧ _ then _ else _; by_cases q : j = z14; (rw [if_pos ⟨by omega, by show x b (24 + dvS (nxS (nxS (x 0 39))) 4) < 6; rw [show dvS (nxS (nxS (x 0 39))) 4 = z14 by omega, ← show x23 b = x b from ((f31 b (by omega)).trans ((f21 b (by omega)).trans (f9 b (by omega))))]; omega⟩, q, p51, show x23 b = x b from ((f31 b (by omega)).trans ((f21 b (by omega)).trans (f9 b (by omega)))), show dvS (nxS (nxS (x 0 39))) 4 = z14 by omega]); (rw [if_neg (fun q9 => q (by omega)), p52 (24 + j) (by omega) (by omega), show x23 b = x b from ((f31 b (by omega)).trans ((f21 b (by omega)).trans (f9 b (by omega))))])), (fun a k0 k1 => ((f53 a (by omega)).trans ((f31 a (by omega)).trans ((f21 a (by omega)).trans (f9 a (by omega)))))), (fun i k0 => ((congrFun (f53 0 (by omega)) i).trans ((f32 i (by omega)).trans ((f22 i (by omega)).trans (f10 i (by omega))))))⟩ dX12_goDrawn_61
  ·
    by_cases c55 : z2 = 1
    ·
      refine fr_tab_in (off := 57) (tgt := 62) h dX12_goDrawn_5 (by omega) (by omega) (by omega) (by rw [c55]; rfl) (by decide) ?_
      skip
      refine fr_aload_n h rfl 0 rfl dX12_goDrawn_62 ?_
      refine fr_iconst h dX12_goDrawn_63 ?_
      refine fr_cvI h kX12 at_0M wX12_draw lX12_370 (g_X12_draw x1 4 (by omega) (by omega) (by omega)) rfl (by decide) (by decide) rfl (Nat.le_of_ble_eq_true rfl) dX12_goDrawn_64 (fun z57 x56 w58 p59 => ?_)
      obtain ⟨p60, p61, p62, p63, f64, f65⟩ := p59
      have hs2 : x56 0 39 = nxS (nxS (x 0 39)) := by rw [p62, show x1 0 39 = nxS (x 0 39) by omega]
      have hd2 : z57 = dvS (nxS (nxS (x 0 39))) 4 := by rw [p63, show x1 0 39 = nxS (x 0 39) by omega]
      refine fr_istore_n (L' := [(0, vr G 0), (1, vr G b), (2, vi z57)]) h rfl dX12_goDrawn_67 (by decide) [1, 2, 0] rfl ?_
      refine fr_aload_n h rfl 0 rfl dX12_goDrawn_68 ?_
      refine fr_bipush h rfl dX12_goDrawn_69 ?_
      refine fr_cvI h kX12 at_0M wX12_draw lX12_370 (g_X12_draw x56 6 (by omega) (by omega) (by omega)) rfl (by decide) (by decide) rfl (Nat.le_of_ble_eq_true rfl) dX12_goDrawn_71 (fun z67 x66 w68 p69 => ?_)
      obtain ⟨p70, p71, p72, p73, f74, f75⟩ := p69
      have hs3 : x66 0 39 = nxS (nxS (nxS (x 0 39))) := by rw [p72, show x56 0 39 = nxS (nxS (x 0 39)) by omega]
      have hd3 : z67 = dvS (nxS (nxS (nxS (x 0 39)))) 6 := by rw [p73, show x56 0 39 = nxS (nxS (x 0 39)) by omega]
      refine fr_istore_n (L' := [(0, vr G 0), (1, vr G b), (2, vi z57), (3, vi z67)]) h rfl dX12_goDrawn_74 (by decide) [1, 2, 3, 0] rfl ?_
      skip
      refine fr_aload_n h rfl 1 rfl dX12_goDrawn_75 ?_
      refine fr_iload_n h rfl 2 rfl dX12_goDrawn_76 ?_
      refine fr_iload_n h rfl 3 rfl dX12_goDrawn_77 ?_
      refine fr_csI h wX12_canTake lX12_238 (g_X12_canTake x66 b hb z57 z67 (by omega) (by omega)) rfl (by decide) (by decide) rfl (Nat.le_of_ble_eq_true rfl) dX12_goDrawn_78 (fun z77 x76 w78 p79 => ?_)
      obtain ⟨p80, p81, p82, y83⟩ := p79
      rw [y83]
      clear y83
      refine fr_if_eq (tgt := 91) h dX12_goDrawn_81 (by decide) (by omega) (fun c84 => ?_) (fun c84 => ?_)
      ·
        have hyr := @yr_1 (x 0 39) (fun j => x b (24 + j)) (by omega)
        exact fr_vret h hq ⟨(by rw [show x66 b = x56 b from (f74 b (by omega))]; exact (by rw [show x56 b = x1 b from (f64 b (by omega))]; exact (by rw [show x1 b = x b from (f9 b (by omega))]; exact e0))), (by omega), (fun j a d => by rw [hyr.2]; show x66 b (24 + j) = if j = _ ∧ _ then _ else _; rw [if_neg (fun q9 => by have q8 : dvS (nxS (nxS (nxS (x 0 39)))) 6 < x b (24 + dvS (nxS (nxS (x 0 39))) 4) := q9.2; rw [show dvS (nxS (nxS (x 0 39))) 4 = z57 by omega, ← show x66 b = x b from ((f74 b (by omega)).trans ((f64 b (by omega)).trans (f9 b (by omega))))] at q8; omega), show x66 b = x b from ((f74 b (by omega)).trans ((f64 b (by omega)).trans (f9 b (by omega))))]), (fun a k0 k1 => ((f74 a (by omega)).trans ((f64 a (by omega)).trans (f9 a (by omega))))), (fun i k0 => ((f75 i (by omega)).trans ((f65 i (by omega)).trans (f10 i (by omega)))))⟩ dX12_goDrawn_91
      ·
        refine fr_aload_n h rfl 1 rfl dX12_goDrawn_84 ?_
        refine fr_iload_n h rfl 2 rfl dX12_goDrawn_85 ?_
        refine fr_iload_n h rfl 3 rfl dX12_goDrawn_86 ?_
        have r85 := (congrFun (f74 b (by omega)) (24 + z57))
        have r86 := r85.trans (congrFun (f64 b (by omega)) (24 + z57))
        have r87 := r86.trans (congrFun (f9 b (by omega)) (24 + z57))
        refine fr_csI h wX12_goTake lX12_242 (g_X12_goTake x66 b hb z57 z67 (by omega) (by omega) (by omega) (by omega) (by omega) (by omega)) rfl (by decide) (by decide) rfl (Nat.le_of_ble_eq_true rfl) dX12_goDrawn_87 (fun z89 x88 w90 p91 => ?_)
        obtain ⟨p92, p93, p94, p95, p96, f97⟩ := p91
        refine fr_pop h rfl dX12_goDrawn_90 ?_
        have hyr := @yr_1 (x 0 39) (fun j => x b (24 + j)) (by omega)
        have r98 := (congrFun (f97 0 (by omega)) 39)
        exact fr_vret h hq ⟨(MI_cong (by rw [show x66 b = x56 b from (f74 b (by omega))]; exact (by rw [show x56 b = x1 b from (f64 b (by omega))]; exact (by rw [show x1 b = x b from (f9 b (by omega))]; exact e0))) (fun i a b => p96 i (by omega) (by omega))), (by omega), (fun j a d => by rw [hyr.2]; show x88 b (24 + j) = if j = _ ∧ _ then _ else _; by_cases q : j = z57; (rw [if_pos ⟨by omega, by show dvS (nxS (nxS (nxS (x 0 39)))) 6 < x b (24 + dvS (nxS (nxS (x 0 39))) 4); rw [show dvS (nxS (nxS (x 0 39))) 4 = z57 by omega, ← show x66 b = x b from ((f74 b (by omega)).trans ((f64 b (by omega)).trans (f9 b (by omega))))]; omega⟩, q, p95, show x66 b = x b from ((f74 b (by omega)).trans ((f64 b (by omega)).trans (f9 b (by omega)))), show dvS (nxS (nxS (x 0 39))) 4 = z57 by omega]); (rw [if_neg (fun q9 => q (by omega)), p96 (24 + j) (by omega) (by omega), show x66 b = x b from ((f74 b (by omega)).trans ((f64 b (by omega)).trans (f9 b (by omega))))])), (fun a k0 k1 => ((f97 a (by omega)).trans ((f74 a (by omega)).trans ((f64 a (by omega)).trans (f9 a (by omega)))))), (fun i k0 => ((congrFun (f97 0 (by omega)) i).trans ((f75 i (by omega)).trans ((f65 i (by omega)).trans (f10 i (by omega))))))⟩ dX12_goDrawn_91
    ·
      by_cases c99 : z2 = 2
      ·
        refine fr_tab_in (off := 87) (tgt := 92) h dX12_goDrawn_5 (by omega) (by omega) (by omega) (by rw [c99]; rfl) (by decide) ?_
        skip
        refine fr_aload_n h rfl 0 rfl dX12_goDrawn_92 ?_
        refine fr_bipush h rfl dX12_goDrawn_93 ?_
        refine fr_cvI h kX12 at_0M wX12_draw lX12_370 (g_X12_draw x1 7 (by omega) (by omega) (by omega)) rfl (by decide) (by decide) rfl (Nat.le_of_ble_eq_true rfl) dX12_goDrawn_95 (fun z101 x100 w102 p103 => ?_)
        obtain ⟨p104, p105, p106, p107, f108, f109⟩ := p103
        have hs2 : x100 0 39 = nxS (nxS (x 0 39)) := by rw [p106, show x1 0 39 = nxS (x 0 39) by omega]
        have hd2 : z101 = dvS (nxS (nxS (x 0 39))) 7 := by rw [p107, show x1 0 39 = nxS (x 0 39) by omega]
        refine fr_istore_n (L' := [(0, vr G 0), (1, vr G b), (2, vi z101)]) h rfl dX12_goDrawn_98 (by decide) [1, 2, 0] rfl ?_
        refine fr_aload_n h rfl 0 rfl dX12_goDrawn_99 ?_
        refine fr_bipush h rfl dX12_goDrawn_100 ?_
        refine fr_cvI h kX12 at_0M wX12_draw lX12_370 (g_X12_draw x100 7 (by omega) (by omega) (by omega)) rfl (by decide) (by decide) rfl (Nat.le_of_ble_eq_true rfl) dX12_goDrawn_102 (fun z111 x110 w112 p113 => ?_)
        obtain ⟨p114, p115, p116, p117, f118, f119⟩ := p113
        have hs3 : x110 0 39 = nxS (nxS (nxS (x 0 39))) := by rw [p116, show x100 0 39 = nxS (nxS (x 0 39)) by omega]
        have hd3 : z111 = dvS (nxS (nxS (nxS (x 0 39)))) 7 := by rw [p117, show x100 0 39 = nxS (nxS (x 0 39)) by omega]
        refine fr_istore_n (L' := [(0, vr G 0), (1, vr G b), (2, vi z101), (3, vi z111)]) h rfl dX12_goDrawn_105 (by decide) [1, 2, 3, 0] rfl ?_
        refine fr_aload_n h rfl 0 rfl dX12_goDrawn_106 ?_
        refine fr_bipush h rfl dX12_goDrawn_107 ?_
        refine fr_cvI h kX12 at_0M wX12_draw lX12_370 (g_X12_draw x110 99 (by omega) (by omega) (by omega)) rfl (by decide) (by decide) rfl (Nat.le_of_ble_eq_true rfl) dX12_goDrawn_109 (fun z121 x120 w122 p123 => ?_)
        obtain ⟨p124, p125, p126, p127, f128, f129⟩ := p123
        have hs4 : x120 0 39 = nxS (nxS (nxS (nxS (x 0 39)))) := by rw [p126, show x110 0 39 = nxS (nxS (nxS (x 0 39))) by omega]
        have hd4 : z121 = dvS (nxS (nxS (nxS (nxS (x 0 39))))) 99 := by rw [p127, show x110 0 39 = nxS (nxS (nxS (x 0 39))) by omega]
        refine fr_iconst h dX12_goDrawn_112 ?_
        refine fr_iadd h dX12_goDrawn_113 ?_
        refine fr_istore (L' := [(0, vr G 0), (1, vr G b), (2, vi z101), (3, vi z111), (4, vi (z121 + 1))]) h dX12_goDrawn_114 (by decide) [1, 2, 3, 4, 0] rfl ?_
        refine fr_aload_n h rfl 1 rfl dX12_goDrawn_116 ?_
        refine fr_iload_n h rfl 2 rfl dX12_goDrawn_117 ?_
        refine fr_iload_n h rfl 3 rfl dX12_goDrawn_118 ?_
        refine fr_iload h 4 rfl dX12_goDrawn_119 ?_
        refine fr_csI h wX12_refusesJoin lX12_245 (c_X12_refusesJoin x120 b hb z101 z111 (z121 + 1) (by omega) (by omega) (by omega)) rfl (by decide) (by decide) rfl (Nat.le_of_ble_eq_true rfl) dX12_goDrawn_121 (fun z131 x130 w132 p133 => ?_)
        obtain ⟨p134, p135, p136, y137⟩ := p133
        rw [y137]
        clear y137
        refine fr_if_ne (tgt := 135) h dX12_goDrawn_124 (by decide) (by omega) (fun c138 => ?_) (fun c138 => ?_)
        ·
          have hyr := @yr_2 (x 0 39) (fun j => x b (24 + j)) (by omega) (by omega)
          exact fr_vret h hq ⟨(by rw [show x120 b = x110 b from (f128 b (by omega))]; exact (by rw [show x110 b = x100 b from (f118 b (by omega))]; exact (by rw [show x100 b = x1 b from (f108 b (by omega))]; exact (by rw [show x1 b = x b from (f9 b (by omega))]; exact e0)))), (by omega), (fun j a d => by rw [hyr.2]; exact congrFun ((f128 b (by omega)).trans ((f118 b (by omega)).trans ((f108 b (by omega)).trans (f9 b (by omega))))) (24 + j)), (fun a k0 k1 => ((f128 a (by omega)).trans ((f118 a (by omega)).trans ((f108 a (by omega)).trans (f9 a (by omega)))))), (fun i k0 => ((f129 i (by omega)).trans ((f119 i (by omega)).trans ((f109 i (by omega)).trans (f10 i (by omega))))))⟩ dX12_goDrawn_135
        ·
          refine fr_aload_n h rfl 1 rfl dX12_goDrawn_127 ?_
          refine fr_iload_n h rfl 2 rfl dX12_goDrawn_128 ?_
          refine fr_iload_n h rfl 3 rfl dX12_goDrawn_129 ?_
          refine fr_iload h 4 rfl dX12_goDrawn_130 ?_
          refine fr_csV h wX12_weigh lX12_224 (c_X12_weigh x120 b hb z101 z111 (z121 + 1) (by omega) (by omega) (by omega) (by omega) (by omega) (by omega) (by omega) (by omega) (by omega)) rfl (by decide) (by decide) rfl (Nat.le_of_ble_eq_true rfl) dX12_goDrawn_132 (fun x139 p142 => ?_)
          obtain ⟨p143, p144, p145, f146⟩ := p142
          have hyr := @yr_2 (x 0 39) (fun j => x b (24 + j)) (by omega) (by omega)
          have r147 := (congrFun (f146 0 (by omega)) 39)
          exact fr_vret h hq ⟨(MI_weigh (a := z101) (b := z111) (w := (z121 + 1)) (by rw [show x120 b = x110 b from (f128 b (by omega))]; exact (by rw [show x110 b = x100 b from (f118 b (by omega))]; exact (by rw [show x100 b = x1 b from (f108 b (by omega))]; exact (by rw [show x1 b = x b from (f9 b (by omega))]; exact e0)))) (by omega) (by omega) (by omega) (by omega) (by omega) (by first | omega | (rw [show x120 b = x b from ((f128 b (by omega)).trans ((f118 b (by omega)).trans ((f108 b (by omega)).trans (f9 b (by omega)))))]; omega)) p143 p144 p145), (by omega), (fun j a d => by rw [hyr.2]; exact (p145 (24 + j) (by omega) (by omega)).trans (congrFun ((f128 b (by omega)).trans ((f118 b (by omega)).trans ((f108 b (by omega)).trans (f9 b (by omega))))) (24 + j))), (fun a k0 k1 => ((f146 a (by omega)).trans ((f128 a (by omega)).trans ((f118 a (by omega)).trans ((f108 a (by omega)).trans (f9 a (by omega))))))), (fun i k0 => ((congrFun (f146 0 (by omega)) i).trans ((f129 i (by omega)).trans ((f119 i (by omega)).trans ((f109 i (by omega)).trans (f10 i (by omega)))))))⟩ dX12_goDrawn_135
      ·
        refine fr_tab_out (tgt := 136) h dX12_goDrawn_5 (by omega) (by omega) (by decide) ?_
        skip
        refine fr_aload_n h rfl 0 rfl dX12_goDrawn_136 ?_
        refine fr_iconst h dX12_goDrawn_137 ?_
        refine fr_cvI h kX12 at_0M wX12_draw lX12_370 (g_X12_draw x1 5 (by omega) (by omega) (by omega)) rfl (by decide) (by decide) rfl (Nat.le_of_ble_eq_true rfl) dX12_goDrawn_138 (fun z149 x148 w150 p151 => ?_)
        obtain ⟨p152, p153, p154, p155, f156, f157⟩ := p151
        have hs2 : x148 0 39 = nxS (nxS (x 0 39)) := by rw [p154, show x1 0 39 = nxS (x 0 39) by omega]
        have hd2 : z149 = dvS (nxS (nxS (x 0 39))) 5 := by rw [p155, show x1 0 39 = nxS (x 0 39) by omega]
        refine fr_istore_n (L' := [(0, vr G 0), (1, vr G b), (2, vi z149)]) h rfl dX12_goDrawn_141 (by decide) [1, 2, 0] rfl ?_
        refine fr_aload_n h rfl 0 rfl dX12_goDrawn_142 ?_
        refine fr_iconst h dX12_goDrawn_143 ?_
        refine fr_cvI h kX12 at_0M wX12_draw lX12_370 (g_X12_draw x148 5 (by omega) (by omega) (by omega)) rfl (by decide) (by decide) rfl (Nat.le_of_ble_eq_true rfl) dX12_goDrawn_144 (fun z159 x158 w160 p161 => ?_)
        obtain ⟨p162, p163, p164, p165, f166, f167⟩ := p161
        have hs3 : x158 0 39 = nxS (nxS (nxS (x 0 39))) := by rw [p164, show x148 0 39 = nxS (nxS (x 0 39)) by omega]
        have hd3 : z159 = dvS (nxS (nxS (nxS (x 0 39)))) 5 := by rw [p165, show x148 0 39 = nxS (nxS (x 0 39)) by omega]
        refine fr_istore_n (L' := [(0, vr G 0), (1, vr G b), (2, vi z149), (3, vi z159)]) h rfl dX12_goDrawn_147 (by decide) [1, 2, 3, 0] rfl ?_
        refine fr_aload_n h rfl 1 rfl dX12_goDrawn_148 ?_
        refine fr_bipush h rfl dX12_goDrawn_149 ?_
        refine fr_iconst h dX12_goDrawn_151 ?_
        refine fr_iload_n h rfl 2 rfl dX12_goDrawn_152 ?_
        refine fr_imul h dX12_goDrawn_153 ?_
        refine fr_iadd h dX12_goDrawn_154 ?_
        refine fr_iload_n h rfl 3 rfl dX12_goDrawn_155 ?_
        refine fr_iadd h dX12_goDrawn_156 ?_
        refine fr_aload_n h rfl 0 rfl dX12_goDrawn_157 ?_
        refine fr_bipush h rfl dX12_goDrawn_158 ?_
        refine fr_cvI h kX12 at_0M wX12_draw lX12_370 (g_X12_draw x158 100 (by omega) (by omega) (by omega)) rfl (by decide) (by decide) rfl (Nat.le_of_ble_eq_true rfl) dX12_goDrawn_160 (fun z169 x168 w170 p171 => ?_)
        obtain ⟨p172, p173, p174, p175, f176, f177⟩ := p171
        have hs4 : x168 0 39 = nxS (nxS (nxS (nxS (x 0 39)))) := by rw [p174, show x158 0 39 = nxS (nxS (nxS (x 0 39))) by omega]
        have hd4 : z169 = dvS (nxS (nxS (nxS (nxS (x 0 39))))) 100 := by rw [p175, show x158 0 39 = nxS (nxS (nxS (x 0 39))) by omega]
        refine fr_iast h (SA_a hb) (by omega) (by omega) ((SA_r hb ((77 + (5 * z149)) + z159)).trans (sg_wt (by omega) (by omega))) (by omega) (by omega) dX12_goDrawn_163 ?_
        refine fr_mem (fun x178 m179 => ?_)
        have hyr := @yr_2 (x 0 39) (fun j => x b (24 + j)) (by omega) (by omega)
        have r180 := (fm_rd_k (a := 0) (b := 39) m179 (by omega))
        exact fr_vret h hq ⟨(MI_cong (by rw [show x168 b = x158 b from (f176 b (by omega))]; exact (by rw [show x158 b = x148 b from (f166 b (by omega))]; exact (by rw [show x148 b = x1 b from (f156 b (by omega))]; exact (by rw [show x1 b = x b from (f9 b (by omega))]; exact e0)))) (fun i a b => fm_rd_i m179 (by omega))), (by omega), (fun j a d => by rw [hyr.2]; exact (fm_rd_i m179 (by omega)).trans (congrFun ((f176 b (by omega)).trans ((f166 b (by omega)).trans ((f156 b (by omega)).trans (f9 b (by omega))))) (24 + j))), (fun a k0 k1 => ((fm_up_row m179 (by omega)).trans ((f176 a (by omega)).trans ((f166 a (by omega)).trans ((f156 a (by omega)).trans (f9 a (by omega))))))), (fun i k0 => ((fm_rd_k (a := 0) (b := i) m179 (by omega)).trans ((f177 i (by omega)).trans ((f167 i (by omega)).trans ((f157 i (by omega)).trans (f10 i (by omega)))))))⟩ dX12_goDrawn_164
set_option maxHeartbeats 8000000 in
theorem g_X12_years (x : Mm) (u : Int) (n : Int) (h_u : fm_r u) (h_n : fm_r n) (e0 : GI x) (e1 : FRM x) : CnI YM yX12_years cX12_years 4 .int 207 6248 (fun G => [vr G 0, vi u, vi n]) x (fun z y' => (¬ (1 ≤ n ∧ n ≤ 40) → z = (-1)) ∧ (1 ≤ n ∧ n ≤ 40 → z = clp (ysL (n).toNat u (fun _ => 0)) 0) ∧ (∀ a : Int, (a < 0 ∨ 0 < a) → (a < 3 ∨ 3 < a) → (a < 10 ∨ 10 < a) → (a < 7 ∨ 7 < a) → (a < 12 ∨ 18 < a) → y' a = x a) ∧ (∀ i : Int, i ≠ 4 → i ≠ 5 → i ≠ 6 → i ≠ 7 → i ≠ 8 → i ≠ 9 → i ≠ 10 → i ≠ 15 → i ≠ 26 → i ≠ 39 → y' 0 i = x 0 i)) := by
  refine cn_I (by decide) (fun _ => Nat.le_of_ble_eq_true rfl) (fun G C h hq => ?_)
  have h : OK YM G C cX12_years RX12 4 (some .int) 207 6248 := h
  show FW YM G C 4 x 0 [(0, vr G 0), (1, vi u), (2, vi n)] []
  have e12 := e0.2.2.2
  obtain ⟨mZ, m103, m104, m105, m02, m04, m018, m037, m20, m27, m014, m15, m13, m14⟩ := e1
  have m102 := mZ 102 (by omega) (by omega)
  refine fr_aload_n h rfl 0 rfl dX12_years_0 ?_
  refine fr_iconst h dX12_years_1 ?_
  refine fr_puti (iz := 5) h kX12 fX12_94 at_0M rfl rfl (by decide) (by decide) rfl (by decide +kernel) rfM_5 (by omega) (by omega) dX12_years_2 ?_
  refine fr_mem (fun x1 m2 => ?_)
  refine fr_iload_n h rfl 2 rfl dX12_years_5 ?_
  refine fr_iconst h dX12_years_6 ?_
  refine fr_bipush h rfl dX12_years_7 ?_
  refine fr_csI h wX12_in lX12_101 (c_X12_in x1 n 1 40 (by omega) (by omega) (by omega)) rfl (by decide) (by decide) rfl (Nat.le_of_ble_eq_true rfl) dX12_years_9 (fun z4 x3 w5 p6 => ?_)
  obtain ⟨p7, p8, y9⟩ := p6
  rw [y9]
  clear y9
  refine fr_if_ne (tgt := 17) h dX12_years_12 (by decide) (by omega) (fun c10 => ?_) (fun c10 => ?_)
  ·
    refine fr_aload_n h rfl 0 rfl dX12_years_17 ?_
    refine fr_iload_n h rfl 1 rfl dX12_years_18 ?_
    refine fr_puti (iz := 39) h kX12 fX12_366 at_0M rfl rfl (by decide) (by decide) rfl (by decide +kernel) rfM_39 (by omega) (by omega) dX12_years_19 ?_
    refine fr_mem (fun x11 m12 => ?_)
    refine fr_aload_n h rfl 0 rfl dX12_years_22 ?_
    refine fr_getc (z := 1) (iz := 0) h kX12 fX12_9 at_0M rfl rfl rfM_0 (by omega) dX12_years_23 ?_
    refine fr_aload_n h rfl 0 rfl dX12_years_26 ?_
    refine fr_getc (z := 10) (iz := 20) h kX12 fX12_39 at_0M rfl rfl rfM_20 (by omega) dX12_years_27 ?_
    refine fr_iconst h dX12_years_30 ?_
    refine fr_csV h wX12_lay lX12_231 (c_X12_lay x11 1 SA_1 10 106 (by unfold LTN; omega) 0 (by omega) (by omega) (by omega) (by omega) (by omega)) rfl (by decide) (by decide) rfl (Nat.le_of_ble_eq_true rfl) dX12_years_31 (fun x13 p16 => ?_)
    obtain ⟨p17, p18, f19⟩ := p16
    have hMA : MI (x13 10) := MI_cong (by rw [show x11 1 = x1 1 from (fm_up_row m12 (by omega))]; exact (by rw [show x1 1 = x 1 from (fm_up_row m2 (by omega))]; exact e0.1)) (fun i a b => (congrArg (x13 10) (Int.zero_add i).symm).trans (p17 i (by omega) (by omega)))
    refine fr_iconst h dX12_years_34 ?_
    refine fr_istore_n (L' := [(0, vr G 0), (1, vi u), (2, vi n), (3, vi 0)]) h rfl dX12_years_35 (by decide) [1, 2, 3, 0] rfl ?_
    have HL20 : ∀ (n20 : Nat) (l3_20 : Int) (x_20 : Mm), fm_r l3_20 → 0 ≤ l3_20 → l3_20 ≤ 40 → MI (x_20 10) → l3_20 ≤ n → x_20 0 39 = ysR (l3_20).toNat u → LQ (fun j => x_20 10 (24 + j)) (ysL (l3_20).toNat u (fun _ => 0)) → (∀ a : Int, (a < 0 ∨ 0 < a) → (a < 10 ∨ 10 < a) → x_20 a = x13 a) → (∀ i : Int, i ≠ 39 → x_20 0 i = x13 0 i) → (40 - l3_20) < n20 → FW YM G C 4 x_20 36 [(0, vr G 0), (1, vi u), (2, vi n), (3, vi l3_20)] [] := by
      intro n20
      induction n20 with
      | zero =>
        intro l3_20 x_20 g20_0 g20_1 g20_2 g20_3 g20_4 g20_5 g20_6 g20_7 g20_8 g20_9
        exfalso; omega
      | succ n20 ih20 =>
        intro l3_20 x_20 g20_0 g20_1 g20_2 g20_3 g20_4 g20_5 g20_6 g20_7 g20_8 g20_9
        refine fr_iload_n h rfl 3 rfl dX12_years_36 ?_
        refine fr_iload_n h rfl 2 rfl dX12_years_37 ?_
        refine fr_icmp_ge (tgt := 55) h dX12_years_38 (by decide) (by omega) (by omega) (fun c21 => ?_) (fun c21 => ?_)
        ·
          skip
          refine fr_aload_n h rfl 0 rfl dX12_years_55 ?_
          refine fr_iconst h dX12_years_56 ?_
          refine fr_puti (iz := 4) h kX12 fX12_98 at_0M rfl rfl (by decide) (by decide) rfl (by decide +kernel) rfM_4 (by omega) (by omega) dX12_years_57 ?_
          refine fr_mem (fun x22 m23 => ?_)
          refine fr_aload_n h rfl 0 rfl dX12_years_60 ?_
          refine fr_aload_n h rfl 0 rfl dX12_years_61 ?_
          refine fr_aload_n h rfl 0 rfl dX12_years_62 ?_
          refine fr_getc (z := 10) (iz := 20) h kX12 fX12_39 at_0M rfl rfl rfM_20 (by omega) dX12_years_63 ?_
          refine fr_iconst h dX12_years_66 ?_
          refine fr_cvI h kX12 at_0M wX12_layAll lX12_327 (c_X12_layAll x22 10 SA_10 1 (by omega) (by rw [show x22 10 = x_20 10 from (fm_up_row m23 (by omega))]; exact g20_3)) rfl (by decide) (by decide) rfl (Nat.le_of_ble_eq_true rfl) dX12_years_67 (fun z25 x24 w26 p27 => ?_)
          obtain ⟨p28, p29, p30, p31, p32, p33, f34, f35⟩ := p27
          refine fr_i2l h (by omega) dX12_years_70 ?_
          have r36 := (f35 4 (by decide) (by decide) (by decide) (by decide) (by decide) (by decide) (by decide))
          have r37 := r36.trans (fm_rd_s m23)
          refine fr_cvV h kX12 at_0M wX12_tell lX12_269 (c_X12_tell x24 z25 (by omega) (by omega)) rfl (by decide) (by decide) rfl (Nat.le_of_ble_eq_true rfl) dX12_years_71 (fun x38 p41 => ?_)
          obtain ⟨p42, f43, f44⟩ := p41
          refine fr_aload_n h rfl 0 rfl dX12_years_74 ?_
          refine fr_aload_n h rfl 0 rfl dX12_years_75 ?_
          refine fr_aload_n h rfl 0 rfl dX12_years_76 ?_
          refine fr_getc (z := 10) (iz := 20) h kX12 fX12_39 at_0M rfl rfl rfM_20 (by omega) dX12_years_77 ?_
          refine fr_iconst h dX12_years_80 ?_
          refine fr_cvI h kX12 at_0M wX12_layAll lX12_327 (c_X12_layAll x38 10 SA_10 4 (by omega) (by rw [show x38 10 = x24 10 from (f43 10 (by omega) (by omega))]; exact (by rw [show x24 10 = x22 10 from (f34 10 (by omega) (by omega) (by omega))]; exact (by rw [show x22 10 = x_20 10 from (fm_up_row m23 (by omega))]; exact g20_3)))) rfl (by decide) (by decide) rfl (Nat.le_of_ble_eq_true rfl) dX12_years_81 (fun z46 x45 w47 p48 => ?_)
          obtain ⟨p49, p50, p51, p52, p53, p54, f55, f56⟩ := p48
          refine fr_i2l h (by omega) dX12_years_84 ?_
          have r57 := (f56 4 (by decide) (by decide) (by decide) (by decide) (by decide) (by decide) (by decide))
          have r58 := (f35 4 (by decide) (by decide) (by decide) (by decide) (by decide) (by decide) (by decide))
          have r59 := r58.trans (fm_rd_s m23)
          refine fr_cvV h kX12 at_0M wX12_tell lX12_269 (c_X12_tell x45 z46 (by omega) (by omega)) rfl (by decide) (by decide) rfl (Nat.le_of_ble_eq_true rfl) dX12_years_85 (fun x60 p63 => ?_)
          obtain ⟨p64, f65, f66⟩ := p63
          refine fr_aload_n h rfl 0 rfl dX12_years_88 ?_
          refine fr_aload_n h rfl 0 rfl dX12_years_89 ?_
          refine fr_getc (z := 10) (iz := 20) h kX12 fX12_39 at_0M rfl rfl rfM_20 (by omega) dX12_years_90 ?_
          refine fr_iconst h dX12_years_93 ?_
          refine fr_cvI h kX12 at_0M wX12_layAll lX12_327 (c_X12_layAll x60 10 SA_10 2 (by omega) (by rw [show x60 10 = x45 10 from (f65 10 (by omega) (by omega))]; exact (by rw [show x45 10 = x38 10 from (f55 10 (by omega) (by omega) (by omega))]; exact (by rw [show x38 10 = x24 10 from (f43 10 (by omega) (by omega))]; exact (by rw [show x24 10 = x22 10 from (f34 10 (by omega) (by omega) (by omega))]; exact (by rw [show x22 10 = x_20 10 from (fm_up_row m23 (by omega))]; exact g20_3)))))) rfl (by decide) (by decide) rfl (Nat.le_of_ble_eq_true rfl) dX12_years_94 (fun z68 x67 w69 p70 => ?_)
          obtain ⟨p71, p72, p73, p74, p75, p76, f77, f78⟩ := p70
          refine fr_pop h rfl dX12_years_97 ?_
          refine fr_aload_n h rfl 0 rfl dX12_years_98 ?_
          refine fr_aload_n h rfl 0 rfl dX12_years_99 ?_
          refine fr_iconst h dX12_years_100 ?_
          refine fr_cvI h kX12 at_0M wX12_costAt lX12_333 (c_X12_costAt x67 1 (by omega) (by omega) (by omega)) rfl (by decide) (by decide) rfl (Nat.le_of_ble_eq_true rfl) dX12_years_101 (fun z80 x79 w81 p82 => ?_)
          have y83 := p82
          rw [y83]
          clear y83
          refine fr_i2l h (by omega) dX12_years_104 ?_
          have r84 := (f78 4 (by decide) (by decide) (by decide) (by decide) (by decide) (by decide) (by decide))
          have r85 := (f56 4 (by decide) (by decide) (by decide) (by decide) (by decide) (by decide) (by decide))
          have r86 := (f35 4 (by decide) (by decide) (by decide) (by decide) (by decide) (by decide) (by decide))
          have r87 := r86.trans (fm_rd_s m23)
          refine fr_cvV h kX12 at_0M wX12_tell lX12_269 (c_X12_tell x67 z80 (by omega) (by omega)) rfl (by decide) (by decide) rfl (Nat.le_of_ble_eq_true rfl) dX12_years_105 (fun x88 p91 => ?_)
          obtain ⟨p92, f93, f94⟩ := p91
          refine fr_aload_n h rfl 0 rfl dX12_years_108 ?_
          refine fr_aload_n h rfl 0 rfl dX12_years_109 ?_
          refine fr_getc (z := 10) (iz := 20) h kX12 fX12_39 at_0M rfl rfl rfM_20 (by omega) dX12_years_110 ?_
          refine fr_iconst h dX12_years_113 ?_
          refine fr_cvI h kX12 at_0M wX12_layAll lX12_327 (c_X12_layAll x88 10 SA_10 0 (by omega) (by rw [show x88 10 = x67 10 from (f93 10 (by omega) (by omega))]; exact (by rw [show x67 10 = x60 10 from (f77 10 (by omega) (by omega) (by omega))]; exact (by rw [show x60 10 = x45 10 from (f65 10 (by omega) (by omega))]; exact (by rw [show x45 10 = x38 10 from (f55 10 (by omega) (by omega) (by omega))]; exact (by rw [show x38 10 = x24 10 from (f43 10 (by omega) (by omega))]; exact (by rw [show x24 10 = x22 10 from (f34 10 (by omega) (by omega) (by omega))]; exact (by rw [show x22 10 = x_20 10 from (fm_up_row m23 (by omega))]; exact g20_3)))))))) rfl (by decide) (by decide) rfl (Nat.le_of_ble_eq_true rfl) dX12_years_114 (fun z96 x95 w97 p98 => ?_)
          obtain ⟨p99, p100, p101, p102, p103, p104, f105, f106⟩ := p98
          exact fr_iret h hq (by omega) ⟨(by omega), (fun q => by rw [p102 rfl, show x88 10 = x_20 10 from ((f93 10 (by omega) (by omega)).trans ((f77 10 (by omega) (by omega) (by omega)).trans ((f65 10 (by omega) (by omega)).trans ((f55 10 (by omega) (by omega) (by omega)).trans ((f43 10 (by omega) (by omega)).trans ((f34 10 (by omega) (by omega) (by omega)).trans (fm_up_row m23 (by omega)))))))), clp_m]; refine clp_q ?_; rw [show n = l3_20 by omega]; exact g20_6), (fun a k0 k1 k2 k3 k4 => ((f105 a (by omega) (by omega) (by omega)).trans ((f93 a (by omega) (by omega)).trans ((f77 a (by omega) (by omega) (by omega)).trans ((f65 a (by omega) (by omega)).trans ((f55 a (by omega) (by omega) (by omega)).trans ((f43 a (by omega) (by omega)).trans ((f34 a (by omega) (by omega) (by omega)).trans ((fm_up_row m23 (by omega)).trans ((g20_7 a (by omega) (by omega)).trans ((f19 a (by omega)).trans ((fm_up_row m12 (by omega)).trans (fm_up_row m2 (by omega)))))))))))))), (fun i k0 k1 k2 k3 k4 k5 k6 k7 k8 k9 => ((f106 i (by omega) (by omega) (by omega) (by omega) (by omega) (by omega) (by omega)).trans ((f94 i (by omega)).trans ((f78 i (by omega) (by omega) (by omega) (by omega) (by omega) (by omega) (by omega)).trans ((f66 i (by omega)).trans ((f56 i (by omega) (by omega) (by omega) (by omega) (by omega) (by omega) (by omega)).trans ((f44 i (by omega)).trans ((f35 i (by omega) (by omega) (by omega) (by omega) (by omega) (by omega) (by omega)).trans ((fm_rd_i (a := 0) (b := i) m23 (by omega)).trans ((g20_8 i (by omega)).trans ((congrFun (f19 0 (by omega)) i).trans ((fm_rd_i (a := 0) (b := i) m12 (by omega)).trans (fm_rd_i (a := 0) (b := i) m2 (by omega))))))))))))))⟩ dX12_years_117
        ·
          refine fr_aload_n h rfl 0 rfl dX12_years_41 ?_
          refine fr_aload_n h rfl 0 rfl dX12_years_42 ?_
          refine fr_getc (z := 10) (iz := 20) h kX12 fX12_39 at_0M rfl rfl rfM_20 (by omega) dX12_years_43 ?_
          refine fr_cvV h kX12 at_0M wX12_goDrawn lX12_373 (g_X12_goDrawn x_20 10 SA_10 g20_3) rfl (by decide) (by decide) rfl (Nat.le_of_ble_eq_true rfl) dX12_years_46 (fun x107 p110 => ?_)
          obtain ⟨p111, p112, p113, f114, f115⟩ := p110
          refine fr_iinc (j := 3) (L' := [(0, vr G 0), (1, vi u), (2, vi n), (3, vi (l3_20 + 1))]) h dX12_years_49 rfl (by decide) [1, 2, 3, 0] rfl ?_
          refine fr_goto (tgt := 36) h dX12_years_52 (by decide) ?_
          have r116 := (congrFun (f19 0 (by omega)) 39)
          have r117 := r116.trans (fm_rd_s m12)
          exact ih20 (l3_20 + 1) x107 (by omega) (by omega) (by omega) p111 (by omega) (by rw [(ys_s (r := u) (L := fun _ => 0) (show 0 ≤ l3_20 by omega)).1, ← g20_5]; exact p112) (by rw [(ys_s (r := u) (L := fun _ => 0) (show 0 ≤ l3_20 by omega)).2, ← g20_5]; exact LQ_t p113 (yrL_c g20_6)) (fun a k0 k1 => ((f114 a (by omega) (by omega)).trans (g20_7 a (by omega) (by omega)))) (fun i k0 => ((f115 i (by omega)).trans (g20_8 i (by omega)))) (by omega)
    have r118 := (congrFun (f19 0 (by omega)) 39)
    have r119 := r118.trans (fm_rd_s m12)
    exact HL20 ((40 - 0) + 1 : Int).toNat 0 x13 (by omega) (by omega) (by omega) hMA (by omega) ((congrFun (f19 0 (by omega)) 39).trans (fm_rd_s m12) : x13 0 39 = u) (fun j a d => ((congrArg (x13 10) (show 24 + j = 0 + (24 + j) by omega)).trans (p17 (24 + j) (by omega) (by omega))).trans ((congrFun ((fm_up_row m12 (by omega)).trans (fm_up_row m2 (by omega))) _).trans (mZ (24 + j) (by omega) (by omega)))) (fun a _ _ => rfl) (fun i _ => rfl) (by omega)
  ·
    refine fr_iconst h dX12_years_15 ?_
    exact fr_iret h hq (by omega) ⟨(by omega), (fun q => by exfalso; omega), (fun a k0 k1 k2 k3 k4 => (fm_up_row m2 (by omega))), (fun i k0 k1 k2 k3 k4 k5 k6 k7 k8 k9 => (fm_rd_i (a := 0) (b := i) m2 (by omega)))⟩ dX12_years_16
