set_option maxHeartbeats 200000 in
theorem f_X7_addStep (x : Mm) (r : Int) (hr : isRu r) (p : Int) (h_p : fm_r p) : CnV YC yX7_addStep cX7_addStep 2 0 0 (fun G => [vr G r, vi p]) x (fun y' => (x r 4 < 40 → y' r 4 = x r 4 + 1 ∧ y' (r + 1) (x r 4) = p) ∧ (∀ a : Int, (a < r ∨ r + 1 < a) → y' a = x a)) := by
  refine cn_V (by decide) (fun _ => Nat.le_of_ble_eq_true rfl) (fun G C h hq => ?_)
  have h : OK YC G C cX7_addStep RX7 2 none 0 0 := h
  show FW YC G C 2 x 0 [(0, vr G r), (1, vi p)] []
  have h_r := Ru_b hr
  refine fr_aload_n h rfl 0 rfl dX7_addStep_0 ?_
  refine fr_geti (iz := 4) h kX7 fX7_25 (Ru_at hr) rfl rfl (by decide) (by decide) (Ru_f4 hr) dX7_addStep_1 (fun z1 w2 w3 q4 => ?_)
  subst q4
  refine fr_bipush h rfl dX7_addStep_4 ?_
  refine fr_icmp_ge (tgt := 29) h dX7_addStep_6 (by decide) (by omega) (by omega) (fun c5 => ?_) (fun c5 => ?_)
  ·
    exact fr_vret h hq ⟨(by omega), (fun a _ => rfl)⟩ dX7_addStep_29
  ·
    refine fr_aload_n h rfl 0 rfl dX7_addStep_9 ?_
    refine fr_getc (z := (r + 1)) (iz := 0) h kX7 fX7_9 (Ru_at hr) rfl rfl (Ru_f0 hr) (by omega) dX7_addStep_10 ?_
    refine fr_aload_n h rfl 0 rfl dX7_addStep_13 ?_
    refine fr_geti (iz := 4) h kX7 fX7_25 (Ru_at hr) rfl rfl (by decide) (by decide) (Ru_f4 hr) dX7_addStep_14 (fun z6 w7 w8 q9 => ?_)
    subst q9
    refine fr_iload_n h rfl 1 rfl dX7_addStep_17 ?_
    refine fr_iast h (Ru_a1 hr) (by omega) (by omega) (Ru_r1 hr (x r 4)) (by omega) (by omega) dX7_addStep_18 ?_
    refine fr_mem (fun x10 m11 => ?_)
    refine fr_aload_n h rfl 0 rfl dX7_addStep_19 ?_
    refine fr_dup h rfl dX7_addStep_20 ?_
    refine fr_geti (iz := 4) h kX7 fX7_25 (Ru_at hr) rfl rfl (by decide) (by decide) (Ru_f4 hr) dX7_addStep_21 (fun z12 w13 w14 q15 => ?_)
    have r16 := q15.trans (fm_rd_k (a := r) (b := 4) m11 (by omega))
    subst q15
    refine fr_iconst h dX7_addStep_24 ?_
    refine fr_iadd h dX7_addStep_25 ?_
    refine fr_puti (iz := 4) h kX7 fX7_25 (Ru_at hr) rfl rfl (by decide) (by decide) rfl (by decide +kernel) (Ru_f4 hr) (by omega) (by omega) dX7_addStep_26 ?_
    refine fr_mem (fun x17 m18 => ?_)
    have r19 := (fm_rd_s m18)
    have r20 := (fm_rd_k (a := (r + 1)) (b := (x r 4)) m18 (by omega))
    have r21 := r20.trans (fm_rd_s m11)
    exact fr_vret h hq ⟨(by omega), (fun a k0 => ((fm_up_row m18 (by omega)).trans (fm_up_row m11 (by omega))))⟩ dX7_addStep_29
set_option maxHeartbeats 200000 in
theorem f_X7_read (x : Mm) (r : Int) (hr : isRu r) (e0 : x 1 1 = 0) : CnI YC yX7_read cX7_read 7 .int 1 21 (fun G => [vr G r, vr G 1]) x (fun z y' => (z = (-1)) ∧ (y' r 4 = 1) ∧ (y' (r + 1) 0 = 1115) ∧ (∀ a : Int, (a < r ∨ r + 4 < a) → y' a = x a)) := by
  refine cn_I (by decide) (fun _ => Nat.le_of_ble_eq_true rfl) (fun G C h hq => ?_)
  have h : OK YC G C cX7_read RX7 7 (some .int) 1 21 := h
  show FW YC G C 7 x 0 [(0, vr G r), (1, vr G 1)] []
  have h_r := Ru_b hr
  refine fr_aload_n h rfl 0 rfl dX7_read_0 ?_
  refine fr_iconst h dX7_read_1 ?_
  refine fr_puti (iz := 4) h kX7 fX7_25 (Ru_at hr) rfl rfl (by decide) (by decide) rfl (by decide +kernel) (Ru_f4 hr) (by omega) (by omega) dX7_read_2 ?_
  refine fr_mem (fun x1 m2 => ?_)
  refine fr_aload_n h rfl 0 rfl dX7_read_5 ?_
  refine fr_iconst h dX7_read_6 ?_
  refine fr_puti (iz := 5) h kX7 fX7_29 (Ru_at hr) rfl rfl (by decide) (by decide) rfl (by decide +kernel) (Ru_f5 hr) (by omega) (by omega) dX7_read_7 ?_
  refine fr_mem (fun x3 m4 => ?_)
  refine fr_aload_n h rfl 0 rfl dX7_read_10 ?_
  refine fr_iconst h dX7_read_11 ?_
  refine fr_puti (iz := 6) h kX7 fX7_32 (Ru_at hr) rfl rfl (by decide) (by decide) rfl (by decide +kernel) (Ru_f6 hr) (by omega) (by omega) dX7_read_12 ?_
  refine fr_mem (fun x5 m6 => ?_)
  refine fr_aload_n h rfl 0 rfl dX7_read_15 ?_
  refine fr_getc (z := (r + 3)) (iz := 2) h kX7 fX7_18 (Ru_at hr) rfl rfl (Ru_f2 hr) (by omega) dX7_read_16 ?_
  refine fr_iconst h dX7_read_19 ?_
  refine fr_iconst h dX7_read_20 ?_
  refine fr_zast h (Ru_a3 hr) (by omega) (by omega) (Ru_r3 hr 0) (by omega) (by omega) (by omega) dX7_read_21 ?_
  refine fr_mem (fun x7 m8 => ?_)
  have r9 := (fm_rd_k (a := 1) (b := 1) m8 (by omega))
  have r10 := r9.trans (fm_rd_k (a := 1) (b := 1) m6 (by omega))
  have r11 := r10.trans (fm_rd_k (a := 1) (b := 1) m4 (by omega))
  have r12 := r11.trans (fm_rd_k (a := 1) (b := 1) m2 (by omega))
  skip
  refine fr_aload_n h rfl 1 rfl dX7_read_22 ?_
  refine fr_cvI h kX9 at_1 wX9_length lX7_35 (c_X9_length x7) rfl (by decide) (by decide) rfl (Nat.le_of_ble_eq_true rfl) dX7_read_23 (fun z14 x13 w15 p16 => ?_)
  obtain ⟨p17, p18, p19, y20⟩ := p16
  rw [y20]
  clear y20
  refine fr_if_ne (tgt := 38) h dX7_read_26 (by decide) (by omega) (fun c21 => ?_) (fun c21 => ?_)
  ·
    exfalso; omega
  ·
    refine fr_aload_n h rfl 0 rfl dX7_read_29 ?_
    refine fr_sipush h rfl dX7_read_30 ?_
    have r22 := (fm_rd_k (a := r) (b := 4) m8 (by omega))
    have r23 := r22.trans (fm_rd_i (a := r) (b := 4) m6 (by decide))
    have r24 := r23.trans (fm_rd_i (a := r) (b := 4) m4 (by decide))
    have r25 := r24.trans (fm_rd_s m2)
    skip
    refine fr_cvV h kX7 (Ru_at hr) wX7_addStep lX7_40 (f_X7_addStep x7 r hr 1115 (by omega)) rfl (by decide) (by decide) rfl (Nat.le_of_ble_eq_true rfl) dX7_read_33 (fun x26 p29 => ?_)
    obtain ⟨p30, f31⟩ := p29
    have ko : x26 (r + 1) (x7 r 4) = x26 (r + 1) 0 := by rw [show x7 r 4 = 0 by omega]
    refine fr_iconst h dX7_read_36 ?_
    have r32 := (fm_rd_k (a := r) (b := 4) m8 (by omega))
    have r33 := r32.trans (fm_rd_i (a := r) (b := 4) m6 (by decide))
    have r34 := r33.trans (fm_rd_i (a := r) (b := 4) m4 (by decide))
    have r35 := r34.trans (fm_rd_s m2)
    have r36 := (fm_rd_k (a := (r + 1)) (b := 0) m8 (by omega))
    have r37 := r36.trans (fm_rd_k (a := (r + 1)) (b := 0) m6 (by omega))
    have r38 := r37.trans (fm_rd_k (a := (r + 1)) (b := 0) m4 (by omega))
    have r39 := r38.trans (fm_rd_k (a := (r + 1)) (b := 0) m2 (by omega))
    exact fr_iret h hq (by omega) ⟨(by omega), (by omega), (by omega), (fun a k0 => ((f31 a (by omega)).trans ((fm_up_row m8 (by omega)).trans ((fm_up_row m6 (by omega)).trans ((fm_up_row m4 (by omega)).trans (fm_up_row m2 (by omega)))))))⟩ dX7_read_37
set_option maxHeartbeats 1000000 in
theorem f_X11_rule (x : Mm) (e0 : FRC x) : CnI YC yX11_rule cX11_rule 3 .int 2 47 (fun G => [vr G 0]) x (fun z y' => (z = 0) ∧ (∀ a : Int, (a < 0 ∨ 2 < a) → (a < 79 ∨ 88 < a) → (a < 95 ∨ 97 < a) → (a < 110 ∨ 119 < a) → y' a = x a)) := by
  refine cn_I (by decide) (fun _ => Nat.le_of_ble_eq_true rfl) (fun G C h hq => ?_)
  have h : OK YC G C cX11_rule RX11 3 (some .int) 2 47 := h
  show FW YC G C 3 x 0 [(0, vr G 0)] []
  obtain ⟨hSZ, hWZ, hTZ, hKN, hKE, h34, h35, h36, h37, h13, h14, h1104, h111, h11, h142, h983, h1071, hCU, hKP⟩ := e0
  have hru : isRu 110 := Or.inl rfl
  have h_110 := Ru_b hru
  have hru5 : isRu 115 := Or.inr rfl
  have h_115 := Ru_b hru5
  refine fr_aload_n h rfl 0 rfl dX11_rule_0 ?_
  refine fr_getr (z := 115) (iz := 14) h kX11 fX11_92 at_0 rfl rfl h14 (by omega) dX11_rule_1 ?_
  refine fr_aload_n h rfl 0 rfl dX11_rule_4 ?_
  refine fr_getc (z := 1) (iz := 0) h kX11 fX11_10 at_0 rfl rfl rf_0_0 (by omega) dX11_rule_5 ?_
  refine fr_cvI h kX7 (Ru_at hru5) wX7_read lX11_132 (f_X7_read x 115 hru5 (by omega)) rfl (by decide) (by decide) rfl (Nat.le_of_ble_eq_true rfl) dX11_rule_8 (fun z2 x1 w3 p4 => ?_)
  obtain ⟨p5, p6, p7, f8⟩ := p4
  refine fr_istore_n (L' := [(0, vr G 0), (1, vi z2)]) h rfl dX11_rule_11 (by decide) [1, 0] rfl ?_
  refine fr_aload_n h rfl 0 rfl dX11_rule_12 ?_
  refine fr_getc (z := 1) (iz := 0) h kX11 fX11_10 at_0 rfl rfl rf_0_0 (by omega) dX11_rule_13 ?_
  refine fr_cvV h kX9 at_1 wX9_clear lX11_117 (c_X9_clear x1) rfl (by decide) (by decide) rfl (Nat.le_of_ble_eq_true rfl) dX11_rule_16 (fun x9 p12 => ?_)
  obtain ⟨p13, f14⟩ := p12
  refine fr_iload_n h rfl 1 rfl dX11_rule_19 ?_
  refine fr_iconst h dX11_rule_20 ?_
  refine fr_icmp_eq (tgt := 28) h dX11_rule_21 (by decide) (by omega) (by omega) (fun c15 => ?_) (fun c15 => ?_)
  ·
    refine fr_aload_n h rfl 0 rfl dX11_rule_28 ?_
    refine fr_getr (z := 110) (iz := 13) h kX11 fX11_88 at_0 rfl rfl ((congrFun (f14 0 (by omega)) 13).trans ((congrFun (f8 0 (by omega)) 13).trans h13)) (by omega) dX11_rule_29 ?_
    refine fr_astore_n (L' := [(0, vr G 0), (1, vi z2), (2, vr G 110)]) h rfl dX11_rule_32 (by decide) [1, 2, 0] rfl ?_
    refine fr_aload_n h rfl 0 rfl dX11_rule_33 ?_
    refine fr_aload_n h rfl 0 rfl dX11_rule_34 ?_
    refine fr_getr (z := 115) (iz := 14) h kX11 fX11_92 at_0 rfl rfl ((congrFun (f14 0 (by omega)) 14).trans ((congrFun (f8 0 (by omega)) 14).trans h14)) (by omega) dX11_rule_35 ?_
    refine fr_putr (tf := (.object "BestWalks$Rule")) (iz := 13) h kX11 fX11_88 at_0 rfl rfl rfl (by decide +kernel) (fun _ => rfl) (fun _ => rfl) rf_0_13 (by omega) (by omega) (by omega) dX11_rule_38 ?_
    refine fr_mem (fun x16 m17 => ?_)
    refine fr_aload_n h rfl 0 rfl dX11_rule_41 ?_
    refine fr_aload_n h rfl 2 rfl dX11_rule_42 ?_
    refine fr_putr (tf := (.object "BestWalks$Rule")) (iz := 14) h kX11 fX11_92 at_0 rfl rfl rfl (by decide +kernel) (fun _ => rfl) (fun _ => rfl) rf_0_14 (by omega) (by omega) (by omega) dX11_rule_43 ?_
    refine fr_mem (fun x18 m19 => ?_)
    refine fr_aload_n h rfl 0 rfl dX11_rule_46 ?_
    refine fr_cvV h kX11 at_0 wX11_changed lX11_136 (c_X11_changed x18) rfl (by decide) (by decide) rfl (Nat.le_of_ble_eq_true rfl) dX11_rule_47 (fun x20 p23 => ?_)
    have f24 := p23
    refine fr_iconst h dX11_rule_50 ?_
    exact fr_iret h hq (by omega) ⟨(by omega), (fun a k0 k1 k2 k3 => ((f24 a (by omega) (by omega)).trans ((fm_up_row m19 (by omega)).trans ((fm_up_row m17 (by omega)).trans ((f14 a (by omega)).trans (f8 a (by omega)))))))⟩ dX11_rule_51
  ·
    exfalso; omega
set_option maxHeartbeats 200000 in
theorem f_X4_costOfChoice (x : Mm) (r : Int) (hr : isRu r) (v : Int) (h_v : fm_l v) (e0 : ∀ j : Int, 0 ≤ j → j < 4 → x (3 + 1) j = 0) (e1 : x r 4 = 1) (e2 : x (r + 1) 0 = 1115) : CnI YC yX4_costOfChoice cX4_costOfChoice 7 .int 2 52 (fun G => [vr G 89, vr G 3, vr G r, vj v]) x (fun z y' => (z = 0) ∧ (∀ a : Int, (a < 89 ∨ 93 < a) → (a < r ∨ r + 4 < a) → y' a = x a)) := by
  refine cn_I (by decide) (fun _ => Nat.le_of_ble_eq_true rfl) (fun G C h hq => ?_)
  have h : OK YC G C cX4_costOfChoice RX4 7 (some .int) 2 52 := h
  show FW YC G C 7 x 0 [(0, vr G 89), (1, vr G 3), (2, vr G r), (3, vj v)] []
  have h_r := Ru_b hr
  refine fr_iconst h dX4_costOfChoice_0 ?_
  refine fr_istore (L' := [(0, vr G 89), (1, vr G 3), (2, vr G r), (3, vj v), (5, vi 0)]) h dX4_costOfChoice_1 (by decide) [1, 2, 3, 4, 0] rfl ?_
  refine fr_iconst h dX4_costOfChoice_3 ?_
  refine fr_istore (L' := [(0, vr G 89), (1, vr G 3), (2, vr G r), (3, vj v), (5, vi 0), (6, vi 0)]) h dX4_costOfChoice_4 (by decide) [1, 2, 3, 4, 5, 0] rfl ?_
  have HL1 : ∀ (n1 : Nat) (l5_1 l6_1 : Int), fm_r l5_1 → 0 ≤ l5_1 → l5_1 ≤ 4 → fm_r l6_1 → 0 ≤ l6_1 → l6_1 ≤ 4 → l5_1 = 0 → (4 - l6_1) < n1 → FW YC G C 7 x 6 [(0, vr G 89), (1, vr G 3), (2, vr G r), (3, vj v), (5, vi l5_1), (6, vi l6_1)] [] := by
    intro n1
    induction n1 with
    | zero =>
      intro l5_1 l6_1 g1_0 g1_1 g1_2 g1_3 g1_4 g1_5 g1_6 g1_7
      exfalso; omega
    | succ n1 ih1 =>
      intro l5_1 l6_1 g1_0 g1_1 g1_2 g1_3 g1_4 g1_5 g1_6 g1_7
      refine fr_iload h 5 rfl dX4_costOfChoice_6 ?_
      refine fr_iconst h dX4_costOfChoice_8 ?_
      refine fr_icmp_ge (tgt := 49) h dX4_costOfChoice_9 (by decide) (by omega) (by omega) (fun c2 => ?_) (fun c2 => ?_)
      ·
        refine fr_aload_n h rfl 2 rfl dX4_costOfChoice_49 ?_
        refine fr_aload_n h rfl 0 rfl dX4_costOfChoice_50 ?_
        refine fr_getc (z := 90) (iz := 0) h kX4 fX4_9 at_89 rfl rfl rf_89_0 (by omega) dX4_costOfChoice_51 ?_
        refine fr_iload h 4 rfl dX4_costOfChoice_54 ?_
        refine fr_cvI h kX7 (Ru_at hr) wX7_costOf lX4_74 (f_X7_costOf x r hr l5_1 (by omega) (by omega) (by omega) (by omega)) rfl (by decide) (by decide) rfl (Nat.le_of_ble_eq_true rfl) dX4_costOfChoice_56 (fun z4 x3 w5 p6 => ?_)
        obtain ⟨p7, f8⟩ := p6
        exact fr_iret h hq (by omega) ⟨(by omega), (fun a k0 k1 => (f8 a (by omega) (by omega)))⟩ dX4_costOfChoice_59
      ·
        refine fr_aload_n h rfl 1 rfl dX4_costOfChoice_12 ?_
        refine fr_iload h 5 rfl dX4_costOfChoice_13 ?_
        refine fr_cvI h kX8 (St_at St_3) wX8_sizeOf lX4_61 (f_X8_sizeOf x l6_1 (by omega) (fun j a b => e0 j a b)) rfl (by decide) (by decide) rfl (Nat.le_of_ble_eq_true rfl) dX4_costOfChoice_15 (fun z10 x9 w11 p12 => ?_)
        obtain ⟨p13, y14⟩ := p12
        rw [y14]
        clear y14
        refine fr_if_le (tgt := 43) h dX4_costOfChoice_18 (by decide) (by omega) (fun c15 => ?_) (fun c15 => ?_)
        ·
          refine fr_iinc (j := 5) (L' := [(0, vr G 89), (1, vr G 3), (2, vr G r), (3, vj v), (5, vi l5_1), (6, vi (l6_1 + 1))]) h dX4_costOfChoice_43 rfl (by decide) [1, 2, 3, 4, 5, 0] rfl ?_
          refine fr_goto (tgt := 6) h dX4_costOfChoice_46 (by decide) ?_
          exact ih1 l5_1 (l6_1 + 1) (by omega) (by omega) (by omega) (by omega) (by omega) (by omega) (by omega) (by omega)
        ·
          exfalso; omega
  exact HL1 ((4 - 0) + 1 : Int).toNat 0 0 (by omega) (by omega) (by omega) (by omega) (by omega) (by omega) (by omega) (by omega)
set_option maxHeartbeats 2000000 in
theorem f_X11_law (x : Mm) (e0 : FRC x) : CnI YC yX11_law cX11_law 11 .int 18 522 (fun G => [vr G 0]) x (fun z y' => (z = 1) ∧ (∀ a : Int, (a < 1 ∨ 2 < a) → (a < 79 ∨ 93 < a) → (a < 107 ∨ 108 < a) → (a < 110 ∨ 119 < a) → y' a = x a)) := by
  refine cn_I (by decide) (fun _ => Nat.le_of_ble_eq_true rfl) (fun G C h hq => ?_)
  have h : OK YC G C cX11_law RX11 11 (some .int) 18 522 := h
  show FW YC G C 11 x 0 [(0, vr G 0)] []
  obtain ⟨hSZ, hWZ, hTZ, hKN, hKE, h34, h35, h36, h37, h13, h14, h1104, h111, h11, h142, h983, h1071, hCU, hKP⟩ := e0
  have hru : isRu 110 := Or.inl rfl
  have h_110 := Ru_b hru
  have hru5 : isRu 115 := Or.inr rfl
  have h_115 := Ru_b hru5
  refine fr_aload_n h rfl 0 rfl dX11_law_0 ?_
  refine fr_getr (z := 115) (iz := 14) h kX11 fX11_92 at_0 rfl rfl h14 (by omega) dX11_law_1 ?_
  refine fr_aload_n h rfl 0 rfl dX11_law_4 ?_
  refine fr_getc (z := 1) (iz := 0) h kX11 fX11_10 at_0 rfl rfl rf_0_0 (by omega) dX11_law_5 ?_
  refine fr_cvI h kX7 (Ru_at hru5) wX7_read lX11_132 (f_X7_read x 115 hru5 (by omega)) rfl (by decide) (by decide) rfl (Nat.le_of_ble_eq_true rfl) dX11_law_8 (fun z2 x1 w3 p4 => ?_)
  obtain ⟨p5, p6, p7, f8⟩ := p4
  refine fr_istore_n (L' := [(0, vr G 0), (1, vi z2)]) h rfl dX11_law_11 (by decide) [1, 0] rfl ?_
  refine fr_aload_n h rfl 0 rfl dX11_law_12 ?_
  refine fr_getc (z := 1) (iz := 0) h kX11 fX11_10 at_0 rfl rfl rf_0_0 (by omega) dX11_law_13 ?_
  refine fr_cvV h kX9 at_1 wX9_clear lX11_117 (c_X9_clear x1) rfl (by decide) (by decide) rfl (Nat.le_of_ble_eq_true rfl) dX11_law_16 (fun x9 p12 => ?_)
  obtain ⟨p13, f14⟩ := p12
  refine fr_iload_n h rfl 1 rfl dX11_law_19 ?_
  refine fr_iconst h dX11_law_20 ?_
  refine fr_icmp_eq (tgt := 30) h dX11_law_21 (by decide) (by omega) (by omega) (fun c15 => ?_) (fun c15 => ?_)
  ·
    refine fr_aload_n h rfl 0 rfl dX11_law_30 ?_
    refine fr_iconst h dX11_law_31 ?_
    have r16 := (congrFun (f14 3 (by omega)) 4)
    have r17 := r16.trans (congrFun (f8 3 (by omega)) 4)
    have r18 := (congrFun (f14 3 (by omega)) 6)
    have r19 := r18.trans (congrFun (f8 3 (by omega)) 6)
    have r20 := (congrFun (f14 3 (by omega)) 7)
    have r21 := r20.trans (congrFun (f8 3 (by omega)) 7)
    have r22 := (congrFun (f14 0 (by omega)) 13)
    have r23 := r22.trans (congrFun (f8 0 (by omega)) 13)
    have r24 := (congrFun (f14 110 (by omega)) 4)
    have r25 := r24.trans (congrFun (f8 110 (by omega)) 4)
    have r26 := (congrFun (f14 (110 + 1) (by omega)) 0)
    have r27 := r26.trans (congrFun (f8 (110 + 1) (by omega)) 0)
    refine fr_cvR h kX11 at_0 wX11_orderOf lX11_210 (f_X11_orderOf x9 0 (by omega) (by omega) (by omega) (fun k a b => (congrFun ((f14 (79 + 2 * k) (by omega)).trans (f8 (79 + 2 * k) (by omega))) 2).trans (hKN k a b)) (fun k a b => (congrFun ((f14 (79 + 2 * k + 1) (by omega)).trans (f8 (79 + 2 * k + 1) (by omega))) 0).trans (hKE k a b)) (fun j a b => (congrFun ((f14 (3 + 1) (by omega)).trans (f8 (3 + 1) (by omega))) j).trans (hSZ j a b)) (fun j a b => (congrFun ((f14 (3 + 3) (by omega)).trans (f8 (3 + 3) (by omega))) j).trans (hWZ j a b)) (by omega) (by omega) (by omega) (by omega) (by omega) (by omega)) rfl (by decide) (by decide) rfl (Nat.le_of_ble_eq_true rfl) dX11_law_32 (fun z29 x28 p31 => ?_)
    obtain ⟨p32, p33, p34, p35, p36, f37⟩ := p31
    obtain ⟨n38, i39⟩ := OrN_ex (show isOr z29 by unfold isOr; omega)
    have h_z29 := OrN_b i39
    refine fr_astore_n (L' := [(0, vr G 0), (1, vi z2), (2, vr G z29)]) h rfl dX11_law_35 (by decide) [1, 2, 0] rfl ?_
    refine fr_ldc2 (z := 9223372036854775807) h (by exact tb_5 (i := 50) (by decide +kernel) (by decide +kernel)) rfl dX11_law_36 ?_
    refine fr_lstore_n (L' := [(0, vr G 0), (1, vi z2), (2, vr G z29), (3, vj 9223372036854775807)]) h rfl dX11_law_39 (by decide) [1, 2, 3, 0] rfl ?_
    refine fr_iconst h dX11_law_40 ?_
    refine fr_istore (L' := [(0, vr G 0), (1, vi z2), (2, vr G z29), (3, vj 9223372036854775807), (5, vi 0)]) h dX11_law_41 (by decide) [1, 2, 3, 4, 0] rfl ?_
    refine fr_iconst h dX11_law_43 ?_
    refine fr_istore (L' := [(0, vr G 0), (1, vi z2), (2, vr G z29), (3, vj 9223372036854775807), (5, vi 0), (6, vi 1)]) h dX11_law_44 (by decide) [1, 2, 3, 4, 5, 0] rfl ?_
    refine fr_iload h 5 rfl dX11_law_46 ?_
    refine fr_aload_n h rfl 2 rfl dX11_law_48 ?_
    refine fr_cvI h kX6 (Or_at (OrN_is i39)) wX6_size lX11_214 (c_X6_size x28 z29 n38 i39) rfl (by decide) (by decide) rfl (Nat.le_of_ble_eq_true rfl) dX11_law_49 (fun z41 x40 w42 p43 => ?_)
    obtain ⟨p44, p45, p46, p47, y48⟩ := p43
    rw [y48]
    clear y48
    refine fr_icmp_gt (tgt := 107) h dX11_law_52 (by decide) (by omega) (by omega) (fun c49 => ?_) (fun c49 => ?_)
    ·
      exfalso; omega
    ·
      refine fr_aload_n h rfl 2 rfl dX11_law_55 ?_
      refine fr_iload h 5 rfl dX11_law_56 ?_
      have r50 := (congrFun (f14 z29 (by omega)) 1)
      have r51 := r50.trans (congrFun (f8 z29 (by omega)) 1)
      have r52 := (congrFun (f14 (z29 + 1) (by omega)) 0)
      have r53 := r52.trans (congrFun (f8 (z29 + 1) (by omega)) 0)
      refine fr_cvL h kX6 (Or_at (OrN_is i39)) wX6_codeAt lX11_251 (f_X6_codeAt x28 z29 n38 i39 1 (by omega) (by omega) (by omega)) rfl (by decide) (by decide) rfl (Nat.le_of_ble_eq_true rfl) dX11_law_58 (fun z55 x54 w56 p57 => ?_)
      obtain ⟨p58, y59⟩ := p57
      rw [y59]
      clear y59
      refine fr_lstore (L' := [(0, vr G 0), (1, vi z2), (2, vr G z29), (3, vj 9223372036854775807), (5, vi 0), (6, vi 1), (7, vj z55)]) h dX11_law_61 (by decide) [1, 2, 3, 4, 5, 6, 0] rfl ?_
      refine fr_aload_n h rfl 0 rfl dX11_law_63 ?_
      refine fr_getc (z := 89) (iz := 8) h kX11 fX11_57 at_0 rfl rfl rf_0_8 (by omega) dX11_law_64 ?_
      refine fr_aload_n h rfl 0 rfl dX11_law_67 ?_
      refine fr_getc (z := 3) (iz := 1) h kX11 fX11_19 at_0 rfl rfl rf_0_1 (by omega) dX11_law_68 ?_
      refine fr_aload_n h rfl 0 rfl dX11_law_71 ?_
      refine fr_getr (z := 115) (iz := 14) h kX11 fX11_92 at_0 rfl rfl ((congrFun (f37 0 (by omega) (by omega)) 14).trans ((congrFun (f14 0 (by omega)) 14).trans ((congrFun (f8 0 (by omega)) 14).trans h14))) (by omega) dX11_law_72 ?_
      refine fr_lload h 6 rfl dX11_law_75 ?_
      have r60 := (congrFun (f37 115 (by omega) (by omega)) 4)
      have r61 := r60.trans (congrFun (f14 115 (by omega)) 4)
      have r62 := (congrFun (f37 (115 + 1) (by omega) (by omega)) 0)
      have r63 := r62.trans (congrFun (f14 (115 + 1) (by omega)) 0)
      refine fr_cvI h kX4 at_89 wX4_costOfChoice lX11_322 (f_X4_costOfChoice x28 115 hru5 z55 (by omega) (fun j a b => (congrFun ((f37 (3 + 1) (by omega) (by omega)).trans ((f14 (3 + 1) (by omega)).trans (f8 (3 + 1) (by omega)))) j).trans (hSZ j a b)) (by omega) (by omega)) rfl (by decide) (by decide) rfl (Nat.le_of_ble_eq_true rfl) dX11_law_77 (fun z65 x64 w66 p67 => ?_)
      obtain ⟨p68, f69⟩ := p67
      refine fr_lload h 6 rfl dX11_law_80 ?_
      refine fr_csL h wX6_keyOf lX11_326 (f_X6_keyOf x64 z65 z55 (by omega) (by omega)) rfl (by decide) (by decide) rfl (Nat.le_of_ble_eq_true rfl) dX11_law_82 (fun z71 x70 w72 p73 => ?_)
      obtain ⟨p74, y75⟩ := p73
      rw [y75]
      clear y75
      refine fr_lstore (L' := [(0, vr G 0), (1, vi z2), (2, vr G z29), (3, vj 9223372036854775807), (5, vi 0), (6, vi 1), (7, vj z55), (9, vj z71)]) h dX11_law_85 (by decide) [1, 2, 3, 4, 5, 6, 7, 0] rfl ?_
      refine fr_lload h 7 rfl dX11_law_87 ?_
      refine fr_lload_n h rfl 3 rfl dX11_law_89 ?_
      refine fr_lcmp h dX11_law_90 (by omega) (by omega) (fun z76 w77 => ?_)
      have r78 := (congrFun (f69 z29 (by omega) (by omega)) 1)
      have r79 := (congrFun (f14 z29 (by omega)) 1)
      have r80 := r79.trans (congrFun (f8 z29 (by omega)) 1)
      skip
      refine fr_if_ge (tgt := 101) h dX11_law_91 (by decide) (by omega) (fun c81 => ?_) (fun c81 => ?_)
      ·
        exfalso; omega
      ·
        refine fr_lload h 7 rfl dX11_law_94 ?_
        refine fr_lstore_n (L' := [(0, vr G 0), (1, vi z2), (2, vr G z29), (3, vj z71), (5, vi 0), (6, vi 1), (7, vj z55), (9, vj z71)]) h rfl dX11_law_96 (by decide) [1, 2, 3, 0, 4, 5, 6, 7] rfl ?_
        refine fr_iload h 5 rfl dX11_law_97 ?_
        refine fr_istore (L' := [(0, vr G 0), (1, vi z2), (2, vr G z29), (3, vj z71), (5, vi 1), (6, vi 1), (7, vj z55), (9, vj z71)]) h dX11_law_99 (by decide) [1, 2, 3, 4, 0, 5, 6, 7] rfl ?_
        refine fr_iinc (j := 5) (L' := [(0, vr G 0), (1, vi z2), (2, vr G z29), (3, vj z71), (5, vi 1), (6, vi (1 + 1)), (7, vj z55), (9, vj z71)]) h dX11_law_101 rfl (by decide) [1, 2, 3, 4, 5, 0, 6, 7] rfl ?_
        refine fr_goto (tgt := 46) h dX11_law_104 (by decide) ?_
        refine fr_iload h 5 rfl dX11_law_46 ?_
        refine fr_aload_n h rfl 2 rfl dX11_law_48 ?_
        refine fr_cvI h kX6 (Or_at (OrN_is i39)) wX6_size lX11_214 (c_X6_size x64 z29 n38 i39) rfl (by decide) (by decide) rfl (Nat.le_of_ble_eq_true rfl) dX11_law_49 (fun z83 x82 w84 p85 => ?_)
        obtain ⟨p86, p87, p88, p89, y90⟩ := p85
        rw [y90]
        clear y90
        refine fr_icmp_gt (tgt := 107) h dX11_law_52 (by decide) (by omega) (by omega) (fun c91 => ?_) (fun c91 => ?_)
        ·
          refine fr_aload_n h rfl 0 rfl dX11_law_107 ?_
          refine fr_getc (z := 107) (iz := 11) h kX11 fX11_77 at_0 rfl rfl rf_0_11 (by omega) dX11_law_108 ?_
          refine fr_lload_n h rfl 3 rfl dX11_law_111 ?_
          refine fr_csI h wX6_costOf lX11_330 (f_X6_costOf x64 z71 (by omega)) rfl (by decide) (by decide) rfl (Nat.le_of_ble_eq_true rfl) dX11_law_112 (fun z93 x92 w94 p95 => ?_)
          obtain ⟨p96, y97⟩ := p95
          rw [y97]
          clear y97
          refine fr_i2l h (by omega) dX11_law_115 ?_
          refine fr_cvV h kX10 at_107 wX10_only lX11_192 (c_X10_only x64 z93 (by omega)) rfl (by decide) (by decide) rfl (Nat.le_of_ble_eq_true rfl) dX11_law_116 (fun x98 p101 => ?_)
          have f102 := p101
          refine fr_aload_n h rfl 0 rfl dX11_law_119 ?_
          refine fr_getc (z := 107) (iz := 11) h kX11 fX11_77 at_0 rfl rfl rf_0_11 (by omega) dX11_law_120 ?_
          refine fr_aload_n h rfl 2 rfl dX11_law_123 ?_
          refine fr_iload h 4 rfl dX11_law_124 ?_
          have r103 := (congrFun (f102 z29 (by omega)) 1)
          have r104 := r103.trans (congrFun (f69 z29 (by omega) (by omega)) 1)
          have r105 := (congrFun (f14 z29 (by omega)) 1)
          have r106 := r105.trans (congrFun (f8 z29 (by omega)) 1)
          have r107 := (congrFun (f102 (z29 + 1) (by omega)) 0)
          have r108 := r107.trans (congrFun (f69 (z29 + 1) (by omega) (by omega)) 0)
          have r109 := (congrFun (f14 (z29 + 1) (by omega)) 0)
          have r110 := r109.trans (congrFun (f8 (z29 + 1) (by omega)) 0)
          refine fr_cvI h kX6 (Or_at (OrN_is i39)) wX6_costAt lX11_220 (f_X6_costAt x98 z29 n38 i39 1 (by omega) (by omega) (by omega)) rfl (by decide) (by decide) rfl (Nat.le_of_ble_eq_true rfl) dX11_law_126 (fun z112 x111 w113 p114 => ?_)
          obtain ⟨p115, y116⟩ := p114
          rw [y116]
          clear y116
          refine fr_i2l h (by omega) dX11_law_129 ?_
          refine fr_cvV h kX10 at_107 wX10_add lX11_223 (c_X10_add x98 z112 (by omega)) rfl (by decide) (by decide) rfl (Nat.le_of_ble_eq_true rfl) dX11_law_130 (fun x117 p120 => ?_)
          have f121 := p120
          refine fr_iload h 4 rfl dX11_law_133 ?_
          exact fr_iret h hq (by omega) ⟨(by omega), (fun a k0 k1 k2 k3 => ((f121 a (by omega)).trans ((f102 a (by omega)).trans ((f69 a (by omega) (by omega)).trans ((f37 a (by omega) (by omega)).trans ((f14 a (by omega)).trans (f8 a (by omega))))))))⟩ dX11_law_135
        ·
          exfalso; omega
  ·
    exfalso; omega
set_option maxHeartbeats 200000 in
theorem f_X0_fault (x : Mm) (e0 : x 1 1 = 0) : CnI YC yX0_fault cX0_fault 5 .int 1 21 (fun G => [vr G 1]) x (fun z y' => (z = (-1)) ∧ (y' = x)) := by
  refine cn_I (by decide) (fun _ => Nat.le_of_ble_eq_true rfl) (fun G C h hq => ?_)
  have h : OK YC G C cX0_fault RX0 5 (some .int) 1 21 := h
  show FW YC G C 5 x 0 [(0, vr G 1)] []
  refine fr_aload_n h rfl 0 rfl dX0_fault_0 ?_
  refine fr_cvI h kX9 at_1 wX9_length lX0_15 (c_X9_length x) rfl (by decide) (by decide) rfl (Nat.le_of_ble_eq_true rfl) dX0_fault_1 (fun z2 x1 w3 p4 => ?_)
  obtain ⟨p5, p6, p7, y8⟩ := p4
  rw [y8]
  clear y8
  refine fr_bipush h rfl dX0_fault_4 ?_
  refine fr_mmin h (by omega) (by omega) (tb_3 (i := 44) (by decide +kernel) (by decide +kernel)) w_mmin (by decide) (by decide) (Nat.le_of_ble_eq_true rfl) dX0_fault_6 (fun z9 w10 w11 w12 => ?_)
  refine fr_istore_n (L' := [(0, vr G 1), (1, vi z9)]) h rfl dX0_fault_9 (by decide) [1, 0] rfl ?_
  refine fr_iconst h dX0_fault_10 ?_
  refine fr_istore_n (L' := [(0, vr G 1), (1, vi z9), (2, vi 0)]) h rfl dX0_fault_11 (by decide) [1, 2, 0] rfl ?_
  refine fr_iload_n h rfl 2 rfl dX0_fault_12 ?_
  refine fr_iload_n h rfl 1 rfl dX0_fault_13 ?_
  refine fr_icmp_ge (tgt := 86) h dX0_fault_14 (by decide) (by omega) (by omega) (fun c13 => ?_) (fun c13 => ?_)
  ·
    refine fr_aload_n h rfl 0 rfl dX0_fault_86 ?_
    refine fr_cvI h kX9 at_1 wX9_length lX0_15 (c_X9_length x) rfl (by decide) (by decide) rfl (Nat.le_of_ble_eq_true rfl) dX0_fault_87 (fun z15 x14 w16 p17 => ?_)
    obtain ⟨p18, p19, p20, y21⟩ := p17
    rw [y21]
    clear y21
    refine fr_bipush h rfl dX0_fault_90 ?_
    refine fr_icmp_le (tgt := 100) h dX0_fault_92 (by decide) (by omega) (by omega) (fun c22 => ?_) (fun c22 => ?_)
    ·
      refine fr_iconst h dX0_fault_100 ?_
      exact fr_iret h hq (by omega) ⟨(by omega), rfl⟩ dX0_fault_101
    ·
      exfalso; omega
  ·
    exfalso; omega
set_option maxHeartbeats 200000 in
theorem f_X0_perform (x : Mm) (e0 : x 1 1 = 0) : CnI YC yX0_perform cX0_perform 5 .int 1 20 (fun G => [vr G 13, vr G 1, vr G 3]) x (fun z y' => (z = 0) ∧ (∀ a : Int, (a < 13 ∨ 13 < a) → y' a = x a)) := by
  refine cn_I (by decide) (fun _ => Nat.le_of_ble_eq_true rfl) (fun G C h hq => ?_)
  have h : OK YC G C cX0_perform RX0 5 (some .int) 1 20 := h
  show FW YC G C 5 x 0 [(0, vr G 13), (1, vr G 1), (2, vr G 3)] []
  refine fr_aload_n h rfl 0 rfl dX0_perform_0 ?_
  refine fr_iconst h dX0_perform_1 ?_
  refine fr_putz (iz := 0) h kX0 fX0_9 at_13 rfl rfl (by decide) (by decide) rfl (by decide +kernel) rf_13_0 (by omega) (by omega) (by omega) dX0_perform_2 ?_
  refine fr_mem (fun x1 m2 => ?_)
  refine fr_iconst h dX0_perform_5 ?_
  refine fr_istore_n (L' := [(0, vr G 13), (1, vr G 1), (2, vr G 3), (3, vi 0)]) h rfl dX0_perform_6 (by decide) [1, 2, 3, 0] rfl ?_
  refine fr_iconst h dX0_perform_7 ?_
  refine fr_istore (L' := [(0, vr G 13), (1, vr G 1), (2, vr G 3), (3, vi 0), (4, vi 0)]) h dX0_perform_8 (by decide) [1, 2, 3, 4, 0] rfl ?_
  refine fr_iload h 4 rfl dX0_perform_10 ?_
  refine fr_aload_n h rfl 1 rfl dX0_perform_12 ?_
  have r3 := (fm_rd_k (a := 1) (b := 1) m2 (by omega))
  skip
  refine fr_cvI h kX9 at_1 wX9_length lX0_15 (c_X9_length x1) rfl (by decide) (by decide) rfl (Nat.le_of_ble_eq_true rfl) dX0_perform_13 (fun z5 x4 w6 p7 => ?_)
  obtain ⟨p8, p9, p10, y11⟩ := p7
  rw [y11]
  clear y11
  refine fr_icmp_ge (tgt := 69) h dX0_perform_16 (by decide) (by omega) (by omega) (fun c12 => ?_) (fun c12 => ?_)
  ·
    refine fr_iload_n h rfl 3 rfl dX0_perform_69 ?_
    exact fr_iret h hq (by omega) ⟨(by omega), (fun a k0 => (fm_up_row m2 (by omega)))⟩ dX0_perform_70
  ·
    exfalso; omega
set_option maxHeartbeats 1000000 in
theorem f_X11_day (x : Mm) (e0 : FRC x) : CnI YC yX11_day cX11_day 3 .int 4 89 (fun G => [vr G 0]) x (fun z y' => (z = 0) ∧ (∀ a : Int, (a < 1 ∨ 2 < a) → (a < 3 ∨ 12 < a) → (a < 13 ∨ 65 < a) → (a < 79 ∨ 88 < a) → (a < 95 ∨ 97 < a) → (a < 107 ∨ 108 < a) → y' a = x a)) := by
  refine cn_I (by decide) (fun _ => Nat.le_of_ble_eq_true rfl) (fun G C h hq => ?_)
  have h : OK YC G C cX11_day RX11 3 (some .int) 4 89 := h
  show FW YC G C 3 x 0 [(0, vr G 0)] []
  obtain ⟨hSZ, hWZ, hTZ, hKN, hKE, h34, h35, h36, h37, h13, h14, h1104, h111, h11, h142, h983, h1071, hCU, hKP⟩ := e0
  have hru : isRu 110 := Or.inl rfl
  have h_110 := Ru_b hru
  have hru5 : isRu 115 := Or.inr rfl
  have h_115 := Ru_b hru5
  refine fr_aload_n h rfl 0 rfl dX11_day_0 ?_
  refine fr_getc (z := 1) (iz := 0) h kX11 fX11_10 at_0 rfl rfl rf_0_0 (by omega) dX11_day_1 ?_
  refine fr_csI h wX0_fault lX11_181 (f_X0_fault x (by omega)) rfl (by decide) (by decide) rfl (Nat.le_of_ble_eq_true rfl) dX11_day_4 (fun z2 x1 w3 p4 => ?_)
  obtain ⟨p5, y6⟩ := p4
  rw [y6]
  clear y6
  refine fr_istore_n (L' := [(0, vr G 0), (1, vi z2)]) h rfl dX11_day_7 (by decide) [1, 0] rfl ?_
  refine fr_iload_n h rfl 1 rfl dX11_day_8 ?_
  refine fr_iconst h dX11_day_9 ?_
  refine fr_icmp_eq (tgt := 24) h dX11_day_10 (by decide) (by omega) (by omega) (fun c7 => ?_) (fun c7 => ?_)
  ·
    refine fr_aload_n h rfl 0 rfl dX11_day_24 ?_
    refine fr_getc (z := 8) (iz := 2) h kX11 fX11_23 at_0 rfl rfl rf_0_2 (by omega) dX11_day_25 ?_
    refine fr_aload_n h rfl 0 rfl dX11_day_28 ?_
    refine fr_getc (z := 3) (iz := 1) h kX11 fX11_19 at_0 rfl rfl rf_0_1 (by omega) dX11_day_29 ?_
    refine fr_cvV h kX8 (St_at St_8) wX8_copyFrom lX11_120 (c_X8_copyFrom x 8 St_8 3 St_3) rfl (by decide) (by decide) rfl (Nat.le_of_ble_eq_true rfl) dX11_day_32 (fun x8 p11 => ?_)
    have f12 := p11
    refine fr_aload_n h rfl 0 rfl dX11_day_35 ?_
    refine fr_getc (z := 13) (iz := 3) h kX11 fX11_29 at_0 rfl rfl rf_0_3 (by omega) dX11_day_36 ?_
    refine fr_aload_n h rfl 0 rfl dX11_day_39 ?_
    refine fr_getc (z := 1) (iz := 0) h kX11 fX11_10 at_0 rfl rfl rf_0_0 (by omega) dX11_day_40 ?_
    refine fr_aload_n h rfl 0 rfl dX11_day_43 ?_
    refine fr_getc (z := 3) (iz := 1) h kX11 fX11_19 at_0 rfl rfl rf_0_1 (by omega) dX11_day_44 ?_
    have r13 := (congrFun (f12 1 (by omega)) 1)
    refine fr_cvI h kX0 at_13 wX0_perform lX11_184 (f_X0_perform x8 (by omega)) rfl (by decide) (by decide) rfl (Nat.le_of_ble_eq_true rfl) dX11_day_47 (fun z15 x14 w16 p17 => ?_)
    obtain ⟨p18, f19⟩ := p17
    refine fr_istore_n (L' := [(0, vr G 0), (1, vi z2), (2, vi z15)]) h rfl dX11_day_50 (by decide) [1, 2, 0] rfl ?_
    refine fr_aload_n h rfl 0 rfl dX11_day_51 ?_
    refine fr_getc (z := 1) (iz := 0) h kX11 fX11_10 at_0 rfl rfl rf_0_0 (by omega) dX11_day_52 ?_
    refine fr_cvV h kX9 at_1 wX9_clear lX11_117 (c_X9_clear x14) rfl (by decide) (by decide) rfl (Nat.le_of_ble_eq_true rfl) dX11_day_55 (fun x20 p23 => ?_)
    obtain ⟨p24, f25⟩ := p23
    refine fr_aload_n h rfl 0 rfl dX11_day_58 ?_
    refine fr_iload_n h rfl 2 rfl dX11_day_59 ?_
    refine fr_if_le (tgt := 67) h dX11_day_60 (by decide) (by omega) (fun c26 => ?_) (fun c26 => ?_)
    ·
      refine fr_iconst h dX11_day_67 ?_
      refine fr_cvI h kX11 at_0 wX11_settled lX11_128 (c_X11_settled x20 (-1) (by omega)) rfl (by decide) (by decide) rfl (Nat.le_of_ble_eq_true rfl) dX11_day_68 (fun z28 x27 w29 p30 => ?_)
      obtain ⟨p31, f32⟩ := p30
      refine fr_pop h rfl dX11_day_71 ?_
      refine fr_aload_n h rfl 0 rfl dX11_day_72 ?_
      refine fr_getc (z := 107) (iz := 11) h kX11 fX11_77 at_0 rfl rfl rf_0_11 (by omega) dX11_day_73 ?_
      refine fr_aload_n h rfl 0 rfl dX11_day_76 ?_
      refine fr_getc (z := 13) (iz := 3) h kX11 fX11_29 at_0 rfl rfl rf_0_3 (by omega) dX11_day_77 ?_
      refine fr_cvI h kX0 at_13 wX0_stopped lX11_188 (c_X0_stopped x27) rfl (by decide) (by decide) rfl (Nat.le_of_ble_eq_true rfl) dX11_day_80 (fun z34 x33 w35 p36 => ?_)
      obtain ⟨p37, y38⟩ := p36
      rw [y38]
      clear y38
      refine fr_if_eq (tgt := 90) h dX11_day_83 (by decide) (by omega) (fun c39 => ?_) (fun c39 => ?_)
      ·
        refine fr_lconst (z := 0) h rfl dX11_day_90 ?_
        refine fr_cvV h kX10 at_107 wX10_only lX11_192 (c_X10_only x27 0 (by omega)) rfl (by decide) (by decide) rfl (Nat.le_of_ble_eq_true rfl) dX11_day_91 (fun x40 p43 => ?_)
        have f44 := p43
        refine fr_iload_n h rfl 2 rfl dX11_day_94 ?_
        exact fr_iret h hq (by omega) ⟨(by omega), (fun a k0 k1 k2 k3 k4 k5 => ((f44 a (by omega)).trans ((f32 a (by omega) (by omega) (by omega)).trans ((f25 a (by omega)).trans ((f19 a (by omega)).trans (f12 a (by omega)))))))⟩ dX11_day_95
      ·
        refine fr_lconst (z := 1) h rfl dX11_day_86 ?_
        refine fr_goto (tgt := 91) h dX11_day_87 (by decide) ?_
        refine fr_cvV h kX10 at_107 wX10_only lX11_192 (c_X10_only x27 1 (by omega)) rfl (by decide) (by decide) rfl (Nat.le_of_ble_eq_true rfl) dX11_day_91 (fun x45 p48 => ?_)
        have f49 := p48
        refine fr_iload_n h rfl 2 rfl dX11_day_94 ?_
        exact fr_iret h hq (by omega) ⟨(by omega), (fun a k0 k1 k2 k3 k4 k5 => ((f49 a (by omega)).trans ((f32 a (by omega) (by omega) (by omega)).trans ((f25 a (by omega)).trans ((f19 a (by omega)).trans (f12 a (by omega)))))))⟩ dX11_day_95
    ·
      exfalso; omega
  ·
    exfalso; omega
set_option maxHeartbeats 200000 in
theorem f_X1_addTo (x : Mm) (p : Int) (v : Int) (h_p : fm_r p) (h_v : fm_r v) (e0 : TB1 x) (e1 : 0 ≤ p) (e2 : p < 5) (e3 : 0 ≤ v → v < 31 → x (102 + p) v = 0) (e4 : p = 0 → v ≤ 0) : CnV YC yX1_addTo cX1_addTo 3 0 0 (fun G => [vr G 98, vi p, vi v]) x (fun y' => (TB1 y') ∧ (∀ r : Int, r ≠ 102 + p → y' r = x r) ∧ (∀ a : Int, (a < 102 ∨ 106 < a) → y' a = x a)) := by
  refine cn_V (by decide) (fun _ => Nat.le_of_ble_eq_true rfl) (fun G C h hq => ?_)
  have h : OK YC G C cX1_addTo RX1 3 none 0 0 := h
  show FW YC G C 3 x 0 [(0, vr G 98), (1, vi p), (2, vi v)] []
  refine fr_iload_n h rfl 2 rfl dX1_addTo_0 ?_
  refine fr_if_lt (tgt := 27) h dX1_addTo_1 (by decide) (by omega) (fun c1 => ?_) (fun c1 => ?_)
  ·
    exact fr_vret h hq ⟨e0, (fun _ _ => rfl), (fun a _ => rfl)⟩ dX1_addTo_27
  ·
    refine fr_iload_n h rfl 2 rfl dX1_addTo_4 ?_
    refine fr_aload_n h rfl 0 rfl dX1_addTo_5 ?_
    refine fr_getc (z := 101) (iz := 2) h kX1 fX1_20 at_98 rfl rfl rf_98_2 (by omega) dX1_addTo_6 ?_
    refine fr_iload_n h rfl 1 rfl dX1_addTo_9 ?_
    refine fr_aaldc8 h ar_101 (by omega) (by omega) (rx_101 (by omega) (by omega)) (by omega) dX1_addTo_10 (fun q2 w3 => ?_)
    have i4 : isTy q2 := by rw [w3]; exact Ty_ix101 (by omega) (by omega)
    have h_q2 := Ty_b i4
    refine fr_aleni h (Ty_a i4) (by decide) dX1_addTo_11 ?_
    show FW YC G C 3 x 12 [(0, vr G 98), (1, vi p), (2, vi v)] [vi 31, vi v]
    refine fr_icmp_ge (tgt := 27) h dX1_addTo_12 (by decide) (by omega) (by omega) (fun c5 => ?_) (fun c5 => ?_)
    ·
      exact fr_vret h hq ⟨e0, (fun _ _ => rfl), (fun a _ => rfl)⟩ dX1_addTo_27
    ·
      refine fr_aload_n h rfl 0 rfl dX1_addTo_15 ?_
      refine fr_getc (z := 101) (iz := 2) h kX1 fX1_20 at_98 rfl rfl rf_98_2 (by omega) dX1_addTo_16 ?_
      refine fr_iload_n h rfl 1 rfl dX1_addTo_19 ?_
      refine fr_aaldc8 h ar_101 (by omega) (by omega) (rx_101 (by omega) (by omega)) (by omega) dX1_addTo_20 (fun q6 w7 => ?_)
      have i8 : isTy q6 := by rw [w7]; exact Ty_ix101 (by omega) (by omega)
      have h_q6 := Ty_b i8
      refine fr_iload_n h rfl 2 rfl dX1_addTo_21 ?_
      refine fr_dup2_11 h rfl rfl dX1_addTo_22 ?_
      have hq9 : x q6 v = 0 := by rw [show q6 = 102 + p by omega]; exact e3 (by omega) (by omega)
      refine fr_iald h (Ty_a i8) (by omega) (by omega) (Ty_r i8 v) dX1_addTo_23 (fun z9 w10 w11 q12 => ?_)
      refine fr_iconst h dX1_addTo_24 ?_
      refine fr_iadd h dX1_addTo_25 ?_
      refine fr_normi (fun z13 w14 q15 => ?_)
      have w16 : fm_r ((z9 + 1)) → z13 = (z9 + 1) := fun q => (iI_inj q w14 q15).symm
      refine fr_iast h (Ty_a i8) (by omega) (by omega) (Ty_r i8 v) (by omega) (by omega) dX1_addTo_26 ?_
      refine fr_mem (fun x17 m18 => ?_)
      exact fr_vret h hq ⟨(TB1_s e0 (by omega) (fun q8 q9 => by omega) (fm_rd_s m18) (fun j hj => fm_rd_i (b := j) m18 hj) (fun r j hr => fm_rd_k (a := r) (b := j) m18 (fun q9 => hr q9))), (fun r hr => fm_up_row m18 (by omega)), (fun a k0 => (fm_up_row m18 (by omega)))⟩ dX1_addTo_27
set_option maxHeartbeats 200000 in
theorem f_X1_tallyOne (x : Mm) (p : Int) (v : Int) (h_p : fm_r p) (h_v : fm_l v) (e0 : TZn x 5 0) (e1 : p = 0) (e2 : v = 0) : CnV YC yX1_tallyOne cX1_tallyOne 6 3 68 (fun G => [vr G 98, vi p, vj v]) x (fun y' => (TB1 y') ∧ (∀ a : Int, (a < 102 ∨ 106 < a) → y' a = x a)) := by
  refine cn_V (by decide) (fun _ => Nat.le_of_ble_eq_true rfl) (fun G C h hq => ?_)
  have h : OK YC G C cX1_tallyOne RX1 6 none 3 68 := h
  show FW YC G C 6 x 0 [(0, vr G 98), (1, vi p), (2, vj v)] []
  refine fr_iload_n h rfl 1 rfl dX1_tallyOne_0 ?_
  refine fr_if_lt (tgt := 21) h dX1_tallyOne_1 (by decide) (by omega) (fun c1 => ?_) (fun c1 => ?_)
  ·
    exfalso; omega
  ·
    refine fr_aload_n h rfl 0 rfl dX1_tallyOne_4 ?_
    refine fr_iconst h dX1_tallyOne_5 ?_
    refine fr_iload_n h rfl 1 rfl dX1_tallyOne_6 ?_
    refine fr_bipush h rfl dX1_tallyOne_7 ?_
    refine fr_idiv h (by omega) (by omega) (by omega) dX1_tallyOne_9 (fun z2 w3 q4 w5 => ?_)
    have w6 := w5
    refine fr_gst2 h dX1_tallyOne_10 (fun t7 s8 => ?_)
    refine fr_iconst h dX1_tallyOne_13 ?_
    refine fr_sld h s8 (by decide) (by omega) (by omega) dX1_tallyOne_14 (fun z9 q10 => ?_)
    have w11 := zt_2_v (by omega) (by omega) q10
    refine fr_mmin h (by omega) (by omega) (tb_5 (i := 13) (by decide +kernel) (by decide +kernel)) w_mmin (by decide) (by decide) (Nat.le_of_ble_eq_true rfl) dX1_tallyOne_15 (fun z12 w13 w14 w15 => ?_)
    skip
    refine fr_cvV h kX1 at_98 wX1_addTo lX1_77 (f_X1_addTo x 0 z12 (by omega) (by omega) (TB1_z e0 (by omega)) (by omega) (by omega) (fun _ _ => by rw [show z12 = 0 by omega]; exact e0 (102 + 0) 0 (by omega) (by omega) (by omega) (by omega) (by omega)) (by omega)) rfl (by decide) (by decide) rfl (Nat.le_of_ble_eq_true rfl) dX1_tallyOne_18 (fun x16 p19 => ?_)
    obtain ⟨p20, p21, f22⟩ := p19
    refine fr_aload_n h rfl 0 rfl dX1_tallyOne_21 ?_
    refine fr_iconst h dX1_tallyOne_22 ?_
    refine fr_lload_n h rfl 2 rfl dX1_tallyOne_23 ?_
    refine fr_iconst h dX1_tallyOne_24 ?_
    refine fr_csI h wX2_numberAt lX1_34 (f_X2_numberAt x16 v 0 (by omega) (by omega)) rfl (by decide) (by decide) rfl (Nat.le_of_ble_eq_true rfl) dX1_tallyOne_25 (fun z24 x23 w25 p26 => ?_)
    obtain ⟨p27, p28, p29, y30⟩ := p26
    rw [y30]
    clear y30
    refine fr_cvV h kX1 at_98 wX1_addTo lX1_77 (f_X1_addTo x16 1 z24 (by omega) (by omega) p20 (by omega) (by omega) (fun q8 => by exfalso; omega) (by omega)) rfl (by decide) (by decide) rfl (Nat.le_of_ble_eq_true rfl) dX1_tallyOne_28 (fun x31 p34 => ?_)
    obtain ⟨p35, p36, f37⟩ := p34
    refine fr_aload_n h rfl 0 rfl dX1_tallyOne_31 ?_
    refine fr_iconst h dX1_tallyOne_32 ?_
    refine fr_lload_n h rfl 2 rfl dX1_tallyOne_33 ?_
    refine fr_csI h wX1_lastOf lX1_40 (f_X1_lastOf x31 v (by omega)) rfl (by decide) (by decide) rfl (Nat.le_of_ble_eq_true rfl) dX1_tallyOne_34 (fun z39 x38 w40 p41 => ?_)
    obtain ⟨p42, p43, p44, y45⟩ := p41
    rw [y45]
    clear y45
    refine fr_cvV h kX1 at_98 wX1_addTo lX1_77 (f_X1_addTo x31 2 z39 (by omega) (by omega) p35 (by omega) (by omega) (fun q8 => by exfalso; omega) (by omega)) rfl (by decide) (by decide) rfl (Nat.le_of_ble_eq_true rfl) dX1_tallyOne_37 (fun x46 p49 => ?_)
    obtain ⟨p50, p51, f52⟩ := p49
    refine fr_aload_n h rfl 0 rfl dX1_tallyOne_40 ?_
    refine fr_iconst h dX1_tallyOne_41 ?_
    refine fr_lload_n h rfl 2 rfl dX1_tallyOne_42 ?_
    refine fr_csI h wX2_lengthOf lX1_44 (f_X2_lengthOf x46 v (by omega)) rfl (by decide) (by decide) rfl (Nat.le_of_ble_eq_true rfl) dX1_tallyOne_43 (fun z54 x53 w55 p56 => ?_)
    obtain ⟨p57, p58, p59, y60⟩ := p56
    rw [y60]
    clear y60
    skip
    refine fr_cvV h kX1 at_98 wX1_addTo lX1_77 (f_X1_addTo x46 3 z54 (by omega) (by omega) p50 (by omega) (by omega) (fun _ _ => by rw [show z54 = 0 by omega]; exact ((congrFun (p51 (102 + 3) (by omega)) 0).trans (((congrFun (p36 (102 + 3) (by omega)) 0).trans (((congrFun (p21 (102 + 3) (by omega)) 0).trans (e0 (102 + 3) 0 (by omega) (by omega) (by omega) (by omega) (by omega)))))))) (by omega)) rfl (by decide) (by decide) rfl (Nat.le_of_ble_eq_true rfl) dX1_tallyOne_46 (fun x61 p64 => ?_)
    obtain ⟨p65, p66, f67⟩ := p64
    refine fr_lload_n h rfl 2 rfl dX1_tallyOne_49 ?_
    refine fr_csI h wX2_numbersOf lX1_47 (f_X2_numbersOf x61 v (by omega)) rfl (by decide) (by decide) rfl (Nat.le_of_ble_eq_true rfl) dX1_tallyOne_50 (fun z69 x68 w70 p71 => ?_)
    obtain ⟨p72, y73⟩ := p71
    rw [y73]
    clear y73
    refine fr_istore (L' := [(0, vr G 98), (1, vi p), (2, vj v), (4, vi z69)]) h dX1_tallyOne_53 (by decide) [1, 2, 3, 0] rfl ?_
    refine fr_iconst h dX1_tallyOne_55 ?_
    refine fr_istore (L' := [(0, vr G 98), (1, vi p), (2, vj v), (4, vi z69), (5, vi 0)]) h dX1_tallyOne_56 (by decide) [1, 2, 3, 4, 0] rfl ?_
    have HL74 : ∀ (n74 : Nat) (l5_74 : Int), fm_r l5_74 → 0 ≤ l5_74 → l5_74 ≤ 12 → (12 - l5_74) < n74 → FW YC G C 6 x61 58 [(0, vr G 98), (1, vi p), (2, vj v), (4, vi z69), (5, vi l5_74)] [] := by
      intro n74
      induction n74 with
      | zero =>
        intro l5_74 g74_0 g74_1 g74_2 g74_3
        exfalso; omega
      | succ n74 ih74 =>
        intro l5_74 g74_0 g74_1 g74_2 g74_3
        refine fr_iload h 4 rfl dX1_tallyOne_58 ?_
        refine fr_gst2 h dX1_tallyOne_60 (fun t75 s76 => ?_)
        refine fr_iconst h dX1_tallyOne_63 ?_
        refine fr_sld h s76 (by decide) (by omega) (by omega) dX1_tallyOne_64 (fun z77 q78 => ?_)
        have w79 := zt_2_v (by omega) (by omega) q78
        refine fr_icmp_gt (tgt := 91) h dX1_tallyOne_65 (by decide) (by omega) (by omega) (fun c80 => ?_) (fun c80 => ?_)
        ·
          exact fr_vret h hq ⟨p65, (fun a k0 => ((f67 a (by omega)).trans ((f52 a (by omega)).trans ((f37 a (by omega)).trans (f22 a (by omega))))))⟩ dX1_tallyOne_91
        ·
          refine fr_iload h 3 rfl dX1_tallyOne_68 ?_
          refine fr_iconst h dX1_tallyOne_70 ?_
          refine fr_iload h 4 rfl dX1_tallyOne_71 ?_
          refine fr_ishl h dX1_tallyOne_73 (fun z81 w82 q83 w84 => ?_)
          have w85 := z_ishl w82 q83
          refine fr_iand h dX1_tallyOne_74 (fun z86 w87 q88 w89 => ?_)
          have w90 := z_iand w87 q88
          refine fr_if_eq (tgt := 85) h dX1_tallyOne_75 (by decide) (by omega) (fun c91 => ?_) (fun c91 => ?_)
          ·
            refine fr_iinc (j := 4) (L' := [(0, vr G 98), (1, vi p), (2, vj v), (4, vi z69), (5, vi (l5_74 + 1))]) h dX1_tallyOne_85 rfl (by decide) [1, 2, 3, 4, 0] rfl ?_
            refine fr_goto (tgt := 58) h dX1_tallyOne_88 (by decide) ?_
            exact ih74 (l5_74 + 1) (by omega) (by omega) (by omega) (by omega)
          ·
            exfalso; omega
    exact HL74 ((12 - 0) + 1 : Int).toNat 0 (by omega) (by omega) (by omega) (by omega)
set_option maxHeartbeats 2000000 in
theorem f_X1_tally (x : Mm) (o : Int) (on : Nat) (ho : OrN o on) (e0 : x o 1 ≤ 1) (e1 : x (o + 1) 0 = 0) (e2 : x 98 3 = 0) : CnI YC yX1_tally cX1_tally 4 .int 4 93 (fun G => [vr G 98, vr G o]) x (fun z y' => (z = x o 1) ∧ (TB1 y') ∧ (∀ a : Int, (a < 102 ∨ 106 < a) → y' a = x a)) := by
  refine cn_I (by decide) (fun _ => Nat.le_of_ble_eq_true rfl) (fun G C h hq => ?_)
  have h : OK YC G C cX1_tally RX1 4 (some .int) 4 93 := h
  show FW YC G C 4 x 0 [(0, vr G 98), (1, vr G o)] []
  have h_o := OrN_b ho
  refine fr_rng (fun hR => ?_)
  have hs : 0 ≤ x o 1 ∧ x o 1 ≤ (on : Int) := by have q := hR o 1; rw [OrN_f1 ho] at q; exact q
  refine fr_iconst h dX1_tally_0 ?_
  refine fr_istore_n (L' := [(0, vr G 98), (1, vr G o), (2, vi 0)]) h rfl dX1_tally_1 (by decide) [1, 2, 0] rfl ?_
  have HL1 : ∀ (n1 : Nat) (l2_1 : Int) (x_1 : Mm), fm_r l2_1 → 0 ≤ l2_1 → l2_1 ≤ 5 → TZn (x_1) l2_1 0 → (∀ a : Int, (a < 102 ∨ 106 < a) → x_1 a = x a) → (5 - l2_1) < n1 → FW YC G C 4 x_1 2 [(0, vr G 98), (1, vr G o), (2, vi l2_1)] [] := by
    intro n1
    induction n1 with
    | zero =>
      intro l2_1 x_1 g1_0 g1_1 g1_2 g1_3 g1_4 g1_5
      exfalso; omega
    | succ n1 ih1 =>
      intro l2_1 x_1 g1_0 g1_1 g1_2 g1_3 g1_4 g1_5
      refine fr_iload_n h rfl 2 rfl dX1_tally_2 ?_
      refine fr_iconst h dX1_tally_3 ?_
      refine fr_icmp_ge (tgt := 41) h dX1_tally_4 (by decide) (by omega) (by omega) (fun c2 => ?_) (fun c2 => ?_)
      ·
        skip
        refine fr_iconst h dX1_tally_41 ?_
        refine fr_istore_n (L' := [(0, vr G 98), (1, vr G o), (2, vi 0)]) h rfl dX1_tally_42 (by decide) [1, 2, 0] rfl ?_
        refine fr_iconst h dX1_tally_43 ?_
        refine fr_istore_n (L' := [(0, vr G 98), (1, vr G o), (2, vi 0), (3, vi 1)]) h rfl dX1_tally_44 (by decide) [1, 2, 3, 0] rfl ?_
        refine fr_iload_n h rfl 3 rfl dX1_tally_45 ?_
        refine fr_aload_n h rfl 1 rfl dX1_tally_46 ?_
        refine fr_cvI h kX6 (Or_at (OrN_is ho)) wX6_size lX1_50 (c_X6_size x_1 o on ho) rfl (by decide) (by decide) rfl (Nat.le_of_ble_eq_true rfl) dX1_tally_47 (fun z4 x3 w5 p6 => ?_)
        obtain ⟨p7, p8, p9, p10, y11⟩ := p6
        rw [y11]
        clear y11
        have r12 := (congrFun (g1_4 o (by omega)) 1)
        skip
        refine fr_icmp_gt (tgt := 93) h dX1_tally_50 (by decide) (by omega) (by omega) (fun c13 => ?_) (fun c13 => ?_)
        ·
          refine fr_gst2 h dX1_tally_93 (fun t14 s15 => ?_)
          refine fr_iconst h dX1_tally_96 ?_
          refine fr_sld h s15 (by decide) (by omega) (by omega) dX1_tally_97 (fun z16 q17 => ?_)
          have w18 := zt_2_v (by omega) (by omega) q17
          refine fr_iconst h dX1_tally_98 ?_
          refine fr_isub h dX1_tally_99 ?_
          refine fr_istore_n (L' := [(0, vr G 98), (1, vr G o), (2, vi 0), (3, vi (z16 - 1))]) h rfl dX1_tally_100 (by decide) [1, 2, 3, 0] rfl ?_
          have HL19 : ∀ (n19 : Nat) (l3_19 : Int) (x_19 : Mm), fm_r l3_19 → (-1) ≤ l3_19 → l3_19 ≤ 29 → TB1 x_19 → (∀ a : Int, (a < 102 ∨ 106 < a) → x_19 a = x_1 a) → (l3_19 + 1) < n19 → FW YC G C 4 x_19 101 [(0, vr G 98), (1, vr G o), (2, vi 0), (3, vi l3_19)] [] := by
            intro n19
            induction n19 with
            | zero =>
              intro l3_19 x_19 g19_0 g19_1 g19_2 g19_3 g19_4 g19_5
              exfalso; omega
            | succ n19 ih19 =>
              intro l3_19 x_19 g19_0 g19_1 g19_2 g19_3 g19_4 g19_5
              refine fr_iload_n h rfl 3 rfl dX1_tally_101 ?_
              refine fr_if_lt (tgt := 132) h dX1_tally_102 (by decide) (by omega) (fun c20 => ?_) (fun c20 => ?_)
              ·
                refine fr_iload_n h rfl 2 rfl dX1_tally_132 ?_
                exact fr_iret h hq (by omega) ⟨(by omega), g19_3, (fun a k0 => ((g19_4 a (by omega)).trans (g1_4 a (by omega))))⟩ dX1_tally_133
              ·
                refine fr_aload_n h rfl 0 rfl dX1_tally_105 ?_
                refine fr_getc (z := 101) (iz := 2) h kX1 fX1_20 at_98 rfl rfl rf_98_2 (by omega) dX1_tally_106 ?_
                refine fr_iconst h dX1_tally_109 ?_
                refine fr_aaldc8 h ar_101 (by omega) (by omega) (rx_101 (by omega) (by omega)) (by omega) dX1_tally_110 (fun q21 w22 => ?_)
                have i23 : isTy q21 := by rw [w22]; exact Ty_ix101 (by omega) (by omega)
                have h_q21 := Ty_b i23
                refine fr_iload_n h rfl 3 rfl dX1_tally_111 ?_
                refine fr_dup2_11 h rfl rfl dX1_tally_112 ?_
                have t1 := g19_3.1 q21 l3_19 (by omega) (by omega) (by omega) (by omega)
                have t2 : 1 ≤ l3_19 → x_19 q21 l3_19 = 0 := fun k => by rw [show q21 = 102 by omega]; exact g19_3.2 l3_19 k (by omega)
                refine fr_iald h (Ty_a i23) (by omega) (by omega) (Ty_r i23 l3_19) dX1_tally_113 (fun z24 w25 w26 q27 => ?_)
                refine fr_aload_n h rfl 0 rfl dX1_tally_114 ?_
                refine fr_getc (z := 101) (iz := 2) h kX1 fX1_20 at_98 rfl rfl rf_98_2 (by omega) dX1_tally_115 ?_
                refine fr_iconst h dX1_tally_118 ?_
                refine fr_aaldc8 h ar_101 (by omega) (by omega) (rx_101 (by omega) (by omega)) (by omega) dX1_tally_119 (fun q28 w29 => ?_)
                have i30 : isTy q28 := by rw [w29]; exact Ty_ix101 (by omega) (by omega)
                have h_q28 := Ty_b i30
                refine fr_iload_n h rfl 3 rfl dX1_tally_120 ?_
                refine fr_iconst h dX1_tally_121 ?_
                refine fr_iadd h dX1_tally_122 ?_
                have t3 : x_19 q28 (l3_19 + 1) = 0 := by rw [show q28 = 102 by omega]; exact g19_3.2 (l3_19 + 1) (by omega) (by omega)
                refine fr_iald h (Ty_a i30) (by omega) (by omega) (Ty_r i30 (l3_19 + 1)) dX1_tally_123 (fun z31 w32 w33 q34 => ?_)
                refine fr_iadd h dX1_tally_124 ?_
                refine fr_normi (fun z35 w36 q37 => ?_)
                have w38 : fm_r ((z24 + z31)) → z35 = (z24 + z31) := fun q => (iI_inj q w36 q37).symm
                refine fr_iast h (Ty_a i23) (by omega) (by omega) (Ty_r i23 l3_19) (by omega) (by omega) dX1_tally_125 ?_
                refine fr_mem (fun x39 m40 => ?_)
                refine fr_iinc (j := 3) (L' := [(0, vr G 98), (1, vr G o), (2, vi 0), (3, vi (l3_19 + (-1)))]) h dX1_tally_126 rfl (by decide) [1, 2, 3, 0] rfl ?_
                refine fr_goto (tgt := 101) h dX1_tally_129 (by decide) ?_
                exact ih19 (l3_19 + (-1)) x39 (by omega) (by omega) (by omega) (TB1_s g19_3 (by omega) (fun q8 q9 => by omega) (fm_rd_s m40) (fun j hj => fm_rd_i (b := j) m40 hj) (fun r j hr => fm_rd_k (a := r) (b := j) m40 (fun q9 => hr q9))) (fun a k0 => ((fm_up_row m40 (by omega)).trans (g19_4 a (by omega)))) (by omega)
          exact HL19 (((z16 - 1) + 1) + 1 : Int).toNat (z16 - 1) x_1 (by omega) (by omega) (by omega) (TB1_z g1_3 (by omega)) (fun a _ => rfl) (by omega)
        ·
          refine fr_aload_n h rfl 0 rfl dX1_tally_53 ?_
          refine fr_aload_n h rfl 1 rfl dX1_tally_54 ?_
          refine fr_iload_n h rfl 3 rfl dX1_tally_55 ?_
          have r41 := (congrFun (g1_4 (o + 1) (by omega)) 0)
          refine fr_cvI h kX6 (Or_at (OrN_is ho)) wX6_costAt lX1_55 (f_X6_costAt x_1 o on ho 1 (by omega) (by omega) (by omega)) rfl (by decide) (by decide) rfl (Nat.le_of_ble_eq_true rfl) dX1_tally_56 (fun z43 x42 w44 p45 => ?_)
          obtain ⟨p46, y47⟩ := p45
          rw [y47]
          clear y47
          refine fr_aload_n h rfl 1 rfl dX1_tally_59 ?_
          refine fr_iload_n h rfl 3 rfl dX1_tally_60 ?_
          refine fr_cvL h kX6 (Or_at (OrN_is ho)) wX6_codeAt lX1_59 (f_X6_codeAt x_1 o on ho 1 (by omega) (by omega) (by omega)) rfl (by decide) (by decide) rfl (Nat.le_of_ble_eq_true rfl) dX1_tally_61 (fun z49 x48 w50 p51 => ?_)
          obtain ⟨p52, y53⟩ := p51
          rw [y53]
          clear y53
          have r54 := (congrFun (g1_4 98 (by omega)) 3)
          refine fr_cvI h kX1 at_98 wX1_allow lX1_63 (f_X1_allow x_1 z43 z49 (by omega) (by omega) (by omega)) rfl (by decide) (by decide) rfl (Nat.le_of_ble_eq_true rfl) dX1_tally_64 (fun z56 x55 w57 p58 => ?_)
          obtain ⟨p59, y60⟩ := p58
          rw [y60]
          clear y60
          refine fr_if_eq (tgt := 87) h dX1_tally_67 (by decide) (by omega) (fun c61 => ?_) (fun c61 => ?_)
          ·
            exfalso; omega
          ·
            refine fr_aload_n h rfl 0 rfl dX1_tally_70 ?_
            refine fr_aload_n h rfl 1 rfl dX1_tally_71 ?_
            refine fr_iload_n h rfl 3 rfl dX1_tally_72 ?_
            refine fr_cvI h kX6 (Or_at (OrN_is ho)) wX6_costAt lX1_55 (f_X6_costAt x_1 o on ho 1 (by omega) (by omega) (by omega)) rfl (by decide) (by decide) rfl (Nat.le_of_ble_eq_true rfl) dX1_tally_73 (fun z63 x62 w64 p65 => ?_)
            obtain ⟨p66, y67⟩ := p65
            rw [y67]
            clear y67
            refine fr_aload_n h rfl 1 rfl dX1_tally_76 ?_
            refine fr_iload_n h rfl 3 rfl dX1_tally_77 ?_
            refine fr_cvL h kX6 (Or_at (OrN_is ho)) wX6_codeAt lX1_59 (f_X6_codeAt x_1 o on ho 1 (by omega) (by omega) (by omega)) rfl (by decide) (by decide) rfl (Nat.le_of_ble_eq_true rfl) dX1_tally_78 (fun z69 x68 w70 p71 => ?_)
            obtain ⟨p72, y73⟩ := p71
            rw [y73]
            clear y73
            have r74 := (congrFun (g1_4 5 (by omega)) 0)
            refine fr_cvV h kX1 at_98 wX1_tallyOne lX1_67 (f_X1_tallyOne x_1 z63 z69 (by omega) (by omega) (by have q9 := g1_3; rw [show (5 : Int) = l2_1 by omega]; exact q9) (by omega) (by omega)) rfl (by decide) (by decide) rfl (Nat.le_of_ble_eq_true rfl) dX1_tally_81 (fun x75 p78 => ?_)
            obtain ⟨p79, f80⟩ := p78
            refine fr_iinc (j := 2) (L' := [(0, vr G 98), (1, vr G o), (2, vi (0 + 1)), (3, vi 1)]) h dX1_tally_84 rfl (by decide) [1, 2, 0, 3] rfl ?_
            refine fr_iinc (j := 3) (L' := [(0, vr G 98), (1, vr G o), (2, vi (0 + 1)), (3, vi (1 + 1))]) h dX1_tally_87 rfl (by decide) [1, 2, 3, 0] rfl ?_
            refine fr_goto (tgt := 45) h dX1_tally_90 (by decide) ?_
            refine fr_iload_n h rfl 3 rfl dX1_tally_45 ?_
            refine fr_aload_n h rfl 1 rfl dX1_tally_46 ?_
            refine fr_cvI h kX6 (Or_at (OrN_is ho)) wX6_size lX1_50 (c_X6_size x75 o on ho) rfl (by decide) (by decide) rfl (Nat.le_of_ble_eq_true rfl) dX1_tally_47 (fun z82 x81 w83 p84 => ?_)
            obtain ⟨p85, p86, p87, p88, y89⟩ := p84
            rw [y89]
            clear y89
            have r90 := (congrFun (f80 o (by omega)) 1)
            have r91 := r90.trans (congrFun (g1_4 o (by omega)) 1)
            skip
            refine fr_icmp_gt (tgt := 93) h dX1_tally_50 (by decide) (by omega) (by omega) (fun c92 => ?_) (fun c92 => ?_)
            ·
              refine fr_gst2 h dX1_tally_93 (fun t93 s94 => ?_)
              refine fr_iconst h dX1_tally_96 ?_
              refine fr_sld h s94 (by decide) (by omega) (by omega) dX1_tally_97 (fun z95 q96 => ?_)
              have w97 := zt_2_v (by omega) (by omega) q96
              refine fr_iconst h dX1_tally_98 ?_
              refine fr_isub h dX1_tally_99 ?_
              refine fr_istore_n (L' := [(0, vr G 98), (1, vr G o), (2, vi (0 + 1)), (3, vi (z95 - 1))]) h rfl dX1_tally_100 (by decide) [1, 2, 3, 0] rfl ?_
              have HL98 : ∀ (n98 : Nat) (l3_98 : Int) (x_98 : Mm), fm_r l3_98 → (-1) ≤ l3_98 → l3_98 ≤ 29 → TB1 x_98 → (∀ a : Int, (a < 102 ∨ 106 < a) → x_98 a = x75 a) → (l3_98 + 1) < n98 → FW YC G C 4 x_98 101 [(0, vr G 98), (1, vr G o), (2, vi (0 + 1)), (3, vi l3_98)] [] := by
                intro n98
                induction n98 with
                | zero =>
                  intro l3_98 x_98 g98_0 g98_1 g98_2 g98_3 g98_4 g98_5
                  exfalso; omega
                | succ n98 ih98 =>
                  intro l3_98 x_98 g98_0 g98_1 g98_2 g98_3 g98_4 g98_5
                  refine fr_iload_n h rfl 3 rfl dX1_tally_101 ?_
                  refine fr_if_lt (tgt := 132) h dX1_tally_102 (by decide) (by omega) (fun c99 => ?_) (fun c99 => ?_)
                  ·
                    refine fr_iload_n h rfl 2 rfl dX1_tally_132 ?_
                    exact fr_iret h hq (by omega) ⟨(by omega), g98_3, (fun a k0 => ((g98_4 a (by omega)).trans ((f80 a (by omega)).trans (g1_4 a (by omega)))))⟩ dX1_tally_133
                  ·
                    refine fr_aload_n h rfl 0 rfl dX1_tally_105 ?_
                    refine fr_getc (z := 101) (iz := 2) h kX1 fX1_20 at_98 rfl rfl rf_98_2 (by omega) dX1_tally_106 ?_
                    refine fr_iconst h dX1_tally_109 ?_
                    refine fr_aaldc8 h ar_101 (by omega) (by omega) (rx_101 (by omega) (by omega)) (by omega) dX1_tally_110 (fun q100 w101 => ?_)
                    have i102 : isTy q100 := by rw [w101]; exact Ty_ix101 (by omega) (by omega)
                    have h_q100 := Ty_b i102
                    refine fr_iload_n h rfl 3 rfl dX1_tally_111 ?_
                    refine fr_dup2_11 h rfl rfl dX1_tally_112 ?_
                    have t1 := g98_3.1 q100 l3_98 (by omega) (by omega) (by omega) (by omega)
                    have t2 : 1 ≤ l3_98 → x_98 q100 l3_98 = 0 := fun k => by rw [show q100 = 102 by omega]; exact g98_3.2 l3_98 k (by omega)
                    refine fr_iald h (Ty_a i102) (by omega) (by omega) (Ty_r i102 l3_98) dX1_tally_113 (fun z103 w104 w105 q106 => ?_)
                    refine fr_aload_n h rfl 0 rfl dX1_tally_114 ?_
                    refine fr_getc (z := 101) (iz := 2) h kX1 fX1_20 at_98 rfl rfl rf_98_2 (by omega) dX1_tally_115 ?_
                    refine fr_iconst h dX1_tally_118 ?_
                    refine fr_aaldc8 h ar_101 (by omega) (by omega) (rx_101 (by omega) (by omega)) (by omega) dX1_tally_119 (fun q107 w108 => ?_)
                    have i109 : isTy q107 := by rw [w108]; exact Ty_ix101 (by omega) (by omega)
                    have h_q107 := Ty_b i109
                    refine fr_iload_n h rfl 3 rfl dX1_tally_120 ?_
                    refine fr_iconst h dX1_tally_121 ?_
                    refine fr_iadd h dX1_tally_122 ?_
                    have t3 : x_98 q107 (l3_98 + 1) = 0 := by rw [show q107 = 102 by omega]; exact g98_3.2 (l3_98 + 1) (by omega) (by omega)
                    refine fr_iald h (Ty_a i109) (by omega) (by omega) (Ty_r i109 (l3_98 + 1)) dX1_tally_123 (fun z110 w111 w112 q113 => ?_)
                    refine fr_iadd h dX1_tally_124 ?_
                    refine fr_normi (fun z114 w115 q116 => ?_)
                    have w117 : fm_r ((z103 + z110)) → z114 = (z103 + z110) := fun q => (iI_inj q w115 q116).symm
                    refine fr_iast h (Ty_a i102) (by omega) (by omega) (Ty_r i102 l3_98) (by omega) (by omega) dX1_tally_125 ?_
                    refine fr_mem (fun x118 m119 => ?_)
                    refine fr_iinc (j := 3) (L' := [(0, vr G 98), (1, vr G o), (2, vi (0 + 1)), (3, vi (l3_98 + (-1)))]) h dX1_tally_126 rfl (by decide) [1, 2, 3, 0] rfl ?_
                    refine fr_goto (tgt := 101) h dX1_tally_129 (by decide) ?_
                    exact ih98 (l3_98 + (-1)) x118 (by omega) (by omega) (by omega) (TB1_s g98_3 (by omega) (fun q8 q9 => by omega) (fm_rd_s m119) (fun j hj => fm_rd_i (b := j) m119 hj) (fun r j hr => fm_rd_k (a := r) (b := j) m119 (fun q9 => hr q9))) (fun a k0 => ((fm_up_row m119 (by omega)).trans (g98_4 a (by omega)))) (by omega)
              exact HL98 (((z95 - 1) + 1) + 1 : Int).toNat (z95 - 1) x75 (by omega) (by omega) (by omega) p79 (fun a _ => rfl) (by omega)
            ·
              exfalso; omega
      ·
        refine fr_iconst h dX1_tally_7 ?_
        refine fr_istore_n (L' := [(0, vr G 98), (1, vr G o), (2, vi l2_1), (3, vi 0)]) h rfl dX1_tally_8 (by decide) [1, 2, 3, 0] rfl ?_
        have HL120 : ∀ (n120 : Nat) (l3_120 : Int) (x_120 : Mm), fm_r l3_120 → 0 ≤ l3_120 → l3_120 ≤ 31 → TZn (x_120) l2_1 l3_120 → (∀ a : Int, (a < 102 ∨ 106 < a) → x_120 a = x_1 a) → (31 - l3_120) < n120 → FW YC G C 4 x_120 9 [(0, vr G 98), (1, vr G o), (2, vi l2_1), (3, vi l3_120)] [] := by
          intro n120
          induction n120 with
          | zero =>
            intro l3_120 x_120 g120_0 g120_1 g120_2 g120_3 g120_4 g120_5
            exfalso; omega
          | succ n120 ih120 =>
            intro l3_120 x_120 g120_0 g120_1 g120_2 g120_3 g120_4 g120_5
            refine fr_iload_n h rfl 3 rfl dX1_tally_9 ?_
            refine fr_aload_n h rfl 0 rfl dX1_tally_10 ?_
            refine fr_getc (z := 101) (iz := 2) h kX1 fX1_20 at_98 rfl rfl rf_98_2 (by omega) dX1_tally_11 ?_
            refine fr_iload_n h rfl 2 rfl dX1_tally_14 ?_
            refine fr_aaldc8 h ar_101 (by omega) (by omega) (rx_101 (by omega) (by omega)) (by omega) dX1_tally_15 (fun q121 w122 => ?_)
            have i123 : isTy q121 := by rw [w122]; exact Ty_ix101 (by omega) (by omega)
            have h_q121 := Ty_b i123
            refine fr_aleni h (Ty_a i123) (by decide) dX1_tally_16 ?_
            show FW YC G C 4 x_120 17 [(0, vr G 98), (1, vr G o), (2, vi l2_1), (3, vi l3_120)] [vi 31, vi l3_120]
            refine fr_icmp_ge (tgt := 35) h dX1_tally_17 (by decide) (by omega) (by omega) (fun c124 => ?_) (fun c124 => ?_)
            ·
              refine fr_iinc (j := 2) (L' := [(0, vr G 98), (1, vr G o), (2, vi (l2_1 + 1)), (3, vi l3_120)]) h dX1_tally_35 rfl (by decide) [1, 2, 0, 3] rfl ?_
              refine fr_goto (tgt := 2) h dX1_tally_38 (by decide) ?_
              refine fr_sub (L' := [(0, vr G 98), (1, vr G o), (2, vi (l2_1 + 1))]) [0, 1, 2] rfl ?_
              exact ih1 (l2_1 + 1) x_120 (by omega) (by omega) (by omega) (TZn_n g120_3 (by omega) rfl) (fun a k0 => ((g120_4 a (by omega)).trans (g1_4 a (by omega)))) (by omega)
            ·
              refine fr_aload_n h rfl 0 rfl dX1_tally_20 ?_
              refine fr_getc (z := 101) (iz := 2) h kX1 fX1_20 at_98 rfl rfl rf_98_2 (by omega) dX1_tally_21 ?_
              refine fr_iload_n h rfl 2 rfl dX1_tally_24 ?_
              refine fr_aaldc8 h ar_101 (by omega) (by omega) (rx_101 (by omega) (by omega)) (by omega) dX1_tally_25 (fun q125 w126 => ?_)
              have i127 : isTy q125 := by rw [w126]; exact Ty_ix101 (by omega) (by omega)
              have h_q125 := Ty_b i127
              refine fr_iload_n h rfl 3 rfl dX1_tally_26 ?_
              refine fr_iconst h dX1_tally_27 ?_
              refine fr_iast h (Ty_a i127) (by omega) (by omega) (Ty_r i127 l3_120) (by omega) (by omega) dX1_tally_28 ?_
              refine fr_mem (fun x128 m129 => ?_)
              refine fr_iinc (j := 3) (L' := [(0, vr G 98), (1, vr G o), (2, vi l2_1), (3, vi (l3_120 + 1))]) h dX1_tally_29 rfl (by decide) [1, 2, 3, 0] rfl ?_
              refine fr_goto (tgt := 9) h dX1_tally_32 (by decide) ?_
              exact ih120 (l3_120 + 1) x128 (by omega) (by omega) (by omega) (TZn_s g120_3 (by omega) rfl (fm_rd_s m129) (fun j hj => fm_rd_i (b := j) m129 hj) (fun r j hr => fm_rd_k (a := r) (b := j) m129 (fun q9 => hr q9))) (fun a k0 => ((fm_up_row m129 (by omega)).trans (g120_4 a (by omega)))) (by omega)
        exact HL120 ((31 - 0) + 1 : Int).toNat 0 x_1 (by omega) (by omega) (by omega) g1_3 (fun a _ => rfl) (by omega)
  exact HL1 ((5 - 0) + 1 : Int).toNat 0 x (by omega) (by omega) (by omega) TZn_0 (fun a _ => rfl) (by omega)
set_option maxHeartbeats 200000 in
theorem f_X1_mostLeft (x : Mm) (p : Int) (w : Int) (v : Int) (h_p : fm_r p) (h_w : fm_r w) (h_v : fm_r v) (e0 : TB1 x) (e1 : v = 1) (e2 : 0 ≤ p) (e3 : p < 5) (e4 : 0 ≤ w) (e5 : w ≤ 30) : CnI YC yX1_mostLeft cX1_mostLeft 4 .int 1 21 (fun G => [vr G 98, vi p, vi w, vi v]) x (fun z y' => (z = 1) ∧ (y' = x)) := by
  refine cn_I (by decide) (fun _ => Nat.le_of_ble_eq_true rfl) (fun G C h hq => ?_)
  have h : OK YC G C cX1_mostLeft RX1 4 (some .int) 1 21 := h
  show FW YC G C 4 x 0 [(0, vr G 98), (1, vi p), (2, vi w), (3, vi v)] []
  refine fr_iload_n h rfl 1 rfl dX1_mostLeft_0 ?_
  refine fr_if_lt (tgt := 24) h dX1_mostLeft_1 (by decide) (by omega) (fun c1 => by exfalso; omega) (fun c1 => ?_)
  refine fr_iload_n h rfl 1 rfl dX1_mostLeft_4 ?_
  refine fr_iconst h dX1_mostLeft_5 ?_
  refine fr_icmp_ge (tgt := 24) h dX1_mostLeft_6 (by decide) (by omega) (by omega) (fun c2 => by exfalso; omega) (fun c2 => ?_)
  refine fr_iload_n h rfl 2 rfl dX1_mostLeft_9 ?_
  refine fr_if_lt (tgt := 24) h dX1_mostLeft_10 (by decide) (by omega) (fun c3 => by exfalso; omega) (fun c3 => ?_)
  refine fr_iload_n h rfl 2 rfl dX1_mostLeft_13 ?_
  refine fr_aload_n h rfl 0 rfl dX1_mostLeft_14 ?_
  refine fr_getc (z := 101) (iz := 2) h kX1 fX1_20 at_98 rfl rfl rf_98_2 (by omega) dX1_mostLeft_15 ?_
  refine fr_iload_n h rfl 1 rfl dX1_mostLeft_18 ?_
  refine fr_aaldc8 h ar_101 (by omega) (by omega) (rx_101 (by omega) (by omega)) (by omega) dX1_mostLeft_19 (fun q4 w5 => ?_)
  have i6 : isTy q4 := by rw [w5]; exact Ty_ix101 (by omega) (by omega)
  have h_q4 := Ty_b i6
  refine fr_aleni h (Ty_a i6) (by decide) dX1_mostLeft_20 ?_
  show FW YC G C 4 x 21 [(0, vr G 98), (1, vi p), (2, vi w), (3, vi v)] [vi 31, vi w]
  refine fr_icmp_lt (tgt := 26) h dX1_mostLeft_21 (by decide) (by omega) (by omega) (fun c7 => ?_) (fun c7 => by exfalso; omega)
  refine fr_aload_n h rfl 0 rfl dX1_mostLeft_26 ?_
  refine fr_getc (z := 101) (iz := 2) h kX1 fX1_20 at_98 rfl rfl rf_98_2 (by omega) dX1_mostLeft_27 ?_
  refine fr_iload_n h rfl 1 rfl dX1_mostLeft_30 ?_
  refine fr_aaldc8 h ar_101 (by omega) (by omega) (rx_101 (by omega) (by omega)) (by omega) dX1_mostLeft_31 (fun q8 w9 => ?_)
  have i10 : isTy q8 := by rw [w9]; exact Ty_ix101 (by omega) (by omega)
  have h_q8 := Ty_b i10
  refine fr_iload_n h rfl 2 rfl dX1_mostLeft_32 ?_
  have t1 := e0.1 q8 w (by omega) (by omega) (by omega) (by omega)
  refine fr_iald h (Ty_a i10) (by omega) (by omega) (Ty_r i10 w) dX1_mostLeft_33 (fun z11 w12 w13 q14 => ?_)
  refine fr_iload_n h rfl 3 rfl dX1_mostLeft_34 ?_
  refine fr_aload_n h rfl 0 rfl dX1_mostLeft_35 ?_
  refine fr_getc (z := 101) (iz := 2) h kX1 fX1_20 at_98 rfl rfl rf_98_2 (by omega) dX1_mostLeft_36 ?_
  refine fr_iload_n h rfl 1 rfl dX1_mostLeft_39 ?_
  refine fr_aaldc8 h ar_101 (by omega) (by omega) (rx_101 (by omega) (by omega)) (by omega) dX1_mostLeft_40 (fun q15 w16 => ?_)
  have i17 : isTy q15 := by rw [w16]; exact Ty_ix101 (by omega) (by omega)
  have h_q15 := Ty_b i17
  refine fr_iload_n h rfl 2 rfl dX1_mostLeft_41 ?_
  have tq : x q15 w = x q8 w := by rw [show q15 = q8 by omega]
  have t2 := e0.1 q15 w (by omega) (by omega) (by omega) (by omega)
  refine fr_iald h (Ty_a i17) (by omega) (by omega) (Ty_r i17 w) dX1_mostLeft_42 (fun z18 w19 w20 q21 => ?_)
  refine fr_isub h dX1_mostLeft_43 ?_
  refine fr_normi (fun z22 w23 q24 => ?_)
  have w25 : fm_r ((v - z18)) → z22 = (v - z18) := fun q => (iI_inj q w23 q24).symm
  refine fr_mmax h (by omega) (by omega) (tb_5 (i := 26) (by decide +kernel) (by decide +kernel)) w_mmax (by decide) (by decide) (Nat.le_of_ble_eq_true rfl) dX1_mostLeft_44 (fun z26 w27 w28 w29 => ?_)
  exact fr_iret h hq (by omega) ⟨(by omega), rfl⟩ dX1_mostLeft_47
set_option maxHeartbeats 200000 in
theorem f_X1_bestQuestion (x : Mm) (p : Int) (h_p : fm_r p) (e0 : TB1 x) (e1 : p = 1) : CnI YC yX1_bestQuestion cX1_bestQuestion 7 .int 2 44 (fun G => [vr G 98, vi p]) x (fun z y' => (z = 0) ∧ (y' = x)) := by
  refine cn_I (by decide) (fun _ => Nat.le_of_ble_eq_true rfl) (fun G C h hq => ?_)
  have h : OK YC G C cX1_bestQuestion RX1 7 (some .int) 2 44 := h
  show FW YC G C 7 x 0 [(0, vr G 98), (1, vi p)] []
  refine fr_iconst h dX1_bestQuestion_0 ?_
  refine fr_istore_n (L' := [(0, vr G 98), (1, vi p), (2, vi 0)]) h rfl dX1_bestQuestion_1 (by decide) [1, 2, 0] rfl ?_
  refine fr_iload_n h rfl 1 rfl dX1_bestQuestion_2 ?_
  refine fr_iconst h dX1_bestQuestion_3 ?_
  refine fr_iadd h dX1_bestQuestion_4 ?_
  refine fr_normi (fun z1 w2 q3 => ?_)
  have w4 : fm_r ((p + 1)) → z1 = (p + 1) := fun q => (iI_inj q w2 q3).symm
  refine fr_istore_n (L' := [(0, vr G 98), (1, vi p), (2, vi 0), (3, vi z1)]) h rfl dX1_bestQuestion_5 (by decide) [1, 2, 3, 0] rfl ?_
  refine fr_iconst h dX1_bestQuestion_6 ?_
  refine fr_istore (L' := [(0, vr G 98), (1, vi p), (2, vi 0), (3, vi z1), (4, vi 0)]) h dX1_bestQuestion_7 (by decide) [1, 2, 3, 4, 0] rfl ?_
  have HL5 : ∀ (n5 : Nat) (l2_5 l3_5 l4_5 : Int), fm_r l2_5 → 0 ≤ l2_5 → l2_5 ≤ 0 → fm_r l3_5 → 1 ≤ l3_5 → l3_5 ≤ 2 → fm_r l4_5 → 0 ≤ l4_5 → l4_5 ≤ 5 → ((l4_5 = 0 ∧ l3_5 = 2 ∧ l2_5 = 0) ∨ (l3_5 = 1 ∧ l2_5 = 0)) → (5 - l4_5) < n5 → FW YC G C 7 x 9 [(0, vr G 98), (1, vi p), (2, vi l2_5), (3, vi l3_5), (4, vi l4_5)] [] := by
    intro n5
    induction n5 with
    | zero =>
      intro l2_5 l3_5 l4_5 g5_0 g5_1 g5_2 g5_3 g5_4 g5_5 g5_6 g5_7 g5_8 g5_9 g5_10
      exfalso; omega
    | succ n5 ih5 =>
      intro l2_5 l3_5 l4_5 g5_0 g5_1 g5_2 g5_3 g5_4 g5_5 g5_6 g5_7 g5_8 g5_9 g5_10
      refine fr_iload h 4 rfl dX1_bestQuestion_9 ?_
      refine fr_iconst h dX1_bestQuestion_11 ?_
      refine fr_icmp_ge (tgt := 70) h dX1_bestQuestion_12 (by decide) (by omega) (by omega) (fun c6 => ?_) (fun c6 => ?_)
      ·
        refine fr_iload_n h rfl 2 rfl dX1_bestQuestion_70 ?_
        exact fr_iret h hq (by omega) ⟨(by omega), rfl⟩ dX1_bestQuestion_71
      ·
        refine fr_iconst h dX1_bestQuestion_15 ?_
        refine fr_istore (L' := [(0, vr G 98), (1, vi p), (2, vi l2_5), (3, vi l3_5), (4, vi l4_5), (5, vi 0)]) h dX1_bestQuestion_16 (by decide) [1, 2, 3, 4, 5, 0] rfl ?_
        have HL7 : ∀ (n7 : Nat) (l2_7 l3_7 l5_7 : Int), fm_r l2_7 → 0 ≤ l2_7 → l2_7 ≤ 0 → fm_r l3_7 → 1 ≤ l3_7 → l3_7 ≤ 2 → fm_r l5_7 → 0 ≤ l5_7 → l5_7 ≤ 31 → ((l4_5 = 0 ∧ l5_7 = 0 ∧ l3_7 = 2 ∧ l2_7 = 0) ∨ (l3_7 = 1 ∧ l2_7 = 0)) → (31 - l5_7) < n7 → FW YC G C 7 x 18 [(0, vr G 98), (1, vi p), (2, vi l2_7), (3, vi l3_7), (4, vi l4_5), (5, vi l5_7)] [] := by
          intro n7
          induction n7 with
          | zero =>
            intro l2_7 l3_7 l5_7 g7_0 g7_1 g7_2 g7_3 g7_4 g7_5 g7_6 g7_7 g7_8 g7_9 g7_10
            exfalso; omega
          | succ n7 ih7 =>
            intro l2_7 l3_7 l5_7 g7_0 g7_1 g7_2 g7_3 g7_4 g7_5 g7_6 g7_7 g7_8 g7_9 g7_10
            refine fr_iload h 5 rfl dX1_bestQuestion_18 ?_
            refine fr_gst2 h dX1_bestQuestion_20 (fun t8 s9 => ?_)
            refine fr_iload h 4 rfl dX1_bestQuestion_23 ?_
            refine fr_sld h s9 (by decide) (by omega) (by omega) dX1_bestQuestion_25 (fun z10 q11 => ?_)
            have w12 := zt_2_v (by omega) (by omega) q11
            refine fr_icmp_gt (tgt := 64) h dX1_bestQuestion_26 (by decide) (by omega) (by omega) (fun c13 => ?_) (fun c13 => ?_)
            ·
              refine fr_iinc (j := 4) (L' := [(0, vr G 98), (1, vi p), (2, vi l2_7), (3, vi l3_7), (4, vi (l4_5 + 1)), (5, vi l5_7)]) h dX1_bestQuestion_64 rfl (by decide) [1, 2, 3, 4, 0, 5] rfl ?_
              refine fr_goto (tgt := 9) h dX1_bestQuestion_67 (by decide) ?_
              refine fr_sub (L' := [(0, vr G 98), (1, vi p), (2, vi l2_7), (3, vi l3_7), (4, vi (l4_5 + 1))]) [0, 1, 2, 3, 4] rfl ?_
              exact ih5 l2_7 l3_7 (l4_5 + 1) (by omega) (by omega) (by omega) (by omega) (by omega) (by omega) (by omega) (by omega) (by omega) (by omega) (by omega)
            ·
              refine fr_aload_n h rfl 0 rfl dX1_bestQuestion_29 ?_
              refine fr_iload h 4 rfl dX1_bestQuestion_30 ?_
              refine fr_iload h 5 rfl dX1_bestQuestion_32 ?_
              refine fr_iload_n h rfl 1 rfl dX1_bestQuestion_34 ?_
              refine fr_cvI h kX1 at_98 wX1_mostLeft lX1_81 (f_X1_mostLeft x l4_5 l5_7 p (by omega) (by omega) (by omega) e0 (by omega) (by omega) (by omega) (by omega) (by omega)) rfl (by decide) (by decide) rfl (Nat.le_of_ble_eq_true rfl) dX1_bestQuestion_35 (fun z15 x14 w16 p17 => ?_)
              obtain ⟨p18, y19⟩ := p17
              rw [y19]
              clear y19
              refine fr_istore (L' := [(0, vr G 98), (1, vi p), (2, vi l2_7), (3, vi l3_7), (4, vi l4_5), (5, vi l5_7), (6, vi z15)]) h dX1_bestQuestion_38 (by decide) [1, 2, 3, 4, 5, 6, 0] rfl ?_
              refine fr_iload h 6 rfl dX1_bestQuestion_40 ?_
              refine fr_iload_n h rfl 3 rfl dX1_bestQuestion_42 ?_
              refine fr_icmp_ge (tgt := 58) h dX1_bestQuestion_43 (by decide) (by omega) (by omega) (fun c20 => ?_) (fun c20 => ?_)
              ·
                refine fr_iinc (j := 5) (L' := [(0, vr G 98), (1, vi p), (2, vi l2_7), (3, vi l3_7), (4, vi l4_5), (5, vi (l5_7 + 1)), (6, vi z15)]) h dX1_bestQuestion_58 rfl (by decide) [1, 2, 3, 4, 5, 0, 6] rfl ?_
                refine fr_goto (tgt := 18) h dX1_bestQuestion_61 (by decide) ?_
                refine fr_sub (L' := [(0, vr G 98), (1, vi p), (2, vi l2_7), (3, vi l3_7), (4, vi l4_5), (5, vi (l5_7 + 1))]) [0, 1, 2, 3, 4, 5] rfl ?_
                exact ih7 l2_7 l3_7 (l5_7 + 1) (by omega) (by omega) (by omega) (by omega) (by omega) (by omega) (by omega) (by omega) (by omega) (by omega) (by omega)
              ·
                refine fr_iload h 6 rfl dX1_bestQuestion_46 ?_
                refine fr_istore_n (L' := [(0, vr G 98), (1, vi p), (2, vi l2_7), (3, vi z15), (4, vi l4_5), (5, vi l5_7), (6, vi z15)]) h rfl dX1_bestQuestion_48 (by decide) [1, 2, 3, 0, 4, 5, 6] rfl ?_
                refine fr_bipush h rfl dX1_bestQuestion_49 ?_
                refine fr_iload h 4 rfl dX1_bestQuestion_51 ?_
                refine fr_imul h dX1_bestQuestion_53 ?_
                refine fr_iload h 5 rfl dX1_bestQuestion_54 ?_
                refine fr_iadd h dX1_bestQuestion_56 ?_
                refine fr_istore_n (L' := [(0, vr G 98), (1, vi p), (2, vi ((100 * l4_5) + l5_7)), (3, vi z15), (4, vi l4_5), (5, vi l5_7), (6, vi z15)]) h rfl dX1_bestQuestion_57 (by decide) [1, 2, 0, 3, 4, 5, 6] rfl ?_
                refine fr_iinc (j := 5) (L' := [(0, vr G 98), (1, vi p), (2, vi ((100 * l4_5) + l5_7)), (3, vi z15), (4, vi l4_5), (5, vi (l5_7 + 1)), (6, vi z15)]) h dX1_bestQuestion_58 rfl (by decide) [1, 2, 3, 4, 5, 0, 6] rfl ?_
                refine fr_goto (tgt := 18) h dX1_bestQuestion_61 (by decide) ?_
                refine fr_sub (L' := [(0, vr G 98), (1, vi p), (2, vi ((100 * l4_5) + l5_7)), (3, vi z15), (4, vi l4_5), (5, vi (l5_7 + 1))]) [0, 1, 2, 3, 4, 5] rfl ?_
                exact ih7 ((100 * l4_5) + l5_7) z15 (l5_7 + 1) (by omega) (by omega) (by omega) (by omega) (by omega) (by omega) (by omega) (by omega) (by omega) (by omega) (by omega)
        exact HL7 ((31 - 0) + 1 : Int).toNat l2_5 l3_5 0 (by omega) (by omega) (by omega) (by omega) (by omega) (by omega) (by omega) (by omega) (by omega) (by omega) (by omega)
  exact HL5 ((5 - 0) + 1 : Int).toNat 0 z1 0 (by omega) (by omega) (by omega) (by omega) (by omega) (by omega) (by omega) (by omega) (by omega) (by omega) (by omega)
set_option maxHeartbeats 1000000 in
theorem f_X11_asks (x : Mm) (p : Int) (h_p : fm_r p) (e0 : FRC x) : CnI YC yX11_asks cX11_asks 4 .int 18 522 (fun G => [vr G 0, vi p]) x (fun z y' => (¬ (0 ≤ p ∧ p < 5) → z = (-1)) ∧ ((0 ≤ p ∧ p < 5) → p ≠ 4 → z = 0) ∧ ((0 ≤ p ∧ p < 5) → p = 4 → z = (-2)) ∧ (∀ a : Int, (a < 79 ∨ 93 < a) → (a < 98 ∨ 106 < a) → (a < 107 ∨ 108 < a) → (a < 110 ∨ 119 < a) → y' a = x a)) := by
  refine cn_I (by decide) (fun _ => Nat.le_of_ble_eq_true rfl) (fun G C h hq => ?_)
  have h : OK YC G C cX11_asks RX11 4 (some .int) 18 522 := h
  show FW YC G C 4 x 0 [(0, vr G 0), (1, vi p)] []
  obtain ⟨hSZ, hWZ, hTZ, hKN, hKE, h34, h35, h36, h37, h13, h14, h1104, h111, h11, h142, h983, h1071, hCU, hKP⟩ := e0
  have hru : isRu 110 := Or.inl rfl
  have h_110 := Ru_b hru
  have hru5 : isRu 115 := Or.inr rfl
  have h_115 := Ru_b hru5
  refine fr_iload_n h rfl 1 rfl dX11_asks_0 ?_
  refine fr_csI h wX11_isKind lX11_203 (c_X11_isKind x p (by omega)) rfl (by decide) (by decide) rfl (Nat.le_of_ble_eq_true rfl) dX11_asks_1 (fun z2 x1 w3 p4 => ?_)
  obtain ⟨p5, p6, y7⟩ := p4
  rw [y7]
  clear y7
  refine fr_if_ne (tgt := 9) h dX11_asks_4 (by decide) (by omega) (fun c8 => ?_) (fun c8 => ?_)
  ·
    refine fr_aload_n h rfl 0 rfl dX11_asks_9 ?_
    refine fr_getc (z := 98) (iz := 10) h kX11 fX11_70 at_0 rfl rfl rf_0_10 (by omega) dX11_asks_10 ?_
    refine fr_aload_n h rfl 0 rfl dX11_asks_13 ?_
    refine fr_iload_n h rfl 1 rfl dX11_asks_14 ?_
    refine fr_cvR h kX11 at_0 wX11_orderOf lX11_210 (f_X11_orderOf x p (by omega) (by omega) (by omega) hKN hKE (fun j a b => hSZ j a b) (fun j a b => hWZ j a b) (by omega) (by omega) (by omega) (by omega) (by omega) (by omega)) rfl (by decide) (by decide) rfl (Nat.le_of_ble_eq_true rfl) dX11_asks_15 (fun z10 x9 p12 => ?_)
    obtain ⟨p13, p14, p15, p16, p17, f18⟩ := p12
    obtain ⟨n19, i20⟩ := OrN_ex (show isOr z10 by unfold isOr; omega)
    have h_z10 := OrN_b i20
    have r21 := (congrFun (f18 98 (by omega) (by omega)) 3)
    refine fr_cvI h kX1 at_98 wX1_tally lX11_292 (f_X1_tally x9 z10 n19 i20 (by omega) (by omega) (by omega)) rfl (by decide) (by decide) rfl (Nat.le_of_ble_eq_true rfl) dX11_asks_18 (fun z23 x22 w24 p25 => ?_)
    obtain ⟨p26, p27, f28⟩ := p25
    refine fr_istore_n (L' := [(0, vr G 0), (1, vi p), (2, vi z23)]) h rfl dX11_asks_21 (by decide) [1, 2, 0] rfl ?_
    refine fr_iload_n h rfl 2 rfl dX11_asks_22 ?_
    refine fr_if_ne (tgt := 29) h dX11_asks_23 (by decide) (by omega) (fun c29 => ?_) (fun c29 => ?_)
    ·
      refine fr_aload_n h rfl 0 rfl dX11_asks_29 ?_
      refine fr_getc (z := 98) (iz := 10) h kX11 fX11_70 at_0 rfl rfl rf_0_10 (by omega) dX11_asks_30 ?_
      refine fr_iload_n h rfl 2 rfl dX11_asks_33 ?_
      refine fr_cvI h kX1 at_98 wX1_bestQuestion lX11_296 (f_X1_bestQuestion x22 z23 (by omega) p27 (by omega)) rfl (by decide) (by decide) rfl (Nat.le_of_ble_eq_true rfl) dX11_asks_34 (fun z31 x30 w32 p33 => ?_)
      obtain ⟨p34, y35⟩ := p33
      rw [y35]
      clear y35
      refine fr_istore_n (L' := [(0, vr G 0), (1, vi p), (2, vi z23), (3, vi z31)]) h rfl dX11_asks_37 (by decide) [1, 2, 3, 0] rfl ?_
      refine fr_aload_n h rfl 0 rfl dX11_asks_38 ?_
      refine fr_getc (z := 107) (iz := 11) h kX11 fX11_77 at_0 rfl rfl rf_0_11 (by omega) dX11_asks_39 ?_
      refine fr_aload_n h rfl 0 rfl dX11_asks_42 ?_
      refine fr_getc (z := 98) (iz := 10) h kX11 fX11_70 at_0 rfl rfl rf_0_10 (by omega) dX11_asks_43 ?_
      refine fr_iload_n h rfl 3 rfl dX11_asks_46 ?_
      refine fr_bipush h rfl dX11_asks_47 ?_
      refine fr_idiv h (by omega) (by omega) (by omega) dX11_asks_49 (fun z36 w37 q38 w39 => ?_)
      have w40 := w39
      refine fr_iload_n h rfl 3 rfl dX11_asks_50 ?_
      refine fr_bipush h rfl dX11_asks_51 ?_
      refine fr_irem h (by omega) (by omega) (by omega) dX11_asks_53 (fun z41 w42 q43 w44 => ?_)
      have w45 := w44
      refine fr_iload_n h rfl 2 rfl dX11_asks_54 ?_
      refine fr_cvI h kX1 at_98 wX1_mostLeft lX11_299 (f_X1_mostLeft x22 z36 z41 z23 (by omega) (by omega) (by omega) p27 (by omega) (by omega) (by omega) (by omega) (by omega)) rfl (by decide) (by decide) rfl (Nat.le_of_ble_eq_true rfl) dX11_asks_55 (fun z47 x46 w48 p49 => ?_)
      obtain ⟨p50, y51⟩ := p49
      rw [y51]
      clear y51
      refine fr_i2l h (by omega) dX11_asks_58 ?_
      refine fr_cvV h kX10 at_107 wX10_only lX11_192 (c_X10_only x22 z47 (by omega)) rfl (by decide) (by decide) rfl (Nat.le_of_ble_eq_true rfl) dX11_asks_59 (fun x52 p55 => ?_)
      have f56 := p55
      refine fr_iload_n h rfl 3 rfl dX11_asks_62 ?_
      exact fr_iret h hq (by omega) ⟨(by omega), (by omega), (by omega), (fun a k0 k1 k2 k3 => ((f56 a (by omega)).trans ((f28 a (by omega)).trans (f18 a (by omega) (by omega)))))⟩ dX11_asks_63
    ·
      refine fr_bipush h rfl dX11_asks_26 ?_
      exact fr_iret h hq (by omega) ⟨(by omega), (by omega), (by omega), (fun a k0 k1 k2 k3 => ((f28 a (by omega)).trans (f18 a (by omega) (by omega))))⟩ dX11_asks_28
  ·
    refine fr_iconst h dX11_asks_7 ?_
    exact fr_iret h hq (by omega) ⟨(by omega), (by omega), (by omega), (fun a _ _ _ _ => rfl)⟩ dX11_asks_8
