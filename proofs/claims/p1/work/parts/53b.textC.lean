set_option maxHeartbeats 400000 in
theorem d_X9_append (x : Mm) (v : Int) (h_v : fm_r v) : CnI YC yX9_append cX9_append 3 .boolean 0 0 (fun G => [vr G 1, vi v]) x (fun z y' => (z = 0 ∨ z = 1) ∧ (76 < x 1 1 → z = 0 ∧ y' 1 1 = x 1 1) ∧ (x 1 1 ≤ 76 → z = 1 ∧ y' 1 1 = x 1 1 + 4) ∧ (∀ j : Int, 0 ≤ j → j < x 1 1 → y' 2 j = x 2 j) ∧ (x 1 1 ≤ 76 → ∀ j : Int, 0 ≤ j → j < 4 → y' 2 (x 1 1 + j) = bch v (24 - 8 * j)) ∧ (∀ a : Int, (a < 1 ∨ 2 < a) → y' a = x a)) := by
  refine cn_I (by decide) (fun _ => Nat.le_of_ble_eq_true rfl) (fun G C h hq => ?_)
  have h : OK YC G C cX9_append RX9 3 (some .boolean) 0 0 := h
  show FW YC G C 3 x 0 [(0, vr G 1), (1, vi v)] []
  refine fr_aload_n h rfl 0 rfl dX9_append_0 ?_
  refine fr_geti (iz := 1) h kX9 fX9_15 at_1 rfl rfl (by decide) (by decide) rf_1_1 dX9_append_1 (fun z1 w2 w3 q4 => ?_)
  refine fr_iconst h dX9_append_4 ?_
  refine fr_iadd h dX9_append_5 ?_
  refine fr_bipush h rfl dX9_append_6 ?_
  refine fr_icmp_le (tgt := 13) h dX9_append_8 (by decide) (by omega) (by omega) (fun c5 => ?_) (fun c5 => ?_)
  ·
    refine fr_bipush h rfl dX9_append_13 ?_
    refine fr_istore_n (L' := [(0, vr G 1), (1, vi v), (2, vi 24)]) h rfl dX9_append_15 (by decide) [1, 2, 0] rfl ?_
    have HL6 : ∀ (n6 : Nat) (l2_6 : Int) (x_6 : Mm), fm_r l2_6 → (-8) ≤ l2_6 → l2_6 ≤ 24 → -8 ≤ l2_6 → l2_6 ≤ 24 → x 1 1 ≤ 76 → 8 * x_6 1 1 + l2_6 = 8 * x 1 1 + 24 → (∀ j : Int, 0 ≤ j → j < x 1 1 → x_6 2 j = x 2 j) → (∀ j : Int, 0 ≤ j → j < x_6 1 1 - x 1 1 → x_6 2 (x 1 1 + j) = bch v (24 - 8 * j)) → (∀ a : Int, (a < 1 ∨ 2 < a) → x_6 a = x a) → (l2_6 + 8) < n6 → FW YC G C 3 x_6 16 [(0, vr G 1), (1, vi v), (2, vi l2_6)] [] := by
      intro n6
      induction n6 with
      | zero =>
        intro l2_6 x_6 g6_0 g6_1 g6_2 g6_3 g6_4 g6_5 g6_6 g6_7 g6_8 g6_9 g6_10
        exfalso; omega
      | succ n6 ih6 =>
        intro l2_6 x_6 g6_0 g6_1 g6_2 g6_3 g6_4 g6_5 g6_6 g6_7 g6_8 g6_9 g6_10
        refine fr_iload_n h rfl 2 rfl dX9_append_16 ?_
        refine fr_if_lt (tgt := 53) h dX9_append_17 (by decide) (by omega) (fun c7 => ?_) (fun c7 => ?_)
        ·
          refine fr_iconst h dX9_append_53 ?_
          exact fr_zret h rfl hq (by omega) ⟨(by omega), (by omega), (by omega), (fun j a b => g6_7 j a b), (fun _ j a b => g6_8 j a (by omega)), (fun a k0 => (g6_9 a (by omega)))⟩ dX9_append_54
        ·
          refine fr_aload_n h rfl 0 rfl dX9_append_20 ?_
          refine fr_getc (z := 2) (iz := 0) h kX9 fX9_9 at_1 rfl rfl rf_1_0 (by omega) dX9_append_21 ?_
          refine fr_aload_n h rfl 0 rfl dX9_append_24 ?_
          refine fr_geti (iz := 1) h kX9 fX9_15 at_1 rfl rfl (by decide) (by decide) rf_1_1 dX9_append_25 (fun z8 w9 w10 q11 => ?_)
          refine fr_iload_n h rfl 1 rfl dX9_append_28 ?_
          refine fr_iload_n h rfl 2 rfl dX9_append_29 ?_
          refine fr_iushr h dX9_append_30 (fun z12 w13 q14 w15 => ?_)
          refine fr_sipush h rfl dX9_append_31 ?_
          refine fr_iand h dX9_append_34 (fun z16 w17 q18 w19 => ?_)
          have w20 := w19 (by omega) (by omega)
          refine fr_i2c h dX9_append_35 (fun z21 w22 q23 w24 => ?_)
          have kc := bch_c (v := v) (w := l2_6) (by omega) w13 q14
          have kd := and255 w17 q18
          refine fr_cast h ar_2 (by omega) (by omega) (rr_2 z8) (by omega) (by omega) (by omega) dX9_append_36 ?_
          refine fr_mem (fun x25 m26 => ?_)
          refine fr_aload_n h rfl 0 rfl dX9_append_37 ?_
          refine fr_dup h rfl dX9_append_38 ?_
          refine fr_geti (iz := 1) h kX9 fX9_15 at_1 rfl rfl (by decide) (by decide) rf_1_1 dX9_append_39 (fun z27 w28 w29 q30 => ?_)
          have r31 := q30.trans (fm_rd_k (a := 1) (b := 1) m26 (by omega))
          refine fr_iconst h dX9_append_42 ?_
          refine fr_iadd h dX9_append_43 ?_
          refine fr_puti (iz := 1) h kX9 fX9_15 at_1 rfl rfl (by decide) (by decide) rfl (by decide +kernel) rf_1_1 (by omega) (by omega) dX9_append_44 ?_
          refine fr_mem (fun x32 m33 => ?_)
          refine fr_iinc (j := 2) (L' := [(0, vr G 1), (1, vi v), (2, vi (l2_6 + (-8)))]) h dX9_append_47 rfl (by decide) [1, 2, 0] rfl ?_
          refine fr_goto (tgt := 16) h dX9_append_50 (by decide) ?_
          have r34 := (fm_rd_s m33)
          have r35 := (fm_rd_s m33)
          exact ih6 (l2_6 + (-8)) x32 (by omega) (by omega) (by omega) (by omega) (by omega) (by omega) (by omega) (fun j a b => ((fm_rd_k (a := 2) (b := j) m33 (by omega)).trans (fm_rd_i (a := 2) (b := j) m26 (by omega))).trans (g6_7 j a b)) (by intro j a b; by_cases hj : x 1 1 + j = z8; (rw [hj, fm_rd_k (a := 2) m33 (by omega), fm_rd_s m26, show 24 - 8 * j = l2_6 by omega]; omega); (exact ((fm_rd_k (a := 2) m33 (by omega)).trans (fm_rd_i (a := 2) m26 hj)).trans (g6_8 j a (by omega)))) (fun a k0 => ((fm_up_row m33 (by omega)).trans ((fm_up_row m26 (by omega)).trans (g6_9 a (by omega))))) (by omega)
    exact HL6 ((24 + 8) + 1 : Int).toNat 24 x (by omega) (by omega) (by omega) (by omega) (by omega) (by omega) (by omega) (fun j a b => rfl) (fun j a b => by exfalso; omega) (fun a _ => rfl) (by omega)
  ·
    refine fr_iconst h dX9_append_11 ?_
    exact fr_zret h rfl hq (by omega) ⟨(by omega), (by omega), (by omega), (fun j a b => rfl), (fun q => by exfalso; omega), (fun a _ => rfl)⟩ dX9_append_12
set_option maxHeartbeats 200000 in
theorem d_X9_cut (x : Mm) (n : Int) (h_n : fm_r n) : CnI YC yX9_cut cX9_cut 2 .boolean 0 0 (fun G => [vr G 1, vi n]) x (fun z y' => (z = 0 ∨ z = 1) ∧ ((z = 1 ↔ 0 ≤ n ∧ n ≤ x 1 1)) ∧ (z = 1 → y' 1 1 = n) ∧ (z = 0 → y' 1 1 = x 1 1) ∧ (∀ a : Int, (a < 1 ∨ 1 < a) → y' a = x a)) := by
  refine cn_I (by decide) (fun _ => Nat.le_of_ble_eq_true rfl) (fun G C h hq => ?_)
  have h : OK YC G C cX9_cut RX9 2 (some .boolean) 0 0 := h
  show FW YC G C 2 x 0 [(0, vr G 1), (1, vi n)] []
  refine fr_iload_n h rfl 1 rfl dX9_cut_0 ?_
  refine fr_if_lt (tgt := 12) h dX9_cut_1 (by decide) (by omega) (fun c1 => ?_) (fun c1 => ?_)
  ·
    refine fr_iconst h dX9_cut_12 ?_
    exact fr_zret h rfl hq (by omega) ⟨(by omega), (by omega), (by omega), (by omega), (fun a _ => rfl)⟩ dX9_cut_13
  ·
    refine fr_iload_n h rfl 1 rfl dX9_cut_4 ?_
    refine fr_aload_n h rfl 0 rfl dX9_cut_5 ?_
    refine fr_geti (iz := 1) h kX9 fX9_15 at_1 rfl rfl (by decide) (by decide) rf_1_1 dX9_cut_6 (fun z2 w3 w4 q5 => ?_)
    refine fr_icmp_le (tgt := 14) h dX9_cut_9 (by decide) (by omega) (by omega) (fun c6 => ?_) (fun c6 => ?_)
    ·
      refine fr_aload_n h rfl 0 rfl dX9_cut_14 ?_
      refine fr_iload_n h rfl 1 rfl dX9_cut_15 ?_
      refine fr_puti (iz := 1) h kX9 fX9_15 at_1 rfl rfl (by decide) (by decide) rfl (by decide +kernel) rf_1_1 (by omega) (by omega) dX9_cut_16 ?_
      refine fr_mem (fun x7 m8 => ?_)
      refine fr_iconst h dX9_cut_19 ?_
      have r9 := (fm_rd_s m8)
      have r10 := (fm_rd_s m8)
      exact fr_zret h rfl hq (by omega) ⟨(by omega), (by omega), (by omega), (by omega), (fun a k0 => (fm_up_row m8 (by omega)))⟩ dX9_cut_20
    ·
      refine fr_iconst h dX9_cut_12 ?_
      exact fr_zret h rfl hq (by omega) ⟨(by omega), (by omega), (by omega), (by omega), (fun a _ => rfl)⟩ dX9_cut_13
set_option maxHeartbeats 1000000 in
theorem d_X9_numbersInto (x : Mm) : CnI YC yX9_numbersInto cX9_numbersInto 4 .int 2 42 (fun G => [vr G 1, vr G 109]) x (fun z y' => ((-21) ≤ z) ∧ (z ≤ 6) ∧ (x 1 1 = 0 → z = 0) ∧ (0 < x 1 1 → z = LSi (x 2) (x 1 1) 0 0) ∧ (∀ a : Int, (a < 109 ∨ 109 < a) → y' a = x a)) := by
  refine cn_I (by decide) (fun _ => Nat.le_of_ble_eq_true rfl) (fun G C h hq => ?_)
  have h : OK YC G C cX9_numbersInto RX9 4 (some .int) 2 42 := h
  show FW YC G C 4 x 0 [(0, vr G 1), (1, vr G 109)] []
  refine fr_aload_n h rfl 0 rfl dX9_numbersInto_0 ?_
  refine fr_geti (iz := 1) h kX9 fX9_15 at_1 rfl rfl (by decide) (by decide) rf_1_1 dX9_numbersInto_1 (fun z1 w2 w3 q4 => ?_)
  refine fr_if_ne (tgt := 9) h dX9_numbersInto_4 (by decide) (by omega) (fun c5 => ?_) (fun c5 => ?_)
  ·
    refine fr_iconst h dX9_numbersInto_9 ?_
    refine fr_istore_n (L' := [(0, vr G 1), (1, vr G 109), (2, vi 0)]) h rfl dX9_numbersInto_10 (by decide) [1, 2, 0] rfl ?_
    refine fr_iconst h dX9_numbersInto_11 ?_
    refine fr_istore_n (L' := [(0, vr G 1), (1, vr G 109), (2, vi 0), (3, vi 0)]) h rfl dX9_numbersInto_12 (by decide) [1, 2, 3, 0] rfl ?_
    have HL6 : ∀ (n6 : Nat) (l2_6 l3_6 : Int) (x_6 : Mm), fm_r l2_6 → 0 ≤ l2_6 → l2_6 ≤ 18 → fm_r l3_6 → 0 ≤ l3_6 → l3_6 ≤ 6 → l2_6 ≤ 3 * l3_6 → LSi (x 2) (x 1 1) l3_6 l2_6 = LSi (x 2) (x 1 1) 0 0 → 0 < x 1 1 → (∀ a : Int, (a < 109 ∨ 109 < a) → x_6 a = x a) → (6 - l3_6) < n6 → FW YC G C 4 x_6 13 [(0, vr G 1), (1, vr G 109), (2, vi l2_6), (3, vi l3_6)] [] := by
      intro n6
      induction n6 with
      | zero =>
        intro l2_6 l3_6 x_6 g6_0 g6_1 g6_2 g6_3 g6_4 g6_5 g6_6 g6_7 g6_8 g6_9 g6_10
        exfalso; omega
      | succ n6 ih6 =>
        intro l2_6 l3_6 x_6 g6_0 g6_1 g6_2 g6_3 g6_4 g6_5 g6_6 g6_7 g6_8 g6_9 g6_10
        refine fr_iload_n h rfl 3 rfl dX9_numbersInto_13 ?_
        refine fr_aload_n h rfl 1 rfl dX9_numbersInto_14 ?_
        refine fr_aleni h ar_109 (by decide) dX9_numbersInto_15 ?_
        show FW YC G C 4 x_6 16 [(0, vr G 1), (1, vr G 109), (2, vi l2_6), (3, vi l3_6)] [vi 6, vi l3_6]
        refine fr_icmp_ge (tgt := 103) h dX9_numbersInto_16 (by decide) (by omega) (by omega) (fun c7 => ?_) (fun c7 => ?_)
        ·
          have k6 : LSi (x 2) (x 1 1) l3_6 l2_6 = -1 - l2_6 := by rw [show l3_6 = 6 by omega]; exact LSi_6
          refine fr_iconst h dX9_numbersInto_103 ?_
          refine fr_iload_n h rfl 2 rfl dX9_numbersInto_104 ?_
          refine fr_isub h dX9_numbersInto_105 ?_
          exact fr_iret h hq (by omega) ⟨(by omega), (by omega), (by omega), (by omega), (fun a k0 => (g6_9 a (by omega)))⟩ dX9_numbersInto_106
        ·
          have r8 := (congrFun (g6_9 1 (by omega)) 1)
          have kS := LSi_k (f := x 2) (n := x 1 1) (i := l3_6) (p := l2_6) (by omega) (by omega)
          have := congrFun (g6_9 2 (by omega)) l2_6
          refine fr_aload_n h rfl 0 rfl dX9_numbersInto_19 ?_
          refine fr_iload_n h rfl 2 rfl dX9_numbersInto_20 ?_
          refine fr_cvI h kX9 at_1 wX9_hasDigit lX9_27 (c_X9_hasDigit x_6 l2_6 (by omega)) rfl (by decide) (by decide) rfl (Nat.le_of_ble_eq_true rfl) dX9_numbersInto_21 (fun z10 x9 w11 p12 => ?_)
          obtain ⟨p13, p14, y15⟩ := p12
          rw [y15]
          clear y15
          refine fr_if_ne (tgt := 31) h dX9_numbersInto_24 (by decide) (by omega) (fun c16 => ?_) (fun c16 => ?_)
          ·
            refine fr_aload_n h rfl 1 rfl dX9_numbersInto_31 ?_
            refine fr_iload_n h rfl 3 rfl dX9_numbersInto_32 ?_
            refine fr_aload_n h rfl 0 rfl dX9_numbersInto_33 ?_
            refine fr_iload_n h rfl 2 rfl dX9_numbersInto_34 ?_
            refine fr_cvI h kX9 at_1 wX9_digit lX9_23 (c_X9_digit x_6 l2_6 (by omega)) rfl (by decide) (by decide) rfl (Nat.le_of_ble_eq_true rfl) dX9_numbersInto_35 (fun z18 x17 w19 p20 => ?_)
            obtain ⟨p21, p22, p23, y24⟩ := p20
            rw [y24]
            clear y24
            refine fr_iast h ar_109 (by omega) (by omega) (rr_109 l3_6) (by omega) (by omega) dX9_numbersInto_38 ?_
            refine fr_mem (fun x25 m26 => ?_)
            refine fr_iinc (j := 2) (L' := [(0, vr G 1), (1, vr G 109), (2, vi (l2_6 + 1)), (3, vi l3_6)]) h dX9_numbersInto_39 rfl (by decide) [1, 2, 0, 3] rfl ?_
            have := congrFun ((fm_up_row m26 (by omega)).trans (g6_9 2 (by omega))) (l2_6 + 1)
            refine fr_aload_n h rfl 0 rfl dX9_numbersInto_42 ?_
            refine fr_iload_n h rfl 2 rfl dX9_numbersInto_43 ?_
            refine fr_cvI h kX9 at_1 wX9_hasDigit lX9_27 (c_X9_hasDigit x25 (l2_6 + 1) (by omega)) rfl (by decide) (by decide) rfl (Nat.le_of_ble_eq_true rfl) dX9_numbersInto_44 (fun z28 x27 w29 p30 => ?_)
            obtain ⟨p31, p32, y33⟩ := p30
            rw [y33]
            clear y33
            refine fr_if_eq (tgt := 68) h dX9_numbersInto_47 (by decide) (by omega) (fun c34 => ?_) (fun c34 => ?_)
            ·
              refine fr_iload_n h rfl 2 rfl dX9_numbersInto_68 ?_
              refine fr_aload_n h rfl 0 rfl dX9_numbersInto_69 ?_
              refine fr_geti (iz := 1) h kX9 fX9_15 at_1 rfl rfl (by decide) (by decide) rf_1_1 dX9_numbersInto_70 (fun z35 w36 w37 q38 => ?_)
              have r39 := q38.trans (fm_rd_k (a := 1) (b := 1) m26 (by omega))
              have r40 := r39.trans (congrFun (g6_9 1 (by omega)) 1)
              refine fr_icmp_ne (tgt := 80) h dX9_numbersInto_73 (by decide) (by omega) (by omega) (fun c41 => ?_) (fun c41 => ?_)
              ·
                have := congrFun ((fm_up_row m26 (by omega)).trans (g6_9 2 (by omega))) (l2_6 + 1)
                refine fr_aload_n h rfl 0 rfl dX9_numbersInto_80 ?_
                refine fr_iload_n h rfl 2 rfl dX9_numbersInto_81 ?_
                refine fr_cvI h kX9 at_1 wX9_at lX9_19 (c_X9_at x25 (l2_6 + 1) (by omega)) rfl (by decide) (by decide) rfl (Nat.le_of_ble_eq_true rfl) dX9_numbersInto_82 (fun z43 x42 w44 p45 => ?_)
                obtain ⟨p46, p47, p48, p49, y50⟩ := p45
                rw [y50]
                clear y50
                refine fr_bipush h rfl dX9_numbersInto_85 ?_
                refine fr_icmp_eq (tgt := 94) h dX9_numbersInto_87 (by decide) (by omega) (by omega) (fun c51 => ?_) (fun c51 => ?_)
                ·
                  refine fr_iinc (j := 2) (L' := [(0, vr G 1), (1, vr G 109), (2, vi ((l2_6 + 1) + 1)), (3, vi l3_6)]) h dX9_numbersInto_94 rfl (by decide) [1, 2, 0, 3] rfl ?_
                  refine fr_iinc (j := 3) (L' := [(0, vr G 1), (1, vr G 109), (2, vi ((l2_6 + 1) + 1)), (3, vi (l3_6 + 1))]) h dX9_numbersInto_97 rfl (by decide) [1, 2, 3, 0] rfl ?_
                  refine fr_goto (tgt := 13) h dX9_numbersInto_100 (by decide) ?_
                  exact ih6 ((l2_6 + 1) + 1) (l3_6 + 1) x25 (by omega) (by omega) (by omega) (by omega) (by omega) (by omega) (by omega) (by omega) (by omega) (fun a k0 => ((fm_up_row m26 (by omega)).trans (g6_9 a (by omega)))) (by omega)
                ·
                  refine fr_iconst h dX9_numbersInto_90 ?_
                  refine fr_iload_n h rfl 2 rfl dX9_numbersInto_91 ?_
                  refine fr_isub h dX9_numbersInto_92 ?_
                  exact fr_iret h hq (by omega) ⟨(by omega), (by omega), (by omega), (by omega), (fun a k0 => ((fm_up_row m26 (by omega)).trans (g6_9 a (by omega))))⟩ dX9_numbersInto_93
              ·
                refine fr_iload_n h rfl 3 rfl dX9_numbersInto_76 ?_
                refine fr_iconst h dX9_numbersInto_77 ?_
                refine fr_iadd h dX9_numbersInto_78 ?_
                exact fr_iret h hq (by omega) ⟨(by omega), (by omega), (by omega), (by omega), (fun a k0 => ((fm_up_row m26 (by omega)).trans (g6_9 a (by omega))))⟩ dX9_numbersInto_79
            ·
              refine fr_aload_n h rfl 1 rfl dX9_numbersInto_50 ?_
              refine fr_iload_n h rfl 3 rfl dX9_numbersInto_51 ?_
              refine fr_bipush h rfl dX9_numbersInto_52 ?_
              refine fr_aload_n h rfl 1 rfl dX9_numbersInto_54 ?_
              refine fr_iload_n h rfl 3 rfl dX9_numbersInto_55 ?_
              refine fr_iald h ar_109 (by omega) (by omega) (rr_109 l3_6) dX9_numbersInto_56 (fun z52 w53 w54 q55 => ?_)
              have r56 := q55.trans (fm_rd_s m26)
              refine fr_imul h dX9_numbersInto_57 ?_
              refine fr_aload_n h rfl 0 rfl dX9_numbersInto_58 ?_
              refine fr_iload_n h rfl 2 rfl dX9_numbersInto_59 ?_
              refine fr_cvI h kX9 at_1 wX9_digit lX9_23 (c_X9_digit x25 (l2_6 + 1) (by omega)) rfl (by decide) (by decide) rfl (Nat.le_of_ble_eq_true rfl) dX9_numbersInto_60 (fun z58 x57 w59 p60 => ?_)
              obtain ⟨p61, p62, p63, y64⟩ := p60
              rw [y64]
              clear y64
              refine fr_iadd h dX9_numbersInto_63 ?_
              refine fr_iast h ar_109 (by omega) (by omega) (rr_109 l3_6) (by omega) (by omega) dX9_numbersInto_64 ?_
              refine fr_mem (fun x65 m66 => ?_)
              refine fr_iinc (j := 2) (L' := [(0, vr G 1), (1, vr G 109), (2, vi ((l2_6 + 1) + 1)), (3, vi l3_6)]) h dX9_numbersInto_65 rfl (by decide) [1, 2, 0, 3] rfl ?_
              refine fr_iload_n h rfl 2 rfl dX9_numbersInto_68 ?_
              refine fr_aload_n h rfl 0 rfl dX9_numbersInto_69 ?_
              refine fr_geti (iz := 1) h kX9 fX9_15 at_1 rfl rfl (by decide) (by decide) rf_1_1 dX9_numbersInto_70 (fun z67 w68 w69 q70 => ?_)
              have r71 := q70.trans (fm_rd_k (a := 1) (b := 1) m66 (by omega))
              have r72 := r71.trans (fm_rd_k (a := 1) (b := 1) m26 (by omega))
              have r73 := r72.trans (congrFun (g6_9 1 (by omega)) 1)
              refine fr_icmp_ne (tgt := 80) h dX9_numbersInto_73 (by decide) (by omega) (by omega) (fun c74 => ?_) (fun c74 => ?_)
              ·
                have := congrFun ((fm_up_row m66 (by omega)).trans ((fm_up_row m26 (by omega)).trans (g6_9 2 (by omega)))) ((l2_6 + 1) + 1)
                refine fr_aload_n h rfl 0 rfl dX9_numbersInto_80 ?_
                refine fr_iload_n h rfl 2 rfl dX9_numbersInto_81 ?_
                refine fr_cvI h kX9 at_1 wX9_at lX9_19 (c_X9_at x65 ((l2_6 + 1) + 1) (by omega)) rfl (by decide) (by decide) rfl (Nat.le_of_ble_eq_true rfl) dX9_numbersInto_82 (fun z76 x75 w77 p78 => ?_)
                obtain ⟨p79, p80, p81, p82, y83⟩ := p78
                rw [y83]
                clear y83
                refine fr_bipush h rfl dX9_numbersInto_85 ?_
                refine fr_icmp_eq (tgt := 94) h dX9_numbersInto_87 (by decide) (by omega) (by omega) (fun c84 => ?_) (fun c84 => ?_)
                ·
                  refine fr_iinc (j := 2) (L' := [(0, vr G 1), (1, vr G 109), (2, vi (((l2_6 + 1) + 1) + 1)), (3, vi l3_6)]) h dX9_numbersInto_94 rfl (by decide) [1, 2, 0, 3] rfl ?_
                  refine fr_iinc (j := 3) (L' := [(0, vr G 1), (1, vr G 109), (2, vi (((l2_6 + 1) + 1) + 1)), (3, vi (l3_6 + 1))]) h dX9_numbersInto_97 rfl (by decide) [1, 2, 3, 0] rfl ?_
                  refine fr_goto (tgt := 13) h dX9_numbersInto_100 (by decide) ?_
                  exact ih6 (((l2_6 + 1) + 1) + 1) (l3_6 + 1) x65 (by omega) (by omega) (by omega) (by omega) (by omega) (by omega) (by omega) (by omega) (by omega) (fun a k0 => ((fm_up_row m66 (by omega)).trans ((fm_up_row m26 (by omega)).trans (g6_9 a (by omega))))) (by omega)
                ·
                  refine fr_iconst h dX9_numbersInto_90 ?_
                  refine fr_iload_n h rfl 2 rfl dX9_numbersInto_91 ?_
                  refine fr_isub h dX9_numbersInto_92 ?_
                  exact fr_iret h hq (by omega) ⟨(by omega), (by omega), (by omega), (by omega), (fun a k0 => ((fm_up_row m66 (by omega)).trans ((fm_up_row m26 (by omega)).trans (g6_9 a (by omega)))))⟩ dX9_numbersInto_93
              ·
                refine fr_iload_n h rfl 3 rfl dX9_numbersInto_76 ?_
                refine fr_iconst h dX9_numbersInto_77 ?_
                refine fr_iadd h dX9_numbersInto_78 ?_
                exact fr_iret h hq (by omega) ⟨(by omega), (by omega), (by omega), (by omega), (fun a k0 => ((fm_up_row m66 (by omega)).trans ((fm_up_row m26 (by omega)).trans (g6_9 a (by omega)))))⟩ dX9_numbersInto_79
          ·
            refine fr_iconst h dX9_numbersInto_27 ?_
            refine fr_iload_n h rfl 2 rfl dX9_numbersInto_28 ?_
            refine fr_isub h dX9_numbersInto_29 ?_
            exact fr_iret h hq (by omega) ⟨(by omega), (by omega), (by omega), (by omega), (fun a k0 => (g6_9 a (by omega)))⟩ dX9_numbersInto_30
    exact HL6 ((6 - 0) + 1 : Int).toNat 0 0 x (by omega) (by omega) (by omega) (by omega) (by omega) (by omega) (by omega) rfl (by omega) (fun a _ => rfl) (by omega)
  ·
    refine fr_iconst h dX9_numbersInto_7 ?_
    exact fr_iret h hq (by omega) ⟨(by omega), (by omega), (by omega), (by omega), (fun a _ => rfl)⟩ dX9_numbersInto_8
set_option maxHeartbeats 200000 in
theorem d_X8_setList (x : Mm) (b : Int) (hb : isSt b) (p : Int) (w : Int) (h_p : fm_r p) (h_w : fm_r w) : CnI YC yX8_setList cX8_setList 5 .int 2 45 (fun G => [vr G b, vi p, vr G 109, vi w]) x (fun z y' => (z = (-1) ∨ z = w) ∧ (0 ≤ p ∧ p < 4 ∧ w ≤ 6 → z = w) ∧ (¬ (0 ≤ p ∧ p < 4) → z = (-1)) ∧ (∀ a : Int, (a < b ∨ b + 4 < a) → y' a = x a)) := by
  refine cn_I (by decide) (fun _ => Nat.le_of_ble_eq_true rfl) (fun G C h hq => ?_)
  have h : OK YC G C cX8_setList RX8 5 (some .int) 2 45 := h
  show FW YC G C 5 x 0 [(0, vr G b), (1, vi p), (2, vr G 109), (3, vi w)] []
  have h_b := St_b hb
  refine fr_iload_n h rfl 1 rfl dX8_setList_0 ?_
  refine fr_iconst h dX8_setList_1 ?_
  refine fr_csI h wX8_isBelow lX8_43 (c_X8_isBelow x p 4 (by omega) (by omega)) rfl (by decide) (by decide) rfl (Nat.le_of_ble_eq_true rfl) dX8_setList_2 (fun z2 x1 w3 p4 => ?_)
  obtain ⟨p5, p6, y7⟩ := p4
  rw [y7]
  clear y7
  refine fr_if_eq (tgt := 14) h dX8_setList_5 (by decide) (by omega) (fun c8 => ?_) (fun c8 => ?_)
  ·
    refine fr_iconst h dX8_setList_14 ?_
    exact fr_iret h hq (by omega) ⟨(by omega), (by omega), (by omega), (fun a _ => rfl)⟩ dX8_setList_15
  ·
    refine fr_iload_n h rfl 3 rfl dX8_setList_8 ?_
    refine fr_aload_n h rfl 2 rfl dX8_setList_9 ?_
    refine fr_aleni h ar_109 (by decide) dX8_setList_10 ?_
    show FW YC G C 5 x 11 [(0, vr G b), (1, vi p), (2, vr G 109), (3, vi w)] [vi 6, vi w]
    refine fr_icmp_le (tgt := 16) h dX8_setList_11 (by decide) (by omega) (by omega) (fun c9 => ?_) (fun c9 => ?_)
    ·
      refine fr_aload_n h rfl 0 rfl dX8_setList_16 ?_
      refine fr_getc (z := (b + 1)) (iz := 0) h kX8 fX8_9 (St_at hb) rfl rfl (St_f0 hb) (by omega) dX8_setList_17 ?_
      refine fr_iload_n h rfl 1 rfl dX8_setList_20 ?_
      refine fr_iconst h dX8_setList_21 ?_
      refine fr_iast h (St_a1 hb) (by omega) (by omega) (St_r1 hb p) (by omega) (by omega) dX8_setList_22 ?_
      refine fr_mem (fun x10 m11 => ?_)
      refine fr_iconst h dX8_setList_23 ?_
      refine fr_istore (L' := [(0, vr G b), (1, vi p), (2, vr G 109), (3, vi w), (4, vi 0)]) h dX8_setList_24 (by decide) [1, 2, 3, 4, 0] rfl ?_
      have HL12 : ∀ (n12 : Nat) (l4_12 : Int) (x_12 : Mm), fm_r l4_12 → 0 ≤ l4_12 → l4_12 ≤ 6 → (∀ a : Int, (a < b ∨ b + 4 < a) → x_12 a = x10 a) → (6 - l4_12) < n12 → FW YC G C 5 x_12 26 [(0, vr G b), (1, vi p), (2, vr G 109), (3, vi w), (4, vi l4_12)] [] := by
        intro n12
        induction n12 with
        | zero =>
          intro l4_12 x_12 g12_0 g12_1 g12_2 g12_3 g12_4
          exfalso; omega
        | succ n12 ih12 =>
          intro l4_12 x_12 g12_0 g12_1 g12_2 g12_3 g12_4
          refine fr_iload h 4 rfl dX8_setList_26 ?_
          refine fr_iload_n h rfl 3 rfl dX8_setList_28 ?_
          refine fr_icmp_ge (tgt := 48) h dX8_setList_29 (by decide) (by omega) (by omega) (fun c13 => ?_) (fun c13 => ?_)
          ·
            refine fr_iload_n h rfl 3 rfl dX8_setList_48 ?_
            exact fr_iret h hq (by omega) ⟨(by omega), (by omega), (by omega), (fun a k0 => ((g12_3 a (by omega)).trans (fm_up_row m11 (by omega))))⟩ dX8_setList_49
          ·
            refine fr_aload_n h rfl 0 rfl dX8_setList_32 ?_
            refine fr_iload_n h rfl 1 rfl dX8_setList_33 ?_
            refine fr_aload_n h rfl 2 rfl dX8_setList_34 ?_
            refine fr_iload h 4 rfl dX8_setList_35 ?_
            refine fr_iald h ar_109 (by omega) (by omega) (rr_109 l4_12) dX8_setList_37 (fun z14 w15 w16 q17 => ?_)
            have r18 := q17.trans (congrFun (g12_3 109 (by omega)) l4_12)
            have r19 := r18.trans (fm_rd_k (a := 109) (b := l4_12) m11 (by omega))
            refine fr_cvI h kX8 (St_at hb) wX8_putNumber lX8_51 (c_X8_putNumber x_12 b hb p z14 (by omega) (by omega)) rfl (by decide) (by decide) rfl (Nat.le_of_ble_eq_true rfl) dX8_setList_38 (fun z21 x20 w22 p23 => ?_)
            obtain ⟨p24, p25, f26⟩ := p23
            refine fr_pop h rfl dX8_setList_41 ?_
            refine fr_iinc (j := 4) (L' := [(0, vr G b), (1, vi p), (2, vr G 109), (3, vi w), (4, vi (l4_12 + 1))]) h dX8_setList_42 rfl (by decide) [1, 2, 3, 4, 0] rfl ?_
            refine fr_goto (tgt := 26) h dX8_setList_45 (by decide) ?_
            exact ih12 (l4_12 + 1) x20 (by omega) (by omega) (by omega) (fun a k0 => ((f26 a (by omega)).trans (g12_3 a (by omega)))) (by omega)
      exact HL12 ((6 - 0) + 1 : Int).toNat 0 x10 (by omega) (by omega) (by omega) (fun a _ => rfl) (by omega)
    ·
      refine fr_iconst h dX8_setList_14 ?_
      exact fr_iret h hq (by omega) ⟨(by omega), (by omega), (by omega), (fun a _ => rfl)⟩ dX8_setList_15
set_option maxHeartbeats 200000 in
theorem d_X11_sign (x : Mm) (v : Int) (h_v : fm_r v) : CnI YC yX11_sign cX11_sign 2 .int 1 22 (fun G => [vr G 0, vi v]) x (fun z y' => (x 1 1 ≤ 76 → z = x 1 1 + 4 ∧ y' 1 1 = x 1 1 + 4) ∧ (76 < x 1 1 → z = (-1) ∧ y' 1 1 = x 1 1) ∧ (∀ j : Int, 0 ≤ j → j < x 1 1 → y' 2 j = x 2 j) ∧ (x 1 1 ≤ 76 → ∀ j : Int, 0 ≤ j → j < 4 → y' 2 (x 1 1 + j) = bch v (24 - 8 * j)) ∧ (∀ a : Int, (a < 1 ∨ 2 < a) → y' a = x a)) := by
  refine cn_I (by decide) (fun _ => Nat.le_of_ble_eq_true rfl) (fun G C h hq => ?_)
  have h : OK YC G C cX11_sign RX11 2 (some .int) 1 22 := h
  show FW YC G C 2 x 0 [(0, vr G 0), (1, vi v)] []
  refine fr_aload_n h rfl 0 rfl dX11_sign_0 ?_
  refine fr_getc (z := 1) (iz := 0) h kX11 fX11_10 at_0 rfl rfl rf_0_0 (by omega) dX11_sign_1 ?_
  refine fr_iload_n h rfl 1 rfl dX11_sign_4 ?_
  refine fr_cvI h kX9 at_1 wX9_append lX11_102 (d_X9_append x v (by omega)) rfl (by decide) (by decide) rfl (Nat.le_of_ble_eq_true rfl) dX11_sign_5 (fun z2 x1 w3 p4 => ?_)
  obtain ⟨p5, p6, p7, p8, p9, f10⟩ := p4
  refine fr_if_eq (tgt := 21) h dX11_sign_8 (by decide) (by omega) (fun c11 => ?_) (fun c11 => ?_)
  ·
    refine fr_iconst h dX11_sign_21 ?_
    exact fr_iret h hq (by omega) ⟨(by omega), (by omega), p8, p9, (fun a k0 => (f10 a (by omega)))⟩ dX11_sign_22
  ·
    refine fr_aload_n h rfl 0 rfl dX11_sign_11 ?_
    refine fr_getc (z := 1) (iz := 0) h kX11 fX11_10 at_0 rfl rfl rf_0_0 (by omega) dX11_sign_12 ?_
    refine fr_cvI h kX9 at_1 wX9_length lX11_106 (c_X9_length x1) rfl (by decide) (by decide) rfl (Nat.le_of_ble_eq_true rfl) dX11_sign_15 (fun z13 x12 w14 p15 => ?_)
    obtain ⟨p16, p17, p18, y19⟩ := p15
    rw [y19]
    clear y19
    refine fr_goto (tgt := 22) h dX11_sign_18 (by decide) ?_
    exact fr_iret h hq (by omega) ⟨(by omega), (by omega), p8, p9, (fun a k0 => (f10 a (by omega)))⟩ dX11_sign_22
set_option maxHeartbeats 200000 in
theorem d_X11_end (x : Mm) (n : Int) (h_n : fm_r n) : CnI YC yX11_end cX11_end 2 .boolean 1 21 (fun G => [vr G 0, vi n]) x (fun z y' => (z = 0 ∨ z = 1) ∧ ((z = 1 ↔ 0 ≤ n ∧ n ≤ x 1 1)) ∧ (z = 1 → y' 1 1 = n) ∧ (z = 0 → y' 1 1 = x 1 1) ∧ (∀ a : Int, (a < 1 ∨ 1 < a) → y' a = x a)) := by
  refine cn_I (by decide) (fun _ => Nat.le_of_ble_eq_true rfl) (fun G C h hq => ?_)
  have h : OK YC G C cX11_end RX11 2 (some .boolean) 1 21 := h
  show FW YC G C 2 x 0 [(0, vr G 0), (1, vi n)] []
  refine fr_aload_n h rfl 0 rfl dX11_end_0 ?_
  refine fr_getc (z := 1) (iz := 0) h kX11 fX11_10 at_0 rfl rfl rf_0_0 (by omega) dX11_end_1 ?_
  refine fr_iload_n h rfl 1 rfl dX11_end_4 ?_
  refine fr_cvI h kX9 at_1 wX9_cut lX11_110 (d_X9_cut x n (by omega)) rfl (by decide) (by decide) rfl (Nat.le_of_ble_eq_true rfl) dX11_end_5 (fun z2 x1 w3 p4 => ?_)
  obtain ⟨p5, p6, p7, p8, f9⟩ := p4
  exact fr_zret h (nr_z (by omega) (by omega)) hq (by omega) ⟨(by omega), (by omega), (by omega), (by omega), (fun a k0 => (f9 a (by omega)))⟩ dX11_end_8
set_option maxHeartbeats 200000 in
theorem d_X11_lists (x : Mm) (p : Int) (h_p : fm_r p) : CnI YC yX11_lists cX11_lists 3 .int 4 89 (fun G => [vr G 0, vi p]) x (fun z y' => (y' 1 1 = 0) ∧ (x 1 1 = 0 → (0 ≤ p ∧ p < 4 → z = 0) ∧ (¬ (0 ≤ p ∧ p < 4) → z = (-1))) ∧ (0 < x 1 1 → (LSi (x 2) (x 1 1) 0 0 < 0 → z = LSi (x 2) (x 1 1) 0 0) ∧ (0 ≤ LSi (x 2) (x 1 1) 0 0 → (0 ≤ p ∧ p < 4 → z = LSi (x 2) (x 1 1) 0 0) ∧ (¬ (0 ≤ p ∧ p < 4) → z = (-1)))) ∧ (∀ a : Int, (a < 1 ∨ 12 < a) → (a < 14 ∨ 65 < a) → (a < 79 ∨ 88 < a) → (a < 95 ∨ 97 < a) → (a < 109 ∨ 109 < a) → y' a = x a)) := by
  refine cn_I (by decide) (fun _ => Nat.le_of_ble_eq_true rfl) (fun G C h hq => ?_)
  have h : OK YC G C cX11_lists RX11 3 (some .int) 4 89 := h
  show FW YC G C 3 x 0 [(0, vr G 0), (1, vi p)] []
  refine fr_aload_n h rfl 0 rfl dX11_lists_0 ?_
  refine fr_getc (z := 1) (iz := 0) h kX11 fX11_10 at_0 rfl rfl rf_0_0 (by omega) dX11_lists_1 ?_
  refine fr_aload_n h rfl 0 rfl dX11_lists_4 ?_
  refine fr_getc (z := 109) (iz := 12) h kX11 fX11_81 at_0 rfl rfl rf_0_12 (by omega) dX11_lists_5 ?_
  refine fr_cvI h kX9 at_1 wX9_numbersInto lX11_113 (d_X9_numbersInto x) rfl (by decide) (by decide) rfl (Nat.le_of_ble_eq_true rfl) dX11_lists_8 (fun z2 x1 w3 p4 => ?_)
  obtain ⟨p5, p6, p7, p8, f9⟩ := p4
  refine fr_istore_n (L' := [(0, vr G 0), (1, vi p), (2, vi z2)]) h rfl dX11_lists_11 (by decide) [1, 2, 0] rfl ?_
  refine fr_aload_n h rfl 0 rfl dX11_lists_12 ?_
  refine fr_getc (z := 1) (iz := 0) h kX11 fX11_10 at_0 rfl rfl rf_0_0 (by omega) dX11_lists_13 ?_
  refine fr_cvV h kX9 at_1 wX9_clear lX11_117 (c_X9_clear x1) rfl (by decide) (by decide) rfl (Nat.le_of_ble_eq_true rfl) dX11_lists_16 (fun x10 p13 => ?_)
  obtain ⟨p14, f15⟩ := p13
  refine fr_iload_n h rfl 2 rfl dX11_lists_19 ?_
  refine fr_if_ge (tgt := 25) h dX11_lists_20 (by decide) (by omega) (fun c16 => ?_) (fun c16 => ?_)
  ·
    refine fr_aload_n h rfl 0 rfl dX11_lists_25 ?_
    refine fr_getc (z := 8) (iz := 2) h kX11 fX11_23 at_0 rfl rfl rf_0_2 (by omega) dX11_lists_26 ?_
    refine fr_aload_n h rfl 0 rfl dX11_lists_29 ?_
    refine fr_getc (z := 3) (iz := 1) h kX11 fX11_19 at_0 rfl rfl rf_0_1 (by omega) dX11_lists_30 ?_
    refine fr_cvV h kX8 (St_at St_8) wX8_copyFrom lX11_120 (c_X8_copyFrom x10 8 St_8 3 St_3) rfl (by decide) (by decide) rfl (Nat.le_of_ble_eq_true rfl) dX11_lists_33 (fun x17 p20 => ?_)
    have f21 := p20
    refine fr_aload_n h rfl 0 rfl dX11_lists_36 ?_
    refine fr_aload_n h rfl 0 rfl dX11_lists_37 ?_
    refine fr_getc (z := 3) (iz := 1) h kX11 fX11_19 at_0 rfl rfl rf_0_1 (by omega) dX11_lists_38 ?_
    refine fr_iload_n h rfl 1 rfl dX11_lists_41 ?_
    refine fr_aload_n h rfl 0 rfl dX11_lists_42 ?_
    refine fr_getc (z := 109) (iz := 12) h kX11 fX11_81 at_0 rfl rfl rf_0_12 (by omega) dX11_lists_43 ?_
    refine fr_iload_n h rfl 2 rfl dX11_lists_46 ?_
    refine fr_cvI h kX8 (St_at St_3) wX8_setList lX11_124 (d_X8_setList x17 3 St_3 p z2 (by omega) (by omega)) rfl (by decide) (by decide) rfl (Nat.le_of_ble_eq_true rfl) dX11_lists_47 (fun z23 x22 w24 p25 => ?_)
    obtain ⟨p26, p27, p28, f29⟩ := p25
    refine fr_cvI h kX11 at_0 wX11_settled lX11_128 (c_X11_settled x22 z23 (by omega)) rfl (by decide) (by decide) rfl (Nat.le_of_ble_eq_true rfl) dX11_lists_50 (fun z31 x30 w32 p33 => ?_)
    obtain ⟨p34, f35⟩ := p33
    have r36 := (congrFun (f35 1 (by omega) (by omega) (by omega)) 1)
    have r37 := r36.trans (congrFun (f29 1 (by omega)) 1)
    have r38 := r37.trans (congrFun (f21 1 (by omega)) 1)
    have r39 := (congrFun (f9 1 (by omega)) 1)
    exact fr_iret h hq (by omega) ⟨(by omega), (by omega), (by omega), (fun a k0 k1 k2 k3 k4 => ((f35 a (by omega) (by omega) (by omega)).trans ((f29 a (by omega)).trans ((f21 a (by omega)).trans ((f15 a (by omega)).trans (f9 a (by omega)))))))⟩ dX11_lists_53
  ·
    refine fr_iload_n h rfl 2 rfl dX11_lists_23 ?_
    have r40 := (congrFun (f9 1 (by omega)) 1)
    exact fr_iret h hq (by omega) ⟨(by omega), (by omega), (by omega), (fun a k0 k1 k2 k3 k4 => ((f15 a (by omega)).trans (f9 a (by omega))))⟩ dX11_lists_24
