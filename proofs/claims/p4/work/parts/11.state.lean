set_option maxHeartbeats 200000 in
theorem c_X8_copyFrom (x : Mm) (b : Int) (hb : isSt b) (b2 : Int) (hb2 : isSt b2) : CnV YC yX8_copyFrom cX8_copyFrom 2 1 26 (fun G => [vr G b, vr G b2]) x (fun y' => (∀ a : Int, (a < b ∨ b + 4 < a) → y' a = x a)) := by
  refine cn_V (by decide) (fun _ => Nat.le_of_ble_eq_true rfl) (fun G C h hq => ?_)
  have h : OK YC G C cX8_copyFrom RX8 2 none 1 26 := h
  show FW YC G C 2 x 0 [(0, vr G b), (1, vr G b2)] []
  have h_b := St_b hb
  have h_b2 := St_b hb2
  refine fr_aload_n h rfl 1 rfl dX8_copyFrom_0 ?_
  refine fr_getc (z := (b2 + 1)) (iz := 0) h kX8 fX8_9 (St_at hb2) rfl rfl (St_f0 hb2) (by omega) dX8_copyFrom_1 ?_
  refine fr_iconst h dX8_copyFrom_4 ?_
  refine fr_aload_n h rfl 0 rfl dX8_copyFrom_5 ?_
  refine fr_getc (z := (b + 1)) (iz := 0) h kX8 fX8_9 (St_at hb) rfl rfl (St_f0 hb) (by omega) dX8_copyFrom_6 ?_
  refine fr_iconst h dX8_copyFrom_9 ?_
  refine fr_iconst h dX8_copyFrom_10 ?_
  refine fr_copyi (n0 := 4) (n := 4) h (St_a1 hb2) (St_a1 hb) (by decide) (fun b => by rw [(St_r1 hb2 b), (St_r1 hb b)]; decide) (tb_2 (i := 108) (by decide +kernel) (by decide +kernel)) w_copy (by decide) (by decide) (Nat.le_of_ble_eq_true rfl) rfl dX8_copyFrom_11 (fun x1 m2 => ?_)
  refine fr_aload_n h rfl 1 rfl dX8_copyFrom_14 ?_
  refine fr_getc (z := (b2 + 2)) (iz := 1) h kX8 fX8_15 (St_at hb2) rfl rfl (St_f1 hb2) (by omega) dX8_copyFrom_15 ?_
  refine fr_iconst h dX8_copyFrom_18 ?_
  refine fr_aload_n h rfl 0 rfl dX8_copyFrom_19 ?_
  refine fr_getc (z := (b + 2)) (iz := 1) h kX8 fX8_15 (St_at hb) rfl rfl (St_f1 hb) (by omega) dX8_copyFrom_20 ?_
  refine fr_iconst h dX8_copyFrom_23 ?_
  refine fr_bipush h rfl dX8_copyFrom_24 ?_
  refine fr_copyi (n0 := 24) (n := 24) h (St_a2 hb2) (St_a2 hb) (by decide) (fun b => by rw [(St_r2 hb2 b), (St_r2 hb b)]; decide) (tb_2 (i := 108) (by decide +kernel) (by decide +kernel)) w_copy (by decide) (by decide) (Nat.le_of_ble_eq_true rfl) rfl dX8_copyFrom_26 (fun x3 m4 => ?_)
  refine fr_aload_n h rfl 1 rfl dX8_copyFrom_29 ?_
  refine fr_getc (z := (b2 + 3)) (iz := 2) h kX8 fX8_18 (St_at hb2) rfl rfl (St_f2 hb2) (by omega) dX8_copyFrom_30 ?_
  refine fr_iconst h dX8_copyFrom_33 ?_
  refine fr_aload_n h rfl 0 rfl dX8_copyFrom_34 ?_
  refine fr_getc (z := (b + 3)) (iz := 2) h kX8 fX8_18 (St_at hb) rfl rfl (St_f2 hb) (by omega) dX8_copyFrom_35 ?_
  refine fr_iconst h dX8_copyFrom_38 ?_
  refine fr_bipush h rfl dX8_copyFrom_39 ?_
  refine fr_copyi (n0 := 49) (n := 49) h (St_a3 hb2) (St_a3 hb) (by decide) (fun b => by rw [(St_r3 hb2 b), (St_r3 hb b)]; decide) (tb_2 (i := 108) (by decide +kernel) (by decide +kernel)) w_copy (by decide) (by decide) (Nat.le_of_ble_eq_true rfl) rfl dX8_copyFrom_41 (fun x5 m6 => ?_)
  refine fr_aload_n h rfl 1 rfl dX8_copyFrom_44 ?_
  refine fr_getc (z := (b2 + 4)) (iz := 3) h kX8 fX8_21 (St_at hb2) rfl rfl (St_f3 hb2) (by omega) dX8_copyFrom_45 ?_
  refine fr_iconst h dX8_copyFrom_48 ?_
  refine fr_aload_n h rfl 0 rfl dX8_copyFrom_49 ?_
  refine fr_getc (z := (b + 4)) (iz := 3) h kX8 fX8_21 (St_at hb) rfl rfl (St_f3 hb) (by omega) dX8_copyFrom_50 ?_
  refine fr_iconst h dX8_copyFrom_53 ?_
  refine fr_bipush h rfl dX8_copyFrom_54 ?_
  refine fr_copyi (n0 := 25) (n := 25) h (St_a4 hb2) (St_a4 hb) (by decide) (fun b => by rw [(St_r4 hb2 b), (St_r4 hb b)]; decide) (tb_2 (i := 108) (by decide +kernel) (by decide +kernel)) w_copy (by decide) (by decide) (Nat.le_of_ble_eq_true rfl) rfl dX8_copyFrom_56 (fun x7 m8 => ?_)
  refine fr_aload_n h rfl 0 rfl dX8_copyFrom_59 ?_
  refine fr_aload_n h rfl 1 rfl dX8_copyFrom_60 ?_
  refine fr_geti (iz := 4) h kX8 fX8_34 (St_at hb2) rfl rfl (by decide) (by decide) (St_f4 hb2) dX8_copyFrom_61 (fun z9 w10 w11 q12 => ?_)
  refine fr_puti (iz := 4) h kX8 fX8_34 (St_at hb) rfl rfl (by decide) (by decide) rfl (by decide +kernel) (St_f4 hb) (by omega) (by omega) dX8_copyFrom_64 ?_
  refine fr_mem (fun x13 m14 => ?_)
  refine fr_aload_n h rfl 0 rfl dX8_copyFrom_67 ?_
  refine fr_aload_n h rfl 1 rfl dX8_copyFrom_68 ?_
  refine fr_geti (iz := 5) h kX8 fX8_37 (St_at hb2) rfl rfl (by decide) (by decide) (St_f5 hb2) dX8_copyFrom_69 (fun z15 w16 w17 q18 => ?_)
  refine fr_puti (iz := 5) h kX8 fX8_37 (St_at hb) rfl rfl (by decide) (by decide) rfl (by decide +kernel) (St_f5 hb) (by omega) (by omega) dX8_copyFrom_72 ?_
  refine fr_mem (fun x19 m20 => ?_)
  refine fr_aload_n h rfl 0 rfl dX8_copyFrom_75 ?_
  refine fr_aload_n h rfl 1 rfl dX8_copyFrom_76 ?_
  refine fr_geti (iz := 6) h kX8 fX8_40 (St_at hb2) rfl rfl (by decide) (by decide) (St_f6 hb2) dX8_copyFrom_77 (fun z21 w22 w23 q24 => ?_)
  refine fr_puti (iz := 6) h kX8 fX8_40 (St_at hb) rfl rfl (by decide) (by decide) rfl (by decide +kernel) (St_f6 hb) (by omega) (by omega) dX8_copyFrom_80 ?_
  refine fr_mem (fun x25 m26 => ?_)
  refine fr_aload_n h rfl 0 rfl dX8_copyFrom_83 ?_
  refine fr_aload_n h rfl 1 rfl dX8_copyFrom_84 ?_
  refine fr_geti (iz := 7) h kX8 fX8_24 (St_at hb2) rfl rfl (by decide) (by decide) (St_f7 hb2) dX8_copyFrom_85 (fun z27 w28 w29 q30 => ?_)
  refine fr_puti (iz := 7) h kX8 fX8_24 (St_at hb) rfl rfl (by decide) (by decide) rfl (by decide +kernel) (St_f7 hb) (by omega) (by omega) dX8_copyFrom_88 ?_
  refine fr_mem (fun x31 m32 => ?_)
  exact fr_vret h hq (fun a k0 => ((fm_up_row m32 (by omega)).trans ((fm_up_row m26 (by omega)).trans ((fm_up_row m20 (by omega)).trans ((fm_up_row m14 (by omega)).trans ((fm_cp_row m8 (by omega)).trans ((fm_cp_row m6 (by omega)).trans ((fm_cp_row m4 (by omega)).trans (fm_cp_row m2 (by omega)))))))))) dX8_copyFrom_91
set_option maxHeartbeats 200000 in
theorem c_X8_allNumbers (x : Mm) (b : Int) (hb : isSt b) : CnI YC yX8_allNumbers cX8_allNumbers 3 .int 0 0 (fun G => [vr G b]) x (fun z y' => (0 ≤ z) ∧ (z ≤ 24) ∧ (y' = x)) := by
  refine cn_I (by decide) (fun _ => Nat.le_of_ble_eq_true rfl) (fun G C h hq => ?_)
  have h : OK YC G C cX8_allNumbers RX8 3 (some .int) 0 0 := h
  show FW YC G C 3 x 0 [(0, vr G b)] []
  have h_b := St_b hb
  refine fr_iconst h dX8_allNumbers_0 ?_
  refine fr_istore_n (L' := [(0, vr G b), (1, vi 0)]) h rfl dX8_allNumbers_1 (by decide) [1, 0] rfl ?_
  refine fr_iconst h dX8_allNumbers_2 ?_
  refine fr_istore_n (L' := [(0, vr G b), (1, vi 0), (2, vi 0)]) h rfl dX8_allNumbers_3 (by decide) [1, 2, 0] rfl ?_
  have HL1 : ∀ (n1 : Nat) (l1_1 l2_1 : Int), fm_r l1_1 → 0 ≤ l1_1 → l1_1 ≤ 24 → fm_r l2_1 → 0 ≤ l2_1 → l2_1 ≤ 4 → 0 ≤ l2_1 → l2_1 ≤ 4 → 0 ≤ l1_1 → l1_1 ≤ 6 * l2_1 → (4 - l2_1) < n1 → FW YC G C 3 x 4 [(0, vr G b), (1, vi l1_1), (2, vi l2_1)] [] := by
    intro n1
    induction n1 with
    | zero =>
      intro l1_1 l2_1 g1_0 g1_1 g1_2 g1_3 g1_4 g1_5 g1_6 g1_7 g1_8 g1_9 g1_10
      exfalso; omega
    | succ n1 ih1 =>
      intro l1_1 l2_1 g1_0 g1_1 g1_2 g1_3 g1_4 g1_5 g1_6 g1_7 g1_8 g1_9 g1_10
      refine fr_iload_n h rfl 2 rfl dX8_allNumbers_4 ?_
      refine fr_iconst h dX8_allNumbers_5 ?_
      refine fr_icmp_ge (tgt := 24) h dX8_allNumbers_6 (by decide) (by omega) (by omega) (fun c2 => ?_) (fun c2 => ?_)
      ·
        refine fr_iload_n h rfl 1 rfl dX8_allNumbers_24 ?_
        exact fr_iret h hq (by omega) ⟨(by omega), (by omega), rfl⟩ dX8_allNumbers_25
      ·
        refine fr_iload_n h rfl 1 rfl dX8_allNumbers_9 ?_
        refine fr_aload_n h rfl 0 rfl dX8_allNumbers_10 ?_
        refine fr_getc (z := (b + 1)) (iz := 0) h kX8 fX8_9 (St_at hb) rfl rfl (St_f0 hb) (by omega) dX8_allNumbers_11 ?_
        refine fr_iload_n h rfl 2 rfl dX8_allNumbers_14 ?_
        refine fr_iald h (St_a1 hb) (by omega) (by omega) (St_r1 hb l2_1) dX8_allNumbers_15 (fun z3 w4 w5 q6 => ?_)
        refine fr_iadd h dX8_allNumbers_16 ?_
        refine fr_istore_n (L' := [(0, vr G b), (1, vi (l1_1 + z3)), (2, vi l2_1)]) h rfl dX8_allNumbers_17 (by decide) [1, 0, 2] rfl ?_
        refine fr_iinc (j := 2) (L' := [(0, vr G b), (1, vi (l1_1 + z3)), (2, vi (l2_1 + 1))]) h dX8_allNumbers_18 rfl (by decide) [1, 2, 0] rfl ?_
        refine fr_goto (tgt := 4) h dX8_allNumbers_21 (by decide) ?_
        exact ih1 (l1_1 + z3) (l2_1 + 1) (by omega) (by omega) (by omega) (by omega) (by omega) (by omega) (by omega) (by omega) (by omega) (by omega) (by omega)
  exact HL1 ((4 - 0) + 1 : Int).toNat 0 0 (by omega) (by omega) (by omega) (by omega) (by omega) (by omega) (by omega) (by omega) (by omega) (by omega) (by omega)
set_option maxHeartbeats 200000 in
theorem c_X8_putNumber (x : Mm) (b : Int) (hb : isSt b) (p : Int) (v : Int) (h_p : fm_r p) (h_v : fm_r v) : CnI YC yX8_putNumber cX8_putNumber 5 .int 1 21 (fun G => [vr G b, vi p, vi v]) x (fun z y' => ((-2) ≤ z) ∧ (z ≤ 5) ∧ (∀ a : Int, (a < b ∨ b + 4 < a) → y' a = x a)) := by
  refine cn_I (by decide) (fun _ => Nat.le_of_ble_eq_true rfl) (fun G C h hq => ?_)
  have h : OK YC G C cX8_putNumber RX8 5 (some .int) 1 21 := h
  show FW YC G C 5 x 0 [(0, vr G b), (1, vi p), (2, vi v)] []
  have h_b := St_b hb
  refine fr_iload_n h rfl 1 rfl dX8_putNumber_0 ?_
  refine fr_iconst h dX8_putNumber_1 ?_
  refine fr_csI h wX8_isBelow lX8_43 (c_X8_isBelow x p 4 (by omega) (by omega)) rfl (by decide) (by decide) rfl (Nat.le_of_ble_eq_true rfl) dX8_putNumber_2 (fun z2 x1 w3 p4 => ?_)
  obtain ⟨p5, p6, y7⟩ := p4
  rw [y7]
  clear y7
  refine fr_if_eq (tgt := 17) h dX8_putNumber_5 (by decide) (by omega) (fun c8 => ?_) (fun c8 => ?_)
  ·
    refine fr_iconst h dX8_putNumber_17 ?_
    exact fr_iret h hq (by omega) ⟨(by omega), (by omega), (fun a _ => rfl)⟩ dX8_putNumber_18
  ·
    refine fr_iload_n h rfl 2 rfl dX8_putNumber_8 ?_
    refine fr_bipush h rfl dX8_putNumber_9 ?_
    refine fr_csI h wX8_isBelow lX8_43 (c_X8_isBelow x v 100 (by omega) (by omega)) rfl (by decide) (by decide) rfl (Nat.le_of_ble_eq_true rfl) dX8_putNumber_11 (fun z10 x9 w11 p12 => ?_)
    obtain ⟨p13, p14, y15⟩ := p12
    rw [y15]
    clear y15
    refine fr_if_ne (tgt := 19) h dX8_putNumber_14 (by decide) (by omega) (fun c16 => ?_) (fun c16 => ?_)
    ·
      refine fr_aload_n h rfl 0 rfl dX8_putNumber_19 ?_
      refine fr_getc (z := (b + 1)) (iz := 0) h kX8 fX8_9 (St_at hb) rfl rfl (St_f0 hb) (by omega) dX8_putNumber_20 ?_
      refine fr_iload_n h rfl 1 rfl dX8_putNumber_23 ?_
      refine fr_iald h (St_a1 hb) (by omega) (by omega) (St_r1 hb p) dX8_putNumber_24 (fun z17 w18 w19 q20 => ?_)
      refine fr_bipush h rfl dX8_putNumber_25 ?_
      refine fr_icmp_lt (tgt := 33) h dX8_putNumber_27 (by decide) (by omega) (by omega) (fun c21 => ?_) (fun c21 => ?_)
      ·
        refine fr_iload_n h rfl 1 rfl dX8_putNumber_33 ?_
        refine fr_bipush h rfl dX8_putNumber_34 ?_
        refine fr_imul h dX8_putNumber_36 ?_
        refine fr_normi (fun z22 w23 q24 => ?_)
        have w25 : fm_r ((p * 6)) → z22 = (p * 6) := fun q => (iI_inj q w23 q24).symm
        refine fr_istore_n (L' := [(0, vr G b), (1, vi p), (2, vi v), (3, vi z22)]) h rfl dX8_putNumber_37 (by decide) [1, 2, 3, 0] rfl ?_
        refine fr_aload_n h rfl 0 rfl dX8_putNumber_38 ?_
        refine fr_getc (z := (b + 1)) (iz := 0) h kX8 fX8_9 (St_at hb) rfl rfl (St_f0 hb) (by omega) dX8_putNumber_39 ?_
        refine fr_iload_n h rfl 1 rfl dX8_putNumber_42 ?_
        refine fr_iald h (St_a1 hb) (by omega) (by omega) (St_r1 hb p) dX8_putNumber_43 (fun z26 w27 w28 q29 => ?_)
        refine fr_istore (L' := [(0, vr G b), (1, vi p), (2, vi v), (3, vi z22), (4, vi z26)]) h dX8_putNumber_44 (by decide) [1, 2, 3, 4, 0] rfl ?_
        have HL30 : ∀ (n30 : Nat) (l4_30 : Int) (x_30 : Mm), fm_r l4_30 → 0 ≤ l4_30 → l4_30 ≤ 5 → l4_30 ≤ 5 → (∀ a : Int, (a < b + 2 ∨ b + 2 < a) → x_30 a = x a) → l4_30 < n30 → FW YC G C 5 x_30 46 [(0, vr G b), (1, vi p), (2, vi v), (3, vi z22), (4, vi l4_30)] [] := by
          intro n30
          induction n30 with
          | zero =>
            intro l4_30 x_30 g30_0 g30_1 g30_2 g30_3 g30_4 g30_5
            exfalso; omega
          | succ n30 ih30 =>
            intro l4_30 x_30 g30_0 g30_1 g30_2 g30_3 g30_4 g30_5
            refine fr_iload h 4 rfl dX8_putNumber_46 ?_
            refine fr_if_le (tgt := 92) h dX8_putNumber_48 (by decide) (by omega) (fun c31 => ?_) (fun c31 => ?_)
            ·
              refine fr_aload_n h rfl 0 rfl dX8_putNumber_92 ?_
              refine fr_getc (z := (b + 2)) (iz := 1) h kX8 fX8_15 (St_at hb) rfl rfl (St_f1 hb) (by omega) dX8_putNumber_93 ?_
              refine fr_iload_n h rfl 3 rfl dX8_putNumber_96 ?_
              refine fr_iload h 4 rfl dX8_putNumber_97 ?_
              refine fr_iadd h dX8_putNumber_99 ?_
              refine fr_iload_n h rfl 2 rfl dX8_putNumber_100 ?_
              refine fr_iast h (St_a2 hb) (by omega) (by omega) (St_r2 hb (z22 + l4_30)) (by omega) (by omega) dX8_putNumber_101 ?_
              refine fr_mem (fun x32 m33 => ?_)
              refine fr_aload_n h rfl 0 rfl dX8_putNumber_102 ?_
              refine fr_getc (z := (b + 1)) (iz := 0) h kX8 fX8_9 (St_at hb) rfl rfl (St_f0 hb) (by omega) dX8_putNumber_103 ?_
              refine fr_iload_n h rfl 1 rfl dX8_putNumber_106 ?_
              refine fr_dup2_11 h rfl rfl dX8_putNumber_107 ?_
              refine fr_iald h (St_a1 hb) (by omega) (by omega) (St_r1 hb p) dX8_putNumber_108 (fun z34 w35 w36 q37 => ?_)
              have r38 := q37.trans (fm_rd_k (a := (b + 1)) (b := p) m33 (by omega))
              have r39 := r38.trans (congrFun (g30_4 (b + 1) (by omega)) p)
              refine fr_iconst h dX8_putNumber_109 ?_
              refine fr_iadd h dX8_putNumber_110 ?_
              refine fr_iast h (St_a1 hb) (by omega) (by omega) (St_r1 hb p) (by omega) (by omega) dX8_putNumber_111 ?_
              refine fr_mem (fun x40 m41 => ?_)
              refine fr_iload h 4 rfl dX8_putNumber_112 ?_
              exact fr_iret h hq (by omega) ⟨(by omega), (by omega), (fun a k0 => ((fm_up_row m41 (by omega)).trans ((fm_up_row m33 (by omega)).trans (g30_4 a (by omega)))))⟩ dX8_putNumber_114
            ·
              refine fr_aload_n h rfl 0 rfl dX8_putNumber_51 ?_
              refine fr_getc (z := (b + 2)) (iz := 1) h kX8 fX8_15 (St_at hb) rfl rfl (St_f1 hb) (by omega) dX8_putNumber_52 ?_
              refine fr_iload_n h rfl 3 rfl dX8_putNumber_55 ?_
              refine fr_iload h 4 rfl dX8_putNumber_56 ?_
              refine fr_iadd h dX8_putNumber_58 ?_
              refine fr_normi (fun z42 w43 q44 => ?_)
              have w45 : fm_r ((z22 + l4_30)) → z42 = (z22 + l4_30) := fun q => (iI_inj q w43 q44).symm
              refine fr_iconst h dX8_putNumber_59 ?_
              refine fr_isub h dX8_putNumber_60 ?_
              refine fr_normi (fun z46 w47 q48 => ?_)
              have w49 : fm_r ((z42 - 1)) → z46 = (z42 - 1) := fun q => (iI_inj q w47 q48).symm
              refine fr_iald h (St_a2 hb) (by omega) (by omega) (St_r2 hb z46) dX8_putNumber_61 (fun z50 w51 w52 q53 => ?_)
              refine fr_iload_n h rfl 2 rfl dX8_putNumber_62 ?_
              refine fr_icmp_le (tgt := 92) h dX8_putNumber_63 (by decide) (by omega) (by omega) (fun c54 => ?_) (fun c54 => ?_)
              ·
                refine fr_aload_n h rfl 0 rfl dX8_putNumber_92 ?_
                refine fr_getc (z := (b + 2)) (iz := 1) h kX8 fX8_15 (St_at hb) rfl rfl (St_f1 hb) (by omega) dX8_putNumber_93 ?_
                refine fr_iload_n h rfl 3 rfl dX8_putNumber_96 ?_
                refine fr_iload h 4 rfl dX8_putNumber_97 ?_
                refine fr_iadd h dX8_putNumber_99 ?_
                refine fr_normi (fun z55 w56 q57 => ?_)
                have w58 : fm_r ((z22 + l4_30)) → z55 = (z22 + l4_30) := fun q => (iI_inj q w56 q57).symm
                refine fr_iload_n h rfl 2 rfl dX8_putNumber_100 ?_
                refine fr_iast h (St_a2 hb) (by omega) (by omega) (St_r2 hb z55) (by omega) (by omega) dX8_putNumber_101 ?_
                refine fr_mem (fun x59 m60 => ?_)
                refine fr_aload_n h rfl 0 rfl dX8_putNumber_102 ?_
                refine fr_getc (z := (b + 1)) (iz := 0) h kX8 fX8_9 (St_at hb) rfl rfl (St_f0 hb) (by omega) dX8_putNumber_103 ?_
                refine fr_iload_n h rfl 1 rfl dX8_putNumber_106 ?_
                refine fr_dup2_11 h rfl rfl dX8_putNumber_107 ?_
                refine fr_iald h (St_a1 hb) (by omega) (by omega) (St_r1 hb p) dX8_putNumber_108 (fun z61 w62 w63 q64 => ?_)
                have r65 := q64.trans (fm_rd_k (a := (b + 1)) (b := p) m60 (by omega))
                have r66 := r65.trans (congrFun (g30_4 (b + 1) (by omega)) p)
                refine fr_iconst h dX8_putNumber_109 ?_
                refine fr_iadd h dX8_putNumber_110 ?_
                refine fr_iast h (St_a1 hb) (by omega) (by omega) (St_r1 hb p) (by omega) (by omega) dX8_putNumber_111 ?_
                refine fr_mem (fun x67 m68 => ?_)
                refine fr_iload h 4 rfl dX8_putNumber_112 ?_
                exact fr_iret h hq (by omega) ⟨(by omega), (by omega), (fun a k0 => ((fm_up_row m68 (by omega)).trans ((fm_up_row m60 (by omega)).trans (g30_4 a (by omega)))))⟩ dX8_putNumber_114
              ·
                refine fr_aload_n h rfl 0 rfl dX8_putNumber_66 ?_
                refine fr_getc (z := (b + 2)) (iz := 1) h kX8 fX8_15 (St_at hb) rfl rfl (St_f1 hb) (by omega) dX8_putNumber_67 ?_
                refine fr_iload_n h rfl 3 rfl dX8_putNumber_70 ?_
                refine fr_iload h 4 rfl dX8_putNumber_71 ?_
                refine fr_iadd h dX8_putNumber_73 ?_
                refine fr_normi (fun z69 w70 q71 => ?_)
                have w72 : fm_r ((z22 + l4_30)) → z69 = (z22 + l4_30) := fun q => (iI_inj q w70 q71).symm
                refine fr_aload_n h rfl 0 rfl dX8_putNumber_74 ?_
                refine fr_getc (z := (b + 2)) (iz := 1) h kX8 fX8_15 (St_at hb) rfl rfl (St_f1 hb) (by omega) dX8_putNumber_75 ?_
                refine fr_iload_n h rfl 3 rfl dX8_putNumber_78 ?_
                refine fr_iload h 4 rfl dX8_putNumber_79 ?_
                refine fr_iadd h dX8_putNumber_81 ?_
                refine fr_normi (fun z73 w74 q75 => ?_)
                have w76 : fm_r ((z22 + l4_30)) → z73 = (z22 + l4_30) := fun q => (iI_inj q w74 q75).symm
                refine fr_iconst h dX8_putNumber_82 ?_
                refine fr_isub h dX8_putNumber_83 ?_
                refine fr_normi (fun z77 w78 q79 => ?_)
                have w80 : fm_r ((z73 - 1)) → z77 = (z73 - 1) := fun q => (iI_inj q w78 q79).symm
                refine fr_iald h (St_a2 hb) (by omega) (by omega) (St_r2 hb z77) dX8_putNumber_84 (fun z81 w82 w83 q84 => ?_)
                refine fr_iast h (St_a2 hb) (by omega) (by omega) (St_r2 hb z69) (by omega) (by omega) dX8_putNumber_85 ?_
                refine fr_mem (fun x85 m86 => ?_)
                refine fr_iinc (j := 4) (L' := [(0, vr G b), (1, vi p), (2, vi v), (3, vi z22), (4, vi (l4_30 + (-1)))]) h dX8_putNumber_86 rfl (by decide) [1, 2, 3, 4, 0] rfl ?_
                refine fr_goto (tgt := 46) h dX8_putNumber_89 (by decide) ?_
                exact ih30 (l4_30 + (-1)) x85 (by omega) (by omega) (by omega) (by omega) (fun a k0 => ((fm_up_row m86 (by omega)).trans (g30_4 a (by omega)))) (by omega)
        exact HL30 (z26 + 1 : Int).toNat z26 x (by omega) (by omega) (by omega) (by omega) (fun a _ => rfl) (by omega)
      ·
        refine fr_bipush h rfl dX8_putNumber_30 ?_
        exact fr_iret h hq (by omega) ⟨(by omega), (by omega), (fun a _ => rfl)⟩ dX8_putNumber_32
    ·
      refine fr_iconst h dX8_putNumber_17 ?_
      exact fr_iret h hq (by omega) ⟨(by omega), (by omega), (fun a _ => rfl)⟩ dX8_putNumber_18
set_option maxHeartbeats 200000 in
theorem c_X8_takeNumber (x : Mm) (b : Int) (hb : isSt b) (p : Int) (w : Int) (h_p : fm_r p) (h_w : fm_r w) : CnI YC yX8_takeNumber cX8_takeNumber 6 .int 3 64 (fun G => [vr G b, vi p, vi w]) x (fun z y' => ((-1) ≤ z) ∧ (z ≤ 99) ∧ (∀ a : Int, (a < b ∨ b + 4 < a) → y' a = x a)) := by
  refine cn_I (by decide) (fun _ => Nat.le_of_ble_eq_true rfl) (fun G C h hq => ?_)
  have h : OK YC G C cX8_takeNumber RX8 6 (some .int) 3 64 := h
  show FW YC G C 6 x 0 [(0, vr G b), (1, vi p), (2, vi w)] []
  have h_b := St_b hb
  refine fr_aload_n h rfl 0 rfl dX8_takeNumber_0 ?_
  refine fr_iload_n h rfl 1 rfl dX8_takeNumber_1 ?_
  refine fr_iload_n h rfl 2 rfl dX8_takeNumber_2 ?_
  refine fr_cvI h kX8 (St_at hb) wX8_numberAt lX8_55 (c_X8_numberAt x b hb p w (by omega) (by omega)) rfl (by decide) (by decide) rfl (Nat.le_of_ble_eq_true rfl) dX8_takeNumber_3 (fun z2 x1 w3 p4 => ?_)
  obtain ⟨p5, p6, p7, y8⟩ := p4
  rw [y8]
  clear y8
  refine fr_istore_n (L' := [(0, vr G b), (1, vi p), (2, vi w), (3, vi z2)]) h rfl dX8_takeNumber_6 (by decide) [1, 2, 3, 0] rfl ?_
  refine fr_iload_n h rfl 3 rfl dX8_takeNumber_7 ?_
  refine fr_if_ge (tgt := 13) h dX8_takeNumber_8 (by decide) (by omega) (fun c9 => ?_) (fun c9 => ?_)
  ·
    refine fr_iload_n h rfl 1 rfl dX8_takeNumber_13 ?_
    refine fr_bipush h rfl dX8_takeNumber_14 ?_
    refine fr_imul h dX8_takeNumber_16 ?_
    refine fr_normi (fun z10 w11 q12 => ?_)
    have w13 : fm_r ((p * 6)) → z10 = (p * 6) := fun q => (iI_inj q w11 q12).symm
    refine fr_istore (L' := [(0, vr G b), (1, vi p), (2, vi w), (3, vi z2), (4, vi z10)]) h dX8_takeNumber_17 (by decide) [1, 2, 3, 4, 0] rfl ?_
    refine fr_iload_n h rfl 2 rfl dX8_takeNumber_19 ?_
    refine fr_iconst h dX8_takeNumber_20 ?_
    refine fr_iadd h dX8_takeNumber_21 ?_
    refine fr_normi (fun z14 w15 q16 => ?_)
    have w17 : fm_r ((w + 1)) → z14 = (w + 1) := fun q => (iI_inj q w15 q16).symm
    refine fr_istore (L' := [(0, vr G b), (1, vi p), (2, vi w), (3, vi z2), (4, vi z10), (5, vi z14)]) h dX8_takeNumber_22 (by decide) [1, 2, 3, 4, 5, 0] rfl ?_
    have HL18 : ∀ (n18 : Nat) (l5_18 : Int) (x_18 : Mm), fm_r l5_18 → 1 ≤ l5_18 → l5_18 ≤ 6 → 1 ≤ l5_18 → (∀ a : Int, (a < b + 2 ∨ b + 2 < a) → x_18 a = x a) → (6 - l5_18) < n18 → FW YC G C 6 x_18 24 [(0, vr G b), (1, vi p), (2, vi w), (3, vi z2), (4, vi z10), (5, vi l5_18)] [] := by
      intro n18
      induction n18 with
      | zero =>
        intro l5_18 x_18 g18_0 g18_1 g18_2 g18_3 g18_4 g18_5
        exfalso; omega
      | succ n18 ih18 =>
        intro l5_18 x_18 g18_0 g18_1 g18_2 g18_3 g18_4 g18_5
        refine fr_iload h 5 rfl dX8_takeNumber_24 ?_
        refine fr_aload_n h rfl 0 rfl dX8_takeNumber_26 ?_
        refine fr_getc (z := (b + 1)) (iz := 0) h kX8 fX8_9 (St_at hb) rfl rfl (St_f0 hb) (by omega) dX8_takeNumber_27 ?_
        refine fr_iload_n h rfl 1 rfl dX8_takeNumber_30 ?_
        refine fr_iald h (St_a1 hb) (by omega) (by omega) (St_r1 hb p) dX8_takeNumber_31 (fun z19 w20 w21 q22 => ?_)
        have r23 := q22.trans (congrFun (g18_4 (b + 1) (by omega)) p)
        refine fr_icmp_ge (tgt := 63) h dX8_takeNumber_32 (by decide) (by omega) (by omega) (fun c24 => ?_) (fun c24 => ?_)
        ·
          refine fr_aload_n h rfl 0 rfl dX8_takeNumber_63 ?_
          refine fr_getc (z := (b + 1)) (iz := 0) h kX8 fX8_9 (St_at hb) rfl rfl (St_f0 hb) (by omega) dX8_takeNumber_64 ?_
          refine fr_iload_n h rfl 1 rfl dX8_takeNumber_67 ?_
          refine fr_dup2_11 h rfl rfl dX8_takeNumber_68 ?_
          refine fr_iald h (St_a1 hb) (by omega) (by omega) (St_r1 hb p) dX8_takeNumber_69 (fun z25 w26 w27 q28 => ?_)
          have r29 := q28.trans (congrFun (g18_4 (b + 1) (by omega)) p)
          refine fr_iconst h dX8_takeNumber_70 ?_
          refine fr_isub h dX8_takeNumber_71 ?_
          refine fr_iast h (St_a1 hb) (by omega) (by omega) (St_r1 hb p) (by omega) (by omega) dX8_takeNumber_72 ?_
          refine fr_mem (fun x30 m31 => ?_)
          refine fr_iload_n h rfl 3 rfl dX8_takeNumber_73 ?_
          exact fr_iret h hq (by omega) ⟨(by omega), (by omega), (fun a k0 => ((fm_up_row m31 (by omega)).trans (g18_4 a (by omega))))⟩ dX8_takeNumber_74
        ·
          refine fr_aload_n h rfl 0 rfl dX8_takeNumber_35 ?_
          refine fr_getc (z := (b + 2)) (iz := 1) h kX8 fX8_15 (St_at hb) rfl rfl (St_f1 hb) (by omega) dX8_takeNumber_36 ?_
          refine fr_iload h 4 rfl dX8_takeNumber_39 ?_
          refine fr_iload h 5 rfl dX8_takeNumber_41 ?_
          refine fr_iadd h dX8_takeNumber_43 ?_
          refine fr_normi (fun z32 w33 q34 => ?_)
          have w35 : fm_r ((z10 + l5_18)) → z32 = (z10 + l5_18) := fun q => (iI_inj q w33 q34).symm
          refine fr_iconst h dX8_takeNumber_44 ?_
          refine fr_isub h dX8_takeNumber_45 ?_
          refine fr_normi (fun z36 w37 q38 => ?_)
          have w39 : fm_r ((z32 - 1)) → z36 = (z32 - 1) := fun q => (iI_inj q w37 q38).symm
          refine fr_aload_n h rfl 0 rfl dX8_takeNumber_46 ?_
          refine fr_getc (z := (b + 2)) (iz := 1) h kX8 fX8_15 (St_at hb) rfl rfl (St_f1 hb) (by omega) dX8_takeNumber_47 ?_
          refine fr_iload h 4 rfl dX8_takeNumber_50 ?_
          refine fr_iload h 5 rfl dX8_takeNumber_52 ?_
          refine fr_iadd h dX8_takeNumber_54 ?_
          refine fr_normi (fun z40 w41 q42 => ?_)
          have w43 : fm_r ((z10 + l5_18)) → z40 = (z10 + l5_18) := fun q => (iI_inj q w41 q42).symm
          refine fr_iald h (St_a2 hb) (by omega) (by omega) (St_r2 hb z40) dX8_takeNumber_55 (fun z44 w45 w46 q47 => ?_)
          refine fr_iast h (St_a2 hb) (by omega) (by omega) (St_r2 hb z36) (by omega) (by omega) dX8_takeNumber_56 ?_
          refine fr_mem (fun x48 m49 => ?_)
          refine fr_iinc (j := 5) (L' := [(0, vr G b), (1, vi p), (2, vi w), (3, vi z2), (4, vi z10), (5, vi (l5_18 + 1))]) h dX8_takeNumber_57 rfl (by decide) [1, 2, 3, 4, 5, 0] rfl ?_
          refine fr_goto (tgt := 24) h dX8_takeNumber_60 (by decide) ?_
          exact ih18 (l5_18 + 1) x48 (by omega) (by omega) (by omega) (by omega) (fun a k0 => ((fm_up_row m49 (by omega)).trans (g18_4 a (by omega)))) (by omega)
    exact HL18 ((6 - z14) + 1 : Int).toNat z14 x (by omega) (by omega) (by omega) (by omega) (fun a _ => rfl) (by omega)
  ·
    refine fr_iconst h dX8_takeNumber_11 ?_
    exact fr_iret h hq (by omega) ⟨(by omega), (by omega), (fun a _ => rfl)⟩ dX8_takeNumber_12
set_option maxHeartbeats 200000 in
theorem c_X8_setList (x : Mm) (b : Int) (hb : isSt b) (p : Int) (w : Int) (h_p : fm_r p) (h_w : fm_r w) : CnI YC yX8_setList cX8_setList 5 .int 2 45 (fun G => [vr G b, vi p, vr G 109, vi w]) x (fun z y' => (z = (-1) ∨ z = w) ∧ (∀ a : Int, (a < b ∨ b + 4 < a) → y' a = x a)) := by
  refine cn_I (by decide) (fun _ => Nat.le_of_ble_eq_true rfl) (fun G C h hq => ?_)
  have h : OK YC G C cX8_setList RX8 5 (some .int) 2 45 := h
  show FW YC G C 5 x 0 [(0, vr G b), (1, vi p), (2, vr G 109), (3, vi w)] []
  have h_b := St_b hb
  refine fr_iload_n h rfl 1 rfl dX8_setList_0 ?_
  refine fr_iconst h dX8_setList_1 ?_
  refine fr_csI h wX8_isBelow lX8_43 (c_X8_isBelow x p 4 (by omega) (by omega)) rfl (by decide) (by decide) rfl (Nat.le_of_ble_eq_true rfl) dX8_setList_2 (fun z2 x1 w3 p4 => ?_)
  obtain ⟨p5, p6, y7⟩ := p4
  rw [y7]
  clear y7
  refine fr_if_eq (tgt := 14) h dX8_setList_5 (by decide) (by omega) (fun c8 => ?_) (fun c8 => ?_)
  ·
    refine fr_iconst h dX8_setList_14 ?_
    exact fr_iret h hq (by omega) ⟨(by omega), (fun a _ => rfl)⟩ dX8_setList_15
  ·
    refine fr_iload_n h rfl 3 rfl dX8_setList_8 ?_
    refine fr_aload_n h rfl 2 rfl dX8_setList_9 ?_
    refine fr_aleni h ar_109 (by decide) dX8_setList_10 ?_
    show FW YC G C 5 x 11 [(0, vr G b), (1, vi p), (2, vr G 109), (3, vi w)] [vi 6, vi w]
    refine fr_icmp_le (tgt := 16) h dX8_setList_11 (by decide) (by omega) (by omega) (fun c9 => ?_) (fun c9 => ?_)
    ·
      refine fr_aload_n h rfl 0 rfl dX8_setList_16 ?_
      refine fr_getc (z := (b + 1)) (iz := 0) h kX8 fX8_9 (St_at hb) rfl rfl (St_f0 hb) (by omega) dX8_setList_17 ?_
      refine fr_iload_n h rfl 1 rfl dX8_setList_20 ?_
      refine fr_iconst h dX8_setList_21 ?_
      refine fr_iast h (St_a1 hb) (by omega) (by omega) (St_r1 hb p) (by omega) (by omega) dX8_setList_22 ?_
      refine fr_mem (fun x10 m11 => ?_)
      refine fr_iconst h dX8_setList_23 ?_
      refine fr_istore (L' := [(0, vr G b), (1, vi p), (2, vr G 109), (3, vi w), (4, vi 0)]) h dX8_setList_24 (by decide) [1, 2, 3, 4, 0] rfl ?_
      have HL12 : ∀ (n12 : Nat) (l4_12 : Int) (x_12 : Mm), fm_r l4_12 → 0 ≤ l4_12 → l4_12 ≤ 6 → (∀ a : Int, (a < b ∨ b + 4 < a) → x_12 a = x10 a) → (6 - l4_12) < n12 → FW YC G C 5 x_12 26 [(0, vr G b), (1, vi p), (2, vr G 109), (3, vi w), (4, vi l4_12)] [] := by
        intro n12
        induction n12 with
        | zero =>
          intro l4_12 x_12 g12_0 g12_1 g12_2 g12_3 g12_4
          exfalso; omega
        | succ n12 ih12 =>
          intro l4_12 x_12 g12_0 g12_1 g12_2 g12_3 g12_4
          refine fr_iload h 4 rfl dX8_setList_26 ?_
          refine fr_iload_n h rfl 3 rfl dX8_setList_28 ?_
          refine fr_icmp_ge (tgt := 48) h dX8_setList_29 (by decide) (by omega) (by omega) (fun c13 => ?_) (fun c13 => ?_)
          ·
            refine fr_iload_n h rfl 3 rfl dX8_setList_48 ?_
            exact fr_iret h hq (by omega) ⟨(by omega), (fun a k0 => ((g12_3 a (by omega)).trans (fm_up_row m11 (by omega))))⟩ dX8_setList_49
          ·
            refine fr_aload_n h rfl 0 rfl dX8_setList_32 ?_
            refine fr_iload_n h rfl 1 rfl dX8_setList_33 ?_
            refine fr_aload_n h rfl 2 rfl dX8_setList_34 ?_
            refine fr_iload h 4 rfl dX8_setList_35 ?_
            refine fr_iald h ar_109 (by omega) (by omega) (rr_109 l4_12) dX8_setList_37 (fun z14 w15 w16 q17 => ?_)
            have r18 := q17.trans (congrFun (g12_3 109 (by omega)) l4_12)
            have r19 := r18.trans (fm_rd_k (a := 109) (b := l4_12) m11 (by omega))
            refine fr_cvI h kX8 (St_at hb) wX8_putNumber lX8_51 (c_X8_putNumber x_12 b hb p z14 (by omega) (by omega)) rfl (by decide) (by decide) rfl (Nat.le_of_ble_eq_true rfl) dX8_setList_38 (fun z21 x20 w22 p23 => ?_)
            obtain ⟨p24, p25, f26⟩ := p23
            refine fr_pop h rfl dX8_setList_41 ?_
            refine fr_iinc (j := 4) (L' := [(0, vr G b), (1, vi p), (2, vr G 109), (3, vi w), (4, vi (l4_12 + 1))]) h dX8_setList_42 rfl (by decide) [1, 2, 3, 4, 0] rfl ?_
            refine fr_goto (tgt := 26) h dX8_setList_45 (by decide) ?_
            exact ih12 (l4_12 + 1) x20 (by omega) (by omega) (by omega) (fun a k0 => ((f26 a (by omega)).trans (g12_3 a (by omega)))) (by omega)
      exact HL12 ((6 - 0) + 1 : Int).toNat 0 x10 (by omega) (by omega) (by omega) (fun a _ => rfl) (by omega)
    ·
      refine fr_iconst h dX8_setList_14 ?_
      exact fr_iret h hq (by omega) ⟨(by omega), (fun a _ => rfl)⟩ dX8_setList_15
set_option maxHeartbeats 200000 in
theorem c_X8_weight (x : Mm) (b : Int) (hb : isSt b) (p : Int) (w : Int) (h_p : fm_r p) (h_w : fm_r w) : CnI YC yX8_weight cX8_weight 3 .int 2 42 (fun G => [vr G b, vi p, vi w]) x (fun z y' => (0 ≤ z) ∧ (z ≤ 99) ∧ (y' = x)) := by
  refine cn_I (by decide) (fun _ => Nat.le_of_ble_eq_true rfl) (fun G C h hq => ?_)
  have h : OK YC G C cX8_weight RX8 3 (some .int) 2 42 := h
  show FW YC G C 3 x 0 [(0, vr G b), (1, vi p), (2, vi w)] []
  have h_b := St_b hb
  refine fr_iload_n h rfl 1 rfl dX8_weight_0 ?_
  refine fr_iload_n h rfl 2 rfl dX8_weight_1 ?_
  refine fr_csI h wX8_areTwoNodes lX8_58 (c_X8_areTwoNodes x p w (by omega) (by omega)) rfl (by decide) (by decide) rfl (Nat.le_of_ble_eq_true rfl) dX8_weight_2 (fun z2 x1 w3 p4 => ?_)
  obtain ⟨p5, p6, y7⟩ := p4
  rw [y7]
  clear y7
  refine fr_if_eq (tgt := 21) h dX8_weight_5 (by decide) (by omega) (fun c8 => ?_) (fun c8 => ?_)
  ·
    refine fr_iconst h dX8_weight_21 ?_
    exact fr_iret h hq (by omega) ⟨(by omega), (by omega), rfl⟩ dX8_weight_22
  ·
    refine fr_aload_n h rfl 0 rfl dX8_weight_8 ?_
    refine fr_getc (z := (b + 3)) (iz := 2) h kX8 fX8_18 (St_at hb) rfl rfl (St_f2 hb) (by omega) dX8_weight_9 ?_
    refine fr_iload_n h rfl 1 rfl dX8_weight_12 ?_
    refine fr_iload_n h rfl 2 rfl dX8_weight_13 ?_
    refine fr_csI h wX8_pairOf lX8_61 (c_X8_pairOf x p w (by omega) (by omega) (by omega) (by omega) (by omega) (by omega)) rfl (by decide) (by decide) rfl (Nat.le_of_ble_eq_true rfl) dX8_weight_14 (fun z10 x9 w11 p12 => ?_)
    obtain ⟨p13, p14, y15⟩ := p12
    rw [y15]
    clear y15
    refine fr_iald h (St_a3 hb) (by omega) (by omega) (St_r3 hb z10) dX8_weight_17 (fun z16 w17 w18 q19 => ?_)
    refine fr_goto (tgt := 22) h dX8_weight_18 (by decide) ?_
    exact fr_iret h hq (by omega) ⟨(by omega), (by omega), rfl⟩ dX8_weight_22
set_option maxHeartbeats 200000 in
theorem c_X8_edges (x : Mm) (b : Int) (hb : isSt b) : CnI YC yX8_edges cX8_edges 3 .int 0 0 (fun G => [vr G b]) x (fun z y' => (0 ≤ z) ∧ (z ≤ 49) ∧ (y' = x)) := by
  refine cn_I (by decide) (fun _ => Nat.le_of_ble_eq_true rfl) (fun G C h hq => ?_)
  have h : OK YC G C cX8_edges RX8 3 (some .int) 0 0 := h
  show FW YC G C 3 x 0 [(0, vr G b)] []
  have h_b := St_b hb
  refine fr_iconst h dX8_edges_0 ?_
  refine fr_istore_n (L' := [(0, vr G b), (1, vi 0)]) h rfl dX8_edges_1 (by decide) [1, 0] rfl ?_
  refine fr_iconst h dX8_edges_2 ?_
  refine fr_istore_n (L' := [(0, vr G b), (1, vi 0), (2, vi 0)]) h rfl dX8_edges_3 (by decide) [1, 2, 0] rfl ?_
  have HL1 : ∀ (n1 : Nat) (l1_1 l2_1 : Int), fm_r l1_1 → 0 ≤ l1_1 → l1_1 ≤ 49 → fm_r l2_1 → 0 ≤ l2_1 → l2_1 ≤ 49 → l1_1 ≤ l2_1 → (49 - l2_1) < n1 → FW YC G C 3 x 4 [(0, vr G b), (1, vi l1_1), (2, vi l2_1)] [] := by
    intro n1
    induction n1 with
    | zero =>
      intro l1_1 l2_1 g1_0 g1_1 g1_2 g1_3 g1_4 g1_5 g1_6 g1_7
      exfalso; omega
    | succ n1 ih1 =>
      intro l1_1 l2_1 g1_0 g1_1 g1_2 g1_3 g1_4 g1_5 g1_6 g1_7
      refine fr_iload_n h rfl 2 rfl dX8_edges_4 ?_
      refine fr_bipush h rfl dX8_edges_5 ?_
      refine fr_icmp_ge (tgt := 33) h dX8_edges_7 (by decide) (by omega) (by omega) (fun c2 => ?_) (fun c2 => ?_)
      ·
        refine fr_iload_n h rfl 1 rfl dX8_edges_33 ?_
        exact fr_iret h hq (by omega) ⟨(by omega), (by omega), rfl⟩ dX8_edges_34
      ·
        refine fr_iload_n h rfl 1 rfl dX8_edges_10 ?_
        refine fr_aload_n h rfl 0 rfl dX8_edges_11 ?_
        refine fr_getc (z := (b + 3)) (iz := 2) h kX8 fX8_18 (St_at hb) rfl rfl (St_f2 hb) (by omega) dX8_edges_12 ?_
        refine fr_iload_n h rfl 2 rfl dX8_edges_15 ?_
        refine fr_iald h (St_a3 hb) (by omega) (by omega) (St_r3 hb l2_1) dX8_edges_16 (fun z3 w4 w5 q6 => ?_)
        refine fr_if_le (tgt := 24) h dX8_edges_17 (by decide) (by omega) (fun c7 => ?_) (fun c7 => ?_)
        ·
          refine fr_iconst h dX8_edges_24 ?_
          refine fr_iadd h dX8_edges_25 ?_
          refine fr_istore_n (L' := [(0, vr G b), (1, vi (l1_1 + 0)), (2, vi l2_1)]) h rfl dX8_edges_26 (by decide) [1, 0, 2] rfl ?_
          refine fr_iinc (j := 2) (L' := [(0, vr G b), (1, vi (l1_1 + 0)), (2, vi (l2_1 + 1))]) h dX8_edges_27 rfl (by decide) [1, 2, 0] rfl ?_
          refine fr_goto (tgt := 4) h dX8_edges_30 (by decide) ?_
          exact ih1 (l1_1 + 0) (l2_1 + 1) (by omega) (by omega) (by omega) (by omega) (by omega) (by omega) (by omega) (by omega)
        ·
          refine fr_iconst h dX8_edges_20 ?_
          refine fr_goto (tgt := 25) h dX8_edges_21 (by decide) ?_
          refine fr_iadd h dX8_edges_25 ?_
          refine fr_istore_n (L' := [(0, vr G b), (1, vi (l1_1 + 1)), (2, vi l2_1)]) h rfl dX8_edges_26 (by decide) [1, 0, 2] rfl ?_
          refine fr_iinc (j := 2) (L' := [(0, vr G b), (1, vi (l1_1 + 1)), (2, vi (l2_1 + 1))]) h dX8_edges_27 rfl (by decide) [1, 2, 0] rfl ?_
          refine fr_goto (tgt := 4) h dX8_edges_30 (by decide) ?_
          exact ih1 (l1_1 + 1) (l2_1 + 1) (by omega) (by omega) (by omega) (by omega) (by omega) (by omega) (by omega) (by omega)
  exact HL1 ((49 - 0) + 1 : Int).toNat 0 0 (by omega) (by omega) (by omega) (by omega) (by omega) (by omega) (by omega) (by omega)
set_option maxHeartbeats 200000 in
theorem c_X8_pairOfEdge (x : Mm) (b : Int) (hb : isSt b) (p : Int) (h_p : fm_r p) : CnI YC yX8_pairOfEdge cX8_pairOfEdge 4 .int 0 0 (fun G => [vr G b, vi p]) x (fun z y' => ((-1) ≤ z) ∧ (z ≤ 48) ∧ (y' = x)) := by
  refine cn_I (by decide) (fun _ => Nat.le_of_ble_eq_true rfl) (fun G C h hq => ?_)
  have h : OK YC G C cX8_pairOfEdge RX8 4 (some .int) 0 0 := h
  show FW YC G C 4 x 0 [(0, vr G b), (1, vi p)] []
  have h_b := St_b hb
  refine fr_iconst h dX8_pairOfEdge_0 ?_
  refine fr_istore_n (L' := [(0, vr G b), (1, vi p), (2, vi 0)]) h rfl dX8_pairOfEdge_1 (by decide) [1, 2, 0] rfl ?_
  refine fr_iconst h dX8_pairOfEdge_2 ?_
  refine fr_istore_n (L' := [(0, vr G b), (1, vi p), (2, vi 0), (3, vi 0)]) h rfl dX8_pairOfEdge_3 (by decide) [1, 2, 3, 0] rfl ?_
  have HL1 : ∀ (n1 : Nat) (l2_1 l3_1 : Int), fm_r l2_1 → 0 ≤ l2_1 → l2_1 ≤ 49 → fm_r l3_1 → 0 ≤ l3_1 → l3_1 ≤ 49 → l2_1 ≤ l3_1 → (49 - l3_1) < n1 → FW YC G C 4 x 4 [(0, vr G b), (1, vi p), (2, vi l2_1), (3, vi l3_1)] [] := by
    intro n1
    induction n1 with
    | zero =>
      intro l2_1 l3_1 g1_0 g1_1 g1_2 g1_3 g1_4 g1_5 g1_6 g1_7
      exfalso; omega
    | succ n1 ih1 =>
      intro l2_1 l3_1 g1_0 g1_1 g1_2 g1_3 g1_4 g1_5 g1_6 g1_7
      refine fr_iload_n h rfl 3 rfl dX8_pairOfEdge_4 ?_
      refine fr_bipush h rfl dX8_pairOfEdge_5 ?_
      refine fr_icmp_ge (tgt := 35) h dX8_pairOfEdge_7 (by decide) (by omega) (by omega) (fun c2 => ?_) (fun c2 => ?_)
      ·
        refine fr_iconst h dX8_pairOfEdge_35 ?_
        exact fr_iret h hq (by omega) ⟨(by omega), (by omega), rfl⟩ dX8_pairOfEdge_36
      ·
        refine fr_aload_n h rfl 0 rfl dX8_pairOfEdge_10 ?_
        refine fr_getc (z := (b + 3)) (iz := 2) h kX8 fX8_18 (St_at hb) rfl rfl (St_f2 hb) (by omega) dX8_pairOfEdge_11 ?_
        refine fr_iload_n h rfl 3 rfl dX8_pairOfEdge_14 ?_
        refine fr_iald h (St_a3 hb) (by omega) (by omega) (St_r3 hb l3_1) dX8_pairOfEdge_15 (fun z3 w4 w5 q6 => ?_)
        refine fr_if_le (tgt := 29) h dX8_pairOfEdge_16 (by decide) (by omega) (fun c7 => ?_) (fun c7 => ?_)
        ·
          refine fr_iinc (j := 3) (L' := [(0, vr G b), (1, vi p), (2, vi l2_1), (3, vi (l3_1 + 1))]) h dX8_pairOfEdge_29 rfl (by decide) [1, 2, 3, 0] rfl ?_
          refine fr_goto (tgt := 4) h dX8_pairOfEdge_32 (by decide) ?_
          exact ih1 l2_1 (l3_1 + 1) (by omega) (by omega) (by omega) (by omega) (by omega) (by omega) (by omega) (by omega)
        ·
          refine fr_iload_n h rfl 2 rfl dX8_pairOfEdge_19 ?_
          refine fr_iload_n h rfl 1 rfl dX8_pairOfEdge_20 ?_
          refine fr_icmp_ne (tgt := 26) h dX8_pairOfEdge_21 (by decide) (by omega) (by omega) (fun c8 => ?_) (fun c8 => ?_)
          ·
            refine fr_iinc (j := 2) (L' := [(0, vr G b), (1, vi p), (2, vi (l2_1 + 1)), (3, vi l3_1)]) h dX8_pairOfEdge_26 rfl (by decide) [1, 2, 0, 3] rfl ?_
            refine fr_iinc (j := 3) (L' := [(0, vr G b), (1, vi p), (2, vi (l2_1 + 1)), (3, vi (l3_1 + 1))]) h dX8_pairOfEdge_29 rfl (by decide) [1, 2, 3, 0] rfl ?_
            refine fr_goto (tgt := 4) h dX8_pairOfEdge_32 (by decide) ?_
            exact ih1 (l2_1 + 1) (l3_1 + 1) (by omega) (by omega) (by omega) (by omega) (by omega) (by omega) (by omega) (by omega)
          ·
            refine fr_iload_n h rfl 3 rfl dX8_pairOfEdge_24 ?_
            exact fr_iret h hq (by omega) ⟨(by omega), (by omega), rfl⟩ dX8_pairOfEdge_25
  exact HL1 ((49 - 0) + 1 : Int).toNat 0 0 (by omega) (by omega) (by omega) (by omega) (by omega) (by omega) (by omega) (by omega)
set_option maxHeartbeats 200000 in
theorem c_X8_joinedNodes (x : Mm) (b : Int) (hb : isSt b) : CnI YC yX8_joinedNodes cX8_joinedNodes 3 .int 0 0 (fun G => [vr G b]) x (fun z y' => (y' = x)) := by
  refine cn_I (by decide) (fun _ => Nat.le_of_ble_eq_true rfl) (fun G C h hq => ?_)
  have h : OK YC G C cX8_joinedNodes RX8 3 (some .int) 0 0 := h
  show FW YC G C 3 x 0 [(0, vr G b)] []
  have h_b := St_b hb
  refine fr_iconst h dX8_joinedNodes_0 ?_
  refine fr_istore_n (L' := [(0, vr G b), (1, vi 0)]) h rfl dX8_joinedNodes_1 (by decide) [1, 0] rfl ?_
  refine fr_iconst h dX8_joinedNodes_2 ?_
  refine fr_istore_n (L' := [(0, vr G b), (1, vi 0), (2, vi 0)]) h rfl dX8_joinedNodes_3 (by decide) [1, 2, 0] rfl ?_
  have HL1 : ∀ (n1 : Nat) (l1_1 l2_1 : Int), fm_r l1_1 → fm_r l2_1 → 0 ≤ l2_1 → l2_1 ≤ 49 → (49 - l2_1) < n1 → FW YC G C 3 x 4 [(0, vr G b), (1, vi l1_1), (2, vi l2_1)] [] := by
    intro n1
    induction n1 with
    | zero =>
      intro l1_1 l2_1 g1_0 g1_1 g1_2 g1_3 g1_4
      exfalso; omega
    | succ n1 ih1 =>
      intro l1_1 l2_1 g1_0 g1_1 g1_2 g1_3 g1_4
      refine fr_iload_n h rfl 2 rfl dX8_joinedNodes_4 ?_
      refine fr_bipush h rfl dX8_joinedNodes_5 ?_
      refine fr_icmp_ge (tgt := 41) h dX8_joinedNodes_7 (by decide) (by omega) (by omega) (fun c2 => ?_) (fun c2 => ?_)
      ·
        refine fr_iload_n h rfl 1 rfl dX8_joinedNodes_41 ?_
        exact fr_iret h hq (by omega) rfl dX8_joinedNodes_42
      ·
        refine fr_aload_n h rfl 0 rfl dX8_joinedNodes_10 ?_
        refine fr_getc (z := (b + 3)) (iz := 2) h kX8 fX8_18 (St_at hb) rfl rfl (St_f2 hb) (by omega) dX8_joinedNodes_11 ?_
        refine fr_iload_n h rfl 2 rfl dX8_joinedNodes_14 ?_
        refine fr_iald h (St_a3 hb) (by omega) (by omega) (St_r3 hb l2_1) dX8_joinedNodes_15 (fun z3 w4 w5 q6 => ?_)
        refine fr_if_le (tgt := 35) h dX8_joinedNodes_16 (by decide) (by omega) (fun c7 => ?_) (fun c7 => ?_)
        ·
          refine fr_iinc (j := 2) (L' := [(0, vr G b), (1, vi l1_1), (2, vi (l2_1 + 1))]) h dX8_joinedNodes_35 rfl (by decide) [1, 2, 0] rfl ?_
          refine fr_goto (tgt := 4) h dX8_joinedNodes_38 (by decide) ?_
          exact ih1 l1_1 (l2_1 + 1) (by omega) (by omega) (by omega) (by omega) (by omega)
        ·
          refine fr_iload_n h rfl 1 rfl dX8_joinedNodes_19 ?_
          refine fr_iconst h dX8_joinedNodes_20 ?_
          refine fr_iload_n h rfl 2 rfl dX8_joinedNodes_21 ?_
          refine fr_bipush h rfl dX8_joinedNodes_22 ?_
          refine fr_idiv h (by omega) (by omega) (by omega) dX8_joinedNodes_24 (fun z8 w9 q10 w11 => ?_)
          have w12 := w11
          refine fr_ishl h dX8_joinedNodes_25 (fun z13 w14 q15 w16 => ?_)
          refine fr_iconst h dX8_joinedNodes_26 ?_
          refine fr_iload_n h rfl 2 rfl dX8_joinedNodes_27 ?_
          refine fr_bipush h rfl dX8_joinedNodes_28 ?_
          refine fr_irem h (by omega) (by omega) (by omega) dX8_joinedNodes_30 (fun z17 w18 q19 w20 => ?_)
          have w21 := w20
          refine fr_ishl h dX8_joinedNodes_31 (fun z22 w23 q24 w25 => ?_)
          refine fr_ior h dX8_joinedNodes_32 (fun z26 w27 q28 w29 => ?_)
          refine fr_ior h dX8_joinedNodes_33 (fun z30 w31 q32 w33 => ?_)
          refine fr_istore_n (L' := [(0, vr G b), (1, vi z30), (2, vi l2_1)]) h rfl dX8_joinedNodes_34 (by decide) [1, 0, 2] rfl ?_
          refine fr_iinc (j := 2) (L' := [(0, vr G b), (1, vi z30), (2, vi (l2_1 + 1))]) h dX8_joinedNodes_35 rfl (by decide) [1, 2, 0] rfl ?_
          refine fr_goto (tgt := 4) h dX8_joinedNodes_38 (by decide) ?_
          exact ih1 z30 (l2_1 + 1) (by omega) (by omega) (by omega) (by omega) (by omega)
  exact HL1 ((49 - 0) + 1 : Int).toNat 0 0 (by omega) (by omega) (by omega) (by omega) (by omega)
set_option maxHeartbeats 200000 in
theorem c_X8_joinNodes (x : Mm) (b : Int) (hb : isSt b) (p : Int) (w : Int) (v : Int) (h_p : fm_r p) (h_w : fm_r w) (h_v : fm_r v) : CnI YC yX8_joinNodes cX8_joinNodes 6 .int 2 42 (fun G => [vr G b, vi p, vi w, vi v]) x (fun z y' => ((-3) ≤ z) ∧ (z ≤ 49) ∧ (∀ a : Int, (a < b ∨ b + 4 < a) → y' a = x a)) := by
  refine cn_I (by decide) (fun _ => Nat.le_of_ble_eq_true rfl) (fun G C h hq => ?_)
  have h : OK YC G C cX8_joinNodes RX8 6 (some .int) 2 42 := h
  show FW YC G C 6 x 0 [(0, vr G b), (1, vi p), (2, vi w), (3, vi v)] []
  have h_b := St_b hb
  refine fr_iload_n h rfl 1 rfl dX8_joinNodes_0 ?_
  refine fr_iload_n h rfl 2 rfl dX8_joinNodes_1 ?_
  refine fr_csI h wX8_areTwoNodes lX8_58 (c_X8_areTwoNodes x p w (by omega) (by omega)) rfl (by decide) (by decide) rfl (Nat.le_of_ble_eq_true rfl) dX8_joinNodes_2 (fun z2 x1 w3 p4 => ?_)
  obtain ⟨p5, p6, y7⟩ := p4
  rw [y7]
  clear y7
  refine fr_if_eq (tgt := 17) h dX8_joinNodes_5 (by decide) (by omega) (fun c8 => ?_) (fun c8 => ?_)
  ·
    refine fr_iconst h dX8_joinNodes_17 ?_
    exact fr_iret h hq (by omega) ⟨(by omega), (by omega), (fun a _ => rfl)⟩ dX8_joinNodes_18
  ·
    refine fr_iload_n h rfl 3 rfl dX8_joinNodes_8 ?_
    refine fr_bipush h rfl dX8_joinNodes_9 ?_
    refine fr_csI h wX8_isBelow lX8_43 (c_X8_isBelow x v 100 (by omega) (by omega)) rfl (by decide) (by decide) rfl (Nat.le_of_ble_eq_true rfl) dX8_joinNodes_11 (fun z10 x9 w11 p12 => ?_)
    obtain ⟨p13, p14, y15⟩ := p12
    rw [y15]
    clear y15
    refine fr_if_ne (tgt := 19) h dX8_joinNodes_14 (by decide) (by omega) (fun c16 => ?_) (fun c16 => ?_)
    ·
      refine fr_iload_n h rfl 1 rfl dX8_joinNodes_19 ?_
      refine fr_iload_n h rfl 2 rfl dX8_joinNodes_20 ?_
      refine fr_csI h wX8_pairOf lX8_61 (c_X8_pairOf x p w (by omega) (by omega) (by omega) (by omega) (by omega) (by omega)) rfl (by decide) (by decide) rfl (Nat.le_of_ble_eq_true rfl) dX8_joinNodes_21 (fun z18 x17 w19 p20 => ?_)
      obtain ⟨p21, p22, y23⟩ := p20
      rw [y23]
      clear y23
      refine fr_istore (L' := [(0, vr G b), (1, vi p), (2, vi w), (3, vi v), (4, vi z18)]) h dX8_joinNodes_24 (by decide) [1, 2, 3, 4, 0] rfl ?_
      refine fr_aload_n h rfl 0 rfl dX8_joinNodes_26 ?_
      refine fr_getc (z := (b + 3)) (iz := 2) h kX8 fX8_18 (St_at hb) rfl rfl (St_f2 hb) (by omega) dX8_joinNodes_27 ?_
      refine fr_iload h 4 rfl dX8_joinNodes_30 ?_
      refine fr_iald h (St_a3 hb) (by omega) (by omega) (St_r3 hb z18) dX8_joinNodes_32 (fun z24 w25 w26 q27 => ?_)
      refine fr_if_le (tgt := 40) h dX8_joinNodes_33 (by decide) (by omega) (fun c28 => ?_) (fun c28 => ?_)
      ·
        refine fr_iconst h dX8_joinNodes_40 ?_
        refine fr_istore (L' := [(0, vr G b), (1, vi p), (2, vi w), (3, vi v), (4, vi z18), (5, vi 0)]) h dX8_joinNodes_41 (by decide) [1, 2, 3, 4, 5, 0] rfl ?_
        refine fr_iload_n h rfl 3 rfl dX8_joinNodes_43 ?_
        refine fr_if_ne (tgt := 55) h dX8_joinNodes_44 (by decide) (by omega) (fun c29 => ?_) (fun c29 => ?_)
        ·
          refine fr_iload h 5 rfl dX8_joinNodes_55 ?_
          refine fr_if_ne (tgt := 72) h dX8_joinNodes_57 (by decide) (by omega) (fun c30 => by exfalso; omega) (fun c30 => ?_)
          refine fr_aload_n h rfl 0 rfl dX8_joinNodes_60 ?_
          refine fr_cvI h kX8 (St_at hb) wX8_edges lX8_64 (c_X8_edges x b hb) rfl (by decide) (by decide) rfl (Nat.le_of_ble_eq_true rfl) dX8_joinNodes_61 (fun z32 x31 w33 p34 => ?_)
          obtain ⟨p35, p36, y37⟩ := p34
          rw [y37]
          clear y37
          refine fr_bipush h rfl dX8_joinNodes_64 ?_
          refine fr_icmp_lt (tgt := 72) h dX8_joinNodes_66 (by decide) (by omega) (by omega) (fun c38 => ?_) (fun c38 => ?_)
          ·
            refine fr_aload_n h rfl 0 rfl dX8_joinNodes_72 ?_
            refine fr_getc (z := (b + 3)) (iz := 2) h kX8 fX8_18 (St_at hb) rfl rfl (St_f2 hb) (by omega) dX8_joinNodes_73 ?_
            refine fr_iload h 4 rfl dX8_joinNodes_76 ?_
            refine fr_iload_n h rfl 3 rfl dX8_joinNodes_78 ?_
            refine fr_iast h (St_a3 hb) (by omega) (by omega) (St_r3 hb z18) (by omega) (by omega) dX8_joinNodes_79 ?_
            refine fr_mem (fun x39 m40 => ?_)
            refine fr_aload_n h rfl 0 rfl dX8_joinNodes_80 ?_
            refine fr_cvI h kX8 (St_at hb) wX8_edges lX8_64 (c_X8_edges x39 b hb) rfl (by decide) (by decide) rfl (Nat.le_of_ble_eq_true rfl) dX8_joinNodes_81 (fun z42 x41 w43 p44 => ?_)
            obtain ⟨p45, p46, y47⟩ := p44
            rw [y47]
            clear y47
            exact fr_iret h hq (by omega) ⟨(by omega), (by omega), (fun a k0 => (fm_up_row m40 (by omega)))⟩ dX8_joinNodes_84
          ·
            refine fr_bipush h rfl dX8_joinNodes_69 ?_
            exact fr_iret h hq (by omega) ⟨(by omega), (by omega), (fun a _ => rfl)⟩ dX8_joinNodes_71
        ·
          refine fr_iload h 5 rfl dX8_joinNodes_47 ?_
          refine fr_if_ne (tgt := 55) h dX8_joinNodes_49 (by decide) (by omega) (fun c48 => by exfalso; omega) (fun c48 => ?_)
          refine fr_bipush h rfl dX8_joinNodes_52 ?_
          exact fr_iret h hq (by omega) ⟨(by omega), (by omega), (fun a _ => rfl)⟩ dX8_joinNodes_54
      ·
        refine fr_iconst h dX8_joinNodes_36 ?_
        refine fr_goto (tgt := 41) h dX8_joinNodes_37 (by decide) ?_
        refine fr_istore (L' := [(0, vr G b), (1, vi p), (2, vi w), (3, vi v), (4, vi z18), (5, vi 1)]) h dX8_joinNodes_41 (by decide) [1, 2, 3, 4, 5, 0] rfl ?_
        refine fr_iload_n h rfl 3 rfl dX8_joinNodes_43 ?_
        refine fr_if_ne (tgt := 55) h dX8_joinNodes_44 (by decide) (by omega) (fun c49 => ?_) (fun c49 => ?_)
        ·
          refine fr_iload h 5 rfl dX8_joinNodes_55 ?_
          refine fr_if_ne (tgt := 72) h dX8_joinNodes_57 (by decide) (by omega) (fun c50 => ?_) (fun c50 => by exfalso; omega)
          refine fr_aload_n h rfl 0 rfl dX8_joinNodes_72 ?_
          refine fr_getc (z := (b + 3)) (iz := 2) h kX8 fX8_18 (St_at hb) rfl rfl (St_f2 hb) (by omega) dX8_joinNodes_73 ?_
          refine fr_iload h 4 rfl dX8_joinNodes_76 ?_
          refine fr_iload_n h rfl 3 rfl dX8_joinNodes_78 ?_
          refine fr_iast h (St_a3 hb) (by omega) (by omega) (St_r3 hb z18) (by omega) (by omega) dX8_joinNodes_79 ?_
          refine fr_mem (fun x51 m52 => ?_)
          refine fr_aload_n h rfl 0 rfl dX8_joinNodes_80 ?_
          refine fr_cvI h kX8 (St_at hb) wX8_edges lX8_64 (c_X8_edges x51 b hb) rfl (by decide) (by decide) rfl (Nat.le_of_ble_eq_true rfl) dX8_joinNodes_81 (fun z54 x53 w55 p56 => ?_)
          obtain ⟨p57, p58, y59⟩ := p56
          rw [y59]
          clear y59
          exact fr_iret h hq (by omega) ⟨(by omega), (by omega), (fun a k0 => (fm_up_row m52 (by omega)))⟩ dX8_joinNodes_84
        ·
          refine fr_iload h 5 rfl dX8_joinNodes_47 ?_
          refine fr_if_ne (tgt := 55) h dX8_joinNodes_49 (by decide) (by omega) (fun c60 => ?_) (fun c60 => by exfalso; omega)
          refine fr_iload h 5 rfl dX8_joinNodes_55 ?_
          refine fr_if_ne (tgt := 72) h dX8_joinNodes_57 (by decide) (by omega) (fun c61 => ?_) (fun c61 => by exfalso; omega)
          refine fr_aload_n h rfl 0 rfl dX8_joinNodes_72 ?_
          refine fr_getc (z := (b + 3)) (iz := 2) h kX8 fX8_18 (St_at hb) rfl rfl (St_f2 hb) (by omega) dX8_joinNodes_73 ?_
          refine fr_iload h 4 rfl dX8_joinNodes_76 ?_
          refine fr_iload_n h rfl 3 rfl dX8_joinNodes_78 ?_
          refine fr_iast h (St_a3 hb) (by omega) (by omega) (St_r3 hb z18) (by omega) (by omega) dX8_joinNodes_79 ?_
          refine fr_mem (fun x62 m63 => ?_)
          refine fr_aload_n h rfl 0 rfl dX8_joinNodes_80 ?_
          refine fr_cvI h kX8 (St_at hb) wX8_edges lX8_64 (c_X8_edges x62 b hb) rfl (by decide) (by decide) rfl (Nat.le_of_ble_eq_true rfl) dX8_joinNodes_81 (fun z65 x64 w66 p67 => ?_)
          obtain ⟨p68, p69, y70⟩ := p67
          rw [y70]
          clear y70
          exact fr_iret h hq (by omega) ⟨(by omega), (by omega), (fun a k0 => (fm_up_row m63 (by omega)))⟩ dX8_joinNodes_84
    ·
      refine fr_iconst h dX8_joinNodes_17 ?_
      exact fr_iret h hq (by omega) ⟨(by omega), (by omega), (fun a _ => rfl)⟩ dX8_joinNodes_18
set_option maxHeartbeats 200000 in
theorem c_X8_entry (x : Mm) (p : Int) (v : Int) (h_p : fm_r p) (h_v : fm_r v) : CnI YC yX8_entry cX8_entry 3 .int 1 21 (fun G => [vi p, vi v]) x (fun z y' => (1 ≤ z) ∧ (z ≤ 99) ∧ (y' = x)) := by
  refine cn_I (by decide) (fun _ => Nat.le_of_ble_eq_true rfl) (fun G C h hq => ?_)
  have h : OK YC G C cX8_entry RX8 3 (some .int) 1 21 := h
  show FW YC G C 3 x 0 [(0, vi p), (1, vi v)] []
  refine fr_iload_n h rfl 1 rfl dX8_entry_0 ?_
  refine fr_istore_n (L' := [(0, vi p), (1, vi v), (2, vi v)]) h rfl dX8_entry_1 (by decide) [1, 2, 0] rfl ?_
  refine fr_iload_n h rfl 0 rfl dX8_entry_2 ?_
  refine fr_if_ne (tgt := 12) h dX8_entry_3 (by decide) (by omega) (fun c1 => ?_) (fun c1 => ?_)
  ·
    refine fr_iload_n h rfl 0 rfl dX8_entry_12 ?_
    refine fr_iconst h dX8_entry_13 ?_
    refine fr_icmp_ne (tgt := 20) h dX8_entry_14 (by decide) (by omega) (by omega) (fun c2 => ?_) (fun c2 => ?_)
    ·
      refine fr_iconst h dX8_entry_20 ?_
      refine fr_bipush h rfl dX8_entry_21 ?_
      refine fr_iload_n h rfl 2 rfl dX8_entry_23 ?_
      refine fr_mmin h (by omega) (by omega) (tb_2 (i := 207) (by decide +kernel) (by decide +kernel)) w_mmin (by decide) (by decide) (Nat.le_of_ble_eq_true rfl) dX8_entry_24 (fun z3 w4 w5 w6 => ?_)
      refine fr_mmax h (by omega) (by omega) (tb_2 (i := 208) (by decide +kernel) (by decide +kernel)) w_mmax (by decide) (by decide) (Nat.le_of_ble_eq_true rfl) dX8_entry_27 (fun z7 w8 w9 w10 => ?_)
      exact fr_iret h hq (by omega) ⟨(by omega), (by omega), rfl⟩ dX8_entry_30
    ·
      refine fr_iload_n h rfl 1 rfl dX8_entry_17 ?_
      refine fr_i2s h dX8_entry_18 (fun z11 w12 q13 w14 => ?_)
      refine fr_istore_n (L' := [(0, vi p), (1, vi v), (2, vi z11)]) h rfl dX8_entry_19 (by decide) [1, 2, 0] rfl ?_
      refine fr_iconst h dX8_entry_20 ?_
      refine fr_bipush h rfl dX8_entry_21 ?_
      refine fr_iload_n h rfl 2 rfl dX8_entry_23 ?_
      refine fr_mmin h (by omega) (by omega) (tb_2 (i := 207) (by decide +kernel) (by decide +kernel)) w_mmin (by decide) (by decide) (Nat.le_of_ble_eq_true rfl) dX8_entry_24 (fun z15 w16 w17 w18 => ?_)
      refine fr_mmax h (by omega) (by omega) (tb_2 (i := 208) (by decide +kernel) (by decide +kernel)) w_mmax (by decide) (by decide) (Nat.le_of_ble_eq_true rfl) dX8_entry_27 (fun z19 w20 w21 w22 => ?_)
      exact fr_iret h hq (by omega) ⟨(by omega), (by omega), rfl⟩ dX8_entry_30
  ·
    refine fr_iload_n h rfl 1 rfl dX8_entry_6 ?_
    refine fr_i2b h dX8_entry_7 (fun z23 w24 q25 w26 => ?_)
    refine fr_istore_n (L' := [(0, vi p), (1, vi v), (2, vi z23)]) h rfl dX8_entry_8 (by decide) [1, 2, 0] rfl ?_
    refine fr_goto (tgt := 20) h dX8_entry_9 (by decide) ?_
    refine fr_iconst h dX8_entry_20 ?_
    refine fr_bipush h rfl dX8_entry_21 ?_
    refine fr_iload_n h rfl 2 rfl dX8_entry_23 ?_
    refine fr_mmin h (by omega) (by omega) (tb_2 (i := 207) (by decide +kernel) (by decide +kernel)) w_mmin (by decide) (by decide) (Nat.le_of_ble_eq_true rfl) dX8_entry_24 (fun z27 w28 w29 w30 => ?_)
    refine fr_mmax h (by omega) (by omega) (tb_2 (i := 208) (by decide +kernel) (by decide +kernel)) w_mmax (by decide) (by decide) (Nat.le_of_ble_eq_true rfl) dX8_entry_27 (fun z31 w32 w33 w34 => ?_)
    exact fr_iret h hq (by omega) ⟨(by omega), (by omega), rfl⟩ dX8_entry_30
set_option maxHeartbeats 200000 in
theorem c_X8_weigh (x : Mm) (b : Int) (hb : isSt b) (p : Int) (w : Int) (v : Int) (u : Int) (h_p : fm_r p) (h_w : fm_r w) (h_v : fm_r v) (h_u : fm_r u) : CnI YC yX8_weigh cX8_weigh 8 .int 2 43 (fun G => [vr G b, vi p, vi w, vi v, vi u]) x (fun z y' => (∀ a : Int, (a < b ∨ b + 4 < a) → y' a = x a)) := by
  refine cn_I (by decide) (fun _ => Nat.le_of_ble_eq_true rfl) (fun G C h hq => ?_)
  have h : OK YC G C cX8_weigh RX8 8 (some .int) 2 43 := h
  show FW YC G C 8 x 0 [(0, vr G b), (1, vi p), (2, vi w), (3, vi v), (4, vi u)] []
  have h_b := St_b hb
  refine fr_iconst h dX8_weigh_0 ?_
  refine fr_istore (L' := [(0, vr G b), (1, vi p), (2, vi w), (3, vi v), (4, vi u), (5, vi 0)]) h dX8_weigh_1 (by decide) [1, 2, 3, 4, 5, 0] rfl ?_
  refine fr_iconst h dX8_weigh_3 ?_
  refine fr_istore (L' := [(0, vr G b), (1, vi p), (2, vi w), (3, vi v), (4, vi u), (5, vi 0), (6, vi 0)]) h dX8_weigh_4 (by decide) [1, 2, 3, 4, 5, 6, 0] rfl ?_
  refine fr_iconst h dX8_weigh_6 ?_
  refine fr_istore (L' := [(0, vr G b), (1, vi p), (2, vi w), (3, vi v), (4, vi u), (5, vi 0), (6, vi 0), (7, vi 0)]) h dX8_weigh_7 (by decide) [1, 2, 3, 4, 5, 6, 7, 0] rfl ?_
  have HL1 : ∀ (n1 : Nat) (l5_1 l6_1 l7_1 : Int) (x_1 : Mm), fm_r l5_1 → 0 ≤ l5_1 → l5_1 ≤ 4851 → fm_r l6_1 → 0 ≤ l6_1 → l6_1 ≤ 49 → fm_r l7_1 → 0 ≤ l7_1 → l7_1 ≤ 49 → l6_1 ≤ l7_1 → l5_1 ≤ 99 * l6_1 → (∀ a : Int, (a < b ∨ b + 4 < a) → x_1 a = x a) → (49 - l7_1) < n1 → FW YC G C 8 x_1 9 [(0, vr G b), (1, vi p), (2, vi w), (3, vi v), (4, vi u), (5, vi l5_1), (6, vi l6_1), (7, vi l7_1)] [] := by
    intro n1
    induction n1 with
    | zero =>
      intro l5_1 l6_1 l7_1 x_1 g1_0 g1_1 g1_2 g1_3 g1_4 g1_5 g1_6 g1_7 g1_8 g1_9 g1_10 g1_11 g1_12
      exfalso; omega
    | succ n1 ih1 =>
      intro l5_1 l6_1 l7_1 x_1 g1_0 g1_1 g1_2 g1_3 g1_4 g1_5 g1_6 g1_7 g1_8 g1_9 g1_10 g1_11 g1_12
      refine fr_iload h 7 rfl dX8_weigh_9 ?_
      refine fr_bipush h rfl dX8_weigh_11 ?_
      refine fr_icmp_ge (tgt := 75) h dX8_weigh_13 (by decide) (by omega) (by omega) (fun c2 => ?_) (fun c2 => ?_)
      ·
        refine fr_iload h 5 rfl dX8_weigh_75 ?_
        exact fr_iret h hq (by omega) (fun a k0 => (g1_11 a (by omega))) dX8_weigh_77
      ·
        refine fr_aload_n h rfl 0 rfl dX8_weigh_16 ?_
        refine fr_getc (z := (b + 3)) (iz := 2) h kX8 fX8_18 (St_at hb) rfl rfl (St_f2 hb) (by omega) dX8_weigh_17 ?_
        refine fr_iload h 7 rfl dX8_weigh_20 ?_
        refine fr_iald h (St_a3 hb) (by omega) (by omega) (St_r3 hb l7_1) dX8_weigh_22 (fun z3 w4 w5 q6 => ?_)
        refine fr_if_le (tgt := 69) h dX8_weigh_23 (by decide) (by omega) (fun c7 => ?_) (fun c7 => ?_)
        ·
          refine fr_iinc (j := 7) (L' := [(0, vr G b), (1, vi p), (2, vi w), (3, vi v), (4, vi u), (5, vi l5_1), (6, vi l6_1), (7, vi (l7_1 + 1))]) h dX8_weigh_69 rfl (by decide) [1, 2, 3, 4, 5, 6, 7, 0] rfl ?_
          refine fr_goto (tgt := 9) h dX8_weigh_72 (by decide) ?_
          exact ih1 l5_1 l6_1 (l7_1 + 1) x_1 (by omega) (by omega) (by omega) (by omega) (by omega) (by omega) (by omega) (by omega) (by omega) (by omega) (by omega) (fun a k0 => (g1_11 a (by omega))) (by omega)
        ·
          refine fr_aload_n h rfl 0 rfl dX8_weigh_26 ?_
          refine fr_getc (z := (b + 3)) (iz := 2) h kX8 fX8_18 (St_at hb) rfl rfl (St_f2 hb) (by omega) dX8_weigh_27 ?_
          refine fr_iload h 7 rfl dX8_weigh_30 ?_
          refine fr_iload h 6 rfl dX8_weigh_32 ?_
          refine fr_iload_n h rfl 2 rfl dX8_weigh_34 ?_
          refine fr_icmp_ge (tgt := 52) h dX8_weigh_35 (by decide) (by omega) (by omega) (fun c8 => ?_) (fun c8 => ?_)
          ·
            refine fr_iconst h dX8_weigh_52 ?_
            refine fr_iast h (St_a3 hb) (by omega) (by omega) (St_r3 hb l7_1) (by omega) (by omega) dX8_weigh_53 ?_
            refine fr_mem (fun x9 m10 => ?_)
            refine fr_iload h 5 rfl dX8_weigh_54 ?_
            refine fr_aload_n h rfl 0 rfl dX8_weigh_56 ?_
            refine fr_getc (z := (b + 3)) (iz := 2) h kX8 fX8_18 (St_at hb) rfl rfl (St_f2 hb) (by omega) dX8_weigh_57 ?_
            refine fr_iload h 7 rfl dX8_weigh_60 ?_
            refine fr_iald h (St_a3 hb) (by omega) (by omega) (St_r3 hb l7_1) dX8_weigh_62 (fun z11 w12 w13 q14 => ?_)
            have r15 := q14.trans (fm_rd_s m10)
            refine fr_iadd h dX8_weigh_63 ?_
            refine fr_istore (L' := [(0, vr G b), (1, vi p), (2, vi w), (3, vi v), (4, vi u), (5, vi (l5_1 + z11)), (6, vi l6_1), (7, vi l7_1)]) h dX8_weigh_64 (by decide) [1, 2, 3, 4, 5, 0, 6, 7] rfl ?_
            refine fr_iinc (j := 6) (L' := [(0, vr G b), (1, vi p), (2, vi w), (3, vi v), (4, vi u), (5, vi (l5_1 + z11)), (6, vi (l6_1 + 1)), (7, vi l7_1)]) h dX8_weigh_66 rfl (by decide) [1, 2, 3, 4, 5, 6, 0, 7] rfl ?_
            refine fr_iinc (j := 7) (L' := [(0, vr G b), (1, vi p), (2, vi w), (3, vi v), (4, vi u), (5, vi (l5_1 + z11)), (6, vi (l6_1 + 1)), (7, vi (l7_1 + 1))]) h dX8_weigh_69 rfl (by decide) [1, 2, 3, 4, 5, 6, 7, 0] rfl ?_
            refine fr_goto (tgt := 9) h dX8_weigh_72 (by decide) ?_
            exact ih1 (l5_1 + z11) (l6_1 + 1) (l7_1 + 1) x9 (by omega) (by omega) (by omega) (by omega) (by omega) (by omega) (by omega) (by omega) (by omega) (by omega) (by omega) (fun a k0 => ((fm_up_row m10 (by omega)).trans (g1_11 a (by omega)))) (by omega)
          ·
            refine fr_iload_n h rfl 1 rfl dX8_weigh_38 ?_
            refine fr_iload_n h rfl 3 rfl dX8_weigh_39 ?_
            refine fr_iload h 6 rfl dX8_weigh_40 ?_
            refine fr_iload h 4 rfl dX8_weigh_42 ?_
            refine fr_imul h dX8_weigh_44 ?_
            refine fr_normi (fun z16 w17 q18 => ?_)
            have w19 : fm_r ((l6_1 * u)) → z16 = (l6_1 * u) := fun q => (iI_inj q w17 q18).symm
            refine fr_iadd h dX8_weigh_45 ?_
            refine fr_normi (fun z20 w21 q22 => ?_)
            have w23 : fm_r ((v + z16)) → z20 = (v + z16) := fun q => (iI_inj q w21 q22).symm
            refine fr_csI h wX8_entry lX8_68 (c_X8_entry x_1 p z20 (by omega) (by omega)) rfl (by decide) (by decide) rfl (Nat.le_of_ble_eq_true rfl) dX8_weigh_46 (fun z25 x24 w26 p27 => ?_)
            obtain ⟨p28, p29, y30⟩ := p27
            rw [y30]
            clear y30
            refine fr_goto (tgt := 53) h dX8_weigh_49 (by decide) ?_
            refine fr_iast h (St_a3 hb) (by omega) (by omega) (St_r3 hb l7_1) (by omega) (by omega) dX8_weigh_53 ?_
            refine fr_mem (fun x31 m32 => ?_)
            refine fr_iload h 5 rfl dX8_weigh_54 ?_
            refine fr_aload_n h rfl 0 rfl dX8_weigh_56 ?_
            refine fr_getc (z := (b + 3)) (iz := 2) h kX8 fX8_18 (St_at hb) rfl rfl (St_f2 hb) (by omega) dX8_weigh_57 ?_
            refine fr_iload h 7 rfl dX8_weigh_60 ?_
            refine fr_iald h (St_a3 hb) (by omega) (by omega) (St_r3 hb l7_1) dX8_weigh_62 (fun z33 w34 w35 q36 => ?_)
            have r37 := q36.trans (fm_rd_s m32)
            refine fr_iadd h dX8_weigh_63 ?_
            refine fr_istore (L' := [(0, vr G b), (1, vi p), (2, vi w), (3, vi v), (4, vi u), (5, vi (l5_1 + z33)), (6, vi l6_1), (7, vi l7_1)]) h dX8_weigh_64 (by decide) [1, 2, 3, 4, 5, 0, 6, 7] rfl ?_
            refine fr_iinc (j := 6) (L' := [(0, vr G b), (1, vi p), (2, vi w), (3, vi v), (4, vi u), (5, vi (l5_1 + z33)), (6, vi (l6_1 + 1)), (7, vi l7_1)]) h dX8_weigh_66 rfl (by decide) [1, 2, 3, 4, 5, 6, 0, 7] rfl ?_
            refine fr_iinc (j := 7) (L' := [(0, vr G b), (1, vi p), (2, vi w), (3, vi v), (4, vi u), (5, vi (l5_1 + z33)), (6, vi (l6_1 + 1)), (7, vi (l7_1 + 1))]) h dX8_weigh_69 rfl (by decide) [1, 2, 3, 4, 5, 6, 7, 0] rfl ?_
            refine fr_goto (tgt := 9) h dX8_weigh_72 (by decide) ?_
            exact ih1 (l5_1 + z33) (l6_1 + 1) (l7_1 + 1) x31 (by omega) (by omega) (by omega) (by omega) (by omega) (by omega) (by omega) (by omega) (by omega) (by omega) (by omega) (fun a k0 => ((fm_up_row m32 (by omega)).trans (g1_11 a (by omega)))) (by omega)
  exact HL1 ((49 - 0) + 1 : Int).toNat 0 0 0 x (by omega) (by omega) (by omega) (by omega) (by omega) (by omega) (by omega) (by omega) (by omega) (by omega) (by omega) (fun a _ => rfl) (by omega)
set_option maxHeartbeats 200000 in
theorem c_X8_setCost (x : Mm) (b : Int) (hb : isSt b) (p : Int) (w : Int) (v : Int) (h_p : fm_r p) (h_w : fm_r w) (h_v : fm_r v) : CnI YC yX8_setCost cX8_setCost 5 .int 1 21 (fun G => [vr G b, vi p, vi w, vi v]) x (fun z y' => ((-1) ≤ z) ∧ (z ≤ 99) ∧ (∀ a : Int, (a < b ∨ b + 4 < a) → y' a = x a)) := by
  refine cn_I (by decide) (fun _ => Nat.le_of_ble_eq_true rfl) (fun G C h hq => ?_)
  have h : OK YC G C cX8_setCost RX8 5 (some .int) 1 21 := h
  show FW YC G C 5 x 0 [(0, vr G b), (1, vi p), (2, vi w), (3, vi v)] []
  have h_b := St_b hb
  refine fr_iload_n h rfl 1 rfl dX8_setCost_0 ?_
  refine fr_iconst h dX8_setCost_1 ?_
  refine fr_csI h wX8_isBelow lX8_43 (c_X8_isBelow x p 5 (by omega) (by omega)) rfl (by decide) (by decide) rfl (Nat.le_of_ble_eq_true rfl) dX8_setCost_2 (fun z2 x1 w3 p4 => ?_)
  obtain ⟨p5, p6, y7⟩ := p4
  rw [y7]
  clear y7
  refine fr_if_eq (tgt := 25) h dX8_setCost_5 (by decide) (by omega) (fun c8 => ?_) (fun c8 => ?_)
  ·
    refine fr_iconst h dX8_setCost_25 ?_
    exact fr_iret h hq (by omega) ⟨(by omega), (by omega), (fun a _ => rfl)⟩ dX8_setCost_26
  ·
    refine fr_iload_n h rfl 2 rfl dX8_setCost_8 ?_
    refine fr_iconst h dX8_setCost_9 ?_
    refine fr_csI h wX8_isBelow lX8_43 (c_X8_isBelow x w 5 (by omega) (by omega)) rfl (by decide) (by decide) rfl (Nat.le_of_ble_eq_true rfl) dX8_setCost_10 (fun z10 x9 w11 p12 => ?_)
    obtain ⟨p13, p14, y15⟩ := p12
    rw [y15]
    clear y15
    refine fr_if_eq (tgt := 25) h dX8_setCost_13 (by decide) (by omega) (fun c16 => ?_) (fun c16 => ?_)
    ·
      refine fr_iconst h dX8_setCost_25 ?_
      exact fr_iret h hq (by omega) ⟨(by omega), (by omega), (fun a _ => rfl)⟩ dX8_setCost_26
    ·
      refine fr_iload_n h rfl 3 rfl dX8_setCost_16 ?_
      refine fr_bipush h rfl dX8_setCost_17 ?_
      refine fr_csI h wX8_isBelow lX8_43 (c_X8_isBelow x v 100 (by omega) (by omega)) rfl (by decide) (by decide) rfl (Nat.le_of_ble_eq_true rfl) dX8_setCost_19 (fun z18 x17 w19 p20 => ?_)
      obtain ⟨p21, p22, y23⟩ := p20
      rw [y23]
      clear y23
      refine fr_if_ne (tgt := 27) h dX8_setCost_22 (by decide) (by omega) (fun c24 => ?_) (fun c24 => ?_)
      ·
        refine fr_aload_n h rfl 0 rfl dX8_setCost_27 ?_
        refine fr_getc (z := (b + 4)) (iz := 3) h kX8 fX8_21 (St_at hb) rfl rfl (St_f3 hb) (by omega) dX8_setCost_28 ?_
        refine fr_iload_n h rfl 1 rfl dX8_setCost_31 ?_
        refine fr_iconst h dX8_setCost_32 ?_
        refine fr_imul h dX8_setCost_33 ?_
        refine fr_normi (fun z25 w26 q27 => ?_)
        have w28 : fm_r ((p * 5)) → z25 = (p * 5) := fun q => (iI_inj q w26 q27).symm
        refine fr_iload_n h rfl 2 rfl dX8_setCost_34 ?_
        refine fr_iadd h dX8_setCost_35 ?_
        refine fr_normi (fun z29 w30 q31 => ?_)
        have w32 : fm_r ((z25 + w)) → z29 = (z25 + w) := fun q => (iI_inj q w30 q31).symm
        refine fr_iald h (St_a4 hb) (by omega) (by omega) (St_r4 hb z29) dX8_setCost_36 (fun z33 w34 w35 q36 => ?_)
        refine fr_istore (L' := [(0, vr G b), (1, vi p), (2, vi w), (3, vi v), (4, vi z33)]) h dX8_setCost_37 (by decide) [1, 2, 3, 4, 0] rfl ?_
        refine fr_aload_n h rfl 0 rfl dX8_setCost_39 ?_
        refine fr_getc (z := (b + 4)) (iz := 3) h kX8 fX8_21 (St_at hb) rfl rfl (St_f3 hb) (by omega) dX8_setCost_40 ?_
        refine fr_iload_n h rfl 1 rfl dX8_setCost_43 ?_
        refine fr_iconst h dX8_setCost_44 ?_
        refine fr_imul h dX8_setCost_45 ?_
        refine fr_normi (fun z37 w38 q39 => ?_)
        have w40 : fm_r ((p * 5)) → z37 = (p * 5) := fun q => (iI_inj q w38 q39).symm
        refine fr_iload_n h rfl 2 rfl dX8_setCost_46 ?_
        refine fr_iadd h dX8_setCost_47 ?_
        refine fr_normi (fun z41 w42 q43 => ?_)
        have w44 : fm_r ((z37 + w)) → z41 = (z37 + w) := fun q => (iI_inj q w42 q43).symm
        refine fr_iload_n h rfl 3 rfl dX8_setCost_48 ?_
        refine fr_iast h (St_a4 hb) (by omega) (by omega) (St_r4 hb z41) (by omega) (by omega) dX8_setCost_49 ?_
        refine fr_mem (fun x45 m46 => ?_)
        refine fr_iload h 4 rfl dX8_setCost_50 ?_
        exact fr_iret h hq (by omega) ⟨(by omega), (by omega), (fun a k0 => (fm_up_row m46 (by omega)))⟩ dX8_setCost_52
      ·
        refine fr_iconst h dX8_setCost_25 ?_
        exact fr_iret h hq (by omega) ⟨(by omega), (by omega), (fun a _ => rfl)⟩ dX8_setCost_26
set_option maxHeartbeats 200000 in
theorem c_X8_costAt (x : Mm) (b : Int) (hb : isSt b) (p : Int) (w : Int) (h_p : fm_r p) (h_w : fm_r w) : CnI YC yX8_costAt cX8_costAt 3 .int 1 21 (fun G => [vr G b, vi p, vi w]) x (fun z y' => (0 ≤ z) ∧ (z ≤ 99) ∧ (y' = x)) := by
  refine cn_I (by decide) (fun _ => Nat.le_of_ble_eq_true rfl) (fun G C h hq => ?_)
  have h : OK YC G C cX8_costAt RX8 3 (some .int) 1 21 := h
  show FW YC G C 3 x 0 [(0, vr G b), (1, vi p), (2, vi w)] []
  have h_b := St_b hb
  refine fr_iload_n h rfl 1 rfl dX8_costAt_0 ?_
  refine fr_iconst h dX8_costAt_1 ?_
  refine fr_csI h wX8_isBelow lX8_43 (c_X8_isBelow x p 5 (by omega) (by omega)) rfl (by decide) (by decide) rfl (Nat.le_of_ble_eq_true rfl) dX8_costAt_2 (fun z2 x1 w3 p4 => ?_)
  obtain ⟨p5, p6, y7⟩ := p4
  rw [y7]
  clear y7
  refine fr_if_eq (tgt := 29) h dX8_costAt_5 (by decide) (by omega) (fun c8 => ?_) (fun c8 => ?_)
  ·
    refine fr_iconst h dX8_costAt_29 ?_
    exact fr_iret h hq (by omega) ⟨(by omega), (by omega), rfl⟩ dX8_costAt_30
  ·
    refine fr_iload_n h rfl 2 rfl dX8_costAt_8 ?_
    refine fr_iconst h dX8_costAt_9 ?_
    refine fr_csI h wX8_isBelow lX8_43 (c_X8_isBelow x w 5 (by omega) (by omega)) rfl (by decide) (by decide) rfl (Nat.le_of_ble_eq_true rfl) dX8_costAt_10 (fun z10 x9 w11 p12 => ?_)
    obtain ⟨p13, p14, y15⟩ := p12
    rw [y15]
    clear y15
    refine fr_if_eq (tgt := 29) h dX8_costAt_13 (by decide) (by omega) (fun c16 => ?_) (fun c16 => ?_)
    ·
      refine fr_iconst h dX8_costAt_29 ?_
      exact fr_iret h hq (by omega) ⟨(by omega), (by omega), rfl⟩ dX8_costAt_30
    ·
      refine fr_aload_n h rfl 0 rfl dX8_costAt_16 ?_
      refine fr_getc (z := (b + 4)) (iz := 3) h kX8 fX8_21 (St_at hb) rfl rfl (St_f3 hb) (by omega) dX8_costAt_17 ?_
      refine fr_iload_n h rfl 1 rfl dX8_costAt_20 ?_
      refine fr_iconst h dX8_costAt_21 ?_
      refine fr_imul h dX8_costAt_22 ?_
      refine fr_normi (fun z17 w18 q19 => ?_)
      have w20 : fm_r ((p * 5)) → z17 = (p * 5) := fun q => (iI_inj q w18 q19).symm
      refine fr_iload_n h rfl 2 rfl dX8_costAt_23 ?_
      refine fr_iadd h dX8_costAt_24 ?_
      refine fr_normi (fun z21 w22 q23 => ?_)
      have w24 : fm_r ((z17 + w)) → z21 = (z17 + w) := fun q => (iI_inj q w22 q23).symm
      refine fr_iald h (St_a4 hb) (by omega) (by omega) (St_r4 hb z21) dX8_costAt_25 (fun z25 w26 w27 q28 => ?_)
      refine fr_goto (tgt := 30) h dX8_costAt_26 (by decide) ?_
      exact fr_iret h hq (by omega) ⟨(by omega), (by omega), rfl⟩ dX8_costAt_30
set_option maxHeartbeats 200000 in
theorem c_X8_setWhat (x : Mm) (b : Int) (hb : isSt b) (p : Int) (w : Int) (h_p : fm_r p) (h_w : fm_r w) : CnI YC yX8_setWhat cX8_setWhat 5 .int 1 21 (fun G => [vr G b, vi p, vi w]) x (fun z y' => ((-2) ≤ z) ∧ (z ≤ 15) ∧ (∀ a : Int, (a < b ∨ b + 4 < a) → y' a = x a)) := by
  refine cn_I (by decide) (fun _ => Nat.le_of_ble_eq_true rfl) (fun G C h hq => ?_)
  have h : OK YC G C cX8_setWhat RX8 5 (some .int) 1 21 := h
  show FW YC G C 5 x 0 [(0, vr G b), (1, vi p), (2, vi w)] []
  have h_b := St_b hb
  refine fr_iload_n h rfl 1 rfl dX8_setWhat_0 ?_
  refine fr_if_ne (tgt := 8) h dX8_setWhat_1 (by decide) (by omega) (fun c1 => ?_) (fun c1 => ?_)
  ·
    refine fr_iconst h dX8_setWhat_8 ?_
    refine fr_istore_n (L' := [(0, vr G b), (1, vi p), (2, vi w), (3, vi 0)]) h rfl dX8_setWhat_9 (by decide) [1, 2, 3, 0] rfl ?_
    refine fr_iload_n h rfl 1 rfl dX8_setWhat_10 ?_
    refine fr_iconst h dX8_setWhat_11 ?_
    refine fr_csI h wX8_isBelow lX8_43 (c_X8_isBelow x p 2 (by omega) (by omega)) rfl (by decide) (by decide) rfl (Nat.le_of_ble_eq_true rfl) dX8_setWhat_12 (fun z3 x2 w4 p5 => ?_)
    obtain ⟨p6, p7, y8⟩ := p5
    rw [y8]
    clear y8
    refine fr_if_eq (tgt := 35) h dX8_setWhat_15 (by decide) (by omega) (fun c9 => ?_) (fun c9 => ?_)
    ·
      refine fr_iconst h dX8_setWhat_35 ?_
      exact fr_iret h hq (by omega) ⟨(by omega), (by omega), (fun a _ => rfl)⟩ dX8_setWhat_36
    ·
      refine fr_iload_n h rfl 2 rfl dX8_setWhat_18 ?_
      refine fr_iload_n h rfl 3 rfl dX8_setWhat_19 ?_
      refine fr_if_eq (tgt := 28) h dX8_setWhat_20 (by decide) (by omega) (fun c10 => ?_) (fun c10 => by exfalso; omega)
      refine fr_iconst h dX8_setWhat_28 ?_
      refine fr_csI h wX8_isBelow lX8_43 (c_X8_isBelow x w 4 (by omega) (by omega)) rfl (by decide) (by decide) rfl (Nat.le_of_ble_eq_true rfl) dX8_setWhat_29 (fun z12 x11 w13 p14 => ?_)
      obtain ⟨p15, p16, y17⟩ := p14
      rw [y17]
      clear y17
      refine fr_if_ne (tgt := 37) h dX8_setWhat_32 (by decide) (by omega) (fun c18 => ?_) (fun c18 => ?_)
      ·
        refine fr_iload_n h rfl 3 rfl dX8_setWhat_37 ?_
        refine fr_if_eq (tgt := 48) h dX8_setWhat_38 (by decide) (by omega) (fun c19 => ?_) (fun c19 => by exfalso; omega)
        refine fr_aload_n h rfl 0 rfl dX8_setWhat_48 ?_
        refine fr_geti (iz := 5) h kX8 fX8_37 (St_at hb) rfl rfl (by decide) (by decide) (St_f5 hb) dX8_setWhat_49 (fun z20 w21 w22 q23 => ?_)
        refine fr_istore (L' := [(0, vr G b), (1, vi p), (2, vi w), (3, vi 0), (4, vi z20)]) h dX8_setWhat_52 (by decide) [1, 2, 3, 4, 0] rfl ?_
        refine fr_iload h 4 rfl dX8_setWhat_54 ?_
        refine fr_iload_n h rfl 2 rfl dX8_setWhat_56 ?_
        refine fr_icmp_ne (tgt := 63) h dX8_setWhat_57 (by decide) (by omega) (by omega) (fun c24 => ?_) (fun c24 => ?_)
        ·
          refine fr_iload_n h rfl 3 rfl dX8_setWhat_63 ?_
          refine fr_if_eq (tgt := 75) h dX8_setWhat_64 (by decide) (by omega) (fun c25 => ?_) (fun c25 => by exfalso; omega)
          refine fr_aload_n h rfl 0 rfl dX8_setWhat_75 ?_
          refine fr_iload_n h rfl 2 rfl dX8_setWhat_76 ?_
          refine fr_puti (iz := 5) h kX8 fX8_37 (St_at hb) rfl rfl (by decide) (by decide) rfl (by decide +kernel) (St_f5 hb) (by omega) (by omega) dX8_setWhat_77 ?_
          refine fr_mem (fun x26 m27 => ?_)
          refine fr_bipush h rfl dX8_setWhat_80 ?_
          refine fr_iload h 4 rfl dX8_setWhat_82 ?_
          refine fr_iadd h dX8_setWhat_84 ?_
          exact fr_iret h hq (by omega) ⟨(by omega), (by omega), (fun a k0 => (fm_up_row m27 (by omega)))⟩ dX8_setWhat_85
        ·
          refine fr_bipush h rfl dX8_setWhat_60 ?_
          exact fr_iret h hq (by omega) ⟨(by omega), (by omega), (fun a _ => rfl)⟩ dX8_setWhat_62
      ·
        refine fr_iconst h dX8_setWhat_35 ?_
        exact fr_iret h hq (by omega) ⟨(by omega), (by omega), (fun a _ => rfl)⟩ dX8_setWhat_36
  ·
    refine fr_iconst h dX8_setWhat_4 ?_
    refine fr_goto (tgt := 9) h dX8_setWhat_5 (by decide) ?_
    refine fr_istore_n (L' := [(0, vr G b), (1, vi p), (2, vi w), (3, vi 1)]) h rfl dX8_setWhat_9 (by decide) [1, 2, 3, 0] rfl ?_
    refine fr_iload_n h rfl 1 rfl dX8_setWhat_10 ?_
    refine fr_iconst h dX8_setWhat_11 ?_
    refine fr_csI h wX8_isBelow lX8_43 (c_X8_isBelow x p 2 (by omega) (by omega)) rfl (by decide) (by decide) rfl (Nat.le_of_ble_eq_true rfl) dX8_setWhat_12 (fun z29 x28 w30 p31 => ?_)
    obtain ⟨p32, p33, y34⟩ := p31
    rw [y34]
    clear y34
    refine fr_if_eq (tgt := 35) h dX8_setWhat_15 (by decide) (by omega) (fun c35 => ?_) (fun c35 => ?_)
    ·
      refine fr_iconst h dX8_setWhat_35 ?_
      exact fr_iret h hq (by omega) ⟨(by omega), (by omega), (fun a _ => rfl)⟩ dX8_setWhat_36
    ·
      refine fr_iload_n h rfl 2 rfl dX8_setWhat_18 ?_
      refine fr_iload_n h rfl 3 rfl dX8_setWhat_19 ?_
      refine fr_if_eq (tgt := 28) h dX8_setWhat_20 (by decide) (by omega) (fun c36 => by exfalso; omega) (fun c36 => ?_)
      refine fr_bipush h rfl dX8_setWhat_23 ?_
      refine fr_goto (tgt := 29) h dX8_setWhat_25 (by decide) ?_
      refine fr_csI h wX8_isBelow lX8_43 (c_X8_isBelow x w 6 (by omega) (by omega)) rfl (by decide) (by decide) rfl (Nat.le_of_ble_eq_true rfl) dX8_setWhat_29 (fun z38 x37 w39 p40 => ?_)
      obtain ⟨p41, p42, y43⟩ := p40
      rw [y43]
      clear y43
      refine fr_if_ne (tgt := 37) h dX8_setWhat_32 (by decide) (by omega) (fun c44 => ?_) (fun c44 => ?_)
      ·
        refine fr_iload_n h rfl 3 rfl dX8_setWhat_37 ?_
        refine fr_if_eq (tgt := 48) h dX8_setWhat_38 (by decide) (by omega) (fun c45 => by exfalso; omega) (fun c45 => ?_)
        refine fr_aload_n h rfl 0 rfl dX8_setWhat_41 ?_
        refine fr_geti (iz := 4) h kX8 fX8_34 (St_at hb) rfl rfl (by decide) (by decide) (St_f4 hb) dX8_setWhat_42 (fun z46 w47 w48 q49 => ?_)
        refine fr_goto (tgt := 52) h dX8_setWhat_45 (by decide) ?_
        refine fr_istore (L' := [(0, vr G b), (1, vi p), (2, vi w), (3, vi 1), (4, vi z46)]) h dX8_setWhat_52 (by decide) [1, 2, 3, 4, 0] rfl ?_
        refine fr_iload h 4 rfl dX8_setWhat_54 ?_
        refine fr_iload_n h rfl 2 rfl dX8_setWhat_56 ?_
        refine fr_icmp_ne (tgt := 63) h dX8_setWhat_57 (by decide) (by omega) (by omega) (fun c50 => ?_) (fun c50 => ?_)
        ·
          refine fr_iload_n h rfl 3 rfl dX8_setWhat_63 ?_
          refine fr_if_eq (tgt := 75) h dX8_setWhat_64 (by decide) (by omega) (fun c51 => by exfalso; omega) (fun c51 => ?_)
          refine fr_aload_n h rfl 0 rfl dX8_setWhat_67 ?_
          refine fr_iload_n h rfl 2 rfl dX8_setWhat_68 ?_
          refine fr_puti (iz := 4) h kX8 fX8_34 (St_at hb) rfl rfl (by decide) (by decide) rfl (by decide +kernel) (St_f4 hb) (by omega) (by omega) dX8_setWhat_69 ?_
          refine fr_mem (fun x52 m53 => ?_)
          refine fr_goto (tgt := 80) h dX8_setWhat_72 (by decide) ?_
          refine fr_bipush h rfl dX8_setWhat_80 ?_
          refine fr_iload h 4 rfl dX8_setWhat_82 ?_
          refine fr_iadd h dX8_setWhat_84 ?_
          exact fr_iret h hq (by omega) ⟨(by omega), (by omega), (fun a k0 => (fm_up_row m53 (by omega)))⟩ dX8_setWhat_85
        ·
          refine fr_bipush h rfl dX8_setWhat_60 ?_
          exact fr_iret h hq (by omega) ⟨(by omega), (by omega), (fun a _ => rfl)⟩ dX8_setWhat_62
      ·
        refine fr_iconst h dX8_setWhat_35 ?_
        exact fr_iret h hq (by omega) ⟨(by omega), (by omega), (fun a _ => rfl)⟩ dX8_setWhat_36
set_option maxHeartbeats 200000 in
theorem c_X8_setEnds (x : Mm) (b : Int) (hb : isSt b) (p : Int) (w : Int) (h_p : fm_r p) (h_w : fm_r w) : CnI YC yX8_setEnds cX8_setEnds 4 .int 2 42 (fun G => [vr G b, vi p, vi w]) x (fun z y' => ((-1) ≤ z) ∧ (z ≤ 66) ∧ (∀ a : Int, (a < b ∨ b + 4 < a) → y' a = x a)) := by
  refine cn_I (by decide) (fun _ => Nat.le_of_ble_eq_true rfl) (fun G C h hq => ?_)
  have h : OK YC G C cX8_setEnds RX8 4 (some .int) 2 42 := h
  show FW YC G C 4 x 0 [(0, vr G b), (1, vi p), (2, vi w)] []
  have h_b := St_b hb
  refine fr_iload_n h rfl 1 rfl dX8_setEnds_0 ?_
  refine fr_iload_n h rfl 2 rfl dX8_setEnds_1 ?_
  refine fr_csI h wX8_areTwoNodes lX8_58 (c_X8_areTwoNodes x p w (by omega) (by omega)) rfl (by decide) (by decide) rfl (Nat.le_of_ble_eq_true rfl) dX8_setEnds_2 (fun z2 x1 w3 p4 => ?_)
  obtain ⟨p5, p6, y7⟩ := p4
  rw [y7]
  clear y7
  refine fr_if_ne (tgt := 10) h dX8_setEnds_5 (by decide) (by omega) (fun c8 => ?_) (fun c8 => ?_)
  ·
    refine fr_aload_n h rfl 0 rfl dX8_setEnds_10 ?_
    refine fr_cvI h kX8 (St_at hb) wX8_endsAsNumber lX8_71 (c_X8_endsAsNumber x b hb) rfl (by decide) (by decide) rfl (Nat.le_of_ble_eq_true rfl) dX8_setEnds_11 (fun z10 x9 w11 p12 => ?_)
    obtain ⟨p13, p14, y15⟩ := p12
    rw [y15]
    clear y15
    refine fr_istore_n (L' := [(0, vr G b), (1, vi p), (2, vi w), (3, vi z10)]) h rfl dX8_setEnds_14 (by decide) [1, 2, 3, 0] rfl ?_
    refine fr_aload_n h rfl 0 rfl dX8_setEnds_15 ?_
    refine fr_iload_n h rfl 1 rfl dX8_setEnds_16 ?_
    refine fr_puti (iz := 6) h kX8 fX8_40 (St_at hb) rfl rfl (by decide) (by decide) rfl (by decide +kernel) (St_f6 hb) (by omega) (by omega) dX8_setEnds_17 ?_
    refine fr_mem (fun x16 m17 => ?_)
    refine fr_aload_n h rfl 0 rfl dX8_setEnds_20 ?_
    refine fr_iload_n h rfl 2 rfl dX8_setEnds_21 ?_
    refine fr_puti (iz := 7) h kX8 fX8_24 (St_at hb) rfl rfl (by decide) (by decide) rfl (by decide +kernel) (St_f7 hb) (by omega) (by omega) dX8_setEnds_22 ?_
    refine fr_mem (fun x18 m19 => ?_)
    refine fr_iload_n h rfl 3 rfl dX8_setEnds_25 ?_
    exact fr_iret h hq (by omega) ⟨(by omega), (by omega), (fun a k0 => ((fm_up_row m19 (by omega)).trans (fm_up_row m17 (by omega))))⟩ dX8_setEnds_26
  ·
    refine fr_iconst h dX8_setEnds_8 ?_
    exact fr_iret h hq (by omega) ⟨(by omega), (by omega), (fun a _ => rfl)⟩ dX8_setEnds_9
