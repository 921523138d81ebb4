set_option maxHeartbeats 200000 in
theorem g_X8_sizeOf (x : Mm) (p : Int) (h_p : fm_r p) : CnI YC yX8_sizeOf cX8_sizeOf 2 .int 1 21 (fun G => [vr G 3, vi p]) x (fun z y' => (0 ≤ z) ∧ (z ≤ 6) ∧ (0 < z → 0 ≤ p ∧ p < 4) ∧ (0 ≤ p → p < 4 → z = x (3 + 1) p) ∧ (y' = x)) := by
  refine cn_I (by decide) (fun _ => Nat.le_of_ble_eq_true rfl) (fun G C h hq => ?_)
  have h : OK YC G C cX8_sizeOf RX8 2 (some .int) 1 21 := h
  show FW YC G C 2 x 0 [(0, vr G 3), (1, vi p)] []
  refine fr_iload_n h rfl 1 rfl dX8_sizeOf_0 ?_
  refine fr_iconst h dX8_sizeOf_1 ?_
  refine fr_csI h wX8_isBelow lX8_43 (c_X8_isBelow x p 4 (by omega) (by omega)) rfl (by decide) (by decide) rfl (Nat.le_of_ble_eq_true rfl) dX8_sizeOf_2 (fun z2 x1 w3 p4 => ?_)
  obtain ⟨p5, p6, y7⟩ := p4
  rw [y7]
  clear y7
  refine fr_if_eq (tgt := 17) h dX8_sizeOf_5 (by decide) (by omega) (fun c8 => ?_) (fun c8 => ?_)
  ·
    refine fr_iconst h dX8_sizeOf_17 ?_
    exact fr_iret h hq (by omega) ⟨(by omega), (by omega), (by omega), (by omega), rfl⟩ dX8_sizeOf_18
  ·
    refine fr_aload_n h rfl 0 rfl dX8_sizeOf_8 ?_
    refine fr_getc (z := (3 + 1)) (iz := 0) h kX8 fX8_9 (St_at St_3) rfl rfl (St_f0 St_3) (by omega) dX8_sizeOf_9 ?_
    refine fr_iload_n h rfl 1 rfl dX8_sizeOf_12 ?_
    refine fr_iald h (St_a1 St_3) (by omega) (by omega) (St_r1 St_3 p) dX8_sizeOf_13 (fun z9 w10 w11 q12 => ?_)
    refine fr_goto (tgt := 18) h dX8_sizeOf_14 (by decide) ?_
    exact fr_iret h hq (by omega) ⟨(by omega), (by omega), (by omega), (by omega), rfl⟩ dX8_sizeOf_18
set_option maxHeartbeats 200000 in
theorem g_X8_numberAt (x : Mm) (p : Int) (w : Int) (h_p : fm_r p) (h_w : fm_r w) : CnI YC yX8_numberAt cX8_numberAt 3 .int 2 42 (fun G => [vr G 3, vi p, vi w]) x (fun z y' => ((-1) ≤ z) ∧ (z ≤ 99) ∧ (0 ≤ z → 0 ≤ p ∧ p < 4 ∧ 0 ≤ w ∧ w < 6 ∧ w < x (3 + 1) p) ∧ (0 ≤ p → p < 4 → 0 ≤ w → w < x (3 + 1) p → 0 ≤ z) ∧ (y' = x)) := by
  refine cn_I (by decide) (fun _ => Nat.le_of_ble_eq_true rfl) (fun G C h hq => ?_)
  have h : OK YC G C cX8_numberAt RX8 3 (some .int) 2 42 := h
  show FW YC G C 3 x 0 [(0, vr G 3), (1, vi p), (2, vi w)] []
  refine fr_iload_n h rfl 2 rfl dX8_numberAt_0 ?_
  refine fr_aload_n h rfl 0 rfl dX8_numberAt_1 ?_
  refine fr_iload_n h rfl 1 rfl dX8_numberAt_2 ?_
  refine fr_cvI h kX8 (St_at St_3) wX8_sizeOf lX8_47 (g_X8_sizeOf x p (by omega)) rfl (by decide) (by decide) rfl (Nat.le_of_ble_eq_true rfl) dX8_numberAt_3 (fun z2 x1 w3 p4 => ?_)
  obtain ⟨p5, p6, p7, p8, y9⟩ := p4
  rw [y9]
  clear y9
  refine fr_csI h wX8_isBelow lX8_43 (c_X8_isBelow x w z2 (by omega) (by omega)) rfl (by decide) (by decide) rfl (Nat.le_of_ble_eq_true rfl) dX8_numberAt_6 (fun z11 x10 w12 p13 => ?_)
  obtain ⟨p14, p15, y16⟩ := p13
  rw [y16]
  clear y16
  refine fr_if_eq (tgt := 26) h dX8_numberAt_9 (by decide) (by omega) (fun c17 => ?_) (fun c17 => ?_)
  ·
    refine fr_iconst h dX8_numberAt_26 ?_
    exact fr_iret h hq (by omega) ⟨(by omega), (by omega), (by omega), (by omega), rfl⟩ dX8_numberAt_27
  ·
    refine fr_aload_n h rfl 0 rfl dX8_numberAt_12 ?_
    refine fr_getc (z := (3 + 2)) (iz := 1) h kX8 fX8_15 (St_at St_3) rfl rfl (St_f1 St_3) (by omega) dX8_numberAt_13 ?_
    refine fr_iload_n h rfl 1 rfl dX8_numberAt_16 ?_
    refine fr_bipush h rfl dX8_numberAt_17 ?_
    refine fr_imul h dX8_numberAt_19 ?_
    refine fr_normi (fun z18 w19 q20 => ?_)
    have w21 : fm_r ((p * 6)) → z18 = (p * 6) := fun q => (iI_inj q w19 q20).symm
    refine fr_iload_n h rfl 2 rfl dX8_numberAt_20 ?_
    refine fr_iadd h dX8_numberAt_21 ?_
    refine fr_normi (fun z22 w23 q24 => ?_)
    have w25 : fm_r ((z18 + w)) → z22 = (z18 + w) := fun q => (iI_inj q w23 q24).symm
    refine fr_iald h (St_a2 St_3) (by omega) (by omega) (St_r2 St_3 z22) dX8_numberAt_22 (fun z26 w27 w28 q29 => ?_)
    refine fr_goto (tgt := 27) h dX8_numberAt_23 (by decide) ?_
    exact fr_iret h hq (by omega) ⟨(by omega), (by omega), (by omega), (by omega), rfl⟩ dX8_numberAt_27
set_option maxHeartbeats 1000000 in
theorem g_X8_putNumber (x : Mm) (p : Int) (v : Int) (h_p : fm_r p) (h_v : fm_r v) : CnI YC yX8_putNumber cX8_putNumber 5 .int 1 21 (fun G => [vr G 3, vi p, vi v]) x (fun z y' => ((-2) ≤ z) ∧ (z ≤ 5) ∧ (0 ≤ p → p < 4 → 0 ≤ v ∧ v ≤ 99 → LQ (y' (3 + 1)) (ptL (x (3 + 1)) p)) ∧ (∀ a : Int, (a < 4 ∨ 5 < a) → y' a = x a)) := by
  refine cn_I (by decide) (fun _ => Nat.le_of_ble_eq_true rfl) (fun G C h hq => ?_)
  have h : OK YC G C cX8_putNumber RX8 5 (some .int) 1 21 := h
  show FW YC G C 5 x 0 [(0, vr G 3), (1, vi p), (2, vi v)] []
  refine fr_iload_n h rfl 1 rfl dX8_putNumber_0 ?_
  refine fr_iconst h dX8_putNumber_1 ?_
  refine fr_csI h wX8_isBelow lX8_43 (c_X8_isBelow x p 4 (by omega) (by omega)) rfl (by decide) (by decide) rfl (Nat.le_of_ble_eq_true rfl) dX8_putNumber_2 (fun z2 x1 w3 p4 => ?_)
  obtain ⟨p5, p6, y7⟩ := p4
  rw [y7]
  clear y7
  refine fr_if_eq (tgt := 17) h dX8_putNumber_5 (by decide) (by omega) (fun c8 => ?_) (fun c8 => ?_)
  ·
    refine fr_iconst h dX8_putNumber_17 ?_
    exact fr_iret h hq (by omega) ⟨(by omega), (by omega), (fun h0 h4 _ => fun j a b => (if_neg (fun q => by omega)).symm), (fun a _ => rfl)⟩ dX8_putNumber_18
  ·
    refine fr_iload_n h rfl 2 rfl dX8_putNumber_8 ?_
    refine fr_bipush h rfl dX8_putNumber_9 ?_
    refine fr_csI h wX8_isBelow lX8_43 (c_X8_isBelow x v 100 (by omega) (by omega)) rfl (by decide) (by decide) rfl (Nat.le_of_ble_eq_true rfl) dX8_putNumber_11 (fun z10 x9 w11 p12 => ?_)
    obtain ⟨p13, p14, y15⟩ := p12
    rw [y15]
    clear y15
    refine fr_if_ne (tgt := 19) h dX8_putNumber_14 (by decide) (by omega) (fun c16 => ?_) (fun c16 => ?_)
    ·
      refine fr_aload_n h rfl 0 rfl dX8_putNumber_19 ?_
      refine fr_getc (z := (3 + 1)) (iz := 0) h kX8 fX8_9 (St_at St_3) rfl rfl (St_f0 St_3) (by omega) dX8_putNumber_20 ?_
      refine fr_iload_n h rfl 1 rfl dX8_putNumber_23 ?_
      refine fr_iald h (St_a1 St_3) (by omega) (by omega) (St_r1 St_3 p) dX8_putNumber_24 (fun z17 w18 w19 q20 => ?_)
      refine fr_bipush h rfl dX8_putNumber_25 ?_
      refine fr_icmp_lt (tgt := 33) h dX8_putNumber_27 (by decide) (by omega) (by omega) (fun c21 => ?_) (fun c21 => ?_)
      ·
        refine fr_iload_n h rfl 1 rfl dX8_putNumber_33 ?_
        refine fr_bipush h rfl dX8_putNumber_34 ?_
        refine fr_imul h dX8_putNumber_36 ?_
        refine fr_normi (fun z22 w23 q24 => ?_)
        have w25 : fm_r ((p * 6)) → z22 = (p * 6) := fun q => (iI_inj q w23 q24).symm
        refine fr_istore_n (L' := [(0, vr G 3), (1, vi p), (2, vi v), (3, vi z22)]) h rfl dX8_putNumber_37 (by decide) [1, 2, 3, 0] rfl ?_
        refine fr_aload_n h rfl 0 rfl dX8_putNumber_38 ?_
        refine fr_getc (z := (3 + 1)) (iz := 0) h kX8 fX8_9 (St_at St_3) rfl rfl (St_f0 St_3) (by omega) dX8_putNumber_39 ?_
        refine fr_iload_n h rfl 1 rfl dX8_putNumber_42 ?_
        refine fr_iald h (St_a1 St_3) (by omega) (by omega) (St_r1 St_3 p) dX8_putNumber_43 (fun z26 w27 w28 q29 => ?_)
        refine fr_istore (L' := [(0, vr G 3), (1, vi p), (2, vi v), (3, vi z22), (4, vi z26)]) h dX8_putNumber_44 (by decide) [1, 2, 3, 4, 0] rfl ?_
        have HL30 : ∀ (n30 : Nat) (l4_30 : Int) (x_30 : Mm), fm_r l4_30 → 0 ≤ l4_30 → l4_30 ≤ 5 → l4_30 ≤ 5 → (∀ a : Int, (a < 5 ∨ 5 < a) → x_30 a = x a) → l4_30 < n30 → FW YC G C 5 x_30 46 [(0, vr G 3), (1, vi p), (2, vi v), (3, vi z22), (4, vi l4_30)] [] := by
          intro n30
          induction n30 with
          | zero =>
            intro l4_30 x_30 g30_0 g30_1 g30_2 g30_3 g30_4 g30_5
            exfalso; omega
          | succ n30 ih30 =>
            intro l4_30 x_30 g30_0 g30_1 g30_2 g30_3 g30_4 g30_5
            refine fr_iload h 4 rfl dX8_putNumber_46 ?_
            refine fr_if_le (tgt := 92) h dX8_putNumber_48 (by decide) (by omega) (fun c31 => ?_) (fun c31 => ?_)
            ·
              refine fr_aload_n h rfl 0 rfl dX8_putNumber_92 ?_
              refine fr_getc (z := (3 + 2)) (iz := 1) h kX8 fX8_15 (St_at St_3) rfl rfl (St_f1 St_3) (by omega) dX8_putNumber_93 ?_
              refine fr_iload_n h rfl 3 rfl dX8_putNumber_96 ?_
              refine fr_iload h 4 rfl dX8_putNumber_97 ?_
              refine fr_iadd h dX8_putNumber_99 ?_
              refine fr_iload_n h rfl 2 rfl dX8_putNumber_100 ?_
              refine fr_iast h (St_a2 St_3) (by omega) (by omega) (St_r2 St_3 (z22 + l4_30)) (by omega) (by omega) dX8_putNumber_101 ?_
              refine fr_mem (fun x32 m33 => ?_)
              refine fr_aload_n h rfl 0 rfl dX8_putNumber_102 ?_
              refine fr_getc (z := (3 + 1)) (iz := 0) h kX8 fX8_9 (St_at St_3) rfl rfl (St_f0 St_3) (by omega) dX8_putNumber_103 ?_
              refine fr_iload_n h rfl 1 rfl dX8_putNumber_106 ?_
              refine fr_dup2_11 h rfl rfl dX8_putNumber_107 ?_
              refine fr_iald h (St_a1 St_3) (by omega) (by omega) (St_r1 St_3 p) dX8_putNumber_108 (fun z34 w35 w36 q37 => ?_)
              have r38 := q37.trans (fm_rd_k (a := (3 + 1)) (b := p) m33 (by omega))
              have r39 := r38.trans (congrFun (g30_4 (3 + 1) (by omega)) p)
              refine fr_iconst h dX8_putNumber_109 ?_
              refine fr_iadd h dX8_putNumber_110 ?_
              refine fr_iast h (St_a1 St_3) (by omega) (by omega) (St_r1 St_3 p) (by omega) (by omega) dX8_putNumber_111 ?_
              refine fr_mem (fun x40 m41 => ?_)
              refine fr_iload h 4 rfl dX8_putNumber_112 ?_
              exact fr_iret h hq (by omega) ⟨(by omega), (by omega), (fun h0 h4 h5 => fun j a b => (by by_cases q : j = p; (subst q; exact (fm_rd_s m41).trans ((by omega : (z34 + 1) = x (3 + 1) j + 1).trans (if_pos ⟨rfl, by omega⟩).symm)); (exact ((fm_rd_i (a := (3 + 1)) (b := j) m41 q).trans (congrFun ((fm_up_row m33 (by omega)).trans (g30_4 (3 + 1) (by omega))) j)).trans (if_neg (fun q9 => q q9.1)).symm))), (fun a k0 => ((fm_up_row m41 (by omega)).trans ((fm_up_row m33 (by omega)).trans (g30_4 a (by omega)))))⟩ dX8_putNumber_114
            ·
              refine fr_aload_n h rfl 0 rfl dX8_putNumber_51 ?_
              refine fr_getc (z := (3 + 2)) (iz := 1) h kX8 fX8_15 (St_at St_3) rfl rfl (St_f1 St_3) (by omega) dX8_putNumber_52 ?_
              refine fr_iload_n h rfl 3 rfl dX8_putNumber_55 ?_
              refine fr_iload h 4 rfl dX8_putNumber_56 ?_
              refine fr_iadd h dX8_putNumber_58 ?_
              refine fr_normi (fun z42 w43 q44 => ?_)
              have w45 : fm_r ((z22 + l4_30)) → z42 = (z22 + l4_30) := fun q => (iI_inj q w43 q44).symm
              refine fr_iconst h dX8_putNumber_59 ?_
              refine fr_isub h dX8_putNumber_60 ?_
              refine fr_normi (fun z46 w47 q48 => ?_)
              have w49 : fm_r ((z42 - 1)) → z46 = (z42 - 1) := fun q => (iI_inj q w47 q48).symm
              refine fr_iald h (St_a2 St_3) (by omega) (by omega) (St_r2 St_3 z46) dX8_putNumber_61 (fun z50 w51 w52 q53 => ?_)
              refine fr_iload_n h rfl 2 rfl dX8_putNumber_62 ?_
              refine fr_icmp_le (tgt := 92) h dX8_putNumber_63 (by decide) (by omega) (by omega) (fun c54 => ?_) (fun c54 => ?_)
              ·
                refine fr_aload_n h rfl 0 rfl dX8_putNumber_92 ?_
                refine fr_getc (z := (3 + 2)) (iz := 1) h kX8 fX8_15 (St_at St_3) rfl rfl (St_f1 St_3) (by omega) dX8_putNumber_93 ?_
                refine fr_iload_n h rfl 3 rfl dX8_putNumber_96 ?_
                refine fr_iload h 4 rfl dX8_putNumber_97 ?_
                refine fr_iadd h dX8_putNumber_99 ?_
                refine fr_normi (fun z55 w56 q57 => ?_)
                have w58 : fm_r ((z22 + l4_30)) → z55 = (z22 + l4_30) := fun q => (iI_inj q w56 q57).symm
                refine fr_iload_n h rfl 2 rfl dX8_putNumber_100 ?_
                refine fr_iast h (St_a2 St_3) (by omega) (by omega) (St_r2 St_3 z55) (by omega) (by omega) dX8_putNumber_101 ?_
                refine fr_mem (fun x59 m60 => ?_)
                refine fr_aload_n h rfl 0 rfl dX8_putNumber_102 ?_
                refine fr_getc (z := (3 + 1)) (iz := 0) h kX8 fX8_9 (St_at St_3) rfl rfl (St_f0 St_3) (by omega) dX8_putNumber_103 ?_
                refine fr_iload_n h rfl 1 rfl dX8_putNumber_106 ?_
                refine fr_dup2_11 h rfl rfl dX8_putNumber_107 ?_
                refine fr_iald h (St_a1 St_3) (by omega) (by omega) (St_r1 St_3 p) dX8_putNumber_108 (fun z61 w62 w63 q64 => ?_)
                have r65 := q64.trans (fm_rd_k (a := (3 + 1)) (b := p) m60 (by omega))
                have r66 := r65.trans (congrFun (g30_4 (3 + 1) (by omega)) p)
                refine fr_iconst h dX8_putNumber_109 ?_
                refine fr_iadd h dX8_putNumber_110 ?_
                refine fr_iast h (St_a1 St_3) (by omega) (by omega) (St_r1 St_3 p) (by omega) (by omega) dX8_putNumber_111 ?_
                refine fr_mem (fun x67 m68 => ?_)
                refine fr_iload h 4 rfl dX8_putNumber_112 ?_
                exact fr_iret h hq (by omega) ⟨(by omega), (by omega), (fun h0 h4 h5 => fun j a b => (by by_cases q : j = p; (subst q; exact (fm_rd_s m68).trans ((by omega : (z61 + 1) = x (3 + 1) j + 1).trans (if_pos ⟨rfl, by omega⟩).symm)); (exact ((fm_rd_i (a := (3 + 1)) (b := j) m68 q).trans (congrFun ((fm_up_row m60 (by omega)).trans (g30_4 (3 + 1) (by omega))) j)).trans (if_neg (fun q9 => q q9.1)).symm))), (fun a k0 => ((fm_up_row m68 (by omega)).trans ((fm_up_row m60 (by omega)).trans (g30_4 a (by omega)))))⟩ dX8_putNumber_114
              ·
                refine fr_aload_n h rfl 0 rfl dX8_putNumber_66 ?_
                refine fr_getc (z := (3 + 2)) (iz := 1) h kX8 fX8_15 (St_at St_3) rfl rfl (St_f1 St_3) (by omega) dX8_putNumber_67 ?_
                refine fr_iload_n h rfl 3 rfl dX8_putNumber_70 ?_
                refine fr_iload h 4 rfl dX8_putNumber_71 ?_
                refine fr_iadd h dX8_putNumber_73 ?_
                refine fr_normi (fun z69 w70 q71 => ?_)
                have w72 : fm_r ((z22 + l4_30)) → z69 = (z22 + l4_30) := fun q => (iI_inj q w70 q71).symm
                refine fr_aload_n h rfl 0 rfl dX8_putNumber_74 ?_
                refine fr_getc (z := (3 + 2)) (iz := 1) h kX8 fX8_15 (St_at St_3) rfl rfl (St_f1 St_3) (by omega) dX8_putNumber_75 ?_
                refine fr_iload_n h rfl 3 rfl dX8_putNumber_78 ?_
                refine fr_iload h 4 rfl dX8_putNumber_79 ?_
                refine fr_iadd h dX8_putNumber_81 ?_
                refine fr_normi (fun z73 w74 q75 => ?_)
                have w76 : fm_r ((z22 + l4_30)) → z73 = (z22 + l4_30) := fun q => (iI_inj q w74 q75).symm
                refine fr_iconst h dX8_putNumber_82 ?_
                refine fr_isub h dX8_putNumber_83 ?_
                refine fr_normi (fun z77 w78 q79 => ?_)
                have w80 : fm_r ((z73 - 1)) → z77 = (z73 - 1) := fun q => (iI_inj q w78 q79).symm
                refine fr_iald h (St_a2 St_3) (by omega) (by omega) (St_r2 St_3 z77) dX8_putNumber_84 (fun z81 w82 w83 q84 => ?_)
                refine fr_iast h (St_a2 St_3) (by omega) (by omega) (St_r2 St_3 z69) (by omega) (by omega) dX8_putNumber_85 ?_
                refine fr_mem (fun x85 m86 => ?_)
                refine fr_iinc (j := 4) (L' := [(0, vr G 3), (1, vi p), (2, vi v), (3, vi z22), (4, vi (l4_30 + (-1)))]) h dX8_putNumber_86 rfl (by decide) [1, 2, 3, 4, 0] rfl ?_
                refine fr_goto (tgt := 46) h dX8_putNumber_89 (by decide) ?_
                exact ih30 (l4_30 + (-1)) x85 (by omega) (by omega) (by omega) (by omega) (fun a k0 => ((fm_up_row m86 (by omega)).trans (g30_4 a (by omega)))) (by omega)
        exact HL30 (z26 + 1 : Int).toNat z26 x (by omega) (by omega) (by omega) (by omega) (fun a _ => rfl) (by omega)
      ·
        refine fr_bipush h rfl dX8_putNumber_30 ?_
        exact fr_iret h hq (by omega) ⟨(by omega), (by omega), (fun h0 h4 _ => fun j a b => (if_neg (fun q => by omega)).symm), (fun a _ => rfl)⟩ dX8_putNumber_32
    ·
      refine fr_iconst h dX8_putNumber_17 ?_
      exact fr_iret h hq (by omega) ⟨(by omega), (by omega), (fun h0 h4 _ => fun j a b => (if_neg (fun q => by omega)).symm), (fun a _ => rfl)⟩ dX8_putNumber_18
set_option maxHeartbeats 1000000 in
theorem g_X8_takeNumber (x : Mm) (p : Int) (w : Int) (h_p : fm_r p) (h_w : fm_r w) : CnI YC yX8_takeNumber cX8_takeNumber 6 .int 3 64 (fun G => [vr G 3, vi p, vi w]) x (fun z y' => ((-1) ≤ z) ∧ (z ≤ 99) ∧ (0 ≤ p → p < 4 → 0 ≤ w → LQ (y' (3 + 1)) (tkL (x (3 + 1)) p w)) ∧ (∀ a : Int, (a < 4 ∨ 5 < a) → y' a = x a)) := by
  refine cn_I (by decide) (fun _ => Nat.le_of_ble_eq_true rfl) (fun G C h hq => ?_)
  have h : OK YC G C cX8_takeNumber RX8 6 (some .int) 3 64 := h
  show FW YC G C 6 x 0 [(0, vr G 3), (1, vi p), (2, vi w)] []
  refine fr_aload_n h rfl 0 rfl dX8_takeNumber_0 ?_
  refine fr_iload_n h rfl 1 rfl dX8_takeNumber_1 ?_
  refine fr_iload_n h rfl 2 rfl dX8_takeNumber_2 ?_
  refine fr_cvI h kX8 (St_at St_3) wX8_numberAt lX8_55 (g_X8_numberAt x p w (by omega) (by omega)) rfl (by decide) (by decide) rfl (Nat.le_of_ble_eq_true rfl) dX8_takeNumber_3 (fun z2 x1 w3 p4 => ?_)
  obtain ⟨p5, p6, p7, p8, y9⟩ := p4
  rw [y9]
  clear y9
  refine fr_istore_n (L' := [(0, vr G 3), (1, vi p), (2, vi w), (3, vi z2)]) h rfl dX8_takeNumber_6 (by decide) [1, 2, 3, 0] rfl ?_
  refine fr_iload_n h rfl 3 rfl dX8_takeNumber_7 ?_
  refine fr_if_ge (tgt := 13) h dX8_takeNumber_8 (by decide) (by omega) (fun c10 => ?_) (fun c10 => ?_)
  ·
    refine fr_iload_n h rfl 1 rfl dX8_takeNumber_13 ?_
    refine fr_bipush h rfl dX8_takeNumber_14 ?_
    refine fr_imul h dX8_takeNumber_16 ?_
    refine fr_normi (fun z11 w12 q13 => ?_)
    have w14 : fm_r ((p * 6)) → z11 = (p * 6) := fun q => (iI_inj q w12 q13).symm
    refine fr_istore (L' := [(0, vr G 3), (1, vi p), (2, vi w), (3, vi z2), (4, vi z11)]) h dX8_takeNumber_17 (by decide) [1, 2, 3, 4, 0] rfl ?_
    refine fr_iload_n h rfl 2 rfl dX8_takeNumber_19 ?_
    refine fr_iconst h dX8_takeNumber_20 ?_
    refine fr_iadd h dX8_takeNumber_21 ?_
    refine fr_normi (fun z15 w16 q17 => ?_)
    have w18 : fm_r ((w + 1)) → z15 = (w + 1) := fun q => (iI_inj q w16 q17).symm
    refine fr_istore (L' := [(0, vr G 3), (1, vi p), (2, vi w), (3, vi z2), (4, vi z11), (5, vi z15)]) h dX8_takeNumber_22 (by decide) [1, 2, 3, 4, 5, 0] rfl ?_
    have HL19 : ∀ (n19 : Nat) (l5_19 : Int) (x_19 : Mm), fm_r l5_19 → 1 ≤ l5_19 → l5_19 ≤ 6 → 1 ≤ l5_19 → (∀ a : Int, (a < 5 ∨ 5 < a) → x_19 a = x a) → (6 - l5_19) < n19 → FW YC G C 6 x_19 24 [(0, vr G 3), (1, vi p), (2, vi w), (3, vi z2), (4, vi z11), (5, vi l5_19)] [] := by
      intro n19
      induction n19 with
      | zero =>
        intro l5_19 x_19 g19_0 g19_1 g19_2 g19_3 g19_4 g19_5
        exfalso; omega
      | succ n19 ih19 =>
        intro l5_19 x_19 g19_0 g19_1 g19_2 g19_3 g19_4 g19_5
        refine fr_iload h 5 rfl dX8_takeNumber_24 ?_
        refine fr_aload_n h rfl 0 rfl dX8_takeNumber_26 ?_
        refine fr_getc (z := (3 + 1)) (iz := 0) h kX8 fX8_9 (St_at St_3) rfl rfl (St_f0 St_3) (by omega) dX8_takeNumber_27 ?_
        refine fr_iload_n h rfl 1 rfl dX8_takeNumber_30 ?_
        refine fr_iald h (St_a1 St_3) (by omega) (by omega) (St_r1 St_3 p) dX8_takeNumber_31 (fun z20 w21 w22 q23 => ?_)
        have r24 := q23.trans (congrFun (g19_4 (3 + 1) (by omega)) p)
        refine fr_icmp_ge (tgt := 63) h dX8_takeNumber_32 (by decide) (by omega) (by omega) (fun c25 => ?_) (fun c25 => ?_)
        ·
          refine fr_aload_n h rfl 0 rfl dX8_takeNumber_63 ?_
          refine fr_getc (z := (3 + 1)) (iz := 0) h kX8 fX8_9 (St_at St_3) rfl rfl (St_f0 St_3) (by omega) dX8_takeNumber_64 ?_
          refine fr_iload_n h rfl 1 rfl dX8_takeNumber_67 ?_
          refine fr_dup2_11 h rfl rfl dX8_takeNumber_68 ?_
          refine fr_iald h (St_a1 St_3) (by omega) (by omega) (St_r1 St_3 p) dX8_takeNumber_69 (fun z26 w27 w28 q29 => ?_)
          have r30 := q29.trans (congrFun (g19_4 (3 + 1) (by omega)) p)
          refine fr_iconst h dX8_takeNumber_70 ?_
          refine fr_isub h dX8_takeNumber_71 ?_
          refine fr_iast h (St_a1 St_3) (by omega) (by omega) (St_r1 St_3 p) (by omega) (by omega) dX8_takeNumber_72 ?_
          refine fr_mem (fun x31 m32 => ?_)
          refine fr_iload_n h rfl 3 rfl dX8_takeNumber_73 ?_
          exact fr_iret h hq (by omega) ⟨(by omega), (by omega), (fun h0 h4 h5 => fun j a b => (by by_cases q : j = p; (subst q; exact (fm_rd_s m32).trans ((by omega : (z26 - 1) = x (3 + 1) j - 1).trans (if_pos ⟨rfl, by omega⟩).symm)); (exact ((fm_rd_i (a := (3 + 1)) (b := j) m32 q).trans (congrFun (g19_4 (3 + 1) (by omega)) j)).trans (if_neg (fun q9 => q q9.1)).symm))), (fun a k0 => ((fm_up_row m32 (by omega)).trans (g19_4 a (by omega))))⟩ dX8_takeNumber_74
        ·
          refine fr_aload_n h rfl 0 rfl dX8_takeNumber_35 ?_
          refine fr_getc (z := (3 + 2)) (iz := 1) h kX8 fX8_15 (St_at St_3) rfl rfl (St_f1 St_3) (by omega) dX8_takeNumber_36 ?_
          refine fr_iload h 4 rfl dX8_takeNumber_39 ?_
          refine fr_iload h 5 rfl dX8_takeNumber_41 ?_
          refine fr_iadd h dX8_takeNumber_43 ?_
          refine fr_normi (fun z33 w34 q35 => ?_)
          have w36 : fm_r ((z11 + l5_19)) → z33 = (z11 + l5_19) := fun q => (iI_inj q w34 q35).symm
          refine fr_iconst h dX8_takeNumber_44 ?_
          refine fr_isub h dX8_takeNumber_45 ?_
          refine fr_normi (fun z37 w38 q39 => ?_)
          have w40 : fm_r ((z33 - 1)) → z37 = (z33 - 1) := fun q => (iI_inj q w38 q39).symm
          refine fr_aload_n h rfl 0 rfl dX8_takeNumber_46 ?_
          refine fr_getc (z := (3 + 2)) (iz := 1) h kX8 fX8_15 (St_at St_3) rfl rfl (St_f1 St_3) (by omega) dX8_takeNumber_47 ?_
          refine fr_iload h 4 rfl dX8_takeNumber_50 ?_
          refine fr_iload h 5 rfl dX8_takeNumber_52 ?_
          refine fr_iadd h dX8_takeNumber_54 ?_
          refine fr_normi (fun z41 w42 q43 => ?_)
          have w44 : fm_r ((z11 + l5_19)) → z41 = (z11 + l5_19) := fun q => (iI_inj q w42 q43).symm
          refine fr_iald h (St_a2 St_3) (by omega) (by omega) (St_r2 St_3 z41) dX8_takeNumber_55 (fun z45 w46 w47 q48 => ?_)
          refine fr_iast h (St_a2 St_3) (by omega) (by omega) (St_r2 St_3 z37) (by omega) (by omega) dX8_takeNumber_56 ?_
          refine fr_mem (fun x49 m50 => ?_)
          refine fr_iinc (j := 5) (L' := [(0, vr G 3), (1, vi p), (2, vi w), (3, vi z2), (4, vi z11), (5, vi (l5_19 + 1))]) h dX8_takeNumber_57 rfl (by decide) [1, 2, 3, 4, 5, 0] rfl ?_
          refine fr_goto (tgt := 24) h dX8_takeNumber_60 (by decide) ?_
          exact ih19 (l5_19 + 1) x49 (by omega) (by omega) (by omega) (by omega) (fun a k0 => ((fm_up_row m50 (by omega)).trans (g19_4 a (by omega)))) (by omega)
    exact HL19 ((6 - z15) + 1 : Int).toNat z15 x (by omega) (by omega) (by omega) (by omega) (fun a _ => rfl) (by omega)
  ·
    refine fr_iconst h dX8_takeNumber_11 ?_
    exact fr_iret h hq (by omega) ⟨(by omega), (by omega), (fun h0 h4 h5 => fun j a b => (if_neg (fun q => by omega)).symm), (fun a _ => rfl)⟩ dX8_takeNumber_12
set_option maxHeartbeats 200000 in
theorem g_X8_weight (x : Mm) (p : Int) (w : Int) (h_p : fm_r p) (h_w : fm_r w) : CnI YC yX8_weight cX8_weight 3 .int 2 42 (fun G => [vr G 3, vi p, vi w]) x (fun z y' => (0 ≤ z) ∧ (z ≤ 99) ∧ (y' = x)) := by
  refine cn_I (by decide) (fun _ => Nat.le_of_ble_eq_true rfl) (fun G C h hq => ?_)
  have h : OK YC G C cX8_weight RX8 3 (some .int) 2 42 := h
  show FW YC G C 3 x 0 [(0, vr G 3), (1, vi p), (2, vi w)] []
  refine fr_iload_n h rfl 1 rfl dX8_weight_0 ?_
  refine fr_iload_n h rfl 2 rfl dX8_weight_1 ?_
  refine fr_csI h wX8_areTwoNodes lX8_58 (c_X8_areTwoNodes x p w (by omega) (by omega)) rfl (by decide) (by decide) rfl (Nat.le_of_ble_eq_true rfl) dX8_weight_2 (fun z2 x1 w3 p4 => ?_)
  obtain ⟨p5, p6, y7⟩ := p4
  rw [y7]
  clear y7
  refine fr_if_eq (tgt := 21) h dX8_weight_5 (by decide) (by omega) (fun c8 => ?_) (fun c8 => ?_)
  ·
    refine fr_iconst h dX8_weight_21 ?_
    exact fr_iret h hq (by omega) ⟨(by omega), (by omega), rfl⟩ dX8_weight_22
  ·
    refine fr_aload_n h rfl 0 rfl dX8_weight_8 ?_
    refine fr_getc (z := (3 + 3)) (iz := 2) h kX8 fX8_18 (St_at St_3) rfl rfl (St_f2 St_3) (by omega) dX8_weight_9 ?_
    refine fr_iload_n h rfl 1 rfl dX8_weight_12 ?_
    refine fr_iload_n h rfl 2 rfl dX8_weight_13 ?_
    refine fr_csI h wX8_pairOf lX8_61 (c_X8_pairOf x p w (by omega) (by omega) (by omega) (by omega) (by omega) (by omega)) rfl (by decide) (by decide) rfl (Nat.le_of_ble_eq_true rfl) dX8_weight_14 (fun z10 x9 w11 p12 => ?_)
    obtain ⟨p13, p14, y15⟩ := p12
    rw [y15]
    clear y15
    refine fr_iald h (St_a3 St_3) (by omega) (by omega) (St_r3 St_3 z10) dX8_weight_17 (fun z16 w17 w18 q19 => ?_)
    refine fr_goto (tgt := 22) h dX8_weight_18 (by decide) ?_
    exact fr_iret h hq (by omega) ⟨(by omega), (by omega), rfl⟩ dX8_weight_22
set_option maxHeartbeats 200000 in
theorem g_X8_edges (x : Mm) : CnI YC yX8_edges cX8_edges 3 .int 0 0 (fun G => [vr G 3]) x (fun z y' => (0 ≤ z) ∧ (z ≤ 49) ∧ (y' = x)) := by
  refine cn_I (by decide) (fun _ => Nat.le_of_ble_eq_true rfl) (fun G C h hq => ?_)
  have h : OK YC G C cX8_edges RX8 3 (some .int) 0 0 := h
  show FW YC G C 3 x 0 [(0, vr G 3)] []
  refine fr_iconst h dX8_edges_0 ?_
  refine fr_istore_n (L' := [(0, vr G 3), (1, vi 0)]) h rfl dX8_edges_1 (by decide) [1, 0] rfl ?_
  refine fr_iconst h dX8_edges_2 ?_
  refine fr_istore_n (L' := [(0, vr G 3), (1, vi 0), (2, vi 0)]) h rfl dX8_edges_3 (by decide) [1, 2, 0] rfl ?_
  have HL1 : ∀ (n1 : Nat) (l1_1 l2_1 : Int), fm_r l1_1 → 0 ≤ l1_1 → l1_1 ≤ 49 → fm_r l2_1 → 0 ≤ l2_1 → l2_1 ≤ 49 → l1_1 ≤ l2_1 → (49 - l2_1) < n1 → FW YC G C 3 x 4 [(0, vr G 3), (1, vi l1_1), (2, vi l2_1)] [] := by
    intro n1
    induction n1 with
    | zero =>
      intro l1_1 l2_1 g1_0 g1_1 g1_2 g1_3 g1_4 g1_5 g1_6 g1_7
      exfalso; omega
    | succ n1 ih1 =>
      intro l1_1 l2_1 g1_0 g1_1 g1_2 g1_3 g1_4 g1_5 g1_6 g1_7
      refine fr_iload_n h rfl 2 rfl dX8_edges_4 ?_
      refine fr_bipush h rfl dX8_edges_5 ?_
      refine fr_icmp_ge (tgt := 33) h dX8_edges_7 (by decide) (by omega) (by omega) (fun c2 => ?_) (fun c2 => ?_)
      ·
        refine fr_iload_n h rfl 1 rfl dX8_edges_33 ?_
        exact fr_iret h hq (by omega) ⟨(by omega), (by omega), rfl⟩ dX8_edges_34
      ·
        refine fr_iload_n h rfl 1 rfl dX8_edges_10 ?_
        refine fr_aload_n h rfl 0 rfl dX8_edges_11 ?_
        refine fr_getc (z := (3 + 3)) (iz := 2) h kX8 fX8_18 (St_at St_3) rfl rfl (St_f2 St_3) (by omega) dX8_edges_12 ?_
        refine fr_iload_n h rfl 2 rfl dX8_edges_15 ?_
        refine fr_iald h (St_a3 St_3) (by omega) (by omega) (St_r3 St_3 l2_1) dX8_edges_16 (fun z3 w4 w5 q6 => ?_)
        refine fr_if_le (tgt := 24) h dX8_edges_17 (by decide) (by omega) (fun c7 => ?_) (fun c7 => ?_)
        ·
          refine fr_iconst h dX8_edges_24 ?_
          refine fr_iadd h dX8_edges_25 ?_
          refine fr_istore_n (L' := [(0, vr G 3), (1, vi (l1_1 + 0)), (2, vi l2_1)]) h rfl dX8_edges_26 (by decide) [1, 0, 2] rfl ?_
          refine fr_iinc (j := 2) (L' := [(0, vr G 3), (1, vi (l1_1 + 0)), (2, vi (l2_1 + 1))]) h dX8_edges_27 rfl (by decide) [1, 2, 0] rfl ?_
          refine fr_goto (tgt := 4) h dX8_edges_30 (by decide) ?_
          exact ih1 (l1_1 + 0) (l2_1 + 1) (by omega) (by omega) (by omega) (by omega) (by omega) (by omega) (by omega) (by omega)
        ·
          refine fr_iconst h dX8_edges_20 ?_
          refine fr_goto (tgt := 25) h dX8_edges_21 (by decide) ?_
          refine fr_iadd h dX8_edges_25 ?_
          refine fr_istore_n (L' := [(0, vr G 3), (1, vi (l1_1 + 1)), (2, vi l2_1)]) h rfl dX8_edges_26 (by decide) [1, 0, 2] rfl ?_
          refine fr_iinc (j := 2) (L' := [(0, vr G 3), (1, vi (l1_1 + 1)), (2, vi (l2_1 + 1))]) h dX8_edges_27 rfl (by decide) [1, 2, 0] rfl ?_
          refine fr_goto (tgt := 4) h dX8_edges_30 (by decide) ?_
          exact ih1 (l1_1 + 1) (l2_1 + 1) (by omega) (by omega) (by omega) (by omega) (by omega) (by omega) (by omega) (by omega)
  exact HL1 ((49 - 0) + 1 : Int).toNat 0 0 (by omega) (by omega) (by omega) (by omega) (by omega) (by omega) (by omega) (by omega)
set_option maxHeartbeats 200000 in
theorem g_X8_joinedNodes (x : Mm) : CnI YC yX8_joinedNodes cX8_joinedNodes 3 .int 0 0 (fun G => [vr G 3]) x (fun z y' => (y' = x)) := by
  refine cn_I (by decide) (fun _ => Nat.le_of_ble_eq_true rfl) (fun G C h hq => ?_)
  have h : OK YC G C cX8_joinedNodes RX8 3 (some .int) 0 0 := h
  show FW YC G C 3 x 0 [(0, vr G 3)] []
  refine fr_iconst h dX8_joinedNodes_0 ?_
  refine fr_istore_n (L' := [(0, vr G 3), (1, vi 0)]) h rfl dX8_joinedNodes_1 (by decide) [1, 0] rfl ?_
  refine fr_iconst h dX8_joinedNodes_2 ?_
  refine fr_istore_n (L' := [(0, vr G 3), (1, vi 0), (2, vi 0)]) h rfl dX8_joinedNodes_3 (by decide) [1, 2, 0] rfl ?_
  have HL1 : ∀ (n1 : Nat) (l1_1 l2_1 : Int), fm_r l1_1 → fm_r l2_1 → 0 ≤ l2_1 → l2_1 ≤ 49 → (49 - l2_1) < n1 → FW YC G C 3 x 4 [(0, vr G 3), (1, vi l1_1), (2, vi l2_1)] [] := by
    intro n1
    induction n1 with
    | zero =>
      intro l1_1 l2_1 g1_0 g1_1 g1_2 g1_3 g1_4
      exfalso; omega
    | succ n1 ih1 =>
      intro l1_1 l2_1 g1_0 g1_1 g1_2 g1_3 g1_4
      refine fr_iload_n h rfl 2 rfl dX8_joinedNodes_4 ?_
      refine fr_bipush h rfl dX8_joinedNodes_5 ?_
      refine fr_icmp_ge (tgt := 41) h dX8_joinedNodes_7 (by decide) (by omega) (by omega) (fun c2 => ?_) (fun c2 => ?_)
      ·
        refine fr_iload_n h rfl 1 rfl dX8_joinedNodes_41 ?_
        exact fr_iret h hq (by omega) rfl dX8_joinedNodes_42
      ·
        refine fr_aload_n h rfl 0 rfl dX8_joinedNodes_10 ?_
        refine fr_getc (z := (3 + 3)) (iz := 2) h kX8 fX8_18 (St_at St_3) rfl rfl (St_f2 St_3) (by omega) dX8_joinedNodes_11 ?_
        refine fr_iload_n h rfl 2 rfl dX8_joinedNodes_14 ?_
        refine fr_iald h (St_a3 St_3) (by omega) (by omega) (St_r3 St_3 l2_1) dX8_joinedNodes_15 (fun z3 w4 w5 q6 => ?_)
        refine fr_if_le (tgt := 35) h dX8_joinedNodes_16 (by decide) (by omega) (fun c7 => ?_) (fun c7 => ?_)
        ·
          refine fr_iinc (j := 2) (L' := [(0, vr G 3), (1, vi l1_1), (2, vi (l2_1 + 1))]) h dX8_joinedNodes_35 rfl (by decide) [1, 2, 0] rfl ?_
          refine fr_goto (tgt := 4) h dX8_joinedNodes_38 (by decide) ?_
          exact ih1 l1_1 (l2_1 + 1) (by omega) (by omega) (by omega) (by omega) (by omega)
        ·
          refine fr_iload_n h rfl 1 rfl dX8_joinedNodes_19 ?_
          refine fr_iconst h dX8_joinedNodes_20 ?_
          refine fr_iload_n h rfl 2 rfl dX8_joinedNodes_21 ?_
          refine fr_bipush h rfl dX8_joinedNodes_22 ?_
          refine fr_idiv h (by omega) (by omega) (by omega) dX8_joinedNodes_24 (fun z8 w9 q10 w11 => ?_)
          have w12 := w11
          refine fr_ishl h dX8_joinedNodes_25 (fun z13 w14 q15 w16 => ?_)
          refine fr_iconst h dX8_joinedNodes_26 ?_
          refine fr_iload_n h rfl 2 rfl dX8_joinedNodes_27 ?_
          refine fr_bipush h rfl dX8_joinedNodes_28 ?_
          refine fr_irem h (by omega) (by omega) (by omega) dX8_joinedNodes_30 (fun z17 w18 q19 w20 => ?_)
          have w21 := w20
          refine fr_ishl h dX8_joinedNodes_31 (fun z22 w23 q24 w25 => ?_)
          refine fr_ior h dX8_joinedNodes_32 (fun z26 w27 q28 w29 => ?_)
          refine fr_ior h dX8_joinedNodes_33 (fun z30 w31 q32 w33 => ?_)
          refine fr_istore_n (L' := [(0, vr G 3), (1, vi z30), (2, vi l2_1)]) h rfl dX8_joinedNodes_34 (by decide) [1, 0, 2] rfl ?_
          refine fr_iinc (j := 2) (L' := [(0, vr G 3), (1, vi z30), (2, vi (l2_1 + 1))]) h dX8_joinedNodes_35 rfl (by decide) [1, 2, 0] rfl ?_
          refine fr_goto (tgt := 4) h dX8_joinedNodes_38 (by decide) ?_
          exact ih1 z30 (l2_1 + 1) (by omega) (by omega) (by omega) (by omega) (by omega)
  exact HL1 ((49 - 0) + 1 : Int).toNat 0 0 (by omega) (by omega) (by omega) (by omega) (by omega)
set_option maxHeartbeats 200000 in
theorem g_X8_joinNodes (x : Mm) (p : Int) (w : Int) (v : Int) (h_p : fm_r p) (h_w : fm_r w) (h_v : fm_r v) : CnI YC yX8_joinNodes cX8_joinNodes 6 .int 2 42 (fun G => [vr G 3, vi p, vi w, vi v]) x (fun z y' => ((-3) ≤ z) ∧ (z ≤ 49) ∧ (∀ a : Int, (a < 6 ∨ 6 < a) → y' a = x a)) := by
  refine cn_I (by decide) (fun _ => Nat.le_of_ble_eq_true rfl) (fun G C h hq => ?_)
  have h : OK YC G C cX8_joinNodes RX8 6 (some .int) 2 42 := h
  show FW YC G C 6 x 0 [(0, vr G 3), (1, vi p), (2, vi w), (3, vi v)] []
  refine fr_iload_n h rfl 1 rfl dX8_joinNodes_0 ?_
  refine fr_iload_n h rfl 2 rfl dX8_joinNodes_1 ?_
  refine fr_csI h wX8_areTwoNodes lX8_58 (c_X8_areTwoNodes x p w (by omega) (by omega)) rfl (by decide) (by decide) rfl (Nat.le_of_ble_eq_true rfl) dX8_joinNodes_2 (fun z2 x1 w3 p4 => ?_)
  obtain ⟨p5, p6, y7⟩ := p4
  rw [y7]
  clear y7
  refine fr_if_eq (tgt := 17) h dX8_joinNodes_5 (by decide) (by omega) (fun c8 => ?_) (fun c8 => ?_)
  ·
    refine fr_iconst h dX8_joinNodes_17 ?_
    exact fr_iret h hq (by omega) ⟨(by omega), (by omega), (fun a _ => rfl)⟩ dX8_joinNodes_18
  ·
    refine fr_iload_n h rfl 3 rfl dX8_joinNodes_8 ?_
    refine fr_bipush h rfl dX8_joinNodes_9 ?_
    refine fr_csI h wX8_isBelow lX8_43 (c_X8_isBelow x v 100 (by omega) (by omega)) rfl (by decide) (by decide) rfl (Nat.le_of_ble_eq_true rfl) dX8_joinNodes_11 (fun z10 x9 w11 p12 => ?_)
    obtain ⟨p13, p14, y15⟩ := p12
    rw [y15]
    clear y15
    refine fr_if_ne (tgt := 19) h dX8_joinNodes_14 (by decide) (by omega) (fun c16 => ?_) (fun c16 => ?_)
    ·
      refine fr_iload_n h rfl 1 rfl dX8_joinNodes_19 ?_
      refine fr_iload_n h rfl 2 rfl dX8_joinNodes_20 ?_
      refine fr_csI h wX8_pairOf lX8_61 (c_X8_pairOf x p w (by omega) (by omega) (by omega) (by omega) (by omega) (by omega)) rfl (by decide) (by decide) rfl (Nat.le_of_ble_eq_true rfl) dX8_joinNodes_21 (fun z18 x17 w19 p20 => ?_)
      obtain ⟨p21, p22, y23⟩ := p20
      rw [y23]
      clear y23
      refine fr_istore (L' := [(0, vr G 3), (1, vi p), (2, vi w), (3, vi v), (4, vi z18)]) h dX8_joinNodes_24 (by decide) [1, 2, 3, 4, 0] rfl ?_
      refine fr_aload_n h rfl 0 rfl dX8_joinNodes_26 ?_
      refine fr_getc (z := (3 + 3)) (iz := 2) h kX8 fX8_18 (St_at St_3) rfl rfl (St_f2 St_3) (by omega) dX8_joinNodes_27 ?_
      refine fr_iload h 4 rfl dX8_joinNodes_30 ?_
      refine fr_iald h (St_a3 St_3) (by omega) (by omega) (St_r3 St_3 z18) dX8_joinNodes_32 (fun z24 w25 w26 q27 => ?_)
      refine fr_if_le (tgt := 40) h dX8_joinNodes_33 (by decide) (by omega) (fun c28 => ?_) (fun c28 => ?_)
      ·
        refine fr_iconst h dX8_joinNodes_40 ?_
        refine fr_istore (L' := [(0, vr G 3), (1, vi p), (2, vi w), (3, vi v), (4, vi z18), (5, vi 0)]) h dX8_joinNodes_41 (by decide) [1, 2, 3, 4, 5, 0] rfl ?_
        refine fr_iload_n h rfl 3 rfl dX8_joinNodes_43 ?_
        refine fr_if_ne (tgt := 55) h dX8_joinNodes_44 (by decide) (by omega) (fun c29 => ?_) (fun c29 => ?_)
        ·
          refine fr_iload h 5 rfl dX8_joinNodes_55 ?_
          refine fr_if_ne (tgt := 72) h dX8_joinNodes_57 (by decide) (by omega) (fun c30 => by exfalso; omega) (fun c30 => ?_)
          refine fr_aload_n h rfl 0 rfl dX8_joinNodes_60 ?_
          refine fr_cvI h kX8 (St_at St_3) wX8_edges lX8_64 (g_X8_edges x) rfl (by decide) (by decide) rfl (Nat.le_of_ble_eq_true rfl) dX8_joinNodes_61 (fun z32 x31 w33 p34 => ?_)
          obtain ⟨p35, p36, y37⟩ := p34
          rw [y37]
          clear y37
          refine fr_bipush h rfl dX8_joinNodes_64 ?_
          refine fr_icmp_lt (tgt := 72) h dX8_joinNodes_66 (by decide) (by omega) (by omega) (fun c38 => ?_) (fun c38 => ?_)
          ·
            refine fr_aload_n h rfl 0 rfl dX8_joinNodes_72 ?_
            refine fr_getc (z := (3 + 3)) (iz := 2) h kX8 fX8_18 (St_at St_3) rfl rfl (St_f2 St_3) (by omega) dX8_joinNodes_73 ?_
            refine fr_iload h 4 rfl dX8_joinNodes_76 ?_
            refine fr_iload_n h rfl 3 rfl dX8_joinNodes_78 ?_
            refine fr_iast h (St_a3 St_3) (by omega) (by omega) (St_r3 St_3 z18) (by omega) (by omega) dX8_joinNodes_79 ?_
            refine fr_mem (fun x39 m40 => ?_)
            refine fr_aload_n h rfl 0 rfl dX8_joinNodes_80 ?_
            refine fr_cvI h kX8 (St_at St_3) wX8_edges lX8_64 (g_X8_edges x39) rfl (by decide) (by decide) rfl (Nat.le_of_ble_eq_true rfl) dX8_joinNodes_81 (fun z42 x41 w43 p44 => ?_)
            obtain ⟨p45, p46, y47⟩ := p44
            rw [y47]
            clear y47
            exact fr_iret h hq (by omega) ⟨(by omega), (by omega), (fun a k0 => (fm_up_row m40 (by omega)))⟩ dX8_joinNodes_84
          ·
            refine fr_bipush h rfl dX8_joinNodes_69 ?_
            exact fr_iret h hq (by omega) ⟨(by omega), (by omega), (fun a _ => rfl)⟩ dX8_joinNodes_71
        ·
          refine fr_iload h 5 rfl dX8_joinNodes_47 ?_
          refine fr_if_ne (tgt := 55) h dX8_joinNodes_49 (by decide) (by omega) (fun c48 => by exfalso; omega) (fun c48 => ?_)
          refine fr_bipush h rfl dX8_joinNodes_52 ?_
          exact fr_iret h hq (by omega) ⟨(by omega), (by omega), (fun a _ => rfl)⟩ dX8_joinNodes_54
      ·
        refine fr_iconst h dX8_joinNodes_36 ?_
        refine fr_goto (tgt := 41) h dX8_joinNodes_37 (by decide) ?_
        refine fr_istore (L' := [(0, vr G 3), (1, vi p), (2, vi w), (3, vi v), (4, vi z18), (5, vi 1)]) h dX8_joinNodes_41 (by decide) [1, 2, 3, 4, 5, 0] rfl ?_
        refine fr_iload_n h rfl 3 rfl dX8_joinNodes_43 ?_
        refine fr_if_ne (tgt := 55) h dX8_joinNodes_44 (by decide) (by omega) (fun c49 => ?_) (fun c49 => ?_)
        ·
          refine fr_iload h 5 rfl dX8_joinNodes_55 ?_
          refine fr_if_ne (tgt := 72) h dX8_joinNodes_57 (by decide) (by omega) (fun c50 => ?_) (fun c50 => by exfalso; omega)
          refine fr_aload_n h rfl 0 rfl dX8_joinNodes_72 ?_
          refine fr_getc (z := (3 + 3)) (iz := 2) h kX8 fX8_18 (St_at St_3) rfl rfl (St_f2 St_3) (by omega) dX8_joinNodes_73 ?_
          refine fr_iload h 4 rfl dX8_joinNodes_76 ?_
          refine fr_iload_n h rfl 3 rfl dX8_joinNodes_78 ?_
          refine fr_iast h (St_a3 St_3) (by omega) (by omega) (St_r3 St_3 z18) (by omega) (by omega) dX8_joinNodes_79 ?_
          refine fr_mem (fun x51 m52 => ?_)
          refine fr_aload_n h rfl 0 rfl dX8_joinNodes_80 ?_
          refine fr_cvI h kX8 (St_at St_3) wX8_edges lX8_64 (g_X8_edges x51) rfl (by decide) (by decide) rfl (Nat.le_of_ble_eq_true rfl) dX8_joinNodes_81 (fun z54 x53 w55 p56 => ?_)
          obtain ⟨p57, p58, y59⟩ := p56
          rw [y59]
          clear y59
          exact fr_iret h hq (by omega) ⟨(by omega), (by omega), (fun a k0 => (fm_up_row m52 (by omega)))⟩ dX8_joinNodes_84
        ·
          refine fr_iload h 5 rfl dX8_joinNodes_47 ?_
          refine fr_if_ne (tgt := 55) h dX8_joinNodes_49 (by decide) (by omega) (fun c60 => ?_) (fun c60 => by exfalso; omega)
          refine fr_iload h 5 rfl dX8_joinNodes_55 ?_
          refine fr_if_ne (tgt := 72) h dX8_joinNodes_57 (by decide) (by omega) (fun c61 => ?_) (fun c61 => by exfalso; omega)
          refine fr_aload_n h rfl 0 rfl dX8_joinNodes_72 ?_
          refine fr_getc (z := (3 + 3)) (iz := 2) h kX8 fX8_18 (St_at St_3) rfl rfl (St_f2 St_3) (by omega) dX8_joinNodes_73 ?_
          refine fr_iload h 4 rfl dX8_joinNodes_76 ?_
          refine fr_iload_n h rfl 3 rfl dX8_joinNodes_78 ?_
          refine fr_iast h (St_a3 St_3) (by omega) (by omega) (St_r3 St_3 z18) (by omega) (by omega) dX8_joinNodes_79 ?_
          refine fr_mem (fun x62 m63 => ?_)
          refine fr_aload_n h rfl 0 rfl dX8_joinNodes_80 ?_
          refine fr_cvI h kX8 (St_at St_3) wX8_edges lX8_64 (g_X8_edges x62) rfl (by decide) (by decide) rfl (Nat.le_of_ble_eq_true rfl) dX8_joinNodes_81 (fun z65 x64 w66 p67 => ?_)
          obtain ⟨p68, p69, y70⟩ := p67
          rw [y70]
          clear y70
          exact fr_iret h hq (by omega) ⟨(by omega), (by omega), (fun a k0 => (fm_up_row m63 (by omega)))⟩ dX8_joinNodes_84
    ·
      refine fr_iconst h dX8_joinNodes_17 ?_
      exact fr_iret h hq (by omega) ⟨(by omega), (by omega), (fun a _ => rfl)⟩ dX8_joinNodes_18
set_option maxHeartbeats 200000 in
theorem g_X8_setCost (x : Mm) (p : Int) (w : Int) (v : Int) (h_p : fm_r p) (h_w : fm_r w) (h_v : fm_r v) : CnI YC yX8_setCost cX8_setCost 5 .int 1 21 (fun G => [vr G 3, vi p, vi w, vi v]) x (fun z y' => ((-1) ≤ z) ∧ (z ≤ 99) ∧ (∀ a : Int, (a < 7 ∨ 7 < a) → y' a = x a)) := by
  refine cn_I (by decide) (fun _ => Nat.le_of_ble_eq_true rfl) (fun G C h hq => ?_)
  have h : OK YC G C cX8_setCost RX8 5 (some .int) 1 21 := h
  show FW YC G C 5 x 0 [(0, vr G 3), (1, vi p), (2, vi w), (3, vi v)] []
  refine fr_iload_n h rfl 1 rfl dX8_setCost_0 ?_
  refine fr_iconst h dX8_setCost_1 ?_
  refine fr_csI h wX8_isBelow lX8_43 (c_X8_isBelow x p 5 (by omega) (by omega)) rfl (by decide) (by decide) rfl (Nat.le_of_ble_eq_true rfl) dX8_setCost_2 (fun z2 x1 w3 p4 => ?_)
  obtain ⟨p5, p6, y7⟩ := p4
  rw [y7]
  clear y7
  refine fr_if_eq (tgt := 25) h dX8_setCost_5 (by decide) (by omega) (fun c8 => ?_) (fun c8 => ?_)
  ·
    refine fr_iconst h dX8_setCost_25 ?_
    exact fr_iret h hq (by omega) ⟨(by omega), (by omega), (fun a _ => rfl)⟩ dX8_setCost_26
  ·
    refine fr_iload_n h rfl 2 rfl dX8_setCost_8 ?_
    refine fr_iconst h dX8_setCost_9 ?_
    refine fr_csI h wX8_isBelow lX8_43 (c_X8_isBelow x w 5 (by omega) (by omega)) rfl (by decide) (by decide) rfl (Nat.le_of_ble_eq_true rfl) dX8_setCost_10 (fun z10 x9 w11 p12 => ?_)
    obtain ⟨p13, p14, y15⟩ := p12
    rw [y15]
    clear y15
    refine fr_if_eq (tgt := 25) h dX8_setCost_13 (by decide) (by omega) (fun c16 => ?_) (fun c16 => ?_)
    ·
      refine fr_iconst h dX8_setCost_25 ?_
      exact fr_iret h hq (by omega) ⟨(by omega), (by omega), (fun a _ => rfl)⟩ dX8_setCost_26
    ·
      refine fr_iload_n h rfl 3 rfl dX8_setCost_16 ?_
      refine fr_bipush h rfl dX8_setCost_17 ?_
      refine fr_csI h wX8_isBelow lX8_43 (c_X8_isBelow x v 100 (by omega) (by omega)) rfl (by decide) (by decide) rfl (Nat.le_of_ble_eq_true rfl) dX8_setCost_19 (fun z18 x17 w19 p20 => ?_)
      obtain ⟨p21, p22, y23⟩ := p20
      rw [y23]
      clear y23
      refine fr_if_ne (tgt := 27) h dX8_setCost_22 (by decide) (by omega) (fun c24 => ?_) (fun c24 => ?_)
      ·
        refine fr_aload_n h rfl 0 rfl dX8_setCost_27 ?_
        refine fr_getc (z := (3 + 4)) (iz := 3) h kX8 fX8_21 (St_at St_3) rfl rfl (St_f3 St_3) (by omega) dX8_setCost_28 ?_
        refine fr_iload_n h rfl 1 rfl dX8_setCost_31 ?_
        refine fr_iconst h dX8_setCost_32 ?_
        refine fr_imul h dX8_setCost_33 ?_
        refine fr_normi (fun z25 w26 q27 => ?_)
        have w28 : fm_r ((p * 5)) → z25 = (p * 5) := fun q => (iI_inj q w26 q27).symm
        refine fr_iload_n h rfl 2 rfl dX8_setCost_34 ?_
        refine fr_iadd h dX8_setCost_35 ?_
        refine fr_normi (fun z29 w30 q31 => ?_)
        have w32 : fm_r ((z25 + w)) → z29 = (z25 + w) := fun q => (iI_inj q w30 q31).symm
        refine fr_iald h (St_a4 St_3) (by omega) (by omega) (St_r4 St_3 z29) dX8_setCost_36 (fun z33 w34 w35 q36 => ?_)
        refine fr_istore (L' := [(0, vr G 3), (1, vi p), (2, vi w), (3, vi v), (4, vi z33)]) h dX8_setCost_37 (by decide) [1, 2, 3, 4, 0] rfl ?_
        refine fr_aload_n h rfl 0 rfl dX8_setCost_39 ?_
        refine fr_getc (z := (3 + 4)) (iz := 3) h kX8 fX8_21 (St_at St_3) rfl rfl (St_f3 St_3) (by omega) dX8_setCost_40 ?_
        refine fr_iload_n h rfl 1 rfl dX8_setCost_43 ?_
        refine fr_iconst h dX8_setCost_44 ?_
        refine fr_imul h dX8_setCost_45 ?_
        refine fr_normi (fun z37 w38 q39 => ?_)
        have w40 : fm_r ((p * 5)) → z37 = (p * 5) := fun q => (iI_inj q w38 q39).symm
        refine fr_iload_n h rfl 2 rfl dX8_setCost_46 ?_
        refine fr_iadd h dX8_setCost_47 ?_
        refine fr_normi (fun z41 w42 q43 => ?_)
        have w44 : fm_r ((z37 + w)) → z41 = (z37 + w) := fun q => (iI_inj q w42 q43).symm
        refine fr_iload_n h rfl 3 rfl dX8_setCost_48 ?_
        refine fr_iast h (St_a4 St_3) (by omega) (by omega) (St_r4 St_3 z41) (by omega) (by omega) dX8_setCost_49 ?_
        refine fr_mem (fun x45 m46 => ?_)
        refine fr_iload h 4 rfl dX8_setCost_50 ?_
        exact fr_iret h hq (by omega) ⟨(by omega), (by omega), (fun a k0 => (fm_up_row m46 (by omega)))⟩ dX8_setCost_52
      ·
        refine fr_iconst h dX8_setCost_25 ?_
        exact fr_iret h hq (by omega) ⟨(by omega), (by omega), (fun a _ => rfl)⟩ dX8_setCost_26
set_option maxHeartbeats 200000 in
theorem g_X6_outdate (x : Mm) (o : Int) (on : Nat) (ho : OrN o on) : CnV YC yX6_outdate cX6_outdate 1 0 0 (fun G => [vr G o]) x (fun y' => (y' o 1 = x o 1) ∧ (y' o 2 = 0) ∧ (∀ a : Int, (a < o ∨ o < a) → y' a = x a)) := by
  refine cn_V (by decide) (fun _ => Nat.le_of_ble_eq_true rfl) (fun G C h hq => ?_)
  have h : OK YC G C cX6_outdate RX6 1 none 0 0 := h
  show FW YC G C 1 x 0 [(0, vr G o)] []
  have h_o := OrN_b ho
  refine fr_aload_n h rfl 0 rfl dX6_outdate_0 ?_
  refine fr_iconst h dX6_outdate_1 ?_
  refine fr_putz (iz := 2) h kX6 fX6_19 (Or_at (OrN_is ho)) rfl rfl (by decide) (by decide) rfl (by decide +kernel) (Or_f2 (OrN_is ho)) (by omega) (by omega) (by omega) dX6_outdate_2 ?_
  refine fr_mem (fun x1 m2 => ?_)
  have r3 := (fm_rd_i (a := o) (b := 1) m2 (by decide))
  have r4 := (fm_rd_s m2)
  exact fr_vret h hq ⟨(by omega), (by omega), (fun a k0 => (fm_up_row m2 (by omega)))⟩ dX6_outdate_5
set_option maxHeartbeats 200000 in
theorem g_X11_changed (x : Mm) : CnV YC yX11_changed cX11_changed 2 1 20 (fun G => [vr G 0]) x (fun y' => (x 79 2 = 0 → y' 79 2 = 0) ∧ (∀ a : Int, (a < 79 ∨ 88 < a) → (a < 95 ∨ 97 < a) → y' a = x a)) := by
  refine cn_V (by decide) (fun _ => Nat.le_of_ble_eq_true rfl) (fun G C h hq => ?_)
  have h : OK YC G C cX11_changed RX11 2 none 1 20 := h
  show FW YC G C 2 x 0 [(0, vr G 0)] []
  refine fr_iconst h dX11_changed_0 ?_
  refine fr_istore_n (L' := [(0, vr G 0), (1, vi 0)]) h rfl dX11_changed_1 (by decide) [1, 0] rfl ?_
  have HL1 : ∀ (n1 : Nat) (l1_1 : Int) (x_1 : Mm), fm_r l1_1 → 0 ≤ l1_1 → l1_1 ≤ 5 → (x 79 2 = 0 → x_1 79 2 = 0) → (∀ a : Int, (a < 79 ∨ 88 < a) → x_1 a = x a) → (5 - l1_1) < n1 → FW YC G C 2 x_1 2 [(0, vr G 0), (1, vi l1_1)] [] := by
    intro n1
    induction n1 with
    | zero =>
      intro l1_1 x_1 g1_0 g1_1 g1_2 g1_3 g1_4 g1_5
      exfalso; omega
    | succ n1 ih1 =>
      intro l1_1 x_1 g1_0 g1_1 g1_2 g1_3 g1_4 g1_5
      refine fr_iload_n h rfl 1 rfl dX11_changed_2 ?_
      refine fr_iconst h dX11_changed_3 ?_
      refine fr_icmp_ge (tgt := 22) h dX11_changed_4 (by decide) (by omega) (by omega) (fun c2 => ?_) (fun c2 => ?_)
      ·
        refine fr_iconst h dX11_changed_22 ?_
        refine fr_istore_n (L' := [(0, vr G 0), (1, vi 0)]) h rfl dX11_changed_23 (by decide) [1, 0] rfl ?_
        have HL3 : ∀ (n3 : Nat) (l1_3 : Int) (x_3 : Mm), fm_r l1_3 → 0 ≤ l1_3 → l1_3 ≤ 3 → (∀ a : Int, (a < 95 ∨ 97 < a) → x_3 a = x_1 a) → (3 - l1_3) < n3 → FW YC G C 2 x_3 24 [(0, vr G 0), (1, vi l1_3)] [] := by
          intro n3
          induction n3 with
          | zero =>
            intro l1_3 x_3 g3_0 g3_1 g3_2 g3_3 g3_4
            exfalso; omega
          | succ n3 ih3 =>
            intro l1_3 x_3 g3_0 g3_1 g3_2 g3_3 g3_4
            refine fr_iload_n h rfl 1 rfl dX11_changed_24 ?_
            refine fr_iconst h dX11_changed_25 ?_
            refine fr_icmp_ge (tgt := 44) h dX11_changed_26 (by decide) (by omega) (by omega) (fun c4 => ?_) (fun c4 => ?_)
            ·
              have r5 := (congrFun (g3_3 79 (by omega)) 2)
              exact fr_vret h hq ⟨(by omega), (fun a k0 k1 => ((g3_3 a (by omega)).trans (g1_4 a (by omega))))⟩ dX11_changed_44
            ·
              refine fr_aload_n h rfl 0 rfl dX11_changed_29 ?_
              refine fr_getc (z := 94) (iz := 9) h kX11 fX11_63 at_0 rfl rfl rf_0_9 (by omega) dX11_changed_30 ?_
              refine fr_iload_n h rfl 1 rfl dX11_changed_33 ?_
              refine fr_aaldc7 h ar_94 (by omega) (by omega) (rx_94 (by omega) (by omega)) (by omega) dX11_changed_34 (fun q6 w7 => ?_)
              have i8 : isCu q6 := by rw [w7]; exact Cu_ix94 (by omega) (by omega)
              have h_q6 := Cu_b i8
              refine fr_cvV h kX3 (Cu_at i8) wX3_outdate lX11_368 (c_X3_outdate x_3 q6 i8) rfl (by decide) (by decide) rfl (Nat.le_of_ble_eq_true rfl) dX11_changed_35 (fun x9 p12 => ?_)
              have f13 := p12
              refine fr_iinc (j := 1) (L' := [(0, vr G 0), (1, vi (l1_3 + 1))]) h dX11_changed_38 rfl (by decide) [1, 0] rfl ?_
              refine fr_goto (tgt := 24) h dX11_changed_41 (by decide) ?_
              exact ih3 (l1_3 + 1) x9 (by omega) (by omega) (by omega) (fun a k0 => ((f13 a (by omega)).trans (g3_3 a (by omega)))) (by omega)
        exact HL3 ((3 - 0) + 1 : Int).toNat 0 x_1 (by omega) (by omega) (by omega) (fun a _ => rfl) (by omega)
      ·
        refine fr_aload_n h rfl 0 rfl dX11_changed_7 ?_
        refine fr_getc (z := 78) (iz := 7) h kX11 fX11_50 at_0 rfl rfl rf_0_7 (by omega) dX11_changed_8 ?_
        refine fr_iload_n h rfl 1 rfl dX11_changed_11 ?_
        refine fr_aaldc6 h ar_78 (by omega) (by omega) (rx_78 (by omega) (by omega)) (by omega) dX11_changed_12 (fun q14 w15 => ?_)
        obtain ⟨n17, i16⟩ := OrN_ex (show isOr q14 by rw [w15]; exact Or_ix78 (by omega) (by omega))
        have h_q14 := OrN_b i16
        refine fr_cvV h kX6 (Or_at (OrN_is i16)) wX6_outdate lX11_365 (g_X6_outdate x_1 q14 n17 i16) rfl (by decide) (by decide) rfl (Nat.le_of_ble_eq_true rfl) dX11_changed_13 (fun x18 p21 => ?_)
        obtain ⟨p22, p23, f24⟩ := p21
        refine fr_iinc (j := 1) (L' := [(0, vr G 0), (1, vi (l1_1 + 1))]) h dX11_changed_16 rfl (by decide) [1, 0] rfl ?_
        refine fr_goto (tgt := 2) h dX11_changed_19 (by decide) ?_
        exact ih1 (l1_1 + 1) x18 (by omega) (by omega) (by omega) (fun q => by by_cases q9 : q14 = (79 : Int); (rw [← q9]; exact p23); (exact (congrFun (f24 79 (by omega)) 2).trans (g1_3 q))) (fun a k0 => ((f24 a (by omega)).trans (g1_4 a (by omega)))) (by omega)
  exact HL1 ((5 - 0) + 1 : Int).toNat 0 x (by omega) (by omega) (by omega) (fun q => q) (fun a _ => rfl) (by omega)
set_option maxHeartbeats 200000 in
theorem g_X11_settled (x : Mm) (p : Int) (h_p : fm_r p) : CnI YC yX11_settled cX11_settled 2 .int 3 68 (fun G => [vr G 0, vi p]) x (fun z y' => (z = p) ∧ (x 79 2 = 0 → y' 79 2 = 0) ∧ (∀ a : Int, (a < 14 ∨ 65 < a) → (a < 79 ∨ 88 < a) → (a < 95 ∨ 97 < a) → y' a = x a)) := by
  refine cn_I (by decide) (fun _ => Nat.le_of_ble_eq_true rfl) (fun G C h hq => ?_)
  have h : OK YC G C cX11_settled RX11 2 (some .int) 3 68 := h
  show FW YC G C 2 x 0 [(0, vr G 0), (1, vi p)] []
  refine fr_iload_n h rfl 1 rfl dX11_settled_0 ?_
  refine fr_if_lt (tgt := 19) h dX11_settled_1 (by decide) (by omega) (fun c1 => ?_) (fun c1 => ?_)
  ·
    refine fr_iload_n h rfl 1 rfl dX11_settled_19 ?_
    exact fr_iret h hq (by omega) ⟨(by omega), (by omega), (fun a _ _ _ => rfl)⟩ dX11_settled_20
  ·
    refine fr_aload_n h rfl 0 rfl dX11_settled_4 ?_
    refine fr_getc (z := 14) (iz := 4) h kX11 fX11_36 at_0 rfl rfl rf_0_4 (by omega) dX11_settled_5 ?_
    refine fr_aload_n h rfl 0 rfl dX11_settled_8 ?_
    refine fr_getc (z := 8) (iz := 2) h kX11 fX11_23 at_0 rfl rfl rf_0_2 (by omega) dX11_settled_9 ?_
    refine fr_cvV h kX5 at_14 wX5_add lX11_363 (c_X5_add x 8 St_8) rfl (by decide) (by decide) rfl (Nat.le_of_ble_eq_true rfl) dX11_settled_12 (fun x2 p5 => ?_)
    have f6 := p5
    refine fr_aload_n h rfl 0 rfl dX11_settled_15 ?_
    refine fr_cvV h kX11 at_0 wX11_changed lX11_136 (g_X11_changed x2) rfl (by decide) (by decide) rfl (Nat.le_of_ble_eq_true rfl) dX11_settled_16 (fun x7 p10 => ?_)
    obtain ⟨p11, f12⟩ := p10
    refine fr_iload_n h rfl 1 rfl dX11_settled_19 ?_
    have r13 := (congrFun (f6 79 (by omega)) 2)
    exact fr_iret h hq (by omega) ⟨(by omega), (by omega), (fun a k0 k1 k2 => ((f12 a (by omega) (by omega)).trans (f6 a (by omega))))⟩ dX11_settled_20
set_option maxHeartbeats 200000 in
theorem g_X8_copyFrom (x : Mm) (b : Int) (hb : isSt b) (b2 : Int) (hb2 : isSt b2) : CnV YC yX8_copyFrom cX8_copyFrom 2 1 26 (fun G => [vr G b, vr G b2]) x (fun y' => (∀ a : Int, (a < b ∨ b + 4 < a) → y' a = x a)) := by
  refine cn_V (by decide) (fun _ => Nat.le_of_ble_eq_true rfl) (fun G C h hq => ?_)
  have h : OK YC G C cX8_copyFrom RX8 2 none 1 26 := h
  show FW YC G C 2 x 0 [(0, vr G b), (1, vr G b2)] []
  have h_b := St_b hb
  have h_b2 := St_b hb2
  refine fr_aload_n h rfl 1 rfl dX8_copyFrom_0 ?_
  refine fr_getc (z := (b2 + 1)) (iz := 0) h kX8 fX8_9 (St_at hb2) rfl rfl (St_f0 hb2) (by omega) dX8_copyFrom_1 ?_
  refine fr_iconst h dX8_copyFrom_4 ?_
  refine fr_aload_n h rfl 0 rfl dX8_copyFrom_5 ?_
  refine fr_getc (z := (b + 1)) (iz := 0) h kX8 fX8_9 (St_at hb) rfl rfl (St_f0 hb) (by omega) dX8_copyFrom_6 ?_
  refine fr_iconst h dX8_copyFrom_9 ?_
  refine fr_iconst h dX8_copyFrom_10 ?_
  refine fr_copyi (n0 := 4) (n := 4) h (St_a1 hb2) (St_a1 hb) (by decide) (fun b => by rw [(St_r1 hb2 b), (St_r1 hb b)]; decide) (tb_2 (i := 108) (by decide +kernel) (by decide +kernel)) w_copy (by decide) (by decide) (Nat.le_of_ble_eq_true rfl) rfl dX8_copyFrom_11 (fun x1 m2 => ?_)
  refine fr_aload_n h rfl 1 rfl dX8_copyFrom_14 ?_
  refine fr_getc (z := (b2 + 2)) (iz := 1) h kX8 fX8_15 (St_at hb2) rfl rfl (St_f1 hb2) (by omega) dX8_copyFrom_15 ?_
  refine fr_iconst h dX8_copyFrom_18 ?_
  refine fr_aload_n h rfl 0 rfl dX8_copyFrom_19 ?_
  refine fr_getc (z := (b + 2)) (iz := 1) h kX8 fX8_15 (St_at hb) rfl rfl (St_f1 hb) (by omega) dX8_copyFrom_20 ?_
  refine fr_iconst h dX8_copyFrom_23 ?_
  refine fr_bipush h rfl dX8_copyFrom_24 ?_
  refine fr_copyi (n0 := 24) (n := 24) h (St_a2 hb2) (St_a2 hb) (by decide) (fun b => by rw [(St_r2 hb2 b), (St_r2 hb b)]; decide) (tb_2 (i := 108) (by decide +kernel) (by decide +kernel)) w_copy (by decide) (by decide) (Nat.le_of_ble_eq_true rfl) rfl dX8_copyFrom_26 (fun x3 m4 => ?_)
  refine fr_aload_n h rfl 1 rfl dX8_copyFrom_29 ?_
  refine fr_getc (z := (b2 + 3)) (iz := 2) h kX8 fX8_18 (St_at hb2) rfl rfl (St_f2 hb2) (by omega) dX8_copyFrom_30 ?_
  refine fr_iconst h dX8_copyFrom_33 ?_
  refine fr_aload_n h rfl 0 rfl dX8_copyFrom_34 ?_
  refine fr_getc (z := (b + 3)) (iz := 2) h kX8 fX8_18 (St_at hb) rfl rfl (St_f2 hb) (by omega) dX8_copyFrom_35 ?_
  refine fr_iconst h dX8_copyFrom_38 ?_
  refine fr_bipush h rfl dX8_copyFrom_39 ?_
  refine fr_copyi (n0 := 49) (n := 49) h (St_a3 hb2) (St_a3 hb) (by decide) (fun b => by rw [(St_r3 hb2 b), (St_r3 hb b)]; decide) (tb_2 (i := 108) (by decide +kernel) (by decide +kernel)) w_copy (by decide) (by decide) (Nat.le_of_ble_eq_true rfl) rfl dX8_copyFrom_41 (fun x5 m6 => ?_)
  refine fr_aload_n h rfl 1 rfl dX8_copyFrom_44 ?_
  refine fr_getc (z := (b2 + 4)) (iz := 3) h kX8 fX8_21 (St_at hb2) rfl rfl (St_f3 hb2) (by omega) dX8_copyFrom_45 ?_
  refine fr_iconst h dX8_copyFrom_48 ?_
  refine fr_aload_n h rfl 0 rfl dX8_copyFrom_49 ?_
  refine fr_getc (z := (b + 4)) (iz := 3) h kX8 fX8_21 (St_at hb) rfl rfl (St_f3 hb) (by omega) dX8_copyFrom_50 ?_
  refine fr_iconst h dX8_copyFrom_53 ?_
  refine fr_bipush h rfl dX8_copyFrom_54 ?_
  refine fr_copyi (n0 := 25) (n := 25) h (St_a4 hb2) (St_a4 hb) (by decide) (fun b => by rw [(St_r4 hb2 b), (St_r4 hb b)]; decide) (tb_2 (i := 108) (by decide +kernel) (by decide +kernel)) w_copy (by decide) (by decide) (Nat.le_of_ble_eq_true rfl) rfl dX8_copyFrom_56 (fun x7 m8 => ?_)
  refine fr_aload_n h rfl 0 rfl dX8_copyFrom_59 ?_
  refine fr_aload_n h rfl 1 rfl dX8_copyFrom_60 ?_
  refine fr_geti (iz := 4) h kX8 fX8_34 (St_at hb2) rfl rfl (by decide) (by decide) (St_f4 hb2) dX8_copyFrom_61 (fun z9 w10 w11 q12 => ?_)
  refine fr_puti (iz := 4) h kX8 fX8_34 (St_at hb) rfl rfl (by decide) (by decide) rfl (by decide +kernel) (St_f4 hb) (by omega) (by omega) dX8_copyFrom_64 ?_
  refine fr_mem (fun x13 m14 => ?_)
  refine fr_aload_n h rfl 0 rfl dX8_copyFrom_67 ?_
  refine fr_aload_n h rfl 1 rfl dX8_copyFrom_68 ?_
  refine fr_geti (iz := 5) h kX8 fX8_37 (St_at hb2) rfl rfl (by decide) (by decide) (St_f5 hb2) dX8_copyFrom_69 (fun z15 w16 w17 q18 => ?_)
  refine fr_puti (iz := 5) h kX8 fX8_37 (St_at hb) rfl rfl (by decide) (by decide) rfl (by decide +kernel) (St_f5 hb) (by omega) (by omega) dX8_copyFrom_72 ?_
  refine fr_mem (fun x19 m20 => ?_)
  refine fr_aload_n h rfl 0 rfl dX8_copyFrom_75 ?_
  refine fr_aload_n h rfl 1 rfl dX8_copyFrom_76 ?_
  refine fr_geti (iz := 6) h kX8 fX8_40 (St_at hb2) rfl rfl (by decide) (by decide) (St_f6 hb2) dX8_copyFrom_77 (fun z21 w22 w23 q24 => ?_)
  refine fr_puti (iz := 6) h kX8 fX8_40 (St_at hb) rfl rfl (by decide) (by decide) rfl (by decide +kernel) (St_f6 hb) (by omega) (by omega) dX8_copyFrom_80 ?_
  refine fr_mem (fun x25 m26 => ?_)
  refine fr_aload_n h rfl 0 rfl dX8_copyFrom_83 ?_
  refine fr_aload_n h rfl 1 rfl dX8_copyFrom_84 ?_
  refine fr_geti (iz := 7) h kX8 fX8_24 (St_at hb2) rfl rfl (by decide) (by decide) (St_f7 hb2) dX8_copyFrom_85 (fun z27 w28 w29 q30 => ?_)
  refine fr_puti (iz := 7) h kX8 fX8_24 (St_at hb) rfl rfl (by decide) (by decide) rfl (by decide +kernel) (St_f7 hb) (by omega) (by omega) dX8_copyFrom_88 ?_
  refine fr_mem (fun x31 m32 => ?_)
  exact fr_vret h hq (fun a k0 => ((fm_up_row m32 (by omega)).trans ((fm_up_row m26 (by omega)).trans ((fm_up_row m20 (by omega)).trans ((fm_up_row m14 (by omega)).trans ((fm_cp_row m8 (by omega)).trans ((fm_cp_row m6 (by omega)).trans ((fm_cp_row m4 (by omega)).trans (fm_cp_row m2 (by omega)))))))))) dX8_copyFrom_91
set_option maxHeartbeats 200000 in
theorem g_X11_puts (x : Mm) (p : Int) (v : Int) (h_p : fm_r p) (h_v : fm_r v) : CnI YC yX11_puts cX11_puts 3 .int 4 89 (fun G => [vr G 0, vi p, vi v]) x (fun z y' => (0 ≤ p → p < 4 → 0 ≤ v ∧ v ≤ 99 → LQ (y' (3 + 1)) (ptL (x (3 + 1)) p)) ∧ (x 79 2 = 0 → y' 79 2 = 0) ∧ (∀ a : Int, (a < 4 ∨ 5 < a) → (a < 8 ∨ 12 < a) → (a < 14 ∨ 65 < a) → (a < 79 ∨ 88 < a) → (a < 95 ∨ 97 < a) → y' a = x a)) := by
  refine cn_I (by decide) (fun _ => Nat.le_of_ble_eq_true rfl) (fun G C h hq => ?_)
  have h : OK YC G C cX11_puts RX11 3 (some .int) 4 89 := h
  show FW YC G C 3 x 0 [(0, vr G 0), (1, vi p), (2, vi v)] []
  refine fr_aload_n h rfl 0 rfl dX11_puts_0 ?_
  refine fr_getc (z := 8) (iz := 2) h kX11 fX11_23 at_0 rfl rfl rf_0_2 (by omega) dX11_puts_1 ?_
  refine fr_aload_n h rfl 0 rfl dX11_puts_4 ?_
  refine fr_getc (z := 3) (iz := 1) h kX11 fX11_19 at_0 rfl rfl rf_0_1 (by omega) dX11_puts_5 ?_
  refine fr_cvV h kX8 (St_at St_8) wX8_copyFrom lX11_120 (g_X8_copyFrom x 8 St_8 3 St_3) rfl (by decide) (by decide) rfl (Nat.le_of_ble_eq_true rfl) dX11_puts_8 (fun x1 p4 => ?_)
  have f5 := p4
  refine fr_aload_n h rfl 0 rfl dX11_puts_11 ?_
  refine fr_aload_n h rfl 0 rfl dX11_puts_12 ?_
  refine fr_getc (z := 3) (iz := 1) h kX11 fX11_19 at_0 rfl rfl rf_0_1 (by omega) dX11_puts_13 ?_
  refine fr_iload_n h rfl 1 rfl dX11_puts_16 ?_
  refine fr_iload_n h rfl 2 rfl dX11_puts_17 ?_
  refine fr_cvI h kX8 (St_at St_3) wX8_putNumber lX11_162 (g_X8_putNumber x1 p v (by omega) (by omega)) rfl (by decide) (by decide) rfl (Nat.le_of_ble_eq_true rfl) dX11_puts_18 (fun z7 x6 w8 p9 => ?_)
  obtain ⟨p10, p11, p12, f13⟩ := p9
  refine fr_cvI h kX11 at_0 wX11_settled lX11_128 (g_X11_settled x6 z7 (by omega)) rfl (by decide) (by decide) rfl (Nat.le_of_ble_eq_true rfl) dX11_puts_21 (fun z15 x14 w16 p17 => ?_)
  obtain ⟨p18, p19, f20⟩ := p17
  have r21 := (congrFun (f13 79 (by omega)) 2)
  have r22 := r21.trans (congrFun (f5 79 (by omega)) 2)
  exact fr_iret h hq (by omega) ⟨(fun h0 h4 h5 => fun j a b => (congrFun (f20 (3 + 1) (by omega) (by omega) (by omega)) j).trans ((p12 h0 h4 h5 j a b).trans (by rw [show x1 (3 + 1) = x (3 + 1) from (f5 (3 + 1) (by omega))]))), (by omega), (fun a k0 k1 k2 k3 k4 => ((f20 a (by omega) (by omega) (by omega)).trans ((f13 a (by omega)).trans (f5 a (by omega)))))⟩ dX11_puts_24
set_option maxHeartbeats 200000 in
theorem g_X11_takes (x : Mm) (p : Int) (w : Int) (h_p : fm_r p) (h_w : fm_r w) : CnI YC yX11_takes cX11_takes 3 .int 4 89 (fun G => [vr G 0, vi p, vi w]) x (fun z y' => (0 ≤ p → p < 4 → 0 ≤ w → LQ (y' (3 + 1)) (tkL (x (3 + 1)) p w)) ∧ (x 79 2 = 0 → y' 79 2 = 0) ∧ (∀ a : Int, (a < 4 ∨ 5 < a) → (a < 8 ∨ 12 < a) → (a < 14 ∨ 65 < a) → (a < 79 ∨ 88 < a) → (a < 95 ∨ 97 < a) → y' a = x a)) := by
  refine cn_I (by decide) (fun _ => Nat.le_of_ble_eq_true rfl) (fun G C h hq => ?_)
  have h : OK YC G C cX11_takes RX11 3 (some .int) 4 89 := h
  show FW YC G C 3 x 0 [(0, vr G 0), (1, vi p), (2, vi w)] []
  refine fr_aload_n h rfl 0 rfl dX11_takes_0 ?_
  refine fr_getc (z := 8) (iz := 2) h kX11 fX11_23 at_0 rfl rfl rf_0_2 (by omega) dX11_takes_1 ?_
  refine fr_aload_n h rfl 0 rfl dX11_takes_4 ?_
  refine fr_getc (z := 3) (iz := 1) h kX11 fX11_19 at_0 rfl rfl rf_0_1 (by omega) dX11_takes_5 ?_
  refine fr_cvV h kX8 (St_at St_8) wX8_copyFrom lX11_120 (g_X8_copyFrom x 8 St_8 3 St_3) rfl (by decide) (by decide) rfl (Nat.le_of_ble_eq_true rfl) dX11_takes_8 (fun x1 p4 => ?_)
  have f5 := p4
  refine fr_aload_n h rfl 0 rfl dX11_takes_11 ?_
  refine fr_aload_n h rfl 0 rfl dX11_takes_12 ?_
  refine fr_getc (z := 3) (iz := 1) h kX11 fX11_19 at_0 rfl rfl rf_0_1 (by omega) dX11_takes_13 ?_
  refine fr_iload_n h rfl 1 rfl dX11_takes_16 ?_
  refine fr_iload_n h rfl 2 rfl dX11_takes_17 ?_
  refine fr_cvI h kX8 (St_at St_3) wX8_takeNumber lX11_165 (g_X8_takeNumber x1 p w (by omega) (by omega)) rfl (by decide) (by decide) rfl (Nat.le_of_ble_eq_true rfl) dX11_takes_18 (fun z7 x6 w8 p9 => ?_)
  obtain ⟨p10, p11, p12, f13⟩ := p9
  refine fr_cvI h kX11 at_0 wX11_settled lX11_128 (g_X11_settled x6 z7 (by omega)) rfl (by decide) (by decide) rfl (Nat.le_of_ble_eq_true rfl) dX11_takes_21 (fun z15 x14 w16 p17 => ?_)
  obtain ⟨p18, p19, f20⟩ := p17
  have r21 := (congrFun (f13 79 (by omega)) 2)
  have r22 := r21.trans (congrFun (f5 79 (by omega)) 2)
  exact fr_iret h hq (by omega) ⟨(fun h0 h4 h5 => fun j a b => (congrFun (f20 (3 + 1) (by omega) (by omega) (by omega)) j).trans ((p12 h0 h4 h5 j a b).trans (by rw [show x1 (3 + 1) = x (3 + 1) from (f5 (3 + 1) (by omega))]))), (by omega), (fun a k0 k1 k2 k3 k4 => ((f20 a (by omega) (by omega) (by omega)).trans ((f13 a (by omega)).trans (f5 a (by omega)))))⟩ dX11_takes_24
set_option maxHeartbeats 200000 in
theorem g_X11_joins (x : Mm) (p : Int) (u : Int) (v : Int) (h_p : fm_r p) (h_u : fm_r u) (h_v : fm_r v) : CnI YC yX11_joins cX11_joins 4 .int 4 89 (fun G => [vr G 0, vi p, vi u, vi v]) x (fun z y' => (x 79 2 = 0 → y' 79 2 = 0) ∧ (∀ a : Int, (a < 6 ∨ 6 < a) → (a < 8 ∨ 12 < a) → (a < 14 ∨ 65 < a) → (a < 79 ∨ 88 < a) → (a < 95 ∨ 97 < a) → y' a = x a)) := by
  refine cn_I (by decide) (fun _ => Nat.le_of_ble_eq_true rfl) (fun G C h hq => ?_)
  have h : OK YC G C cX11_joins RX11 4 (some .int) 4 89 := h
  show FW YC G C 4 x 0 [(0, vr G 0), (1, vi p), (2, vi u), (3, vi v)] []
  refine fr_aload_n h rfl 0 rfl dX11_joins_0 ?_
  refine fr_getc (z := 8) (iz := 2) h kX11 fX11_23 at_0 rfl rfl rf_0_2 (by omega) dX11_joins_1 ?_
  refine fr_aload_n h rfl 0 rfl dX11_joins_4 ?_
  refine fr_getc (z := 3) (iz := 1) h kX11 fX11_19 at_0 rfl rfl rf_0_1 (by omega) dX11_joins_5 ?_
  refine fr_cvV h kX8 (St_at St_8) wX8_copyFrom lX11_120 (g_X8_copyFrom x 8 St_8 3 St_3) rfl (by decide) (by decide) rfl (Nat.le_of_ble_eq_true rfl) dX11_joins_8 (fun x1 p4 => ?_)
  have f5 := p4
  refine fr_aload_n h rfl 0 rfl dX11_joins_11 ?_
  refine fr_aload_n h rfl 0 rfl dX11_joins_12 ?_
  refine fr_getc (z := 3) (iz := 1) h kX11 fX11_19 at_0 rfl rfl rf_0_1 (by omega) dX11_joins_13 ?_
  refine fr_iload_n h rfl 1 rfl dX11_joins_16 ?_
  refine fr_iload_n h rfl 2 rfl dX11_joins_17 ?_
  refine fr_iload_n h rfl 3 rfl dX11_joins_18 ?_
  refine fr_cvI h kX8 (St_at St_3) wX8_joinNodes lX11_168 (g_X8_joinNodes x1 p u v (by omega) (by omega) (by omega)) rfl (by decide) (by decide) rfl (Nat.le_of_ble_eq_true rfl) dX11_joins_19 (fun z7 x6 w8 p9 => ?_)
  obtain ⟨p10, p11, f12⟩ := p9
  refine fr_cvI h kX11 at_0 wX11_settled lX11_128 (g_X11_settled x6 z7 (by omega)) rfl (by decide) (by decide) rfl (Nat.le_of_ble_eq_true rfl) dX11_joins_22 (fun z14 x13 w15 p16 => ?_)
  obtain ⟨p17, p18, f19⟩ := p16
  have r20 := (congrFun (f12 79 (by omega)) 2)
  have r21 := r20.trans (congrFun (f5 79 (by omega)) 2)
  exact fr_iret h hq (by omega) ⟨(by omega), (fun a k0 k1 k2 k3 k4 => ((f19 a (by omega) (by omega) (by omega)).trans ((f12 a (by omega)).trans (f5 a (by omega)))))⟩ dX11_joins_25
set_option maxHeartbeats 200000 in
theorem g_X11_costs (x : Mm) (p : Int) (u : Int) (v : Int) (h_p : fm_r p) (h_u : fm_r u) (h_v : fm_r v) : CnI YC yX11_costs cX11_costs 4 .int 4 89 (fun G => [vr G 0, vi p, vi u, vi v]) x (fun z y' => (x 79 2 = 0 → y' 79 2 = 0) ∧ (∀ a : Int, (a < 7 ∨ 12 < a) → (a < 14 ∨ 65 < a) → (a < 79 ∨ 88 < a) → (a < 95 ∨ 97 < a) → y' a = x a)) := by
  refine cn_I (by decide) (fun _ => Nat.le_of_ble_eq_true rfl) (fun G C h hq => ?_)
  have h : OK YC G C cX11_costs RX11 4 (some .int) 4 89 := h
  show FW YC G C 4 x 0 [(0, vr G 0), (1, vi p), (2, vi u), (3, vi v)] []
  refine fr_aload_n h rfl 0 rfl dX11_costs_0 ?_
  refine fr_getc (z := 8) (iz := 2) h kX11 fX11_23 at_0 rfl rfl rf_0_2 (by omega) dX11_costs_1 ?_
  refine fr_aload_n h rfl 0 rfl dX11_costs_4 ?_
  refine fr_getc (z := 3) (iz := 1) h kX11 fX11_19 at_0 rfl rfl rf_0_1 (by omega) dX11_costs_5 ?_
  refine fr_cvV h kX8 (St_at St_8) wX8_copyFrom lX11_120 (g_X8_copyFrom x 8 St_8 3 St_3) rfl (by decide) (by decide) rfl (Nat.le_of_ble_eq_true rfl) dX11_costs_8 (fun x1 p4 => ?_)
  have f5 := p4
  refine fr_aload_n h rfl 0 rfl dX11_costs_11 ?_
  refine fr_aload_n h rfl 0 rfl dX11_costs_12 ?_
  refine fr_getc (z := 3) (iz := 1) h kX11 fX11_19 at_0 rfl rfl rf_0_1 (by omega) dX11_costs_13 ?_
  refine fr_iload_n h rfl 1 rfl dX11_costs_16 ?_
  refine fr_iload_n h rfl 2 rfl dX11_costs_17 ?_
  refine fr_iload_n h rfl 3 rfl dX11_costs_18 ?_
  refine fr_cvI h kX8 (St_at St_3) wX8_setCost lX11_172 (g_X8_setCost x1 p u v (by omega) (by omega) (by omega)) rfl (by decide) (by decide) rfl (Nat.le_of_ble_eq_true rfl) dX11_costs_19 (fun z7 x6 w8 p9 => ?_)
  obtain ⟨p10, p11, f12⟩ := p9
  refine fr_cvI h kX11 at_0 wX11_settled lX11_128 (g_X11_settled x6 z7 (by omega)) rfl (by decide) (by decide) rfl (Nat.le_of_ble_eq_true rfl) dX11_costs_22 (fun z14 x13 w15 p16 => ?_)
  obtain ⟨p17, p18, f19⟩ := p16
  have r20 := (congrFun (f12 79 (by omega)) 2)
  have r21 := r20.trans (congrFun (f5 79 (by omega)) 2)
  exact fr_iret h hq (by omega) ⟨(by omega), (fun a k0 k1 k2 k3 => ((f19 a (by omega) (by omega) (by omega)).trans ((f12 a (by omega)).trans (f5 a (by omega)))))⟩ dX11_costs_25
set_option maxHeartbeats 200000 in
theorem g_X11_draw (x : Mm) (n : Int) (h_n : fm_r n) (e0 : 1 ≤ n) : CnI YC yX11_draw cX11_draw 2 .int 0 0 (fun G => [vr G 0, vi n]) x (fun z y' => (0 ≤ z) ∧ (z < n) ∧ (y' 0 15 = nxS (x 0 15)) ∧ (z = dvS (nxS (x 0 15)) n) ∧ (y' 0 13 = x 0 13) ∧ (y' 0 14 = x 0 14) ∧ (∀ a : Int, (a < 0 ∨ 0 < a) → y' a = x a)) := by
  refine cn_I (by decide) (fun _ => Nat.le_of_ble_eq_true rfl) (fun G C h hq => ?_)
  have h : OK YC G C cX11_draw RX11 2 (some .int) 0 0 := h
  show FW YC G C 2 x 0 [(0, vr G 0), (1, vi n)] []
  refine fr_aload_n h rfl 0 rfl dX11_draw_0 ?_
  refine fr_aload_n h rfl 0 rfl dX11_draw_1 ?_
  refine fr_geti (iz := 15) h kX11 fX11_333 at_0 rfl rfl (by decide) (by decide) rf_0_15 dX11_draw_2 (fun z1 w2 w3 q4 => ?_)
  subst q4
  refine fr_ldcw (z := 1103515245) h (by exact tb_5 (i := 70) (by decide +kernel) (by decide +kernel)) rfl dX11_draw_5 ?_
  refine fr_imul h dX11_draw_8 ?_
  refine fr_normi (fun z5 w6 q7 => ?_)
  have w8 : fm_r (((x 0 15) * 1103515245)) → z5 = ((x 0 15) * 1103515245) := fun q => (iI_inj q w6 q7).symm
  refine fr_sipush h rfl dX11_draw_9 ?_
  refine fr_iadd h dX11_draw_12 ?_
  refine fr_normi (fun z9 w10 q11 => ?_)
  have w12 : fm_r ((z5 + 12345)) → z9 = (z5 + 12345) := fun q => (iI_inj q w10 q11).symm
  have hnx : z9 = nxS (x 0 15) := nx_of q7 q11 w10
  refine fr_puti (iz := 15) h kX11 fX11_333 at_0 rfl rfl (by decide) (by decide) rfl (by decide +kernel) rf_0_15 (by omega) (by omega) dX11_draw_13 ?_
  refine fr_mem (fun x13 m14 => ?_)
  refine fr_iload_n h rfl 1 rfl dX11_draw_16 ?_
  refine fr_iconst h dX11_draw_17 ?_
  refine fr_icmp_ge (tgt := 25) h dX11_draw_18 (by decide) (by omega) (by omega) (fun c15 => ?_) (fun c15 => by exfalso; omega)
  refine fr_aload_n h rfl 0 rfl dX11_draw_25 ?_
  refine fr_geti (iz := 15) h kX11 fX11_333 at_0 rfl rfl (by decide) (by decide) rf_0_15 dX11_draw_26 (fun z16 w17 w18 q19 => ?_)
  have r20 := q19.trans (fm_rd_s m14)
  subst q19
  refine fr_bipush h rfl dX11_draw_29 ?_
  refine fr_iushr h dX11_draw_31 (fun z21 w22 q23 w24 => ?_)
  have w25 := w24 rfl
  have hru : z21 = nxS (x 0 15) % 4294967296 / 65536 := by rw [← hnx, ← fm_rd_s m14]; exact ush16 (by omega) (by first | exact q23 | (rw [fm_rd_s m14]; exact q23) | (rw [fm_rd_s m14] at q23; exact q23))
  skip
  refine fr_iload_n h rfl 1 rfl dX11_draw_32 ?_
  refine fr_irem h (by omega) (by omega) (by omega) dX11_draw_33 (fun z26 w27 q28 w29 => ?_)
  have w30 : 0 < n → 0 ≤ z21 % n ∧ z21 % n < n := fun q => ⟨Int.emod_nonneg _ (by omega), Int.emod_lt_of_pos _ q⟩
  have w31 := w29
  have r32 := (fm_rd_s m14)
  have r33 := (fm_rd_i (a := 0) (b := 13) m14 (by decide))
  have r34 := (fm_rd_i (a := 0) (b := 14) m14 (by decide))
  exact fr_iret h hq (by omega) ⟨(by omega), (by omega), (by omega), ((w29 (by omega) (by omega)).trans (by rw [hru]; rfl)), (by omega), (by omega), (fun a k0 => (fm_up_row m14 (by omega)))⟩ dX11_draw_34
set_option maxHeartbeats 4000000 in
theorem g_X11_liveYear (x : Mm) : CnV YC yX11_liveYear cX11_liveYear 3 5 112 (fun G => [vr G 0]) x (fun y' => (y' 0 13 = x 0 13) ∧ (y' 0 14 = x 0 14) ∧ (y' 0 15 = yrR (x 0 15)) ∧ (LQ (y' (3 + 1)) (yrL (x 0 15) (x (3 + 1)))) ∧ (x 79 2 = 0 → y' 79 2 = 0) ∧ (∀ a : Int, (a < 0 ∨ 0 < a) → (a < 4 ∨ 12 < a) → (a < 14 ∨ 65 < a) → (a < 79 ∨ 88 < a) → (a < 95 ∨ 97 < a) → y' a = x a)) := by
  refine cn_V (by decide) (fun _ => Nat.le_of_ble_eq_true rfl) (fun G C h hq => ?_)
  have h : OK YC G C cX11_liveYear RX11 3 none 5 112 := h
  show FW YC G C 3 x 0 [(0, vr G 0)] []
  refine fr_aload_n h rfl 0 rfl dX11_liveYear_0 ?_
  refine fr_iconst h dX11_liveYear_1 ?_
  refine fr_cvI h kX11 at_0 wX11_draw lX11_383 (g_X11_draw x 4 (by omega) (by omega)) rfl (by decide) (by decide) rfl (Nat.le_of_ble_eq_true rfl) dX11_liveYear_2 (fun z2 x1 w3 p4 => ?_)
  obtain ⟨p5, p6, p7, p8, p9, p10, f11⟩ := p4
  have hs1 : x1 0 15 = nxS (x 0 15) := by rw [p7, show x 0 15 = x 0 15 by omega]
  have hd1 : z2 = dvS (nxS (x 0 15)) 4 := by rw [p8, show x 0 15 = x 0 15 by omega]
  by_cases c13 : z2 = 0
  ·
    refine fr_tab_in (off := 27) (tgt := 32) h dX11_liveYear_5 (by omega) (by omega) (by omega) (by rw [c13]; rfl) (by decide) ?_
    refine fr_aload_n h rfl 0 rfl dX11_liveYear_32 ?_
    refine fr_iconst h dX11_liveYear_33 ?_
    refine fr_cvI h kX11 at_0 wX11_draw lX11_383 (g_X11_draw x1 4 (by omega) (by omega)) rfl (by decide) (by decide) rfl (Nat.le_of_ble_eq_true rfl) dX11_liveYear_34 (fun z15 x14 w16 p17 => ?_)
    obtain ⟨p18, p19, p20, p21, p22, p23, f24⟩ := p17
    have hs2 : x14 0 15 = nxS (nxS (x 0 15)) := by rw [p20, show x1 0 15 = nxS (x 0 15) by omega]
    have hd2 : z15 = dvS (nxS (nxS (x 0 15))) 4 := by rw [p21, show x1 0 15 = nxS (x 0 15) by omega]
    refine fr_istore_n (L' := [(0, vr G 0), (1, vi z15)]) h rfl dX11_liveYear_37 (by decide) [1, 0] rfl ?_
    refine fr_aload_n h rfl 0 rfl dX11_liveYear_38 ?_
    refine fr_iload_n h rfl 1 rfl dX11_liveYear_39 ?_
    refine fr_aload_n h rfl 0 rfl dX11_liveYear_40 ?_
    refine fr_bipush h rfl dX11_liveYear_41 ?_
    refine fr_cvI h kX11 at_0 wX11_draw lX11_383 (g_X11_draw x14 100 (by omega) (by omega)) rfl (by decide) (by decide) rfl (Nat.le_of_ble_eq_true rfl) dX11_liveYear_43 (fun z26 x25 w27 p28 => ?_)
    obtain ⟨p29, p30, p31, p32, p33, p34, f35⟩ := p28
    have hs3 : x25 0 15 = nxS (nxS (nxS (x 0 15))) := by rw [p31, show x14 0 15 = nxS (nxS (x 0 15)) by omega]
    have hd3 : z26 = dvS (nxS (nxS (nxS (x 0 15)))) 100 := by rw [p32, show x14 0 15 = nxS (nxS (x 0 15)) by omega]
    refine fr_cvI h kX11 at_0 wX11_puts lX11_386 (g_X11_puts x25 z15 z26 (by omega) (by omega)) rfl (by decide) (by decide) rfl (Nat.le_of_ble_eq_true rfl) dX11_liveYear_46 (fun z37 x36 w38 p39 => ?_)
    obtain ⟨p40, p41, f42⟩ := p39
    refine fr_pop h rfl dX11_liveYear_49 ?_
    refine fr_goto (tgt := 134) h dX11_liveYear_50 (by decide) ?_
    have hyr := @yr_0 (x 0 15) (x (3 + 1)) (by omega)
    skip
    have r43 := (congrFun (f42 0 (by omega) (by omega) (by omega) (by omega) (by omega)) 13)
    have r44 := (congrFun (f42 0 (by omega) (by omega) (by omega) (by omega) (by omega)) 14)
    have r45 := (congrFun (f42 0 (by omega) (by omega) (by omega) (by omega) (by omega)) 15)
    have r46 := (congrFun (f35 79 (by omega)) 2)
    have r47 := r46.trans (congrFun (f24 79 (by omega)) 2)
    have r48 := r47.trans (congrFun (f11 79 (by omega)) 2)
    exact fr_vret h hq ⟨(by omega), (by omega), (by omega), (fun j a b => rfl.trans ((p40 (by omega) (by omega) (by omega) j a b).trans (by rw [hyr.2, show x25 (3 + 1) = x (3 + 1) from ((f35 (3 + 1) (by omega)).trans ((f24 (3 + 1) (by omega)).trans (f11 (3 + 1) (by omega)))), show z15 = dvS (nxS (nxS (x 0 15))) 4 by omega]))), (by omega), (fun a k0 k1 k2 k3 k4 => ((f42 a (by omega) (by omega) (by omega) (by omega) (by omega)).trans ((f35 a (by omega)).trans ((f24 a (by omega)).trans (f11 a (by omega))))))⟩ dX11_liveYear_134
  ·
    by_cases c49 : z2 = 1
    ·
      refine fr_tab_in (off := 48) (tgt := 53) h dX11_liveYear_5 (by omega) (by omega) (by omega) (by rw [c49]; rfl) (by decide) ?_
      refine fr_aload_n h rfl 0 rfl dX11_liveYear_53 ?_
      refine fr_iconst h dX11_liveYear_54 ?_
      refine fr_cvI h kX11 at_0 wX11_draw lX11_383 (g_X11_draw x1 4 (by omega) (by omega)) rfl (by decide) (by decide) rfl (Nat.le_of_ble_eq_true rfl) dX11_liveYear_55 (fun z51 x50 w52 p53 => ?_)
      obtain ⟨p54, p55, p56, p57, p58, p59, f60⟩ := p53
      have hs2 : x50 0 15 = nxS (nxS (x 0 15)) := by rw [p56, show x1 0 15 = nxS (x 0 15) by omega]
      have hd2 : z51 = dvS (nxS (nxS (x 0 15))) 4 := by rw [p57, show x1 0 15 = nxS (x 0 15) by omega]
      refine fr_istore_n (L' := [(0, vr G 0), (1, vi z51)]) h rfl dX11_liveYear_58 (by decide) [1, 0] rfl ?_
      refine fr_aload_n h rfl 0 rfl dX11_liveYear_59 ?_
      refine fr_iload_n h rfl 1 rfl dX11_liveYear_60 ?_
      refine fr_aload_n h rfl 0 rfl dX11_liveYear_61 ?_
      refine fr_bipush h rfl dX11_liveYear_62 ?_
      refine fr_cvI h kX11 at_0 wX11_draw lX11_383 (g_X11_draw x50 6 (by omega) (by omega)) rfl (by decide) (by decide) rfl (Nat.le_of_ble_eq_true rfl) dX11_liveYear_64 (fun z62 x61 w63 p64 => ?_)
      obtain ⟨p65, p66, p67, p68, p69, p70, f71⟩ := p64
      have hs3 : x61 0 15 = nxS (nxS (nxS (x 0 15))) := by rw [p67, show x50 0 15 = nxS (nxS (x 0 15)) by omega]
      have hd3 : z62 = dvS (nxS (nxS (nxS (x 0 15)))) 6 := by rw [p68, show x50 0 15 = nxS (nxS (x 0 15)) by omega]
      refine fr_cvI h kX11 at_0 wX11_takes lX11_389 (g_X11_takes x61 z51 z62 (by omega) (by omega)) rfl (by decide) (by decide) rfl (Nat.le_of_ble_eq_true rfl) dX11_liveYear_67 (fun z73 x72 w74 p75 => ?_)
      obtain ⟨p76, p77, f78⟩ := p75
      refine fr_pop h rfl dX11_liveYear_70 ?_
      refine fr_goto (tgt := 134) h dX11_liveYear_71 (by decide) ?_
      have hyr := @yr_1 (x 0 15) (x (3 + 1)) (by omega)
      skip
      have r79 := (congrFun (f78 0 (by omega) (by omega) (by omega) (by omega) (by omega)) 13)
      have r80 := (congrFun (f78 0 (by omega) (by omega) (by omega) (by omega) (by omega)) 14)
      have r81 := (congrFun (f78 0 (by omega) (by omega) (by omega) (by omega) (by omega)) 15)
      have r82 := (congrFun (f71 79 (by omega)) 2)
      have r83 := r82.trans (congrFun (f60 79 (by omega)) 2)
      have r84 := r83.trans (congrFun (f11 79 (by omega)) 2)
      exact fr_vret h hq ⟨(by omega), (by omega), (by omega), (fun j a b => rfl.trans ((p76 (by omega) (by omega) (by omega) j a b).trans (by rw [hyr.2, show x61 (3 + 1) = x (3 + 1) from ((f71 (3 + 1) (by omega)).trans ((f60 (3 + 1) (by omega)).trans (f11 (3 + 1) (by omega)))), show z51 = dvS (nxS (nxS (x 0 15))) 4 by omega, show z62 = dvS (nxS (nxS (nxS (x 0 15)))) 6 by omega]))), (by omega), (fun a k0 k1 k2 k3 k4 => ((f78 a (by omega) (by omega) (by omega) (by omega) (by omega)).trans ((f71 a (by omega)).trans ((f60 a (by omega)).trans (f11 a (by omega))))))⟩ dX11_liveYear_134
    ·
      by_cases c85 : z2 = 2
      ·
        refine fr_tab_in (off := 69) (tgt := 74) h dX11_liveYear_5 (by omega) (by omega) (by omega) (by rw [c85]; rfl) (by decide) ?_
        refine fr_aload_n h rfl 0 rfl dX11_liveYear_74 ?_
        refine fr_bipush h rfl dX11_liveYear_75 ?_
        refine fr_cvI h kX11 at_0 wX11_draw lX11_383 (g_X11_draw x1 7 (by omega) (by omega)) rfl (by decide) (by decide) rfl (Nat.le_of_ble_eq_true rfl) dX11_liveYear_77 (fun z87 x86 w88 p89 => ?_)
        obtain ⟨p90, p91, p92, p93, p94, p95, f96⟩ := p89
        have hs2 : x86 0 15 = nxS (nxS (x 0 15)) := by rw [p92, show x1 0 15 = nxS (x 0 15) by omega]
        have hd2 : z87 = dvS (nxS (nxS (x 0 15))) 7 := by rw [p93, show x1 0 15 = nxS (x 0 15) by omega]
        refine fr_istore_n (L' := [(0, vr G 0), (1, vi z87)]) h rfl dX11_liveYear_80 (by decide) [1, 0] rfl ?_
        refine fr_aload_n h rfl 0 rfl dX11_liveYear_81 ?_
        refine fr_bipush h rfl dX11_liveYear_82 ?_
        refine fr_cvI h kX11 at_0 wX11_draw lX11_383 (g_X11_draw x86 7 (by omega) (by omega)) rfl (by decide) (by decide) rfl (Nat.le_of_ble_eq_true rfl) dX11_liveYear_84 (fun z98 x97 w99 p100 => ?_)
        obtain ⟨p101, p102, p103, p104, p105, p106, f107⟩ := p100
        have hs3 : x97 0 15 = nxS (nxS (nxS (x 0 15))) := by rw [p103, show x86 0 15 = nxS (nxS (x 0 15)) by omega]
        have hd3 : z98 = dvS (nxS (nxS (nxS (x 0 15)))) 7 := by rw [p104, show x86 0 15 = nxS (nxS (x 0 15)) by omega]
        refine fr_istore_n (L' := [(0, vr G 0), (1, vi z87), (2, vi z98)]) h rfl dX11_liveYear_87 (by decide) [1, 2, 0] rfl ?_
        refine fr_aload_n h rfl 0 rfl dX11_liveYear_88 ?_
        refine fr_iload_n h rfl 1 rfl dX11_liveYear_89 ?_
        refine fr_iload_n h rfl 2 rfl dX11_liveYear_90 ?_
        refine fr_aload_n h rfl 0 rfl dX11_liveYear_91 ?_
        refine fr_bipush h rfl dX11_liveYear_92 ?_
        refine fr_cvI h kX11 at_0 wX11_draw lX11_383 (g_X11_draw x97 99 (by omega) (by omega)) rfl (by decide) (by decide) rfl (Nat.le_of_ble_eq_true rfl) dX11_liveYear_94 (fun z109 x108 w110 p111 => ?_)
        obtain ⟨p112, p113, p114, p115, p116, p117, f118⟩ := p111
        have hs4 : x108 0 15 = nxS (nxS (nxS (nxS (x 0 15)))) := by rw [p114, show x97 0 15 = nxS (nxS (nxS (x 0 15))) by omega]
        have hd4 : z109 = dvS (nxS (nxS (nxS (nxS (x 0 15))))) 99 := by rw [p115, show x97 0 15 = nxS (nxS (nxS (x 0 15))) by omega]
        refine fr_iconst h dX11_liveYear_97 ?_
        refine fr_iadd h dX11_liveYear_98 ?_
        refine fr_cvI h kX11 at_0 wX11_joins lX11_392 (g_X11_joins x108 z87 z98 (z109 + 1) (by omega) (by omega) (by omega)) rfl (by decide) (by decide) rfl (Nat.le_of_ble_eq_true rfl) dX11_liveYear_99 (fun z120 x119 w121 p122 => ?_)
        obtain ⟨p123, f124⟩ := p122
        refine fr_pop h rfl dX11_liveYear_102 ?_
        refine fr_goto (tgt := 134) h dX11_liveYear_103 (by decide) ?_
        have hyr := @yr_2 (x 0 15) (x (3 + 1)) (by omega) (by omega)
        skip
        have r125 := (congrFun (f124 0 (by omega) (by omega) (by omega) (by omega) (by omega)) 13)
        have r126 := (congrFun (f124 0 (by omega) (by omega) (by omega) (by omega) (by omega)) 14)
        have r127 := (congrFun (f124 0 (by omega) (by omega) (by omega) (by omega) (by omega)) 15)
        have r128 := (congrFun (f118 79 (by omega)) 2)
        have r129 := r128.trans (congrFun (f107 79 (by omega)) 2)
        have r130 := r129.trans (congrFun (f96 79 (by omega)) 2)
        have r131 := r130.trans (congrFun (f11 79 (by omega)) 2)
        exact fr_vret h hq ⟨(by omega), (by omega), (by omega), (fun j a b => (congrFun ((f124 (3 + 1) (by omega) (by omega) (by omega) (by omega) (by omega)).trans ((f118 (3 + 1) (by omega)).trans ((f107 (3 + 1) (by omega)).trans ((f96 (3 + 1) (by omega)).trans (f11 (3 + 1) (by omega)))))) j).trans (by rw [hyr.2])), (by omega), (fun a k0 k1 k2 k3 k4 => ((f124 a (by omega) (by omega) (by omega) (by omega) (by omega)).trans ((f118 a (by omega)).trans ((f107 a (by omega)).trans ((f96 a (by omega)).trans (f11 a (by omega)))))))⟩ dX11_liveYear_134
      ·
        refine fr_tab_out (tgt := 106) h dX11_liveYear_5 (by omega) (by omega) (by decide) ?_
        refine fr_aload_n h rfl 0 rfl dX11_liveYear_106 ?_
        refine fr_iconst h dX11_liveYear_107 ?_
        refine fr_cvI h kX11 at_0 wX11_draw lX11_383 (g_X11_draw x1 5 (by omega) (by omega)) rfl (by decide) (by decide) rfl (Nat.le_of_ble_eq_true rfl) dX11_liveYear_108 (fun z133 x132 w134 p135 => ?_)
        obtain ⟨p136, p137, p138, p139, p140, p141, f142⟩ := p135
        have hs2 : x132 0 15 = nxS (nxS (x 0 15)) := by rw [p138, show x1 0 15 = nxS (x 0 15) by omega]
        have hd2 : z133 = dvS (nxS (nxS (x 0 15))) 5 := by rw [p139, show x1 0 15 = nxS (x 0 15) by omega]
        refine fr_istore_n (L' := [(0, vr G 0), (1, vi z133)]) h rfl dX11_liveYear_111 (by decide) [1, 0] rfl ?_
        refine fr_aload_n h rfl 0 rfl dX11_liveYear_112 ?_
        refine fr_iconst h dX11_liveYear_113 ?_
        refine fr_cvI h kX11 at_0 wX11_draw lX11_383 (g_X11_draw x132 5 (by omega) (by omega)) rfl (by decide) (by decide) rfl (Nat.le_of_ble_eq_true rfl) dX11_liveYear_114 (fun z144 x143 w145 p146 => ?_)
        obtain ⟨p147, p148, p149, p150, p151, p152, f153⟩ := p146
        have hs3 : x143 0 15 = nxS (nxS (nxS (x 0 15))) := by rw [p149, show x132 0 15 = nxS (nxS (x 0 15)) by omega]
        have hd3 : z144 = dvS (nxS (nxS (nxS (x 0 15)))) 5 := by rw [p150, show x132 0 15 = nxS (nxS (x 0 15)) by omega]
        refine fr_istore_n (L' := [(0, vr G 0), (1, vi z133), (2, vi z144)]) h rfl dX11_liveYear_117 (by decide) [1, 2, 0] rfl ?_
        refine fr_aload_n h rfl 0 rfl dX11_liveYear_118 ?_
        refine fr_iload_n h rfl 1 rfl dX11_liveYear_119 ?_
        refine fr_iload_n h rfl 2 rfl dX11_liveYear_120 ?_
        refine fr_aload_n h rfl 0 rfl dX11_liveYear_121 ?_
        refine fr_bipush h rfl dX11_liveYear_122 ?_
        refine fr_cvI h kX11 at_0 wX11_draw lX11_383 (g_X11_draw x143 100 (by omega) (by omega)) rfl (by decide) (by decide) rfl (Nat.le_of_ble_eq_true rfl) dX11_liveYear_124 (fun z155 x154 w156 p157 => ?_)
        obtain ⟨p158, p159, p160, p161, p162, p163, f164⟩ := p157
        have hs4 : x154 0 15 = nxS (nxS (nxS (nxS (x 0 15)))) := by rw [p160, show x143 0 15 = nxS (nxS (nxS (x 0 15))) by omega]
        have hd4 : z155 = dvS (nxS (nxS (nxS (nxS (x 0 15))))) 100 := by rw [p161, show x143 0 15 = nxS (nxS (nxS (x 0 15))) by omega]
        refine fr_cvI h kX11 at_0 wX11_costs lX11_395 (g_X11_costs x154 z133 z144 z155 (by omega) (by omega) (by omega)) rfl (by decide) (by decide) rfl (Nat.le_of_ble_eq_true rfl) dX11_liveYear_127 (fun z166 x165 w167 p168 => ?_)
        obtain ⟨p169, f170⟩ := p168
        refine fr_pop h rfl dX11_liveYear_130 ?_
        refine fr_goto (tgt := 134) h dX11_liveYear_131 (by decide) ?_
        have hyr := @yr_2 (x 0 15) (x (3 + 1)) (by omega) (by omega)
        skip
        have r171 := (congrFun (f170 0 (by omega) (by omega) (by omega) (by omega)) 13)
        have r172 := (congrFun (f170 0 (by omega) (by omega) (by omega) (by omega)) 14)
        have r173 := (congrFun (f170 0 (by omega) (by omega) (by omega) (by omega)) 15)
        have r174 := (congrFun (f164 79 (by omega)) 2)
        have r175 := r174.trans (congrFun (f153 79 (by omega)) 2)
        have r176 := r175.trans (congrFun (f142 79 (by omega)) 2)
        have r177 := r176.trans (congrFun (f11 79 (by omega)) 2)
        exact fr_vret h hq ⟨(by omega), (by omega), (by omega), (fun j a b => (congrFun ((f170 (3 + 1) (by omega) (by omega) (by omega) (by omega)).trans ((f164 (3 + 1) (by omega)).trans ((f153 (3 + 1) (by omega)).trans ((f142 (3 + 1) (by omega)).trans (f11 (3 + 1) (by omega)))))) j).trans (by rw [hyr.2])), (by omega), (fun a k0 k1 k2 k3 k4 => ((f170 a (by omega) (by omega) (by omega) (by omega)).trans ((f164 a (by omega)).trans ((f153 a (by omega)).trans ((f142 a (by omega)).trans (f11 a (by omega)))))))⟩ dX11_liveYear_134
set_option maxHeartbeats 4000000 in
theorem g_X4_findChoices : ∀ (d : Nat) (x : Mm) (r : Int) (hr : isRu r) (o : Int) (on : Nat) (ho : OrN o on) (p : Int) (n : Int) (v : Int) (h_p : fm_r p) (h_n : fm_r n) (h_v : fm_l v) (e0 : x 89 6 = 3) (e1 : x 89 7 = r) (e2 : x 89 8 = o) (e3 : 0 ≤ p) (e4 : p ≤ 4) (e5 : 0 ≤ n) (e6 : n ≤ p) (e7 : x o 1 + pw6 (4 - p) ≤ (on : Int)), (4 - p) < d → CnV YC yX4_findChoices cX4_findChoices 7 (d + 10) (d * 30 + 300) (fun G => [vr G 89, vi p, vi n, vj v]) x (fun y' => (y' 89 6 = x 89 6) ∧ (y' 89 7 = x 89 7) ∧ (y' 89 8 = x 89 8) ∧ (y' o 1 = x o 1 + clp (x (3 + 1)) p) ∧ (y' o 1 ≤ x o 1 + pw6 (4 - p)) ∧ (∀ a : Int, (a < 89 ∨ 93 < a) → (a < o ∨ o + 1 < a) → (a < r ∨ r + 4 < a) → y' a = x a)) := by
  intro d
  induction d with
  | zero => intro x r hr o on ho p n v h_p h_n h_v e0 e1 e2 e3 e4 e5 e6 e7 hmu; exfalso; omega
  | succ d ih =>
    intro x r hr o on ho p n v h_p h_n h_v e0 e1 e2 e3 e4 e5 e6 e7 hmu
    refine cn_V (by decide) (fun _ => Nat.le_of_ble_eq_true rfl) (fun G C h hq => ?_)
    have h : OK YC G C cX4_findChoices RX4 7 none (d + 1 + 10) ((d + 1) * 30 + 300) := h
    show FW YC G C 7 x 0 [(0, vr G 89), (1, vi p), (2, vi n), (3, vj v)] []
    have h_r := Ru_b hr
    have h_o := OrN_b ho
    refine fr_iload_n h rfl 1 rfl dX4_findChoices_0 ?_
    refine fr_iconst h dX4_findChoices_1 ?_
    refine fr_icmp_lt (tgt := 26) h dX4_findChoices_2 (by decide) (by omega) (by omega) (fun c1 => ?_) (fun c1 => ?_)
    ·
      have h6 := pw6_s (p := p) (by omega)
      have hcz := clp_z (L := x (3 + 1)) (p := p) (by omega) (by omega)
      have hcn := clp_n (L := x (3 + 1)) (p := p) (by omega) (by omega)
      have h60 := ml_0 (pw6 (4 - (p + 1)))
      have h61 := ml_0 (clp (x (3 + 1)) (p + 1))
      refine fr_aload_n h rfl 0 rfl dX4_findChoices_26 ?_
      refine fr_getr (z := 3) (iz := 6) h kX4 fX4_24 at_89 rfl rfl e0 (by omega) dX4_findChoices_27 ?_
      refine fr_iload_n h rfl 1 rfl dX4_findChoices_30 ?_
      refine fr_cvI h kX8 (St_at St_3) wX8_sizeOf lX4_61 (g_X8_sizeOf x p (by omega)) rfl (by omega) (by omega) rfl (Nat.le_of_ble_eq_true rfl) dX4_findChoices_31 (fun z3 x2 w4 p5 => ?_)
      obtain ⟨p6, p7, p8, p9, y10⟩ := p5
      rw [y10]
      clear y10
      refine fr_istore (L' := [(0, vr G 89), (1, vi p), (2, vi n), (3, vj v), (5, vi z3)]) h dX4_findChoices_34 (by decide) [1, 2, 3, 4, 0] rfl ?_
      refine fr_iload h 4 rfl dX4_findChoices_36 ?_
      refine fr_if_ne (tgt := 50) h dX4_findChoices_38 (by decide) (by omega) (fun c11 => ?_) (fun c11 => ?_)
      ·
        skip
        refine fr_iconst h dX4_findChoices_50 ?_
        refine fr_istore (L' := [(0, vr G 89), (1, vi p), (2, vi n), (3, vj v), (5, vi z3), (6, vi 0)]) h dX4_findChoices_51 (by decide) [1, 2, 3, 4, 5, 0] rfl ?_
        have HL12 : ∀ (n12 : Nat) (l6_12 : Int) (x_12 : Mm), fm_r l6_12 → 0 ≤ l6_12 → l6_12 ≤ 6 → x_12 89 6 = 3 → x_12 89 7 = r → x_12 89 8 = o → ((z3 = 0 ∧ x_12 o 1 = x o 1 + clp (x (3 + 1)) (p + 1) ∧ x_12 o 1 ≤ x o 1 + pw6 (4 - (p + 1))) ∨ (z3 ≠ 0 ∧ x_12 o 1 = x o 1 + ml l6_12 (clp (x (3 + 1)) (p + 1)) ∧ x_12 o 1 ≤ x o 1 + ml l6_12 (pw6 (4 - (p + 1))) ∧ l6_12 ≤ z3)) → (∀ a : Int, (a < 89 ∨ 93 < a) → (a < o ∨ o + 1 < a) → (a < r ∨ r + 4 < a) → x_12 a = x a) → (6 - l6_12) < n12 → FW YC G C 7 x_12 53 [(0, vr G 89), (1, vi p), (2, vi n), (3, vj v), (5, vi z3), (6, vi l6_12)] [] := by
          intro n12
          induction n12 with
          | zero =>
            intro l6_12 x_12 g12_0 g12_1 g12_2 g12_3 g12_4 g12_5 g12_6 g12_7 g12_8
            exfalso; omega
          | succ n12 ih12 =>
            intro l6_12 x_12 g12_0 g12_1 g12_2 g12_3 g12_4 g12_5 g12_6 g12_7 g12_8
            refine fr_iload h 5 rfl dX4_findChoices_53 ?_
            refine fr_iload h 4 rfl dX4_findChoices_55 ?_
            refine fr_icmp_ge (tgt := 104) h dX4_findChoices_57 (by decide) (by omega) (by omega) (fun c13 => ?_) (fun c13 => ?_)
            ·
              have hke : z3 ≠ 0 → ml l6_12 (clp (x (3 + 1)) (p + 1)) = ml (x (3 + 1) p) (clp (x (3 + 1)) (p + 1)) := fun q => by rw [show l6_12 = x (3 + 1) p by omega]
              have hme := ml_e6 (k := l6_12) (P := pw6 (4 - (p + 1))) (by omega) (by omega)
              exact fr_vret h hq ⟨(by omega), (by omega), (by omega), (by omega), (by omega), (fun a k0 k1 k2 => (g12_7 a (by omega) (by omega) (by omega)))⟩ dX4_findChoices_104
            ·
              refine fr_iload_n h rfl 2 rfl dX4_findChoices_60 ?_
              refine fr_iconst h dX4_findChoices_61 ?_
              refine fr_icmp_ge (tgt := 104) h dX4_findChoices_62 (by decide) (by omega) (by omega) (fun c14 => ?_) (fun c14 => ?_)
              ·
                exfalso; omega
              ·
                refine fr_aload_n h rfl 0 rfl dX4_findChoices_65 ?_
                have hm := ml_6 (k := l6_12) (P := pw6 (4 - (p + 1))) (by omega) (by omega)
                have hms := ml_s l6_12 (clp (x (3 + 1)) (p + 1))
                refine fr_getc (z := 90) (iz := 0) h kX4 fX4_9 at_89 rfl rfl rf_89_0 (by omega) dX4_findChoices_66 ?_
                refine fr_iload_n h rfl 2 rfl dX4_findChoices_69 ?_
                refine fr_aload_n h rfl 0 rfl dX4_findChoices_70 ?_
                refine fr_getr (z := 3) (iz := 6) h kX4 fX4_24 at_89 rfl rfl g12_3 (by omega) dX4_findChoices_71 ?_
                refine fr_iload_n h rfl 1 rfl dX4_findChoices_74 ?_
                refine fr_iload h 5 rfl dX4_findChoices_75 ?_
                refine fr_cvI h kX8 (St_at St_3) wX8_numberAt lX4_71 (g_X8_numberAt x_12 p l6_12 (by omega) (by omega)) rfl (by omega) (by omega) rfl (Nat.le_of_ble_eq_true rfl) dX4_findChoices_77 (fun z16 x15 w17 p18 => ?_)
                obtain ⟨p19, p20, p21, p22, y23⟩ := p18
                rw [y23]
                clear y23
                refine fr_iast h ar_90 (by omega) (by omega) (rr_90 n) (by omega) (by omega) dX4_findChoices_80 ?_
                refine fr_mem (fun x24 m25 => ?_)
                refine fr_aload_n h rfl 0 rfl dX4_findChoices_81 ?_
                refine fr_iload_n h rfl 1 rfl dX4_findChoices_82 ?_
                refine fr_iconst h dX4_findChoices_83 ?_
                refine fr_iadd h dX4_findChoices_84 ?_
                refine fr_iload_n h rfl 2 rfl dX4_findChoices_85 ?_
                refine fr_iconst h dX4_findChoices_86 ?_
                refine fr_iadd h dX4_findChoices_87 ?_
                refine fr_lload_n h rfl 3 rfl dX4_findChoices_88 ?_
                refine fr_iload_n h rfl 2 rfl dX4_findChoices_89 ?_
                refine fr_iload h 5 rfl dX4_findChoices_90 ?_
                refine fr_csL h wX2_with lX4_86 (c_X2_with x24 v n l6_12 (by omega) (by omega) (by omega)) rfl (by omega) (by omega) rfl (Nat.le_of_ble_eq_true rfl) dX4_findChoices_92 (fun z27 x26 w28 p29 => ?_)
                have y30 := p29
                rw [y30]
                clear y30
                have r31 := (fm_rd_k (a := 89) (b := 6) m25 (by omega))
                have r32 := (fm_rd_k (a := 89) (b := 7) m25 (by omega))
                have r33 := (fm_rd_k (a := 89) (b := 8) m25 (by omega))
                have r34 := (fm_rd_k (a := o) (b := 1) m25 (by omega))
                refine fr_cvV h kX4 at_89 wX4_findChoices lX4_36 (ih x24 r hr o on ho (p + 1) (n + 1) z27 (by omega) (by omega) (by omega) (by omega) (by omega) (by omega) (by omega) (by omega) (by omega) (by omega) (by omega) (by omega)) rfl (by omega) (by omega) rfl (Nat.le_of_ble_eq_true rfl) dX4_findChoices_95 (fun x35 p38 => ?_)
                obtain ⟨p39, p40, p41, p42, p43, f44⟩ := p38
                have hcb : clp (x24 (3 + 1)) (p + 1) = clp (x (3 + 1)) (p + 1) := by rw [show x24 (3 + 1) = x (3 + 1) from ((fm_up_row m25 (by omega)).trans (g12_7 (3 + 1) (by omega) (by omega) (by omega)))]
                refine fr_iinc (j := 5) (L' := [(0, vr G 89), (1, vi p), (2, vi n), (3, vj v), (5, vi z3), (6, vi (l6_12 + 1))]) h dX4_findChoices_98 rfl (by decide) [1, 2, 3, 4, 5, 0] rfl ?_
                refine fr_goto (tgt := 53) h dX4_findChoices_101 (by decide) ?_
                have r45 := (fm_rd_k (a := 89) (b := 6) m25 (by omega))
                have r46 := (fm_rd_k (a := 89) (b := 7) m25 (by omega))
                have r47 := (fm_rd_k (a := 89) (b := 8) m25 (by omega))
                have r48 := (fm_rd_k (a := o) (b := 1) m25 (by omega))
                exact ih12 (l6_12 + 1) x35 (by omega) (by omega) (by omega) (by omega) (by omega) (by omega) (by omega) (fun a k0 k1 k2 => ((f44 a (by omega) (by omega) (by omega)).trans ((fm_up_row m25 (by omega)).trans (g12_7 a (by omega) (by omega) (by omega))))) (by omega)
        exact HL12 ((6 - 0) + 1 : Int).toNat 0 x (by omega) (by omega) (by omega) (by omega) (by omega) (by omega) (by omega) (fun a _ _ _ => rfl) (by omega)
      ·
        refine fr_aload_n h rfl 0 rfl dX4_findChoices_41 ?_
        refine fr_iload_n h rfl 1 rfl dX4_findChoices_42 ?_
        refine fr_iconst h dX4_findChoices_43 ?_
        refine fr_iadd h dX4_findChoices_44 ?_
        refine fr_iload_n h rfl 2 rfl dX4_findChoices_45 ?_
        refine fr_lload_n h rfl 3 rfl dX4_findChoices_46 ?_
        refine fr_cvV h kX4 at_89 wX4_findChoices lX4_36 (ih x r hr o on ho (p + 1) n v (by omega) (by omega) (by omega) (by omega) (by omega) (by omega) (by omega) (by omega) (by omega) (by omega) (by omega) (by omega)) rfl (by omega) (by omega) rfl (Nat.le_of_ble_eq_true rfl) dX4_findChoices_47 (fun x49 p52 => ?_)
        obtain ⟨p53, p54, p55, p56, p57, f58⟩ := p52
        have hcb : clp (x (3 + 1)) (p + 1) = clp (x (3 + 1)) (p + 1) := by rw [show x (3 + 1) = x (3 + 1) from rfl]
        refine fr_iconst h dX4_findChoices_50 ?_
        refine fr_istore (L' := [(0, vr G 89), (1, vi p), (2, vi n), (3, vj v), (5, vi z3), (6, vi 0)]) h dX4_findChoices_51 (by decide) [1, 2, 3, 4, 5, 0] rfl ?_
        have HL59 : ∀ (n59 : Nat) (l6_59 : Int) (x_59 : Mm), fm_r l6_59 → 0 ≤ l6_59 → l6_59 ≤ 6 → x_59 89 6 = 3 → x_59 89 7 = r → x_59 89 8 = o → ((z3 = 0 ∧ x_59 o 1 = x o 1 + clp (x (3 + 1)) (p + 1) ∧ x_59 o 1 ≤ x o 1 + pw6 (4 - (p + 1))) ∨ (z3 ≠ 0 ∧ x_59 o 1 = x o 1 + ml l6_59 (clp (x (3 + 1)) (p + 1)) ∧ x_59 o 1 ≤ x o 1 + ml l6_59 (pw6 (4 - (p + 1))) ∧ l6_59 ≤ z3)) → (∀ a : Int, (a < 89 ∨ 93 < a) → (a < o ∨ o + 1 < a) → (a < r ∨ r + 4 < a) → x_59 a = x49 a) → (6 - l6_59) < n59 → FW YC G C 7 x_59 53 [(0, vr G 89), (1, vi p), (2, vi n), (3, vj v), (5, vi z3), (6, vi l6_59)] [] := by
          intro n59
          induction n59 with
          | zero =>
            intro l6_59 x_59 g59_0 g59_1 g59_2 g59_3 g59_4 g59_5 g59_6 g59_7 g59_8
            exfalso; omega
          | succ n59 ih59 =>
            intro l6_59 x_59 g59_0 g59_1 g59_2 g59_3 g59_4 g59_5 g59_6 g59_7 g59_8
            refine fr_iload h 5 rfl dX4_findChoices_53 ?_
            refine fr_iload h 4 rfl dX4_findChoices_55 ?_
            refine fr_icmp_ge (tgt := 104) h dX4_findChoices_57 (by decide) (by omega) (by omega) (fun c60 => ?_) (fun c60 => by exfalso; omega)
            have hke : z3 ≠ 0 → ml l6_59 (clp (x (3 + 1)) (p + 1)) = ml (x (3 + 1) p) (clp (x (3 + 1)) (p + 1)) := fun q => by rw [show l6_59 = x (3 + 1) p by omega]
            have hme := ml_e6 (k := l6_59) (P := pw6 (4 - (p + 1))) (by omega) (by omega)
            exact fr_vret h hq ⟨(by omega), (by omega), (by omega), (by omega), (by omega), (fun a k0 k1 k2 => ((g59_7 a (by omega) (by omega) (by omega)).trans (f58 a (by omega) (by omega) (by omega))))⟩ dX4_findChoices_104
        exact HL59 ((6 - 0) + 1 : Int).toNat 0 x49 (by omega) (by omega) (by omega) (by omega) (by omega) (by omega) (by omega) (fun a _ _ _ => rfl) (by omega)
    ·
      have h6 := pw6_0 (n := 4 - p) (by omega)
      have hc4 := clp_4 (L := x (3 + 1)) (p := p) (by omega)
      refine fr_aload_n h rfl 0 rfl dX4_findChoices_5 ?_
      refine fr_getr (z := o) (iz := 8) h kX4 fX4_32 at_89 rfl rfl e2 (by omega) dX4_findChoices_6 ?_
      refine fr_aload_n h rfl 0 rfl dX4_findChoices_9 ?_
      refine fr_getr (z := r) (iz := 7) h kX4 fX4_28 at_89 rfl rfl e1 (by omega) dX4_findChoices_10 ?_
      refine fr_aload_n h rfl 0 rfl dX4_findChoices_13 ?_
      refine fr_getc (z := 90) (iz := 0) h kX4 fX4_9 at_89 rfl rfl rf_89_0 (by omega) dX4_findChoices_14 ?_
      refine fr_iload_n h rfl 2 rfl dX4_findChoices_17 ?_
      refine fr_cvI h kX7 (Ru_at hr) wX7_costOf lX4_74 (c_X7_costOf x r hr n (by omega) (by omega)) rfl (by omega) (by omega) rfl (Nat.le_of_ble_eq_true rfl) dX4_findChoices_18 (fun z62 x61 w63 p64 => ?_)
      have f65 := p64
      refine fr_lload_n h rfl 3 rfl dX4_findChoices_21 ?_
      have r66 := (congrFun (f65 o (by omega)) 1)
      skip
      refine fr_cvV h kX6 (Or_at (OrN_is ho)) wX6_add lX4_80 (f_X6_add x61 o on ho z62 v (by omega) (by omega)) rfl (by omega) (by omega) rfl (Nat.le_of_ble_eq_true rfl) dX4_findChoices_22 (fun x67 p70 => ?_)
      obtain ⟨p71, p72, p73, f74⟩ := p70
      have r75 := (congrFun (f74 89 (by omega)) 6)
      have r76 := r75.trans (congrFun (f65 89 (by omega)) 6)
      have r77 := (congrFun (f74 89 (by omega)) 7)
      have r78 := r77.trans (congrFun (f65 89 (by omega)) 7)
      have r79 := (congrFun (f74 89 (by omega)) 8)
      have r80 := r79.trans (congrFun (f65 89 (by omega)) 8)
      have r81 := (congrFun (f65 o (by omega)) 1)
      exact fr_vret h hq ⟨(by omega), (by omega), (by omega), (by omega), (by omega), (fun a k0 k1 k2 => ((f74 a (by omega)).trans (f65 a (by omega))))⟩ dX4_findChoices_25
set_option maxHeartbeats 200000 in
theorem g_X4_find (x : Mm) (k : Int) (r : Int) (hr : isRu r) (o : Int) (on : Nat) (ho : OrN o on) (h_k : fm_r k) (e0 : k = 0 → x o 1 = 0 ∧ (1296 : Int) ≤ on) : CnV YC yX4_find cX4_find 5 25 871 (fun G => [vr G 89, vi k, vr G 3, vr G r, vr G o]) x (fun y' => (k = 0 → y' o 1 = clp (x (3 + 1)) 0) ∧ (∀ a : Int, (a < 89 ∨ 93 < a) → (a < o ∨ o + 1 < a) → (a < r ∨ r + 4 < a) → y' a = x a)) := by
  refine cn_V (by decide) (fun _ => Nat.le_of_ble_eq_true rfl) (fun G C h hq => ?_)
  have h : OK YC G C cX4_find RX4 5 none 25 871 := h
  show FW YC G C 5 x 0 [(0, vr G 89), (1, vi k), (2, vr G 3), (3, vr G r), (4, vr G o)] []
  have h_r := Ru_b hr
  have h_o := OrN_b ho
  refine fr_aload_n h rfl 0 rfl dX4_find_0 ?_
  refine fr_aload_n h rfl 2 rfl dX4_find_1 ?_
  refine fr_putr (tf := (.object "BestWalks$State")) (iz := 6) h kX4 fX4_24 at_89 rfl rfl rfl (by decide +kernel) (fun _ => rfl) (fun _ => rfl) rf_89_6 (by omega) (by omega) (by omega) dX4_find_2 ?_
  refine fr_mem (fun x1 m2 => ?_)
  refine fr_aload_n h rfl 0 rfl dX4_find_5 ?_
  refine fr_aload_n h rfl 3 rfl dX4_find_6 ?_
  refine fr_putr (tf := (.object "BestWalks$Rule")) (iz := 7) h kX4 fX4_28 at_89 rfl rfl rfl (by decide +kernel) (fun _ => rfl) (fun _ => rfl) rf_89_7 (by omega) (by omega) (by omega) dX4_find_7 ?_
  refine fr_mem (fun x3 m4 => ?_)
  refine fr_aload_n h rfl 0 rfl dX4_find_10 ?_
  refine fr_aload h 4 rfl dX4_find_11 ?_
  refine fr_putr (tf := (.object "BestWalks$Order")) (iz := 8) h kX4 fX4_32 at_89 rfl rfl rfl (by decide +kernel) (fun _ => rfl) (fun _ => rfl) rf_89_8 (by omega) (by omega) (by omega) dX4_find_13 ?_
  refine fr_mem (fun x5 m6 => ?_)
  refine fr_iload_n h rfl 1 rfl dX4_find_16 ?_
  by_cases c8 : k = 0
  ·
    refine fr_tab_in (off := 31) (tgt := 48) h dX4_find_17 (by omega) (by omega) (by omega) (by rw [c8]; rfl) (by decide) ?_
    have hp6 := pw6_4
    refine fr_aload_n h rfl 0 rfl dX4_find_48 ?_
    refine fr_iconst h dX4_find_49 ?_
    refine fr_iconst h dX4_find_50 ?_
    refine fr_lconst (z := 0) h rfl dX4_find_51 ?_
    have r9 := (fm_rd_i (a := 89) (b := 6) m6 (by decide))
    have r10 := r9.trans (fm_rd_i (a := 89) (b := 6) m4 (by decide))
    have r11 := r10.trans (fm_rd_s m2)
    have r12 := (fm_rd_i (a := 89) (b := 7) m6 (by decide))
    have r13 := r12.trans (fm_rd_s m4)
    have r14 := (fm_rd_s m6)
    have r15 := (fm_rd_k (a := o) (b := 1) m6 (by omega))
    have r16 := r15.trans (fm_rd_k (a := o) (b := 1) m4 (by omega))
    have r17 := r16.trans (fm_rd_k (a := o) (b := 1) m2 (by omega))
    refine fr_cvV h kX4 at_89 wX4_findChoices lX4_36 (g_X4_findChoices 5 x5 r hr o on ho 0 0 0 (by omega) (by omega) (by omega) (by omega) (by omega) (by omega) (by omega) (by omega) (by omega) (by omega) (by omega) (by omega)) rfl (by decide) (by decide) rfl (Nat.le_of_ble_eq_true rfl) dX4_find_52 (fun x18 p21 => ?_)
    obtain ⟨p22, p23, p24, p25, p26, f27⟩ := p21
    refine fr_goto (tgt := 99) h dX4_find_55 (by decide) ?_
    have r28 := (fm_rd_k (a := o) (b := 1) m6 (by omega))
    have r29 := r28.trans (fm_rd_k (a := o) (b := 1) m4 (by omega))
    have r30 := r29.trans (fm_rd_k (a := o) (b := 1) m2 (by omega))
    exact fr_vret h hq ⟨(fun q => by have k := p25; rw [show x5 (3 + 1) = x (3 + 1) from ((fm_up_row m6 (by omega)).trans ((fm_up_row m4 (by omega)).trans (fm_up_row m2 (by omega))))] at k; omega), (fun a k0 k1 k2 => ((f27 a (by omega) (by omega) (by omega)).trans ((fm_up_row m6 (by omega)).trans ((fm_up_row m4 (by omega)).trans (fm_up_row m2 (by omega))))))⟩ dX4_find_99
  ·
    by_cases c31 : k = 1
    ·
      refine fr_tab_in (off := 41) (tgt := 58) h dX4_find_17 (by omega) (by omega) (by omega) (by rw [c31]; rfl) (by decide) ?_
      refine fr_aload_n h rfl 0 rfl dX4_find_58 ?_
      have r32 := (fm_rd_i (a := 89) (b := 6) m6 (by decide))
      have r33 := r32.trans (fm_rd_i (a := 89) (b := 6) m4 (by decide))
      have r34 := r33.trans (fm_rd_s m2)
      have r35 := (fm_rd_i (a := 89) (b := 7) m6 (by decide))
      have r36 := r35.trans (fm_rd_s m4)
      have r37 := (fm_rd_s m6)
      refine fr_cvV h kX4 at_89 wX4_findTrees lX4_40 (c_X4_findTrees x5 r hr o on ho (by omega) (by omega) (by omega)) rfl (by decide) (by decide) rfl (Nat.le_of_ble_eq_true rfl) dX4_find_59 (fun x38 p41 => ?_)
      obtain ⟨p42, p43, p44, f45⟩ := p41
      refine fr_goto (tgt := 99) h dX4_find_62 (by decide) ?_
      have r46 := (fm_rd_k (a := o) (b := 1) m6 (by omega))
      have r47 := r46.trans (fm_rd_k (a := o) (b := 1) m4 (by omega))
      have r48 := r47.trans (fm_rd_k (a := o) (b := 1) m2 (by omega))
      exact fr_vret h hq ⟨(fun q => by exfalso; omega), (fun a k0 k1 k2 => ((f45 a (by omega) (by omega) (by omega)).trans ((fm_up_row m6 (by omega)).trans ((fm_up_row m4 (by omega)).trans (fm_up_row m2 (by omega))))))⟩ dX4_find_99
    ·
      by_cases c49 : k = 2
      ·
        refine fr_tab_in (off := 48) (tgt := 65) h dX4_find_17 (by omega) (by omega) (by omega) (by rw [c49]; rfl) (by decide) ?_
        refine fr_aload_n h rfl 0 rfl dX4_find_65 ?_
        refine fr_iconst h dX4_find_66 ?_
        refine fr_iconst h dX4_find_67 ?_
        refine fr_lconst (z := 0) h rfl dX4_find_68 ?_
        refine fr_iconst h dX4_find_69 ?_
        have r50 := (fm_rd_i (a := 89) (b := 6) m6 (by decide))
        have r51 := r50.trans (fm_rd_i (a := 89) (b := 6) m4 (by decide))
        have r52 := r51.trans (fm_rd_s m2)
        have r53 := (fm_rd_i (a := 89) (b := 7) m6 (by decide))
        have r54 := r53.trans (fm_rd_s m4)
        have r55 := (fm_rd_s m6)
        refine fr_cvV h kX4 at_89 wX4_findPairings lX4_43 (c_X4_findPairings 6 x5 r hr o on ho 0 0 0 0 (by omega) (by omega) (by omega) (by omega) (by omega) (by omega) (by omega) (by omega) (by omega) (by omega)) rfl (by decide) (by decide) rfl (Nat.le_of_ble_eq_true rfl) dX4_find_70 (fun x56 p59 => ?_)
        obtain ⟨p60, p61, p62, f63⟩ := p59
        refine fr_goto (tgt := 99) h dX4_find_73 (by decide) ?_
        have r64 := (fm_rd_k (a := o) (b := 1) m6 (by omega))
        have r65 := r64.trans (fm_rd_k (a := o) (b := 1) m4 (by omega))
        have r66 := r65.trans (fm_rd_k (a := o) (b := 1) m2 (by omega))
        exact fr_vret h hq ⟨(fun q => by exfalso; omega), (fun a k0 k1 k2 => ((f63 a (by omega) (by omega) (by omega)).trans ((fm_up_row m6 (by omega)).trans ((fm_up_row m4 (by omega)).trans (fm_up_row m2 (by omega))))))⟩ dX4_find_99
      ·
        by_cases c67 : k = 3
        ·
          refine fr_tab_in (off := 59) (tgt := 76) h dX4_find_17 (by omega) (by omega) (by omega) (by rw [c67]; rfl) (by decide) ?_
          refine fr_aload_n h rfl 0 rfl dX4_find_76 ?_
          refine fr_iconst h dX4_find_77 ?_
          refine fr_iconst h dX4_find_78 ?_
          refine fr_iconst h dX4_find_79 ?_
          refine fr_lconst (z := 0) h rfl dX4_find_80 ?_
          have r68 := (fm_rd_i (a := 89) (b := 6) m6 (by decide))
          have r69 := r68.trans (fm_rd_i (a := 89) (b := 6) m4 (by decide))
          have r70 := r69.trans (fm_rd_s m2)
          have r71 := (fm_rd_i (a := 89) (b := 7) m6 (by decide))
          have r72 := r71.trans (fm_rd_s m4)
          have r73 := (fm_rd_s m6)
          refine fr_cvV h kX4 at_89 wX4_findSubsets lX4_47 (c_X4_findSubsets 7 x5 r hr o on ho 0 0 0 0 (by omega) (by omega) (by omega) (by omega) (by omega) (by omega) (by omega) (by omega) (by omega) (by omega) (by omega)) rfl (by decide) (by decide) rfl (Nat.le_of_ble_eq_true rfl) dX4_find_81 (fun x74 p77 => ?_)
          obtain ⟨p78, p79, p80, f81⟩ := p77
          refine fr_goto (tgt := 99) h dX4_find_84 (by decide) ?_
          have r82 := (fm_rd_k (a := o) (b := 1) m6 (by omega))
          have r83 := r82.trans (fm_rd_k (a := o) (b := 1) m4 (by omega))
          have r84 := r83.trans (fm_rd_k (a := o) (b := 1) m2 (by omega))
          exact fr_vret h hq ⟨(fun q => by exfalso; omega), (fun a k0 k1 k2 => ((f81 a (by omega) (by omega) (by omega)).trans ((fm_up_row m6 (by omega)).trans ((fm_up_row m4 (by omega)).trans (fm_up_row m2 (by omega))))))⟩ dX4_find_99
        ·
          refine fr_tab_out (tgt := 87) h dX4_find_17 (by omega) (by omega) (by decide) ?_
          refine fr_aload_n h rfl 0 rfl dX4_find_87 ?_
          refine fr_aload_n h rfl 2 rfl dX4_find_88 ?_
          refine fr_cvI h kX8 (St_at St_3) wX8_firstEnd lX4_51 (c_X8_firstEnd x5 3 St_3) rfl (by decide) (by decide) rfl (Nat.le_of_ble_eq_true rfl) dX4_find_89 (fun z86 x85 w87 p88 => ?_)
          obtain ⟨p89, p90, p91, y92⟩ := p88
          rw [y92]
          clear y92
          refine fr_iconst h dX4_find_92 ?_
          refine fr_iconst h dX4_find_93 ?_
          refine fr_lconst (z := 0) h rfl dX4_find_94 ?_
          refine fr_iconst h dX4_find_95 ?_
          have r93 := (fm_rd_i (a := 89) (b := 6) m6 (by decide))
          have r94 := r93.trans (fm_rd_i (a := 89) (b := 6) m4 (by decide))
          have r95 := r94.trans (fm_rd_s m2)
          have r96 := (fm_rd_i (a := 89) (b := 7) m6 (by decide))
          have r97 := r96.trans (fm_rd_s m4)
          have r98 := (fm_rd_s m6)
          refine fr_cvV h kX4 at_89 wX4_findRoutes lX4_57 (c_X4_findRoutes 7 x5 r hr o on ho z86 0 0 0 0 (by omega) (by omega) (by omega) (by omega) (by omega) (by omega) (by omega) (by omega) (by omega) (by omega) (by omega) (by omega) (by omega)) rfl (by decide) (by decide) rfl (Nat.le_of_ble_eq_true rfl) dX4_find_96 (fun x99 p102 => ?_)
          obtain ⟨p103, p104, p105, f106⟩ := p102
          have r107 := (fm_rd_k (a := o) (b := 1) m6 (by omega))
          have r108 := r107.trans (fm_rd_k (a := o) (b := 1) m4 (by omega))
          have r109 := r108.trans (fm_rd_k (a := o) (b := 1) m2 (by omega))
          exact fr_vret h hq ⟨(fun q => by exfalso; omega), (fun a k0 k1 k2 => ((f106 a (by omega) (by omega) (by omega)).trans ((fm_up_row m6 (by omega)).trans ((fm_up_row m4 (by omega)).trans (fm_up_row m2 (by omega))))))⟩ dX4_find_99
set_option maxHeartbeats 200000 in
theorem g_X6_sort (x : Mm) (o : Int) (on : Nat) (ho : OrN o on) : CnV YC yX6_sort cX6_sort 7 0 0 (fun G => [vr G o]) x (fun y' => (y' o 1 = x o 1) ∧ (∀ a : Int, (a < o ∨ o + 1 < a) → y' a = x a)) := by
  refine cn_V (by decide) (fun _ => Nat.le_of_ble_eq_true rfl) (fun G C h hq => ?_)
  have h : OK YC G C cX6_sort RX6 7 none 0 0 := h
  show FW YC G C 7 x 0 [(0, vr G o)] []
  have h_o := OrN_b ho
  refine fr_iconst h dX6_sort_0 ?_
  refine fr_istore_n (L' := [(0, vr G o), (1, vi 0)]) h rfl dX6_sort_1 (by decide) [1, 0] rfl ?_
  have HL1 : ∀ (n1 : Nat) (l1_1 : Int) (x_1 : Mm), fm_r l1_1 → 0 ≤ l1_1 → l1_1 ≤ 8 → (∀ a : Int, (a < o + 1 ∨ o + 1 < a) → x_1 a = x a) → (8 - l1_1) < n1 → FW YC G C 7 x_1 2 [(0, vr G o), (1, vi l1_1)] [] := by
    intro n1
    induction n1 with
    | zero =>
      intro l1_1 x_1 g1_0 g1_1 g1_2 g1_3 g1_4
      exfalso; omega
    | succ n1 ih1 =>
      intro l1_1 x_1 g1_0 g1_1 g1_2 g1_3 g1_4
      refine fr_iload_n h rfl 1 rfl dX6_sort_2 ?_
      refine fr_gst1 h dX6_sort_3 (fun t2 s3 => ?_)
      refine fr_slen h s3 dX6_sort_6 ?_
      show FW YC G C 7 x_1 7 [(0, vr G o), (1, vi l1_1)] [vi 8, vi l1_1]
      refine fr_icmp_ge (tgt := 104) h dX6_sort_7 (by decide) (by omega) (by omega) (fun c4 => ?_) (fun c4 => ?_)
      ·
        refine fr_aload_n h rfl 0 rfl dX6_sort_104 ?_
        refine fr_iconst h dX6_sort_105 ?_
        refine fr_putz (iz := 2) h kX6 fX6_19 (Or_at (OrN_is ho)) rfl rfl (by decide) (by decide) rfl (by decide +kernel) (Or_f2 (OrN_is ho)) (by omega) (by omega) (by omega) dX6_sort_106 ?_
        refine fr_mem (fun x5 m6 => ?_)
        have r7 := (fm_rd_i (a := o) (b := 1) m6 (by decide))
        have r8 := r7.trans (congrFun (g1_3 o (by omega)) 1)
        exact fr_vret h hq ⟨(by omega), (fun a k0 => ((fm_up_row m6 (by omega)).trans (g1_3 a (by omega))))⟩ dX6_sort_109
      ·
        refine fr_gst1 h dX6_sort_10 (fun t9 s10 => ?_)
        refine fr_iload_n h rfl 1 rfl dX6_sort_13 ?_
        refine fr_sld h s10 (by decide) (by omega) (by omega) dX6_sort_14 (fun z11 q12 => ?_)
        have w13 := zt_1_v (by omega) (by omega) q12
        refine fr_istore_n (L' := [(0, vr G o), (1, vi l1_1), (2, vi z11)]) h rfl dX6_sort_15 (by decide) [1, 2, 0] rfl ?_
        refine fr_iload_n h rfl 2 rfl dX6_sort_16 ?_
        refine fr_istore_n (L' := [(0, vr G o), (1, vi l1_1), (2, vi z11), (3, vi z11)]) h rfl dX6_sort_17 (by decide) [1, 2, 3, 0] rfl ?_
        have HL14 : ∀ (n14 : Nat) (l3_14 : Int) (x_14 : Mm), fm_r l3_14 → 1 ≤ l3_14 → l3_14 ≤ 1296 → 1 ≤ l3_14 → (∀ a : Int, (a < o + 1 ∨ o + 1 < a) → x_14 a = x_1 a) → (1296 - l3_14) < n14 → FW YC G C 7 x_14 18 [(0, vr G o), (1, vi l1_1), (2, vi z11), (3, vi l3_14)] [] := by
          intro n14
          induction n14 with
          | zero =>
            intro l3_14 x_14 g14_0 g14_1 g14_2 g14_3 g14_4 g14_5
            exfalso; omega
          | succ n14 ih14 =>
            intro l3_14 x_14 g14_0 g14_1 g14_2 g14_3 g14_4 g14_5
            refine fr_iload_n h rfl 3 rfl dX6_sort_18 ?_
            refine fr_aload_n h rfl 0 rfl dX6_sort_19 ?_
            refine fr_geti (iz := 1) h kX6 fX6_23 (Or_at (OrN_is ho)) rfl rfl (by decide) (by decide) (OrN_f1 ho) dX6_sort_20 (fun z15 w16 w17 q18 => ?_)
            have r19 := q18.trans (congrFun (g14_4 o (by omega)) 1)
            have r20 := r19.trans (congrFun (g1_3 o (by omega)) 1)
            refine fr_icmp_ge (tgt := 98) h dX6_sort_23 (by decide) (by omega) (by omega) (fun c21 => ?_) (fun c21 => ?_)
            ·
              refine fr_iinc (j := 1) (L' := [(0, vr G o), (1, vi (l1_1 + 1)), (2, vi z11), (3, vi l3_14)]) h dX6_sort_98 rfl (by decide) [1, 0, 2, 3] rfl ?_
              refine fr_goto (tgt := 2) h dX6_sort_101 (by decide) ?_
              refine fr_sub (L' := [(0, vr G o), (1, vi (l1_1 + 1))]) [0, 1] rfl ?_
              exact ih1 (l1_1 + 1) x_14 (by omega) (by omega) (by omega) (fun a k0 => ((g14_4 a (by omega)).trans (g1_3 a (by omega)))) (by omega)
            ·
              refine fr_aload_n h rfl 0 rfl dX6_sort_26 ?_
              refine fr_getc (z := (o + 1)) (iz := 0) h kX6 fX6_13 (Or_at (OrN_is ho)) rfl rfl (Or_f0 (OrN_is ho)) (by omega) dX6_sort_27 ?_
              refine fr_iload_n h rfl 3 rfl dX6_sort_30 ?_
              refine fr_lald h (OrN_a1 ho) (by omega) (by omega) (OrN_r1 ho l3_14) dX6_sort_31 (fun z22 w23 w24 q25 => ?_)
              refine fr_lstore (L' := [(0, vr G o), (1, vi l1_1), (2, vi z11), (3, vi l3_14), (4, vj z22)]) h dX6_sort_32 (by decide) [1, 2, 3, 4, 0] rfl ?_
              refine fr_iload_n h rfl 3 rfl dX6_sort_34 ?_
              refine fr_istore (L' := [(0, vr G o), (1, vi l1_1), (2, vi z11), (3, vi l3_14), (4, vj z22), (6, vi l3_14)]) h dX6_sort_35 (by decide) [1, 2, 3, 4, 5, 0] rfl ?_
              have HL26 : ∀ (n26 : Nat) (l6_26 : Int) (x_26 : Mm), fm_r l6_26 → 0 ≤ l6_26 → l6_26 ≤ 1296 → l6_26 ≤ l3_14 → (∀ a : Int, (a < o + 1 ∨ o + 1 < a) → x_26 a = x_14 a) → l6_26 < n26 → FW YC G C 7 x_26 37 [(0, vr G o), (1, vi l1_1), (2, vi z11), (3, vi l3_14), (4, vj z22), (6, vi l6_26)] [] := by
                intro n26
                induction n26 with
                | zero =>
                  intro l6_26 x_26 g26_0 g26_1 g26_2 g26_3 g26_4 g26_5
                  exfalso; omega
                | succ n26 ih26 =>
                  intro l6_26 x_26 g26_0 g26_1 g26_2 g26_3 g26_4 g26_5
                  refine fr_iload h 5 rfl dX6_sort_37 ?_
                  refine fr_iload_n h rfl 2 rfl dX6_sort_39 ?_
                  refine fr_icmp_lt (tgt := 83) h dX6_sort_40 (by decide) (by omega) (by omega) (fun c27 => ?_) (fun c27 => ?_)
                  ·
                    refine fr_aload_n h rfl 0 rfl dX6_sort_83 ?_
                    refine fr_getc (z := (o + 1)) (iz := 0) h kX6 fX6_13 (Or_at (OrN_is ho)) rfl rfl (Or_f0 (OrN_is ho)) (by omega) dX6_sort_84 ?_
                    refine fr_iload h 5 rfl dX6_sort_87 ?_
                    refine fr_lload h 4 rfl dX6_sort_89 ?_
                    refine fr_last h (OrN_a1 ho) (by omega) (by omega) (OrN_r1 ho l6_26) (by omega) (by omega) dX6_sort_91 ?_
                    refine fr_mem (fun x28 m29 => ?_)
                    refine fr_iinc (j := 3) (L' := [(0, vr G o), (1, vi l1_1), (2, vi z11), (3, vi (l3_14 + 1)), (4, vj z22), (6, vi l6_26)]) h dX6_sort_92 rfl (by decide) [1, 2, 3, 0, 4, 5] rfl ?_
                    refine fr_goto (tgt := 18) h dX6_sort_95 (by decide) ?_
                    refine fr_sub (L' := [(0, vr G o), (1, vi l1_1), (2, vi z11), (3, vi (l3_14 + 1))]) [0, 1, 2, 3] rfl ?_
                    exact ih14 (l3_14 + 1) x28 (by omega) (by omega) (by omega) (by omega) (fun a k0 => ((fm_up_row m29 (by omega)).trans ((g26_4 a (by omega)).trans (g14_4 a (by omega))))) (by omega)
                  ·
                    refine fr_aload_n h rfl 0 rfl dX6_sort_43 ?_
                    refine fr_getc (z := (o + 1)) (iz := 0) h kX6 fX6_13 (Or_at (OrN_is ho)) rfl rfl (Or_f0 (OrN_is ho)) (by omega) dX6_sort_44 ?_
                    refine fr_iload h 5 rfl dX6_sort_47 ?_
                    refine fr_iload_n h rfl 2 rfl dX6_sort_49 ?_
                    refine fr_isub h dX6_sort_50 ?_
                    refine fr_lald h (OrN_a1 ho) (by omega) (by omega) (OrN_r1 ho (l6_26 - z11)) dX6_sort_51 (fun z30 w31 w32 q33 => ?_)
                    refine fr_lload h 4 rfl dX6_sort_52 ?_
                    refine fr_lcmp h dX6_sort_54 (by omega) (by omega) (fun z34 w35 => ?_)
                    refine fr_if_le (tgt := 83) h dX6_sort_55 (by decide) (by omega) (fun c36 => ?_) (fun c36 => ?_)
                    ·
                      refine fr_aload_n h rfl 0 rfl dX6_sort_83 ?_
                      refine fr_getc (z := (o + 1)) (iz := 0) h kX6 fX6_13 (Or_at (OrN_is ho)) rfl rfl (Or_f0 (OrN_is ho)) (by omega) dX6_sort_84 ?_
                      refine fr_iload h 5 rfl dX6_sort_87 ?_
                      refine fr_lload h 4 rfl dX6_sort_89 ?_
                      refine fr_last h (OrN_a1 ho) (by omega) (by omega) (OrN_r1 ho l6_26) (by omega) (by omega) dX6_sort_91 ?_
                      refine fr_mem (fun x37 m38 => ?_)
                      refine fr_iinc (j := 3) (L' := [(0, vr G o), (1, vi l1_1), (2, vi z11), (3, vi (l3_14 + 1)), (4, vj z22), (6, vi l6_26)]) h dX6_sort_92 rfl (by decide) [1, 2, 3, 0, 4, 5] rfl ?_
                      refine fr_goto (tgt := 18) h dX6_sort_95 (by decide) ?_
                      refine fr_sub (L' := [(0, vr G o), (1, vi l1_1), (2, vi z11), (3, vi (l3_14 + 1))]) [0, 1, 2, 3] rfl ?_
                      exact ih14 (l3_14 + 1) x37 (by omega) (by omega) (by omega) (by omega) (fun a k0 => ((fm_up_row m38 (by omega)).trans ((g26_4 a (by omega)).trans (g14_4 a (by omega))))) (by omega)
                    ·
                      refine fr_aload_n h rfl 0 rfl dX6_sort_58 ?_
                      refine fr_getc (z := (o + 1)) (iz := 0) h kX6 fX6_13 (Or_at (OrN_is ho)) rfl rfl (Or_f0 (OrN_is ho)) (by omega) dX6_sort_59 ?_
                      refine fr_iload h 5 rfl dX6_sort_62 ?_
                      refine fr_aload_n h rfl 0 rfl dX6_sort_64 ?_
                      refine fr_getc (z := (o + 1)) (iz := 0) h kX6 fX6_13 (Or_at (OrN_is ho)) rfl rfl (Or_f0 (OrN_is ho)) (by omega) dX6_sort_65 ?_
                      refine fr_iload h 5 rfl dX6_sort_68 ?_
                      refine fr_iload_n h rfl 2 rfl dX6_sort_70 ?_
                      refine fr_isub h dX6_sort_71 ?_
                      refine fr_lald h (OrN_a1 ho) (by omega) (by omega) (OrN_r1 ho (l6_26 - z11)) dX6_sort_72 (fun z39 w40 w41 q42 => ?_)
                      refine fr_last h (OrN_a1 ho) (by omega) (by omega) (OrN_r1 ho l6_26) (by omega) (by omega) dX6_sort_73 ?_
                      refine fr_mem (fun x43 m44 => ?_)
                      refine fr_iload h 5 rfl dX6_sort_74 ?_
                      refine fr_iload_n h rfl 2 rfl dX6_sort_76 ?_
                      refine fr_isub h dX6_sort_77 ?_
                      refine fr_istore (L' := [(0, vr G o), (1, vi l1_1), (2, vi z11), (3, vi l3_14), (4, vj z22), (6, vi (l6_26 - z11))]) h dX6_sort_78 (by decide) [1, 2, 3, 4, 5, 0] rfl ?_
                      refine fr_goto (tgt := 37) h dX6_sort_80 (by decide) ?_
                      exact ih26 (l6_26 - z11) x43 (by omega) (by omega) (by omega) (by omega) (fun a k0 => ((fm_up_row m44 (by omega)).trans (g26_4 a (by omega)))) (by omega)
              exact HL26 (l3_14 + 1 : Int).toNat l3_14 x_14 (by omega) (by omega) (by omega) (by omega) (fun a _ => rfl) (by omega)
        exact HL14 ((1296 - z11) + 1 : Int).toNat z11 x_1 (by omega) (by omega) (by omega) (by omega) (fun a _ => rfl) (by omega)
  exact HL1 ((8 - 0) + 1 : Int).toNat 0 x (by omega) (by omega) (by omega) (fun a _ => rfl) (by omega)
set_option maxHeartbeats 1000000 in
theorem g_X11_orderOf (x : Mm) (p : Int) (h_p : fm_r p) (e0 : 0 ≤ p) (e1 : p < 5) (e2 : ((x 0 13 = 110 ∧ x 0 14 = 115) ∨ (x 0 13 = 115 ∧ x 0 14 = 110))) : CnR YC yX11_orderOf cX11_orderOf 3 (.object "BestWalks$Order") 26 895 (fun G => [vr G 0, vi p]) x (fun z y' => (z = 79 + 2 * p) ∧ (p = 0 → x 79 2 = 0 → y' 79 1 = clp (x (3 + 1)) 0) ∧ (p ≠ 0 → y' 79 2 = x 79 2) ∧ (∀ a : Int, (a < 79 ∨ 93 < a) → (a < 110 ∨ 119 < a) → y' a = x a)) := by
  refine cn_R (by decide) (fun _ => Nat.le_of_ble_eq_true rfl) (fun G C h hq => ?_)
  have h : OK YC G C cX11_orderOf RX11 3 (some (.object "BestWalks$Order")) 26 895 := h
  show FW YC G C 3 x 0 [(0, vr G 0), (1, vi p)] []
  obtain ⟨r, hr, er⟩ : ∃ r : Int, isRu r ∧ x 0 13 = r := ⟨x 0 13, by unfold isRu; omega, rfl⟩
  have h_r := Ru_b hr
  obtain ⟨q, hq2, eq⟩ : ∃ q : Int, isRu q ∧ x 0 14 = q := ⟨x 0 14, by unfold isRu; omega, rfl⟩
  have h_q := Ru_b hq2
  refine fr_aload_n h rfl 0 rfl dX11_orderOf_0 ?_
  refine fr_getc (z := 78) (iz := 7) h kX11 fX11_50 at_0 rfl rfl rf_0_7 (by omega) dX11_orderOf_1 ?_
  refine fr_iload_n h rfl 1 rfl dX11_orderOf_4 ?_
  refine fr_aaldc6 h ar_78 (by omega) (by omega) (rx_78 (by omega) (by omega)) (by omega) dX11_orderOf_5 (fun q1 w2 => ?_)
  obtain ⟨n4, i3⟩ := OrN_ex (show isOr q1 by rw [w2]; exact Or_ix78 (by omega) (by omega))
  have h_q1 := OrN_b i3
  have hk79 : p = 0 → x q1 2 = x 79 2 := fun k => by rw [show q1 = 79 by omega]
  have hon : p = 0 → (1296 : Int) ≤ n4 := fun k => by have q := i3; unfold OrN at q; omega
  refine fr_astore_n (L' := [(0, vr G 0), (1, vi p), (2, vr G q1)]) h rfl dX11_orderOf_6 (by decide) [1, 2, 0] rfl ?_
  refine fr_aload_n h rfl 2 rfl dX11_orderOf_7 ?_
  refine fr_cvI h kX6 (Or_at (OrN_is i3)) wX6_isKnown lX11_369 (f_X6_isKnown x q1 n4 i3) rfl (by decide) (by decide) rfl (Nat.le_of_ble_eq_true rfl) dX11_orderOf_8 (fun z6 x5 w7 p8 => ?_)
  obtain ⟨p9, p10, y11⟩ := p8
  rw [y11]
  clear y11
  refine fr_if_ne (tgt := 39) h dX11_orderOf_11 (by decide) (by omega) (fun c12 => ?_) (fun c12 => ?_)
  ·
    refine fr_aload_n h rfl 2 rfl dX11_orderOf_39 ?_
    exact fr_aret h (Or.inl ⟨_, rfl⟩) hq ⟨(by omega), (fun k q => by exfalso; omega), (fun _ => rfl), (fun a _ _ => rfl)⟩ dX11_orderOf_40
  ·
    refine fr_aload_n h rfl 2 rfl dX11_orderOf_14 ?_
    refine fr_cvV h kX6 (Or_at (OrN_is i3)) wX6_clear lX11_372 (f_X6_clear x q1 n4 i3) rfl (by decide) (by decide) rfl (Nat.le_of_ble_eq_true rfl) dX11_orderOf_15 (fun x13 p16 => ?_)
    obtain ⟨p17, p18, f19⟩ := p16
    refine fr_aload_n h rfl 0 rfl dX11_orderOf_18 ?_
    refine fr_getc (z := 89) (iz := 8) h kX11 fX11_57 at_0 rfl rfl rf_0_8 (by omega) dX11_orderOf_19 ?_
    refine fr_iload_n h rfl 1 rfl dX11_orderOf_22 ?_
    refine fr_aload_n h rfl 0 rfl dX11_orderOf_23 ?_
    refine fr_getc (z := 3) (iz := 1) h kX11 fX11_19 at_0 rfl rfl rf_0_1 (by omega) dX11_orderOf_24 ?_
    refine fr_aload_n h rfl 0 rfl dX11_orderOf_27 ?_
    refine fr_getr (z := r) (iz := 13) h kX11 fX11_88 at_0 rfl rfl ((congrFun (f19 0 (by omega)) 13).trans er) (by omega) dX11_orderOf_28 ?_
    refine fr_aload_n h rfl 2 rfl dX11_orderOf_31 ?_
    refine fr_cvV h kX4 at_89 wX4_find lX11_373 (g_X4_find x13 p r hr q1 n4 i3 (by omega) (by omega)) rfl (by decide) (by decide) rfl (Nat.le_of_ble_eq_true rfl) dX11_orderOf_32 (fun x20 p23 => ?_)
    obtain ⟨p24, f25⟩ := p23
    refine fr_aload_n h rfl 2 rfl dX11_orderOf_35 ?_
    refine fr_cvV h kX6 (Or_at (OrN_is i3)) wX6_sort lX11_377 (g_X6_sort x20 q1 n4 i3) rfl (by decide) (by decide) rfl (Nat.le_of_ble_eq_true rfl) dX11_orderOf_36 (fun x26 p29 => ?_)
    obtain ⟨p30, f31⟩ := p29
    refine fr_aload_n h rfl 2 rfl dX11_orderOf_39 ?_
    exact fr_aret h (Or.inl ⟨_, rfl⟩) hq ⟨(by omega), (fun k q => by rw [show x26 79 1 = x26 q1 1 by rw [show q1 = 79 by omega], show x26 q1 1 = x20 q1 1 by omega, p24 (by omega), show x13 (3 + 1) = x (3 + 1) from (f19 (3 + 1) (by omega))]), (fun k => congrFun ((f31 79 (by omega)).trans ((f25 79 (by omega) (by omega) (by omega)).trans (f19 79 (by omega)))) 2), (fun a k0 k1 => ((f31 a (by omega)).trans ((f25 a (by omega) (by omega) (by omega)).trans (f19 a (by omega)))))⟩ dX11_orderOf_40
set_option maxHeartbeats 4000000 in
theorem g_X11_years (x : Mm) (v : Int) (n : Int) (h_v : fm_r v) (h_n : fm_r n) (e0 : FRC x) (e1 : ((x 0 13 = 110 ∧ x 0 14 = 115) ∨ (x 0 13 = 115 ∧ x 0 14 = 110))) : CnI YC yX11_years cX11_years 4 .int 27 917 (fun G => [vr G 0, vi v, vi n]) x (fun z y' => (¬ (1 ≤ n ∧ n ≤ 40) → z = (-1)) ∧ (1 ≤ n ∧ n ≤ 40 → z = clp (ysL (n).toNat v (fun _ => 0)) 0) ∧ (∀ a : Int, (a < 0 ∨ 0 < a) → (a < 3 ∨ 12 < a) → (a < 14 ∨ 65 < a) → (a < 79 ∨ 93 < a) → (a < 95 ∨ 97 < a) → (a < 107 ∨ 108 < a) → (a < 110 ∨ 119 < a) → y' a = x a)) := by
  refine cn_I (by decide) (fun _ => Nat.le_of_ble_eq_true rfl) (fun G C h hq => ?_)
  have h : OK YC G C cX11_years RX11 4 (some .int) 27 917 := h
  show FW YC G C 4 x 0 [(0, vr G 0), (1, vi v), (2, vi n)] []
  have hSZ := e0.1
  have hkn : x 79 2 = 0 := e0.2.2.2.1 0 (by omega) (by omega)
  obtain ⟨r, hr, er⟩ : ∃ r : Int, isRu r ∧ x 0 13 = r := ⟨x 0 13, by unfold isRu; omega, rfl⟩
  have h_r := Ru_b hr
  obtain ⟨q, hq2, eq⟩ : ∃ q : Int, isRu q ∧ x 0 14 = q := ⟨x 0 14, by unfold isRu; omega, rfl⟩
  have h_q := Ru_b hq2
  refine fr_iload_n h rfl 2 rfl dX11_years_0 ?_
  refine fr_iconst h dX11_years_1 ?_
  refine fr_icmp_lt (tgt := 11) h dX11_years_2 (by decide) (by omega) (by omega) (fun c1 => ?_) (fun c1 => ?_)
  ·
    refine fr_iconst h dX11_years_11 ?_
    exact fr_iret h hq (by omega) ⟨(by omega), (fun q => by exfalso; omega), (fun a _ _ _ _ _ _ _ => rfl)⟩ dX11_years_12
  ·
    refine fr_iload_n h rfl 2 rfl dX11_years_5 ?_
    refine fr_bipush h rfl dX11_years_6 ?_
    refine fr_icmp_le (tgt := 13) h dX11_years_8 (by decide) (by omega) (by omega) (fun c2 => ?_) (fun c2 => ?_)
    ·
      refine fr_aload_n h rfl 0 rfl dX11_years_13 ?_
      refine fr_iload_n h rfl 1 rfl dX11_years_14 ?_
      refine fr_puti (iz := 15) h kX11 fX11_333 at_0 rfl rfl (by decide) (by decide) rfl (by decide +kernel) rf_0_15 (by omega) (by omega) dX11_years_15 ?_
      refine fr_mem (fun x3 m4 => ?_)
      refine fr_iconst h dX11_years_18 ?_
      refine fr_istore_n (L' := [(0, vr G 0), (1, vi v), (2, vi n), (3, vi 0)]) h rfl dX11_years_19 (by decide) [1, 2, 3, 0] rfl ?_
      have HL5 : ∀ (n5 : Nat) (l3_5 : Int) (x_5 : Mm), fm_r l3_5 → 0 ≤ l3_5 → l3_5 ≤ 40 → x_5 0 13 = x 0 13 → x_5 0 14 = x 0 14 → l3_5 ≤ n → x_5 0 15 = ysR (l3_5).toNat v → LQ (x_5 (3 + 1)) (ysL (l3_5).toNat v (fun _ => 0)) → x_5 79 2 = 0 → (∀ a : Int, (a < 0 ∨ 0 < a) → (a < 4 ∨ 12 < a) → (a < 14 ∨ 65 < a) → (a < 79 ∨ 88 < a) → (a < 95 ∨ 97 < a) → x_5 a = x3 a) → (n - l3_5) < n5 → FW YC G C 4 x_5 20 [(0, vr G 0), (1, vi v), (2, vi n), (3, vi l3_5)] [] := by
        intro n5
        induction n5 with
        | zero =>
          intro l3_5 x_5 g5_0 g5_1 g5_2 g5_3 g5_4 g5_5 g5_6 g5_7 g5_8 g5_9 g5_10
          exfalso; omega
        | succ n5 ih5 =>
          intro l3_5 x_5 g5_0 g5_1 g5_2 g5_3 g5_4 g5_5 g5_6 g5_7 g5_8 g5_9 g5_10
          refine fr_iload_n h rfl 3 rfl dX11_years_20 ?_
          refine fr_iload_n h rfl 2 rfl dX11_years_21 ?_
          refine fr_icmp_ge (tgt := 35) h dX11_years_22 (by decide) (by omega) (by omega) (fun c6 => ?_) (fun c6 => ?_)
          ·
            skip
            refine fr_aload_n h rfl 0 rfl dX11_years_35 ?_
            refine fr_getc (z := 107) (iz := 11) h kX11 fX11_77 at_0 rfl rfl rf_0_11 (by omega) dX11_years_36 ?_
            refine fr_aload_n h rfl 0 rfl dX11_years_39 ?_
            refine fr_iconst h dX11_years_40 ?_
            have r7 := (fm_rd_i (a := 0) (b := 13) m4 (by decide))
            have r8 := (fm_rd_i (a := 0) (b := 14) m4 (by decide))
            refine fr_cvR h kX11 at_0 wX11_orderOf lX11_210 (g_X11_orderOf x_5 1 (by omega) (by omega) (by omega) (by omega)) rfl (by decide) (by decide) rfl (Nat.le_of_ble_eq_true rfl) dX11_years_41 (fun z10 x9 p12 => ?_)
            obtain ⟨p13, p14, p15, f16⟩ := p12
            obtain ⟨n17, i18⟩ := OrN_ex (show isOr z10 by unfold isOr; omega)
            have h_z10 := OrN_b i18
            refine fr_cvI h kX6 (Or_at (OrN_is i18)) wX6_size lX11_214 (c_X6_size x9 z10 n17 i18) rfl (by decide) (by decide) rfl (Nat.le_of_ble_eq_true rfl) dX11_years_44 (fun z20 x19 w21 p22 => ?_)
            obtain ⟨p23, p24, p25, p26, y27⟩ := p22
            rw [y27]
            clear y27
            refine fr_i2l h (by omega) dX11_years_47 ?_
            refine fr_cvV h kX10 at_107 wX10_only lX11_192 (c_X10_only x9 z20 (by omega)) rfl (by decide) (by decide) rfl (Nat.le_of_ble_eq_true rfl) dX11_years_48 (fun x28 p31 => ?_)
            have f32 := p31
            refine fr_aload_n h rfl 0 rfl dX11_years_51 ?_
            refine fr_getc (z := 107) (iz := 11) h kX11 fX11_77 at_0 rfl rfl rf_0_11 (by omega) dX11_years_52 ?_
            refine fr_aload_n h rfl 0 rfl dX11_years_55 ?_
            refine fr_iconst h dX11_years_56 ?_
            have r33 := (congrFun (f32 0 (by omega)) 13)
            have r34 := r33.trans (congrFun (f16 0 (by omega) (by omega)) 13)
            have r35 := (fm_rd_i (a := 0) (b := 13) m4 (by decide))
            have r36 := (congrFun (f32 0 (by omega)) 14)
            have r37 := r36.trans (congrFun (f16 0 (by omega) (by omega)) 14)
            have r38 := (fm_rd_i (a := 0) (b := 14) m4 (by decide))
            refine fr_cvR h kX11 at_0 wX11_orderOf lX11_210 (g_X11_orderOf x28 4 (by omega) (by omega) (by omega) (by omega)) rfl (by decide) (by decide) rfl (Nat.le_of_ble_eq_true rfl) dX11_years_57 (fun z40 x39 p42 => ?_)
            obtain ⟨p43, p44, p45, f46⟩ := p42
            obtain ⟨n47, i48⟩ := OrN_ex (show isOr z40 by unfold isOr; omega)
            have h_z40 := OrN_b i48
            refine fr_cvI h kX6 (Or_at (OrN_is i48)) wX6_size lX11_214 (c_X6_size x39 z40 n47 i48) rfl (by decide) (by decide) rfl (Nat.le_of_ble_eq_true rfl) dX11_years_60 (fun z50 x49 w51 p52 => ?_)
            obtain ⟨p53, p54, p55, p56, y57⟩ := p52
            rw [y57]
            clear y57
            refine fr_i2l h (by omega) dX11_years_63 ?_
            refine fr_cvV h kX10 at_107 wX10_add lX11_223 (c_X10_add x39 z50 (by omega)) rfl (by decide) (by decide) rfl (Nat.le_of_ble_eq_true rfl) dX11_years_64 (fun x58 p61 => ?_)
            have f62 := p61
            refine fr_aload_n h rfl 0 rfl dX11_years_67 ?_
            refine fr_getc (z := 107) (iz := 11) h kX11 fX11_77 at_0 rfl rfl rf_0_11 (by omega) dX11_years_68 ?_
            refine fr_aload_n h rfl 0 rfl dX11_years_71 ?_
            refine fr_iconst h dX11_years_72 ?_
            have r63 := (congrFun (f62 0 (by omega)) 13)
            have r64 := r63.trans (congrFun (f46 0 (by omega) (by omega)) 13)
            have r65 := r64.trans (congrFun (f32 0 (by omega)) 13)
            have r66 := r65.trans (congrFun (f16 0 (by omega) (by omega)) 13)
            have r67 := (fm_rd_i (a := 0) (b := 13) m4 (by decide))
            have r68 := (congrFun (f62 0 (by omega)) 14)
            have r69 := r68.trans (congrFun (f46 0 (by omega) (by omega)) 14)
            have r70 := r69.trans (congrFun (f32 0 (by omega)) 14)
            have r71 := r70.trans (congrFun (f16 0 (by omega) (by omega)) 14)
            have r72 := (fm_rd_i (a := 0) (b := 14) m4 (by decide))
            refine fr_cvR h kX11 at_0 wX11_orderOf lX11_210 (g_X11_orderOf x58 2 (by omega) (by omega) (by omega) (by omega)) rfl (by decide) (by decide) rfl (Nat.le_of_ble_eq_true rfl) dX11_years_73 (fun z74 x73 p76 => ?_)
            obtain ⟨p77, p78, p79, f80⟩ := p76
            obtain ⟨n81, i82⟩ := OrN_ex (show isOr z74 by unfold isOr; omega)
            have h_z74 := OrN_b i82
            refine fr_iconst h dX11_years_76 ?_
            refine fr_cvI h kX6 (Or_at (OrN_is i82)) wX6_costAt lX11_220 (c_X6_costAt x73 z74 n81 i82 1 (by omega)) rfl (by decide) (by decide) rfl (Nat.le_of_ble_eq_true rfl) dX11_years_77 (fun z84 x83 w85 p86 => ?_)
            have y87 := p86
            rw [y87]
            clear y87
            refine fr_i2l h (by omega) dX11_years_80 ?_
            refine fr_cvV h kX10 at_107 wX10_add lX11_223 (c_X10_add x73 z84 (by omega)) rfl (by decide) (by decide) rfl (Nat.le_of_ble_eq_true rfl) dX11_years_81 (fun x88 p91 => ?_)
            have f92 := p91
            refine fr_aload_n h rfl 0 rfl dX11_years_84 ?_
            refine fr_iconst h dX11_years_85 ?_
            have r93 := (congrFun (f92 79 (by omega)) 2)
            have r94 := (congrFun (f62 79 (by omega)) 2)
            have r95 := (congrFun (f32 79 (by omega)) 2)
            have r96 := (fm_rd_k (a := 79) (b := 2) m4 (by omega))
            skip
            have r97 := (congrFun (f92 0 (by omega)) 13)
            have r98 := r97.trans (congrFun (f80 0 (by omega) (by omega)) 13)
            have r99 := r98.trans (congrFun (f62 0 (by omega)) 13)
            have r100 := r99.trans (congrFun (f46 0 (by omega) (by omega)) 13)
            have r101 := r100.trans (congrFun (f32 0 (by omega)) 13)
            have r102 := r101.trans (congrFun (f16 0 (by omega) (by omega)) 13)
            have r103 := (fm_rd_i (a := 0) (b := 13) m4 (by decide))
            have r104 := (congrFun (f92 0 (by omega)) 14)
            have r105 := r104.trans (congrFun (f80 0 (by omega) (by omega)) 14)
            have r106 := r105.trans (congrFun (f62 0 (by omega)) 14)
            have r107 := r106.trans (congrFun (f46 0 (by omega) (by omega)) 14)
            have r108 := r107.trans (congrFun (f32 0 (by omega)) 14)
            have r109 := r108.trans (congrFun (f16 0 (by omega) (by omega)) 14)
            have r110 := (fm_rd_i (a := 0) (b := 14) m4 (by decide))
            refine fr_cvR h kX11 at_0 wX11_orderOf lX11_210 (g_X11_orderOf x88 0 (by omega) (by omega) (by omega) (by omega)) rfl (by decide) (by decide) rfl (Nat.le_of_ble_eq_true rfl) dX11_years_86 (fun z112 x111 p114 => ?_)
            obtain ⟨p115, p116, p117, f118⟩ := p114
            obtain ⟨n119, i120⟩ := OrN_ex (show isOr z112 by unfold isOr; omega)
            have h_z112 := OrN_b i120
            refine fr_cvI h kX6 (Or_at (OrN_is i120)) wX6_size lX11_214 (c_X6_size x111 z112 n119 i120) rfl (by decide) (by decide) rfl (Nat.le_of_ble_eq_true rfl) dX11_years_89 (fun z122 x121 w123 p124 => ?_)
            obtain ⟨p125, p126, p127, p128, y129⟩ := p124
            rw [y129]
            clear y129
            exact fr_iret h hq (by omega) ⟨(by omega), (fun q => by have e9 : x111 z112 1 = x111 79 1 := (by rw [show z112 = 79 by omega]); rw [show z122 = x111 79 1 by omega, p116 rfl (by omega)]; refine clp_q (LQ_t (fun j a b => congrFun ((f92 (3 + 1) (by omega)).trans ((f80 (3 + 1) (by omega) (by omega)).trans ((f62 (3 + 1) (by omega)).trans ((f46 (3 + 1) (by omega) (by omega)).trans ((f32 (3 + 1) (by omega)).trans (f16 (3 + 1) (by omega) (by omega))))))) j) ?_); rw [show n = l3_5 by omega]; exact g5_7), (fun a k0 k1 k2 k3 k4 k5 k6 => ((f118 a (by omega) (by omega)).trans ((f92 a (by omega)).trans ((f80 a (by omega) (by omega)).trans ((f62 a (by omega)).trans ((f46 a (by omega) (by omega)).trans ((f32 a (by omega)).trans ((f16 a (by omega) (by omega)).trans ((g5_9 a (by omega) (by omega) (by omega) (by omega) (by omega)).trans (fm_up_row m4 (by omega)))))))))))⟩ dX11_years_92
          ·
            refine fr_aload_n h rfl 0 rfl dX11_years_25 ?_
            refine fr_cvV h kX11 at_0 wX11_liveYear lX11_337 (g_X11_liveYear x_5) rfl (by decide) (by decide) rfl (Nat.le_of_ble_eq_true rfl) dX11_years_26 (fun x130 p133 => ?_)
            obtain ⟨p134, p135, p136, p137, p138, f139⟩ := p133
            refine fr_iinc (j := 3) (L' := [(0, vr G 0), (1, vi v), (2, vi n), (3, vi (l3_5 + 1))]) h dX11_years_29 rfl (by decide) [1, 2, 3, 0] rfl ?_
            refine fr_goto (tgt := 20) h dX11_years_32 (by decide) ?_
            have r140 := (fm_rd_i (a := 0) (b := 13) m4 (by decide))
            have r141 := (fm_rd_i (a := 0) (b := 14) m4 (by decide))
            have r142 := (fm_rd_s m4)
            have r143 := (fm_rd_k (a := 79) (b := 2) m4 (by omega))
            exact ih5 (l3_5 + 1) x130 (by omega) (by omega) (by omega) (by omega) (by omega) (by omega) (by rw [(ys_s (r := v) (L := fun _ => 0) (show 0 ≤ l3_5 by omega)).1, ← g5_6]; exact p136) (by rw [(ys_s (r := v) (L := fun _ => 0) (show 0 ≤ l3_5 by omega)).2, ← g5_6]; exact LQ_t p137 (yrL_c g5_7)) (by omega) (fun a k0 k1 k2 k3 k4 => ((f139 a (by omega) (by omega) (by omega) (by omega) (by omega)).trans (g5_9 a (by omega) (by omega) (by omega) (by omega) (by omega)))) (by omega)
      have r144 := (fm_rd_i (a := 0) (b := 13) m4 (by decide))
      have r145 := (fm_rd_i (a := 0) (b := 14) m4 (by decide))
      have r146 := (fm_rd_s m4)
      have r147 := (fm_rd_k (a := 79) (b := 2) m4 (by omega))
      exact HL5 ((n - 0) + 1 : Int).toNat 0 x3 (by omega) (by omega) (by omega) (by omega) (by omega) (by omega) (fm_rd_s m4) (fun j a b => (congrFun (fm_up_row m4 (by omega)) j).trans (hSZ j a b)) (by omega) (fun a _ _ _ _ _ => rfl) (by omega)
    ·
      refine fr_iconst h dX11_years_11 ?_
      exact fr_iret h hq (by omega) ⟨(by omega), (fun q => by exfalso; omega), (fun a _ _ _ _ _ _ _ => rfl)⟩ dX11_years_12
