set_option maxHeartbeats 200000 in
theorem c_bitCount (x : Mm) (p : Int) (h_p : fm_r p) : CnI YC yJ6_bitCount_0f7a4 cJ6_bitCount_0f7a4 1 .int 0 0 (fun G => [vi p]) x (fun z y' => (y' = x)) := by
  refine cn_I (by decide) (fun _ => Nat.le_of_ble_eq_true rfl) (fun G C h hq => ?_)
  have h : OK YC G C cJ6_bitCount_0f7a4 RJ6 1 (some .int) 0 0 := h
  show FW YC G C 1 x 0 [(0, vi p)] []
  refine fr_iload_n h rfl 0 rfl dJ6_bitCount_0f7a4_0 ?_
  refine fr_iload_n h rfl 0 rfl dJ6_bitCount_0f7a4_1 ?_
  refine fr_iconst h dJ6_bitCount_0f7a4_2 ?_
  refine fr_iushr h dJ6_bitCount_0f7a4_3 (fun z1 w2 q3 w4 => ?_)
  refine fr_ldcw (z := 1431655765) h (by exact tb_4 (i := 0) (by decide +kernel) (by decide +kernel)) rfl dJ6_bitCount_0f7a4_4 ?_
  refine fr_iand h dJ6_bitCount_0f7a4_7 (fun z5 w6 q7 w8 => ?_)
  have w9 := w8 (by omega) (by omega)
  refine fr_isub h dJ6_bitCount_0f7a4_8 ?_
  refine fr_normi (fun z10 w11 q12 => ?_)
  have w13 : fm_r ((p - z5)) → z10 = (p - z5) := fun q => (iI_inj q w11 q12).symm
  refine fr_istore_n (L' := [(0, vi z10)]) h rfl dJ6_bitCount_0f7a4_9 (by decide) [0] rfl ?_
  refine fr_iload_n h rfl 0 rfl dJ6_bitCount_0f7a4_10 ?_
  refine fr_ldcw (z := 858993459) h (by exact tb_4 (i := 1) (by decide +kernel) (by decide +kernel)) rfl dJ6_bitCount_0f7a4_11 ?_
  refine fr_iand h dJ6_bitCount_0f7a4_14 (fun z14 w15 q16 w17 => ?_)
  have w18 := w17 (by omega) (by omega)
  refine fr_iload_n h rfl 0 rfl dJ6_bitCount_0f7a4_15 ?_
  refine fr_iconst h dJ6_bitCount_0f7a4_16 ?_
  refine fr_iushr h dJ6_bitCount_0f7a4_17 (fun z19 w20 q21 w22 => ?_)
  refine fr_ldcw (z := 858993459) h (by exact tb_4 (i := 1) (by decide +kernel) (by decide +kernel)) rfl dJ6_bitCount_0f7a4_18 ?_
  refine fr_iand h dJ6_bitCount_0f7a4_21 (fun z23 w24 q25 w26 => ?_)
  have w27 := w26 (by omega) (by omega)
  refine fr_iadd h dJ6_bitCount_0f7a4_22 ?_
  refine fr_istore_n (L' := [(0, vi (z14 + z23))]) h rfl dJ6_bitCount_0f7a4_23 (by decide) [0] rfl ?_
  refine fr_iload_n h rfl 0 rfl dJ6_bitCount_0f7a4_24 ?_
  refine fr_iload_n h rfl 0 rfl dJ6_bitCount_0f7a4_25 ?_
  refine fr_iconst h dJ6_bitCount_0f7a4_26 ?_
  refine fr_iushr h dJ6_bitCount_0f7a4_27 (fun z28 w29 q30 w31 => ?_)
  refine fr_iadd h dJ6_bitCount_0f7a4_28 ?_
  refine fr_normi (fun z32 w33 q34 => ?_)
  have w35 : fm_r (((z14 + z23) + z28)) → z32 = ((z14 + z23) + z28) := fun q => (iI_inj q w33 q34).symm
  refine fr_ldcw (z := 252645135) h (by exact tb_4 (i := 2) (by decide +kernel) (by decide +kernel)) rfl dJ6_bitCount_0f7a4_29 ?_
  refine fr_iand h dJ6_bitCount_0f7a4_32 (fun z36 w37 q38 w39 => ?_)
  have w40 := w39 (by omega) (by omega)
  refine fr_istore_n (L' := [(0, vi z36)]) h rfl dJ6_bitCount_0f7a4_33 (by decide) [0] rfl ?_
  refine fr_iload_n h rfl 0 rfl dJ6_bitCount_0f7a4_34 ?_
  refine fr_iload_n h rfl 0 rfl dJ6_bitCount_0f7a4_35 ?_
  refine fr_bipush h rfl dJ6_bitCount_0f7a4_36 ?_
  refine fr_iushr h dJ6_bitCount_0f7a4_38 (fun z41 w42 q43 w44 => ?_)
  refine fr_iadd h dJ6_bitCount_0f7a4_39 ?_
  refine fr_normi (fun z45 w46 q47 => ?_)
  have w48 : fm_r ((z36 + z41)) → z45 = (z36 + z41) := fun q => (iI_inj q w46 q47).symm
  refine fr_istore_n (L' := [(0, vi z45)]) h rfl dJ6_bitCount_0f7a4_40 (by decide) [0] rfl ?_
  refine fr_iload_n h rfl 0 rfl dJ6_bitCount_0f7a4_41 ?_
  refine fr_iload_n h rfl 0 rfl dJ6_bitCount_0f7a4_42 ?_
  refine fr_bipush h rfl dJ6_bitCount_0f7a4_43 ?_
  refine fr_iushr h dJ6_bitCount_0f7a4_45 (fun z49 w50 q51 w52 => ?_)
  have w53 := w52 rfl
  refine fr_iadd h dJ6_bitCount_0f7a4_46 ?_
  refine fr_normi (fun z54 w55 q56 => ?_)
  have w57 : fm_r ((z45 + z49)) → z54 = (z45 + z49) := fun q => (iI_inj q w55 q56).symm
  refine fr_istore_n (L' := [(0, vi z54)]) h rfl dJ6_bitCount_0f7a4_47 (by decide) [0] rfl ?_
  refine fr_iload_n h rfl 0 rfl dJ6_bitCount_0f7a4_48 ?_
  refine fr_bipush h rfl dJ6_bitCount_0f7a4_49 ?_
  refine fr_iand h dJ6_bitCount_0f7a4_51 (fun z58 w59 q60 w61 => ?_)
  have w62 := w61 (by omega) (by omega)
  exact fr_iret h hq (by omega) rfl dJ6_bitCount_0f7a4_52
set_option maxHeartbeats 200000 in
theorem c_X7_isLetter (x : Mm) (p : Int) (h_p : fm_r p) : CnI YC yX7_isLetter cX7_isLetter 1 .boolean 0 0 (fun G => [vi p]) x (fun z y' => (z = 0 ∨ z = 1) ∧ (y' = x)) := by
  refine cn_I (by decide) (fun _ => Nat.le_of_ble_eq_true rfl) (fun G C h hq => ?_)
  have h : OK YC G C cX7_isLetter RX7 1 (some .boolean) 0 0 := h
  show FW YC G C 1 x 0 [(0, vi p)] []
  refine fr_iload_n h rfl 0 rfl dX7_isLetter_0 ?_
  by_cases c2 : p = 101
  ·
    refine fr_tab_in (off := 75) (tgt := 76) h dX7_isLetter_1 (by omega) (by omega) (by omega) (by rw [c2]; rfl) (by decide) ?_
    refine fr_iconst h dX7_isLetter_76 ?_
    exact fr_zret h rfl hq (by omega) ⟨(by omega), rfl⟩ dX7_isLetter_77
  ·
    by_cases c3 : p = 102
    ·
      refine fr_tab_in (off := 75) (tgt := 76) h dX7_isLetter_1 (by omega) (by omega) (by omega) (by rw [c3]; rfl) (by decide) ?_
      refine fr_iconst h dX7_isLetter_76 ?_
      exact fr_zret h rfl hq (by omega) ⟨(by omega), rfl⟩ dX7_isLetter_77
    ·
      by_cases c4 : p = 108
      ·
        refine fr_tab_in (off := 75) (tgt := 76) h dX7_isLetter_1 (by omega) (by omega) (by omega) (by rw [c4]; rfl) (by decide) ?_
        refine fr_iconst h dX7_isLetter_76 ?_
        exact fr_zret h rfl hq (by omega) ⟨(by omega), rfl⟩ dX7_isLetter_77
      ·
        by_cases c5 : p = 109
        ·
          refine fr_tab_in (off := 75) (tgt := 76) h dX7_isLetter_1 (by omega) (by omega) (by omega) (by rw [c5]; rfl) (by decide) ?_
          refine fr_iconst h dX7_isLetter_76 ?_
          exact fr_zret h rfl hq (by omega) ⟨(by omega), rfl⟩ dX7_isLetter_77
        ·
          by_cases c6 : p = 110
          ·
            refine fr_tab_in (off := 75) (tgt := 76) h dX7_isLetter_1 (by omega) (by omega) (by omega) (by rw [c6]; rfl) (by decide) ?_
            refine fr_iconst h dX7_isLetter_76 ?_
            exact fr_zret h rfl hq (by omega) ⟨(by omega), rfl⟩ dX7_isLetter_77
          ·
            by_cases c7 : p = 112
            ·
              refine fr_tab_in (off := 75) (tgt := 76) h dX7_isLetter_1 (by omega) (by omega) (by omega) (by rw [c7]; rfl) (by decide) ?_
              refine fr_iconst h dX7_isLetter_76 ?_
              exact fr_zret h rfl hq (by omega) ⟨(by omega), rfl⟩ dX7_isLetter_77
            ·
              by_cases c8 : p = 115
              ·
                refine fr_tab_in (off := 75) (tgt := 76) h dX7_isLetter_1 (by omega) (by omega) (by omega) (by rw [c8]; rfl) (by decide) ?_
                refine fr_iconst h dX7_isLetter_76 ?_
                exact fr_zret h rfl hq (by omega) ⟨(by omega), rfl⟩ dX7_isLetter_77
              ·
                have J9 : FW YC G C 1 x 78 [(0, vi p)] [] := by
                  refine fr_iconst h dX7_isLetter_78 ?_
                  exact fr_zret h rfl hq (by omega) ⟨(by omega), rfl⟩ dX7_isLetter_79
                by_cases c10 : p < 101 ∨ 115 < p
                · exact fr_tab_out (tgt := 78) h dX7_isLetter_1 (by omega) c10 (by decide) J9
                · have c11 : p = 103 ∨ p = 104 ∨ p = 105 ∨ p = 106 ∨ p = 107 ∨ p = 111 ∨ p = 113 ∨ p = 114 := by omega
                  rcases c11 with c11 | c11 | c11 | c11 | c11 | c11 | c11 | c11 <;> exact fr_tab_in (tgt := 78) h dX7_isLetter_1 (by omega) (by omega) (by omega) (by rw [c11]; rfl) (by decide) J9
set_option maxHeartbeats 200000 in
theorem c_X7_bindingOf (x : Mm) (p : Int) (h_p : fm_r p) : CnI YC yX7_bindingOf cX7_bindingOf 1 .int 0 0 (fun G => [vi p]) x (fun z y' => (0 ≤ z) ∧ (z ≤ 4) ∧ (z ≠ 0 → p = 60 ∨ p = 61 ∨ p = 62 ∨ p = 43 ∨ p = 45 ∨ p = 42 ∨ p = 47 ∨ p = 256) ∧ (p = 60 ∨ p = 61 ∨ p = 62 ∨ p = 43 ∨ p = 45 ∨ p = 42 ∨ p = 47 ∨ p = 256 → 1 ≤ z) ∧ (y' = x)) := by
  refine cn_I (by decide) (fun _ => Nat.le_of_ble_eq_true rfl) (fun G C h hq => ?_)
  have h : OK YC G C cX7_bindingOf RX7 1 (some .int) 0 0 := h
  show FW YC G C 1 x 0 [(0, vi p)] []
  refine fr_iload_n h rfl 0 rfl dX7_bindingOf_0 ?_
  by_cases c2 : p = 42
  ·
    refine fr_look (off := 79) (tgt := 80) h dX7_bindingOf_1 (by omega) (by decide) (by rw [c2]; rfl) (by decide) ?_
    refine fr_iconst h dX7_bindingOf_80 ?_
    exact fr_iret h hq (by omega) ⟨(by omega), (by omega), (by omega), (by omega), rfl⟩ dX7_bindingOf_81
  ·
    by_cases c3 : p = 43
    ·
      refine fr_look (off := 77) (tgt := 78) h dX7_bindingOf_1 (by omega) (by decide) (by rw [c3]; rfl) (by decide) ?_
      refine fr_iconst h dX7_bindingOf_78 ?_
      exact fr_iret h hq (by omega) ⟨(by omega), (by omega), (by omega), (by omega), rfl⟩ dX7_bindingOf_79
    ·
      by_cases c4 : p = 45
      ·
        refine fr_look (off := 77) (tgt := 78) h dX7_bindingOf_1 (by omega) (by decide) (by rw [c4]; rfl) (by decide) ?_
        refine fr_iconst h dX7_bindingOf_78 ?_
        exact fr_iret h hq (by omega) ⟨(by omega), (by omega), (by omega), (by omega), rfl⟩ dX7_bindingOf_79
      ·
        by_cases c5 : p = 47
        ·
          refine fr_look (off := 79) (tgt := 80) h dX7_bindingOf_1 (by omega) (by decide) (by rw [c5]; rfl) (by decide) ?_
          refine fr_iconst h dX7_bindingOf_80 ?_
          exact fr_iret h hq (by omega) ⟨(by omega), (by omega), (by omega), (by omega), rfl⟩ dX7_bindingOf_81
        ·
          by_cases c6 : p = 60
          ·
            refine fr_look (off := 75) (tgt := 76) h dX7_bindingOf_1 (by omega) (by decide) (by rw [c6]; rfl) (by decide) ?_
            refine fr_iconst h dX7_bindingOf_76 ?_
            exact fr_iret h hq (by omega) ⟨(by omega), (by omega), (by omega), (by omega), rfl⟩ dX7_bindingOf_77
          ·
            by_cases c7 : p = 61
            ·
              refine fr_look (off := 75) (tgt := 76) h dX7_bindingOf_1 (by omega) (by decide) (by rw [c7]; rfl) (by decide) ?_
              refine fr_iconst h dX7_bindingOf_76 ?_
              exact fr_iret h hq (by omega) ⟨(by omega), (by omega), (by omega), (by omega), rfl⟩ dX7_bindingOf_77
            ·
              by_cases c8 : p = 62
              ·
                refine fr_look (off := 75) (tgt := 76) h dX7_bindingOf_1 (by omega) (by decide) (by rw [c8]; rfl) (by decide) ?_
                refine fr_iconst h dX7_bindingOf_76 ?_
                exact fr_iret h hq (by omega) ⟨(by omega), (by omega), (by omega), (by omega), rfl⟩ dX7_bindingOf_77
              ·
                by_cases c9 : p = 256
                ·
                  refine fr_look (off := 81) (tgt := 82) h dX7_bindingOf_1 (by omega) (by decide) (by rw [c9]; rfl) (by decide) ?_
                  refine fr_iconst h dX7_bindingOf_82 ?_
                  exact fr_iret h hq (by omega) ⟨(by omega), (by omega), (by omega), (by omega), rfl⟩ dX7_bindingOf_83
                ·
                  refine fr_look (off := 83) (tgt := 84) h dX7_bindingOf_1 (by omega) (by decide) (by simp [Op.lookupswitch.offset]; omega) (by decide) ?_
                  refine fr_iconst h dX7_bindingOf_84 ?_
                  exact fr_iret h hq (by omega) ⟨(by omega), (by omega), (by omega), (by omega), rfl⟩ dX7_bindingOf_85
set_option maxHeartbeats 200000 in
theorem c_X7_push (x : Mm) (r : Int) (hr : isRu r) (v : Int) (h_v : fm_r v) : CnV YC yX7_push cX7_push 2 0 0 (fun G => [vr G r, vi v]) x (fun y' => (y' r 4 = x r 4) ∧ (∀ a : Int, (a < r ∨ r + 4 < a) → y' a = x a)) := by
  refine cn_V (by decide) (fun _ => Nat.le_of_ble_eq_true rfl) (fun G C h hq => ?_)
  have h : OK YC G C cX7_push RX7 2 none 0 0 := h
  show FW YC G C 2 x 0 [(0, vr G r), (1, vi v)] []
  have h_r := Ru_b hr
  refine fr_aload_n h rfl 0 rfl dX7_push_0 ?_
  refine fr_geti (iz := 7) h kX7 fX7_92 (Ru_at hr) rfl rfl (by decide) (by decide) (Ru_f7 hr) dX7_push_1 (fun z1 w2 w3 q4 => ?_)
  refine fr_bipush h rfl dX7_push_4 ?_
  refine fr_icmp_ge (tgt := 29) h dX7_push_6 (by decide) (by omega) (by omega) (fun c5 => ?_) (fun c5 => ?_)
  ·
    exact fr_vret h hq ⟨(by omega), (fun a _ => rfl)⟩ dX7_push_29
  ·
    refine fr_aload_n h rfl 0 rfl dX7_push_9 ?_
    refine fr_getc (z := (r + 4)) (iz := 3) h kX7 fX7_22 (Ru_at hr) rfl rfl (Ru_f3 hr) (by omega) dX7_push_10 ?_
    refine fr_aload_n h rfl 0 rfl dX7_push_13 ?_
    refine fr_geti (iz := 7) h kX7 fX7_92 (Ru_at hr) rfl rfl (by decide) (by decide) (Ru_f7 hr) dX7_push_14 (fun z6 w7 w8 q9 => ?_)
    refine fr_iload_n h rfl 1 rfl dX7_push_17 ?_
    refine fr_iast h (Ru_a4 hr) (by omega) (by omega) (Ru_r4 hr z6) (by omega) (by omega) dX7_push_18 ?_
    refine fr_mem (fun x10 m11 => ?_)
    refine fr_aload_n h rfl 0 rfl dX7_push_19 ?_
    refine fr_dup h rfl dX7_push_20 ?_
    refine fr_geti (iz := 7) h kX7 fX7_92 (Ru_at hr) rfl rfl (by decide) (by decide) (Ru_f7 hr) dX7_push_21 (fun z12 w13 w14 q15 => ?_)
    have r16 := q15.trans (fm_rd_k (a := r) (b := 7) m11 (by omega))
    refine fr_iconst h dX7_push_24 ?_
    refine fr_iadd h dX7_push_25 ?_
    refine fr_puti (iz := 7) h kX7 fX7_92 (Ru_at hr) rfl rfl (by decide) (by decide) rfl (by decide +kernel) (Ru_f7 hr) (by omega) (by omega) dX7_push_26 ?_
    refine fr_mem (fun x17 m18 => ?_)
    have r19 := (fm_rd_i (a := r) (b := 4) m18 (by decide))
    have r20 := r19.trans (fm_rd_k (a := r) (b := 4) m11 (by omega))
    exact fr_vret h hq ⟨(by omega), (fun a k0 => ((fm_up_row m18 (by omega)).trans (fm_up_row m11 (by omega))))⟩ dX7_push_29
set_option maxHeartbeats 200000 in
theorem c_X7_pop (x : Mm) (r : Int) (hr : isRu r) : CnI YC yX7_pop cX7_pop 1 .int 0 0 (fun G => [vr G r]) x (fun z y' => (y' r 4 = x r 4) ∧ (∀ a : Int, (a < r ∨ r + 4 < a) → y' a = x a)) := by
  refine cn_I (by decide) (fun _ => Nat.le_of_ble_eq_true rfl) (fun G C h hq => ?_)
  have h : OK YC G C cX7_pop RX7 1 (some .int) 0 0 := h
  show FW YC G C 1 x 0 [(0, vr G r)] []
  have h_r := Ru_b hr
  refine fr_aload_n h rfl 0 rfl dX7_pop_0 ?_
  refine fr_geti (iz := 7) h kX7 fX7_92 (Ru_at hr) rfl rfl (by decide) (by decide) (Ru_f7 hr) dX7_pop_1 (fun z1 w2 w3 q4 => ?_)
  refine fr_if_ne (tgt := 9) h dX7_pop_4 (by decide) (by omega) (fun c5 => ?_) (fun c5 => ?_)
  ·
    refine fr_aload_n h rfl 0 rfl dX7_pop_9 ?_
    refine fr_dup h rfl dX7_pop_10 ?_
    refine fr_geti (iz := 7) h kX7 fX7_92 (Ru_at hr) rfl rfl (by decide) (by decide) (Ru_f7 hr) dX7_pop_11 (fun z6 w7 w8 q9 => ?_)
    refine fr_iconst h dX7_pop_14 ?_
    refine fr_isub h dX7_pop_15 ?_
    refine fr_puti (iz := 7) h kX7 fX7_92 (Ru_at hr) rfl rfl (by decide) (by decide) rfl (by decide +kernel) (Ru_f7 hr) (by omega) (by omega) dX7_pop_16 ?_
    refine fr_mem (fun x10 m11 => ?_)
    refine fr_aload_n h rfl 0 rfl dX7_pop_19 ?_
    refine fr_getc (z := (r + 4)) (iz := 3) h kX7 fX7_22 (Ru_at hr) rfl rfl (Ru_f3 hr) (by omega) dX7_pop_20 ?_
    refine fr_aload_n h rfl 0 rfl dX7_pop_23 ?_
    refine fr_geti (iz := 7) h kX7 fX7_92 (Ru_at hr) rfl rfl (by decide) (by decide) (Ru_f7 hr) dX7_pop_24 (fun z12 w13 w14 q15 => ?_)
    have r16 := q15.trans (fm_rd_s m11)
    refine fr_iald h (Ru_a4 hr) (by omega) (by omega) (Ru_r4 hr z12) dX7_pop_27 (fun z17 w18 w19 q20 => ?_)
    have r21 := q20.trans (fm_rd_k (a := (r + 4)) (b := z12) m11 (by omega))
    have r22 := (fm_rd_i (a := r) (b := 4) m11 (by decide))
    exact fr_iret h hq (by omega) ⟨(by omega), (fun a k0 => (fm_up_row m11 (by omega)))⟩ dX7_pop_28
  ·
    refine fr_iconst h dX7_pop_7 ?_
    exact fr_iret h hq (by omega) ⟨(by omega), (fun a _ => rfl)⟩ dX7_pop_8
set_option maxHeartbeats 200000 in
theorem c_X7_joined (x : Mm) (p : Int) (v : Int) (w : Int) (h_p : fm_r p) (h_v : fm_r v) (h_w : fm_r w) : CnI YC yX7_joined cX7_joined 3 .int 0 0 (fun G => [vi p, vi v, vi w]) x (fun z y' => (y' = x)) := by
  refine cn_I (by decide) (fun _ => Nat.le_of_ble_eq_true rfl) (fun G C h hq => ?_)
  have h : OK YC G C cX7_joined RX7 3 (some .int) 0 0 := h
  show FW YC G C 3 x 0 [(0, vi p), (1, vi v), (2, vi w)] []
  refine fr_iload_n h rfl 0 rfl dX7_joined_0 ?_
  by_cases c2 : p = 42
  ·
    refine fr_look (off := 100) (tgt := 101) h dX7_joined_1 (by omega) (by decide) (by rw [c2]; rfl) (by decide) ?_
    refine fr_iload_n h rfl 1 rfl dX7_joined_101 ?_
    refine fr_iload_n h rfl 2 rfl dX7_joined_102 ?_
    refine fr_imul h dX7_joined_103 ?_
    refine fr_normi (fun z3 w4 q5 => ?_)
    have w6 : fm_r ((v * w)) → z3 = (v * w) := fun q => (iI_inj q w4 q5).symm
    exact fr_iret h hq (by omega) rfl dX7_joined_104
  ·
    by_cases c7 : p = 43
    ·
      refine fr_look (off := 92) (tgt := 93) h dX7_joined_1 (by omega) (by decide) (by rw [c7]; rfl) (by decide) ?_
      refine fr_iload_n h rfl 1 rfl dX7_joined_93 ?_
      refine fr_iload_n h rfl 2 rfl dX7_joined_94 ?_
      refine fr_iadd h dX7_joined_95 ?_
      refine fr_normi (fun z8 w9 q10 => ?_)
      have w11 : fm_r ((v + w)) → z8 = (v + w) := fun q => (iI_inj q w9 q10).symm
      exact fr_iret h hq (by omega) rfl dX7_joined_96
    ·
      by_cases c12 : p = 45
      ·
        refine fr_look (off := 96) (tgt := 97) h dX7_joined_1 (by omega) (by decide) (by rw [c12]; rfl) (by decide) ?_
        refine fr_iload_n h rfl 1 rfl dX7_joined_97 ?_
        refine fr_iload_n h rfl 2 rfl dX7_joined_98 ?_
        refine fr_isub h dX7_joined_99 ?_
        refine fr_normi (fun z13 w14 q15 => ?_)
        have w16 : fm_r ((v - w)) → z13 = (v - w) := fun q => (iI_inj q w14 q15).symm
        exact fr_iret h hq (by omega) rfl dX7_joined_100
      ·
        by_cases c17 : p = 60
        ·
          refine fr_look (off := 59) (tgt := 60) h dX7_joined_1 (by omega) (by decide) (by rw [c17]; rfl) (by decide) ?_
          refine fr_iload_n h rfl 1 rfl dX7_joined_60 ?_
          refine fr_iload_n h rfl 2 rfl dX7_joined_61 ?_
          refine fr_icmp_ge (tgt := 69) h dX7_joined_62 (by decide) (by omega) (by omega) (fun c18 => ?_) (fun c18 => ?_)
          ·
            refine fr_iconst h dX7_joined_69 ?_
            exact fr_iret h hq (by omega) rfl dX7_joined_70
          ·
            refine fr_iconst h dX7_joined_65 ?_
            refine fr_goto (tgt := 70) h dX7_joined_66 (by decide) ?_
            exact fr_iret h hq (by omega) rfl dX7_joined_70
        ·
          by_cases c19 : p = 61
          ·
            refine fr_look (off := 81) (tgt := 82) h dX7_joined_1 (by omega) (by decide) (by rw [c19]; rfl) (by decide) ?_
            refine fr_iload_n h rfl 1 rfl dX7_joined_82 ?_
            refine fr_iload_n h rfl 2 rfl dX7_joined_83 ?_
            refine fr_icmp_ne (tgt := 91) h dX7_joined_84 (by decide) (by omega) (by omega) (fun c20 => ?_) (fun c20 => ?_)
            ·
              refine fr_iconst h dX7_joined_91 ?_
              exact fr_iret h hq (by omega) rfl dX7_joined_92
            ·
              refine fr_iconst h dX7_joined_87 ?_
              refine fr_goto (tgt := 92) h dX7_joined_88 (by decide) ?_
              exact fr_iret h hq (by omega) rfl dX7_joined_92
          ·
            by_cases c21 : p = 62
            ·
              refine fr_look (off := 70) (tgt := 71) h dX7_joined_1 (by omega) (by decide) (by rw [c21]; rfl) (by decide) ?_
              refine fr_iload_n h rfl 1 rfl dX7_joined_71 ?_
              refine fr_iload_n h rfl 2 rfl dX7_joined_72 ?_
              refine fr_icmp_le (tgt := 80) h dX7_joined_73 (by decide) (by omega) (by omega) (fun c22 => ?_) (fun c22 => ?_)
              ·
                refine fr_iconst h dX7_joined_80 ?_
                exact fr_iret h hq (by omega) rfl dX7_joined_81
              ·
                refine fr_iconst h dX7_joined_76 ?_
                refine fr_goto (tgt := 81) h dX7_joined_77 (by decide) ?_
                exact fr_iret h hq (by omega) rfl dX7_joined_81
            ·
              refine fr_look (off := 104) (tgt := 105) h dX7_joined_1 (by omega) (by decide) (by simp [Op.lookupswitch.offset]; omega) (by decide) ?_
              refine fr_iload_n h rfl 2 rfl dX7_joined_105 ?_
              refine fr_if_ne (tgt := 113) h dX7_joined_106 (by decide) (by omega) (fun c23 => ?_) (fun c23 => ?_)
              ·
                refine fr_iload_n h rfl 1 rfl dX7_joined_113 ?_
                refine fr_iload_n h rfl 2 rfl dX7_joined_114 ?_
                refine fr_idiv h (by omega) (by omega) (by omega) dX7_joined_115 (fun z24 w25 q26 w27 => ?_)
                exact fr_iret h hq (by omega) rfl dX7_joined_116
              ·
                refine fr_iconst h dX7_joined_109 ?_
                refine fr_goto (tgt := 116) h dX7_joined_110 (by decide) ?_
                exact fr_iret h hq (by omega) rfl dX7_joined_116
set_option maxHeartbeats 200000 in
theorem c_X7_gathered (x : Mm) (p : Int) (v : Int) (w : Int) (h_p : fm_r p) (h_v : fm_r v) (h_w : fm_r w) : CnI YC yX7_gathered cX7_gathered 3 .int 0 0 (fun G => [vi p, vi v, vi w]) x (fun z y' => (y' = x)) := by
  refine cn_I (by decide) (fun _ => Nat.le_of_ble_eq_true rfl) (fun G C h hq => ?_)
  have h : OK YC G C cX7_gathered RX7 3 (some .int) 0 0 := h
  show FW YC G C 3 x 0 [(0, vi p), (1, vi v), (2, vi w)] []
  refine fr_iload_n h rfl 0 rfl dX7_gathered_0 ?_
  by_cases c2 : p = 108
  ·
    refine fr_tab_in (off := 66) (tgt := 67) h dX7_gathered_1 (by omega) (by omega) (by omega) (by rw [c2]; rfl) (by decide) ?_
    refine fr_iload_n h rfl 1 rfl dX7_gathered_67 ?_
    refine fr_iload_n h rfl 2 rfl dX7_gathered_68 ?_
    refine fr_icmp_gt (tgt := 76) h dX7_gathered_69 (by decide) (by omega) (by omega) (fun c3 => ?_) (fun c3 => ?_)
    ·
      refine fr_iload_n h rfl 2 rfl dX7_gathered_76 ?_
      exact fr_iret h hq (by omega) rfl dX7_gathered_77
    ·
      refine fr_iload_n h rfl 1 rfl dX7_gathered_72 ?_
      refine fr_goto (tgt := 77) h dX7_gathered_73 (by decide) ?_
      exact fr_iret h hq (by omega) rfl dX7_gathered_77
  ·
    by_cases c4 : p = 109
    ·
      refine fr_tab_in (off := 55) (tgt := 56) h dX7_gathered_1 (by omega) (by omega) (by omega) (by rw [c4]; rfl) (by decide) ?_
      refine fr_iload_n h rfl 1 rfl dX7_gathered_56 ?_
      refine fr_iload_n h rfl 2 rfl dX7_gathered_57 ?_
      refine fr_icmp_lt (tgt := 65) h dX7_gathered_58 (by decide) (by omega) (by omega) (fun c5 => ?_) (fun c5 => ?_)
      ·
        refine fr_iload_n h rfl 2 rfl dX7_gathered_65 ?_
        exact fr_iret h hq (by omega) rfl dX7_gathered_66
      ·
        refine fr_iload_n h rfl 1 rfl dX7_gathered_61 ?_
        refine fr_goto (tgt := 66) h dX7_gathered_62 (by decide) ?_
        exact fr_iret h hq (by omega) rfl dX7_gathered_66
    ·
      by_cases c6 : p = 112
      ·
        refine fr_tab_in (off := 51) (tgt := 52) h dX7_gathered_1 (by omega) (by omega) (by omega) (by rw [c6]; rfl) (by decide) ?_
        refine fr_iload_n h rfl 1 rfl dX7_gathered_52 ?_
        refine fr_iload_n h rfl 2 rfl dX7_gathered_53 ?_
        refine fr_imul h dX7_gathered_54 ?_
        refine fr_normi (fun z7 w8 q9 => ?_)
        have w10 : fm_r ((v * w)) → z7 = (v * w) := fun q => (iI_inj q w8 q9).symm
        exact fr_iret h hq (by omega) rfl dX7_gathered_55
      ·
        by_cases c11 : p = 115
        ·
          refine fr_tab_in (off := 47) (tgt := 48) h dX7_gathered_1 (by omega) (by omega) (by omega) (by rw [c11]; rfl) (by decide) ?_
          refine fr_iload_n h rfl 1 rfl dX7_gathered_48 ?_
          refine fr_iload_n h rfl 2 rfl dX7_gathered_49 ?_
          refine fr_iadd h dX7_gathered_50 ?_
          refine fr_normi (fun z12 w13 q14 => ?_)
          have w15 : fm_r ((v + w)) → z12 = (v + w) := fun q => (iI_inj q w13 q14).symm
          exact fr_iret h hq (by omega) rfl dX7_gathered_51
        ·
          have J16 : FW YC G C 3 x 78 [(0, vi p), (1, vi v), (2, vi w)] [] := by
            refine fr_iload_n h rfl 1 rfl dX7_gathered_78 ?_
            exact fr_iret h hq (by omega) rfl dX7_gathered_79
          by_cases c17 : p < 108 ∨ 115 < p
          · exact fr_tab_out (tgt := 78) h dX7_gathered_1 (by omega) c17 (by decide) J16
          · have c18 : p = 110 ∨ p = 111 ∨ p = 113 ∨ p = 114 := by omega
            rcases c18 with c18 | c18 | c18 | c18 <;> exact fr_tab_in (tgt := 78) h dX7_gathered_1 (by omega) (by omega) (by omega) (by rw [c18]; rfl) (by decide) J16
set_option maxHeartbeats 200000 in
theorem c_X7_valueOf (x : Mm) (p : Int) (w : Int) (h_p : fm_r p) (h_w : fm_r w) (e0 : 0 ≤ w) (e1 : w ≤ 4) : CnI YC yX7_valueOf cX7_valueOf 5 .int 1 22 (fun G => [vi p, vr G 90, vi w]) x (fun z y' => (y' = x)) := by
  refine cn_I (by decide) (fun _ => Nat.le_of_ble_eq_true rfl) (fun G C h hq => ?_)
  have h : OK YC G C cX7_valueOf RX7 5 (some .int) 1 22 := h
  show FW YC G C 5 x 0 [(0, vi p), (1, vr G 90), (2, vi w)] []
  refine fr_iload_n h rfl 0 rfl dX7_valueOf_0 ?_
  refine fr_bipush h rfl dX7_valueOf_1 ?_
  refine fr_icmp_ne (tgt := 8) h dX7_valueOf_3 (by decide) (by omega) (by omega) (fun c1 => ?_) (fun c1 => ?_)
  ·
    refine fr_iload_n h rfl 2 rfl dX7_valueOf_8 ?_
    refine fr_if_ne (tgt := 24) h dX7_valueOf_9 (by decide) (by omega) (fun c2 => ?_) (fun c2 => ?_)
    ·
      refine fr_iload_n h rfl 0 rfl dX7_valueOf_24 ?_
      refine fr_bipush h rfl dX7_valueOf_25 ?_
      refine fr_icmp_ne (tgt := 36) h dX7_valueOf_27 (by decide) (by omega) (by omega) (fun c3 => ?_) (fun c3 => ?_)
      ·
        refine fr_aload_n h rfl 1 rfl dX7_valueOf_36 ?_
        refine fr_iconst h dX7_valueOf_37 ?_
        refine fr_iald h ar_90 (by omega) (by omega) (rr_90 0) dX7_valueOf_38 (fun z4 w5 w6 q7 => ?_)
        refine fr_istore_n (L' := [(0, vi p), (1, vr G 90), (2, vi w), (3, vi z4)]) h rfl dX7_valueOf_39 (by decide) [1, 2, 3, 0] rfl ?_
        refine fr_iconst h dX7_valueOf_40 ?_
        refine fr_istore (L' := [(0, vi p), (1, vr G 90), (2, vi w), (3, vi z4), (4, vi 1)]) h dX7_valueOf_41 (by decide) [1, 2, 3, 4, 0] rfl ?_
        have HL8 : ∀ (n8 : Nat) (l3_8 l4_8 : Int), fm_r l3_8 → fm_r l4_8 → 1 ≤ l4_8 → l4_8 ≤ 4 → 1 ≤ l4_8 → (4 - l4_8) < n8 → FW YC G C 5 x 43 [(0, vi p), (1, vr G 90), (2, vi w), (3, vi l3_8), (4, vi l4_8)] [] := by
          intro n8
          induction n8 with
          | zero =>
            intro l3_8 l4_8 g8_0 g8_1 g8_2 g8_3 g8_4 g8_5
            exfalso; omega
          | succ n8 ih8 =>
            intro l3_8 l4_8 g8_0 g8_1 g8_2 g8_3 g8_4 g8_5
            refine fr_iload h 4 rfl dX7_valueOf_43 ?_
            refine fr_iload_n h rfl 2 rfl dX7_valueOf_45 ?_
            refine fr_icmp_ge (tgt := 65) h dX7_valueOf_46 (by decide) (by omega) (by omega) (fun c9 => ?_) (fun c9 => ?_)
            ·
              refine fr_iload_n h rfl 3 rfl dX7_valueOf_65 ?_
              exact fr_iret h hq (by omega) rfl dX7_valueOf_66
            ·
              refine fr_iload_n h rfl 0 rfl dX7_valueOf_49 ?_
              refine fr_iload_n h rfl 3 rfl dX7_valueOf_50 ?_
              refine fr_aload_n h rfl 1 rfl dX7_valueOf_51 ?_
              refine fr_iload h 4 rfl dX7_valueOf_52 ?_
              refine fr_iald h ar_90 (by omega) (by omega) (rr_90 l4_8) dX7_valueOf_54 (fun z10 w11 w12 q13 => ?_)
              refine fr_csI h wX7_gathered lX7_109 (c_X7_gathered x p l3_8 z10 (by omega) (by omega) (by omega)) rfl (by decide) (by decide) rfl (Nat.le_of_ble_eq_true rfl) dX7_valueOf_55 (fun z15 x14 w16 p17 => ?_)
              have y18 := p17
              rw [y18]
              clear y18
              refine fr_istore_n (L' := [(0, vi p), (1, vr G 90), (2, vi w), (3, vi z15), (4, vi l4_8)]) h rfl dX7_valueOf_58 (by decide) [1, 2, 3, 0, 4] rfl ?_
              refine fr_iinc (j := 4) (L' := [(0, vi p), (1, vr G 90), (2, vi w), (3, vi z15), (4, vi (l4_8 + 1))]) h dX7_valueOf_59 rfl (by decide) [1, 2, 3, 4, 0] rfl ?_
              refine fr_goto (tgt := 43) h dX7_valueOf_62 (by decide) ?_
              exact ih8 z15 (l4_8 + 1) (by omega) (by omega) (by omega) (by omega) (by omega) (by omega)
        exact HL8 ((4 - 1) + 1 : Int).toNat z4 1 (by omega) (by omega) (by omega) (by omega) (by omega) (by omega)
      ·
        refine fr_aload_n h rfl 1 rfl dX7_valueOf_30 ?_
        refine fr_iload_n h rfl 2 rfl dX7_valueOf_31 ?_
        refine fr_iconst h dX7_valueOf_32 ?_
        refine fr_isub h dX7_valueOf_33 ?_
        refine fr_normi (fun z19 w20 q21 => ?_)
        have w22 : fm_r ((w - 1)) → z19 = (w - 1) := fun q => (iI_inj q w20 q21).symm
        refine fr_iald h ar_90 (by omega) (by omega) (rr_90 z19) dX7_valueOf_34 (fun z23 w24 w25 q26 => ?_)
        exact fr_iret h hq (by omega) rfl dX7_valueOf_35
    ·
      refine fr_iload_n h rfl 0 rfl dX7_valueOf_12 ?_
      refine fr_bipush h rfl dX7_valueOf_13 ?_
      refine fr_icmp_ne (tgt := 22) h dX7_valueOf_15 (by decide) (by omega) (by omega) (fun c27 => ?_) (fun c27 => ?_)
      ·
        refine fr_iconst h dX7_valueOf_22 ?_
        exact fr_iret h hq (by omega) rfl dX7_valueOf_23
      ·
        refine fr_iconst h dX7_valueOf_18 ?_
        refine fr_goto (tgt := 23) h dX7_valueOf_19 (by decide) ?_
        exact fr_iret h hq (by omega) rfl dX7_valueOf_23
  ·
    refine fr_iload_n h rfl 2 rfl dX7_valueOf_6 ?_
    exact fr_iret h hq (by omega) rfl dX7_valueOf_7
set_option maxHeartbeats 200000 in
theorem c_X7_costOf (x : Mm) (r : Int) (hr : isRu r) (w : Int) (h_w : fm_r w) (e0 : 0 ≤ w) : CnI YC yX7_costOf cX7_costOf 9 .int 2 46 (fun G => [vr G r, vr G 90, vi w]) x (fun z y' => (∀ a : Int, (a < r ∨ r + 4 < a) → y' a = x a)) := by
  refine cn_I (by decide) (fun _ => Nat.le_of_ble_eq_true rfl) (fun G C h hq => ?_)
  have h : OK YC G C cX7_costOf RX7 9 (some .int) 2 46 := h
  show FW YC G C 9 x 0 [(0, vr G r), (1, vr G 90), (2, vi w)] []
  have h_r := Ru_b hr
  refine fr_rng (fun hR => ?_)
  have hs : 0 ≤ x r 4 ∧ x r 4 ≤ 40 := by have q := hR r 4; rw [Ru_f4 hr] at q; exact q
  refine fr_iload_n h rfl 2 rfl dX7_costOf_0 ?_
  refine fr_aload_n h rfl 1 rfl dX7_costOf_1 ?_
  refine fr_aleni h ar_90 (by decide) dX7_costOf_2 ?_
  show FW YC G C 9 x 3 [(0, vr G r), (1, vr G 90), (2, vi w)] [vi 4, vi w]
  refine fr_mmin h (by omega) (by omega) (tb_2 (i := 156) (by decide +kernel) (by decide +kernel)) w_mmin (by decide) (by decide) (Nat.le_of_ble_eq_true rfl) dX7_costOf_3 (fun z1 w2 w3 w4 => ?_)
  refine fr_istore_n (L' := [(0, vr G r), (1, vr G 90), (2, vi w), (3, vi z1)]) h rfl dX7_costOf_6 (by decide) [1, 2, 3, 0] rfl ?_
  refine fr_aload_n h rfl 0 rfl dX7_costOf_7 ?_
  refine fr_iconst h dX7_costOf_8 ?_
  refine fr_puti (iz := 7) h kX7 fX7_92 (Ru_at hr) rfl rfl (by decide) (by decide) rfl (by decide +kernel) (Ru_f7 hr) (by omega) (by omega) dX7_costOf_9 ?_
  refine fr_mem (fun x5 m6 => ?_)
  refine fr_iconst h dX7_costOf_12 ?_
  refine fr_istore (L' := [(0, vr G r), (1, vr G 90), (2, vi w), (3, vi z1), (4, vi 0)]) h dX7_costOf_13 (by decide) [1, 2, 3, 4, 0] rfl ?_
  have HL7 : ∀ (n7 : Nat) (l4_7 : Int) (x_7 : Mm), fm_r l4_7 → 0 ≤ l4_7 → l4_7 ≤ 40 → x_7 r 4 = x r 4 → (∀ a : Int, (a < r ∨ r + 4 < a) → x_7 a = x5 a) → (40 - l4_7) < n7 → FW YC G C 9 x_7 15 [(0, vr G r), (1, vr G 90), (2, vi w), (3, vi z1), (4, vi l4_7)] [] := by
    intro n7
    induction n7 with
    | zero =>
      intro l4_7 x_7 g7_0 g7_1 g7_2 g7_3 g7_4 g7_5
      exfalso; omega
    | succ n7 ih7 =>
      intro l4_7 x_7 g7_0 g7_1 g7_2 g7_3 g7_4 g7_5
      refine fr_iload h 4 rfl dX7_costOf_15 ?_
      refine fr_aload_n h rfl 0 rfl dX7_costOf_17 ?_
      refine fr_geti (iz := 4) h kX7 fX7_25 (Ru_at hr) rfl rfl (by decide) (by decide) (Ru_f4 hr) dX7_costOf_18 (fun z8 w9 w10 q11 => ?_)
      have r12 := (fm_rd_i (a := r) (b := 4) m6 (by decide))
      refine fr_icmp_ge (tgt := 131) h dX7_costOf_21 (by decide) (by omega) (by omega) (fun c13 => ?_) (fun c13 => ?_)
      ·
        refine fr_aload_n h rfl 0 rfl dX7_costOf_131 ?_
        refine fr_cvI h kX7 (Ru_at hr) wX7_pop lX7_102 (c_X7_pop x_7 r hr) rfl (by decide) (by decide) rfl (Nat.le_of_ble_eq_true rfl) dX7_costOf_132 (fun z15 x14 w16 p17 => ?_)
        obtain ⟨p18, f19⟩ := p17
        exact fr_iret h hq (by omega) (fun a k0 => ((f19 a (by omega)).trans ((g7_4 a (by omega)).trans (fm_up_row m6 (by omega))))) dX7_costOf_135
      ·
        refine fr_aload_n h rfl 0 rfl dX7_costOf_24 ?_
        refine fr_getc (z := (r + 1)) (iz := 0) h kX7 fX7_9 (Ru_at hr) rfl rfl (Ru_f0 hr) (by omega) dX7_costOf_25 ?_
        refine fr_iload h 4 rfl dX7_costOf_28 ?_
        refine fr_iald h (Ru_a1 hr) (by omega) (by omega) (Ru_r1 hr l4_7) dX7_costOf_30 (fun z20 w21 w22 q23 => ?_)
        have r24 := (fm_rd_k (a := (r + 1)) (b := l4_7) m6 (by omega))
        refine fr_istore (L' := [(0, vr G r), (1, vr G 90), (2, vi w), (3, vi z1), (4, vi l4_7), (5, vi z20)]) h dX7_costOf_31 (by decide) [1, 2, 3, 4, 5, 0] rfl ?_
        refine fr_iload h 5 rfl dX7_costOf_33 ?_
        refine fr_sipush h rfl dX7_costOf_35 ?_
        refine fr_isub h dX7_costOf_38 ?_
        refine fr_normi (fun z25 w26 q27 => ?_)
        have w28 : fm_r ((z20 - 1000)) → z25 = (z20 - 1000) := fun q => (iI_inj q w26 q27).symm
        refine fr_istore (L' := [(0, vr G r), (1, vr G 90), (2, vi w), (3, vi z1), (4, vi l4_7), (5, vi z20), (6, vi z25)]) h dX7_costOf_39 (by decide) [1, 2, 3, 4, 5, 6, 0] rfl ?_
        refine fr_iload h 5 rfl dX7_costOf_41 ?_
        refine fr_sipush h rfl dX7_costOf_43 ?_
        refine fr_icmp_ge (tgt := 58) h dX7_costOf_46 (by decide) (by omega) (by omega) (fun c29 => ?_) (fun c29 => ?_)
        ·
          refine fr_iload h 6 rfl dX7_costOf_58 ?_
          refine fr_csI h wX7_isLetter lX7_79 (c_X7_isLetter x_7 z25 (by omega)) rfl (by decide) (by decide) rfl (Nat.le_of_ble_eq_true rfl) dX7_costOf_60 (fun z31 x30 w32 p33 => ?_)
          obtain ⟨p34, y35⟩ := p33
          rw [y35]
          clear y35
          refine fr_if_eq (tgt := 80) h dX7_costOf_63 (by decide) (by omega) (fun c36 => ?_) (fun c36 => ?_)
          ·
            refine fr_iload h 6 rfl dX7_costOf_80 ?_
            refine fr_sipush h rfl dX7_costOf_82 ?_
            refine fr_icmp_ne (tgt := 100) h dX7_costOf_85 (by decide) (by omega) (by omega) (fun c37 => ?_) (fun c37 => ?_)
            ·
              refine fr_aload_n h rfl 0 rfl dX7_costOf_100 ?_
              refine fr_cvI h kX7 (Ru_at hr) wX7_pop lX7_102 (c_X7_pop x_7 r hr) rfl (by decide) (by decide) rfl (Nat.le_of_ble_eq_true rfl) dX7_costOf_101 (fun z39 x38 w40 p41 => ?_)
              obtain ⟨p42, f43⟩ := p41
              refine fr_istore (L' := [(0, vr G r), (1, vr G 90), (2, vi w), (3, vi z1), (4, vi l4_7), (5, vi z20), (6, vi z25), (7, vi z39)]) h dX7_costOf_104 (by decide) [1, 2, 3, 4, 5, 6, 7, 0] rfl ?_
              refine fr_aload_n h rfl 0 rfl dX7_costOf_106 ?_
              refine fr_cvI h kX7 (Ru_at hr) wX7_pop lX7_102 (c_X7_pop x38 r hr) rfl (by decide) (by decide) rfl (Nat.le_of_ble_eq_true rfl) dX7_costOf_107 (fun z45 x44 w46 p47 => ?_)
              obtain ⟨p48, f49⟩ := p47
              refine fr_istore (L' := [(0, vr G r), (1, vr G 90), (2, vi w), (3, vi z1), (4, vi l4_7), (5, vi z20), (6, vi z25), (7, vi z39), (8, vi z45)]) h dX7_costOf_110 (by decide) [1, 2, 3, 4, 5, 6, 7, 8, 0] rfl ?_
              refine fr_aload_n h rfl 0 rfl dX7_costOf_112 ?_
              refine fr_iload h 6 rfl dX7_costOf_113 ?_
              refine fr_iload h 8 rfl dX7_costOf_115 ?_
              refine fr_iload h 7 rfl dX7_costOf_117 ?_
              refine fr_csI h wX7_joined lX7_105 (c_X7_joined x44 z25 z45 z39 (by omega) (by omega) (by omega)) rfl (by decide) (by decide) rfl (Nat.le_of_ble_eq_true rfl) dX7_costOf_119 (fun z51 x50 w52 p53 => ?_)
              have y54 := p53
              rw [y54]
              clear y54
              refine fr_cvV h kX7 (Ru_at hr) wX7_push lX7_95 (c_X7_push x44 r hr z51 (by omega)) rfl (by decide) (by decide) rfl (Nat.le_of_ble_eq_true rfl) dX7_costOf_122 (fun x55 p58 => ?_)
              obtain ⟨p59, f60⟩ := p58
              refine fr_iinc (j := 4) (L' := [(0, vr G r), (1, vr G 90), (2, vi w), (3, vi z1), (4, vi (l4_7 + 1)), (5, vi z20), (6, vi z25), (7, vi z39), (8, vi z45)]) h dX7_costOf_125 rfl (by decide) [1, 2, 3, 4, 0, 5, 6, 7, 8] rfl ?_
              refine fr_goto (tgt := 15) h dX7_costOf_128 (by decide) ?_
              refine fr_sub (L' := [(0, vr G r), (1, vr G 90), (2, vi w), (3, vi z1), (4, vi (l4_7 + 1))]) [0, 1, 2, 3, 4] rfl ?_
              have r61 := (fm_rd_i (a := r) (b := 4) m6 (by decide))
              exact ih7 (l4_7 + 1) x55 (by omega) (by omega) (by omega) (by omega) (fun a k0 => ((f60 a (by omega)).trans ((f49 a (by omega)).trans ((f43 a (by omega)).trans (g7_4 a (by omega)))))) (by omega)
            ·
              refine fr_aload_n h rfl 0 rfl dX7_costOf_88 ?_
              refine fr_aload_n h rfl 0 rfl dX7_costOf_89 ?_
              refine fr_cvI h kX7 (Ru_at hr) wX7_pop lX7_102 (c_X7_pop x_7 r hr) rfl (by decide) (by decide) rfl (Nat.le_of_ble_eq_true rfl) dX7_costOf_90 (fun z63 x62 w64 p65 => ?_)
              obtain ⟨p66, f67⟩ := p65
              refine fr_ineg h dX7_costOf_93 ?_
              refine fr_normi (fun z68 w69 q70 => ?_)
              have w71 : fm_r ((-z63)) → z68 = (-z63) := fun q => (iI_inj q w69 q70).symm
              refine fr_cvV h kX7 (Ru_at hr) wX7_push lX7_95 (c_X7_push x62 r hr z68 (by omega)) rfl (by decide) (by decide) rfl (Nat.le_of_ble_eq_true rfl) dX7_costOf_94 (fun x72 p75 => ?_)
              obtain ⟨p76, f77⟩ := p75
              refine fr_goto (tgt := 125) h dX7_costOf_97 (by decide) ?_
              refine fr_iinc (j := 4) (L' := [(0, vr G r), (1, vr G 90), (2, vi w), (3, vi z1), (4, vi (l4_7 + 1)), (5, vi z20), (6, vi z25)]) h dX7_costOf_125 rfl (by decide) [1, 2, 3, 4, 0, 5, 6] rfl ?_
              refine fr_goto (tgt := 15) h dX7_costOf_128 (by decide) ?_
              refine fr_sub (L' := [(0, vr G r), (1, vr G 90), (2, vi w), (3, vi z1), (4, vi (l4_7 + 1))]) [0, 1, 2, 3, 4] rfl ?_
              have r78 := (fm_rd_i (a := r) (b := 4) m6 (by decide))
              exact ih7 (l4_7 + 1) x72 (by omega) (by omega) (by omega) (by omega) (fun a k0 => ((f77 a (by omega)).trans ((f67 a (by omega)).trans (g7_4 a (by omega))))) (by omega)
          ·
            refine fr_aload_n h rfl 0 rfl dX7_costOf_66 ?_
            refine fr_iload h 6 rfl dX7_costOf_67 ?_
            refine fr_aload_n h rfl 1 rfl dX7_costOf_69 ?_
            refine fr_iload_n h rfl 3 rfl dX7_costOf_70 ?_
            refine fr_csI h wX7_valueOf lX7_98 (c_X7_valueOf x_7 z25 z1 (by omega) (by omega) (by omega) (by omega)) rfl (by decide) (by decide) rfl (Nat.le_of_ble_eq_true rfl) dX7_costOf_71 (fun z80 x79 w81 p82 => ?_)
            have y83 := p82
            rw [y83]
            clear y83
            refine fr_cvV h kX7 (Ru_at hr) wX7_push lX7_95 (c_X7_push x_7 r hr z80 (by omega)) rfl (by decide) (by decide) rfl (Nat.le_of_ble_eq_true rfl) dX7_costOf_74 (fun x84 p87 => ?_)
            obtain ⟨p88, f89⟩ := p87
            refine fr_goto (tgt := 125) h dX7_costOf_77 (by decide) ?_
            refine fr_iinc (j := 4) (L' := [(0, vr G r), (1, vr G 90), (2, vi w), (3, vi z1), (4, vi (l4_7 + 1)), (5, vi z20), (6, vi z25)]) h dX7_costOf_125 rfl (by decide) [1, 2, 3, 4, 0, 5, 6] rfl ?_
            refine fr_goto (tgt := 15) h dX7_costOf_128 (by decide) ?_
            refine fr_sub (L' := [(0, vr G r), (1, vr G 90), (2, vi w), (3, vi z1), (4, vi (l4_7 + 1))]) [0, 1, 2, 3, 4] rfl ?_
            have r90 := (fm_rd_i (a := r) (b := 4) m6 (by decide))
            exact ih7 (l4_7 + 1) x84 (by omega) (by omega) (by omega) (by omega) (fun a k0 => ((f89 a (by omega)).trans (g7_4 a (by omega)))) (by omega)
        ·
          refine fr_aload_n h rfl 0 rfl dX7_costOf_49 ?_
          refine fr_iload h 5 rfl dX7_costOf_50 ?_
          refine fr_cvV h kX7 (Ru_at hr) wX7_push lX7_95 (c_X7_push x_7 r hr z20 (by omega)) rfl (by decide) (by decide) rfl (Nat.le_of_ble_eq_true rfl) dX7_costOf_52 (fun x91 p94 => ?_)
          obtain ⟨p95, f96⟩ := p94
          refine fr_goto (tgt := 125) h dX7_costOf_55 (by decide) ?_
          refine fr_iinc (j := 4) (L' := [(0, vr G r), (1, vr G 90), (2, vi w), (3, vi z1), (4, vi (l4_7 + 1)), (5, vi z20), (6, vi z25)]) h dX7_costOf_125 rfl (by decide) [1, 2, 3, 4, 0, 5, 6] rfl ?_
          refine fr_goto (tgt := 15) h dX7_costOf_128 (by decide) ?_
          refine fr_sub (L' := [(0, vr G r), (1, vr G 90), (2, vi w), (3, vi z1), (4, vi (l4_7 + 1))]) [0, 1, 2, 3, 4] rfl ?_
          have r97 := (fm_rd_i (a := r) (b := 4) m6 (by decide))
          exact ih7 (l4_7 + 1) x91 (by omega) (by omega) (by omega) (by omega) (fun a k0 => ((f96 a (by omega)).trans (g7_4 a (by omega)))) (by omega)
  have r98 := (fm_rd_i (a := r) (b := 4) m6 (by decide))
  exact HL7 ((40 - 0) + 1 : Int).toNat 0 x5 (by omega) (by omega) (by omega) (by omega) (fun a _ => rfl) (by omega)
set_option maxHeartbeats 200000 in
theorem c_X7_addStep (x : Mm) (r : Int) (hr : isRu r) (p : Int) (h_p : fm_r p) : CnV YC yX7_addStep cX7_addStep 2 0 0 (fun G => [vr G r, vi p]) x (fun y' => (y' r 5 = x r 5) ∧ (y' r 6 = x r 6) ∧ (∀ a : Int, (a < r ∨ r + 1 < a) → y' a = x a)) := by
  refine cn_V (by decide) (fun _ => Nat.le_of_ble_eq_true rfl) (fun G C h hq => ?_)
  have h : OK YC G C cX7_addStep RX7 2 none 0 0 := h
  show FW YC G C 2 x 0 [(0, vr G r), (1, vi p)] []
  have h_r := Ru_b hr
  refine fr_aload_n h rfl 0 rfl dX7_addStep_0 ?_
  refine fr_geti (iz := 4) h kX7 fX7_25 (Ru_at hr) rfl rfl (by decide) (by decide) (Ru_f4 hr) dX7_addStep_1 (fun z1 w2 w3 q4 => ?_)
  subst q4
  refine fr_bipush h rfl dX7_addStep_4 ?_
  refine fr_icmp_ge (tgt := 29) h dX7_addStep_6 (by decide) (by omega) (by omega) (fun c5 => ?_) (fun c5 => ?_)
  ·
    exact fr_vret h hq ⟨(by omega), (by omega), (fun a _ => rfl)⟩ dX7_addStep_29
  ·
    refine fr_aload_n h rfl 0 rfl dX7_addStep_9 ?_
    refine fr_getc (z := (r + 1)) (iz := 0) h kX7 fX7_9 (Ru_at hr) rfl rfl (Ru_f0 hr) (by omega) dX7_addStep_10 ?_
    refine fr_aload_n h rfl 0 rfl dX7_addStep_13 ?_
    refine fr_geti (iz := 4) h kX7 fX7_25 (Ru_at hr) rfl rfl (by decide) (by decide) (Ru_f4 hr) dX7_addStep_14 (fun z6 w7 w8 q9 => ?_)
    subst q9
    refine fr_iload_n h rfl 1 rfl dX7_addStep_17 ?_
    refine fr_iast h (Ru_a1 hr) (by omega) (by omega) (Ru_r1 hr (x r 4)) (by omega) (by omega) dX7_addStep_18 ?_
    refine fr_mem (fun x10 m11 => ?_)
    refine fr_aload_n h rfl 0 rfl dX7_addStep_19 ?_
    refine fr_dup h rfl dX7_addStep_20 ?_
    refine fr_geti (iz := 4) h kX7 fX7_25 (Ru_at hr) rfl rfl (by decide) (by decide) (Ru_f4 hr) dX7_addStep_21 (fun z12 w13 w14 q15 => ?_)
    have r16 := q15.trans (fm_rd_k (a := r) (b := 4) m11 (by omega))
    subst q15
    refine fr_iconst h dX7_addStep_24 ?_
    refine fr_iadd h dX7_addStep_25 ?_
    refine fr_puti (iz := 4) h kX7 fX7_25 (Ru_at hr) rfl rfl (by decide) (by decide) rfl (by decide +kernel) (Ru_f4 hr) (by omega) (by omega) dX7_addStep_26 ?_
    refine fr_mem (fun x17 m18 => ?_)
    have r19 := (fm_rd_i (a := r) (b := 5) m18 (by decide))
    have r20 := r19.trans (fm_rd_k (a := r) (b := 5) m11 (by omega))
    have r21 := (fm_rd_i (a := r) (b := 6) m18 (by decide))
    have r22 := r21.trans (fm_rd_k (a := r) (b := 6) m11 (by omega))
    exact fr_vret h hq ⟨(by omega), (by omega), (fun a k0 => ((fm_up_row m18 (by omega)).trans (fm_up_row m11 (by omega))))⟩ dX7_addStep_29
set_option maxHeartbeats 200000 in
theorem c_X7_hold (x : Mm) (r : Int) (hr : isRu r) (p : Int) (h_p : fm_r p) (e0 : 0 ≤ p) (e1 : p ≤ 256) : CnV YC yX7_hold cX7_hold 2 0 0 (fun G => [vr G r, vi p]) x (fun y' => (y' r 6 = x r 6) ∧ (x r 5 < 40 → y' r 5 = x r 5 + 1 ∧ y' (r + 2) (x r 5) = p) ∧ (∀ j : Int, j ≠ x r 5 → y' (r + 2) j = x (r + 2) j) ∧ (∀ a : Int, (a < r ∨ r < a) → (a < r + 2 ∨ r + 2 < a) → y' a = x a)) := by
  refine cn_V (by decide) (fun _ => Nat.le_of_ble_eq_true rfl) (fun G C h hq => ?_)
  have h : OK YC G C cX7_hold RX7 2 none 0 0 := h
  show FW YC G C 2 x 0 [(0, vr G r), (1, vi p)] []
  have h_r := Ru_b hr
  refine fr_aload_n h rfl 0 rfl dX7_hold_0 ?_
  refine fr_geti (iz := 5) h kX7 fX7_29 (Ru_at hr) rfl rfl (by decide) (by decide) (Ru_f5 hr) dX7_hold_1 (fun z1 w2 w3 q4 => ?_)
  subst q4
  refine fr_bipush h rfl dX7_hold_4 ?_
  refine fr_icmp_ge (tgt := 29) h dX7_hold_6 (by decide) (by omega) (by omega) (fun c5 => ?_) (fun c5 => ?_)
  ·
    exact fr_vret h hq ⟨(by omega), (by omega), (fun j hj => rfl), (fun a _ _ => rfl)⟩ dX7_hold_29
  ·
    refine fr_aload_n h rfl 0 rfl dX7_hold_9 ?_
    refine fr_getc (z := (r + 2)) (iz := 1) h kX7 fX7_15 (Ru_at hr) rfl rfl (Ru_f1 hr) (by omega) dX7_hold_10 ?_
    refine fr_aload_n h rfl 0 rfl dX7_hold_13 ?_
    refine fr_geti (iz := 5) h kX7 fX7_29 (Ru_at hr) rfl rfl (by decide) (by decide) (Ru_f5 hr) dX7_hold_14 (fun z6 w7 w8 q9 => ?_)
    subst q9
    refine fr_iload_n h rfl 1 rfl dX7_hold_17 ?_
    refine fr_iast h (Ru_a2 hr) (by omega) (by omega) (Ru_r2 hr (x r 5)) (by omega) (by omega) dX7_hold_18 ?_
    refine fr_mem (fun x10 m11 => ?_)
    refine fr_aload_n h rfl 0 rfl dX7_hold_19 ?_
    refine fr_dup h rfl dX7_hold_20 ?_
    refine fr_geti (iz := 5) h kX7 fX7_29 (Ru_at hr) rfl rfl (by decide) (by decide) (Ru_f5 hr) dX7_hold_21 (fun z12 w13 w14 q15 => ?_)
    have r16 := q15.trans (fm_rd_k (a := r) (b := 5) m11 (by omega))
    subst q15
    refine fr_iconst h dX7_hold_24 ?_
    refine fr_iadd h dX7_hold_25 ?_
    refine fr_puti (iz := 5) h kX7 fX7_29 (Ru_at hr) rfl rfl (by decide) (by decide) rfl (by decide +kernel) (Ru_f5 hr) (by omega) (by omega) dX7_hold_26 ?_
    refine fr_mem (fun x17 m18 => ?_)
    have r19 := (fm_rd_i (a := r) (b := 6) m18 (by decide))
    have r20 := r19.trans (fm_rd_k (a := r) (b := 6) m11 (by omega))
    have r21 := (fm_rd_s m18)
    have r22 := (fm_rd_k (a := (r + 2)) (b := (x r 5)) m18 (by omega))
    have r23 := r22.trans (fm_rd_s m11)
    exact fr_vret h hq ⟨(by omega), (by omega), (fun j hj => ((fm_rd_k (a := (r + 2)) (b := j) m18 (by omega)).trans ((fm_rd_i (a := (r + 2)) (b := j) m11 (by omega))))), (fun a k0 k1 => ((fm_up_row m18 (by omega)).trans (fm_up_row m11 (by omega))))⟩ dX7_hold_29
set_option maxHeartbeats 200000 in
theorem c_X7_release (x : Mm) (r : Int) (hr : isRu r) (p : Int) (h_p : fm_r p) (e0 : RuP x r) : CnV YC yX7_release cX7_release 2 1 21 (fun G => [vr G r, vi p]) x (fun y' => (RuP y' r) ∧ (y' r 6 = x r 6) ∧ (y' r 5 ≤ x r 5) ∧ (p ≤ 1 → y' r 5 = 0 ∨ y' (r + 2) (y' r 5 - 1) = 40) ∧ (∀ a : Int, (a < r ∨ r + 1 < a) → y' a = x a)) := by
  refine cn_V (by decide) (fun _ => Nat.le_of_ble_eq_true rfl) (fun G C h hq => ?_)
  have h : OK YC G C cX7_release RX7 2 none 1 21 := h
  show FW YC G C 2 x 0 [(0, vr G r), (1, vi p)] []
  have h_r := Ru_b hr
  have HL1 : ∀ (n1 : Nat) (x_1 : Mm), RuP x_1 r → x_1 r 6 = x r 6 → x_1 r 5 ≤ x r 5 → 0 ≤ x_1 r 5 → (∀ a : Int, (a < r ∨ r + 1 < a) → x_1 a = x a) → x_1 r 5 < n1 → FW YC G C 2 x_1 0 [(0, vr G r), (1, vi p)] [] := by
    intro n1
    induction n1 with
    | zero =>
      intro x_1 g1_0 g1_1 g1_2 g1_3 g1_4 g1_5
      exfalso; omega
    | succ n1 ih1 =>
      intro x_1 g1_0 g1_1 g1_2 g1_3 g1_4 g1_5
      refine fr_aload_n h rfl 0 rfl dX7_release_0 ?_
      refine fr_geti (iz := 5) h kX7 fX7_29 (Ru_at hr) rfl rfl (by decide) (by decide) (Ru_f5 hr) dX7_release_1 (fun z2 w3 w4 q5 => ?_)
      subst q5
      refine fr_if_le (tgt := 71) h dX7_release_4 (by decide) (by omega) (fun c6 => ?_) (fun c6 => ?_)
      ·
        have r7 := (congrFun (g1_4 (r + 2) (by omega)) (x_1 r 5 - 1))
        exact fr_vret h hq ⟨g1_0, (by omega), (by omega), (by omega), (fun a k0 => (g1_4 a (by omega)))⟩ dX7_release_71
      ·
        refine fr_aload_n h rfl 0 rfl dX7_release_7 ?_
        refine fr_getc (z := (r + 2)) (iz := 1) h kX7 fX7_15 (Ru_at hr) rfl rfl (Ru_f1 hr) (by omega) dX7_release_8 ?_
        refine fr_aload_n h rfl 0 rfl dX7_release_11 ?_
        refine fr_geti (iz := 5) h kX7 fX7_29 (Ru_at hr) rfl rfl (by decide) (by decide) (Ru_f5 hr) dX7_release_12 (fun z8 w9 w10 q11 => ?_)
        subst q11
        refine fr_iconst h dX7_release_15 ?_
        refine fr_isub h dX7_release_16 ?_
        refine fr_iald h (Ru_a2 hr) (by omega) (by omega) (Ru_r2 hr ((x_1 r 5) - 1)) dX7_release_17 (fun z12 w13 w14 q15 => ?_)
        have r16 := q15.trans (congrFun (g1_4 (r + 2) (by omega)) ((x_1 r 5) - 1))
        refine fr_bipush h rfl dX7_release_18 ?_
        refine fr_icmp_eq (tgt := 71) h dX7_release_20 (by decide) (by omega) (by omega) (fun c17 => ?_) (fun c17 => ?_)
        ·
          have r18 := (congrFun (g1_4 (r + 2) (by omega)) (x_1 r 5 - 1))
          exact fr_vret h hq ⟨g1_0, (by omega), (by omega), (by omega), (fun a k0 => (g1_4 a (by omega)))⟩ dX7_release_71
        ·
          have ht := RuP_top g1_0 (t := x_1 r 5 - 1) (by omega) rfl
          refine fr_aload_n h rfl 0 rfl dX7_release_23 ?_
          refine fr_getc (z := (r + 2)) (iz := 1) h kX7 fX7_15 (Ru_at hr) rfl rfl (Ru_f1 hr) (by omega) dX7_release_24 ?_
          refine fr_aload_n h rfl 0 rfl dX7_release_27 ?_
          refine fr_geti (iz := 5) h kX7 fX7_29 (Ru_at hr) rfl rfl (by decide) (by decide) (Ru_f5 hr) dX7_release_28 (fun z19 w20 w21 q22 => ?_)
          subst q22
          refine fr_iconst h dX7_release_31 ?_
          refine fr_isub h dX7_release_32 ?_
          refine fr_iald h (Ru_a2 hr) (by omega) (by omega) (Ru_r2 hr ((x_1 r 5) - 1)) dX7_release_33 (fun z23 w24 w25 q26 => ?_)
          have r27 := q26.trans (congrFun (g1_4 (r + 2) (by omega)) ((x_1 r 5) - 1))
          refine fr_csI h wX7_bindingOf lX7_89 (c_X7_bindingOf x_1 z23 (by omega)) rfl (by decide) (by decide) rfl (Nat.le_of_ble_eq_true rfl) dX7_release_34 (fun z29 x28 w30 p31 => ?_)
          obtain ⟨p32, p33, p34, p35, y36⟩ := p31
          rw [y36]
          clear y36
          refine fr_iload_n h rfl 1 rfl dX7_release_37 ?_
          refine fr_icmp_lt (tgt := 71) h dX7_release_38 (by decide) (by omega) (by omega) (fun c37 => ?_) (fun c37 => ?_)
          ·
            have r38 := (congrFun (g1_4 (r + 2) (by omega)) (x_1 r 5 - 1))
            exact fr_vret h hq ⟨g1_0, (by omega), (by omega), (by omega), (fun a k0 => (g1_4 a (by omega)))⟩ dX7_release_71
          ·
            refine fr_aload_n h rfl 0 rfl dX7_release_41 ?_
            refine fr_dup h rfl dX7_release_42 ?_
            refine fr_geti (iz := 5) h kX7 fX7_29 (Ru_at hr) rfl rfl (by decide) (by decide) (Ru_f5 hr) dX7_release_43 (fun z39 w40 w41 q42 => ?_)
            subst q42
            refine fr_iconst h dX7_release_46 ?_
            refine fr_isub h dX7_release_47 ?_
            refine fr_puti (iz := 5) h kX7 fX7_29 (Ru_at hr) rfl rfl (by decide) (by decide) rfl (by decide +kernel) (Ru_f5 hr) (by omega) (by omega) dX7_release_48 ?_
            refine fr_mem (fun x43 m44 => ?_)
            refine fr_aload_n h rfl 0 rfl dX7_release_51 ?_
            refine fr_sipush h rfl dX7_release_52 ?_
            refine fr_aload_n h rfl 0 rfl dX7_release_55 ?_
            refine fr_getc (z := (r + 2)) (iz := 1) h kX7 fX7_15 (Ru_at hr) rfl rfl (Ru_f1 hr) (by omega) dX7_release_56 ?_
            refine fr_aload_n h rfl 0 rfl dX7_release_59 ?_
            refine fr_geti (iz := 5) h kX7 fX7_29 (Ru_at hr) rfl rfl (by decide) (by decide) (Ru_f5 hr) dX7_release_60 (fun z45 w46 w47 q48 => ?_)
            have r49 := q48.trans (fm_rd_s m44)
            subst q48
            refine fr_iald h (Ru_a2 hr) (by omega) (by omega) (Ru_r2 hr (x43 r 5)) dX7_release_63 (fun z50 w51 w52 q53 => ?_)
            have r54 := q53.trans (fm_rd_k (a := (r + 2)) (b := (x43 r 5)) m44 (by omega))
            have r55 := r54.trans (congrFun (g1_4 (r + 2) (by omega)) (x43 r 5))
            refine fr_iadd h dX7_release_64 ?_
            refine fr_cvV h kX7 (Ru_at hr) wX7_addStep lX7_40 (c_X7_addStep x43 r hr (1000 + z50) (by omega)) rfl (by decide) (by decide) rfl (Nat.le_of_ble_eq_true rfl) dX7_release_65 (fun x56 p59 => ?_)
            obtain ⟨p60, p61, f62⟩ := p59
            refine fr_goto (tgt := 0) h dX7_release_68 (by decide) ?_
            have r63 := (fm_rd_i (a := r) (b := 6) m44 (by decide))
            have r64 := (fm_rd_s m44)
            have r65 := (fm_rd_s m44)
            have r66 := (fm_rd_s m44)
            have r67 := (fm_rd_i (a := r) (b := 6) m44 (by decide))
            exact ih1 x56 (RuP_pop g1_0 (by omega) (by omega) ((f62 (r + 2) (by omega)).trans (fm_up_row m44 (by omega))) (by rw [if_neg (by omega)]; omega)) (by omega) (by omega) (by omega) (fun a k0 => ((f62 a (by omega)).trans ((fm_up_row m44 (by omega)).trans (g1_4 a (by omega))))) (by omega)
  exact HL1 (x r 5 + 1 : Int).toNat x e0 (by omega) (by omega) e0.1 (fun a _ => rfl) (by omega)
set_option maxHeartbeats 200000 in
theorem c_X7_closeBracket (x : Mm) (r : Int) (hr : isRu r) (e0 : RuP x r) : CnI YC yX7_closeBracket cX7_closeBracket 1 .boolean 2 42 (fun G => [vr G r]) x (fun z y' => (z = 0 ∨ z = 1) ∧ (RuP y' r) ∧ (y' r 5 ≤ x r 5) ∧ (∀ a : Int, (a < r ∨ r + 4 < a) → y' a = x a)) := by
  refine cn_I (by decide) (fun _ => Nat.le_of_ble_eq_true rfl) (fun G C h hq => ?_)
  have h : OK YC G C cX7_closeBracket RX7 1 (some .boolean) 2 42 := h
  show FW YC G C 1 x 0 [(0, vr G r)] []
  have h_r := Ru_b hr
  refine fr_aload_n h rfl 0 rfl dX7_closeBracket_0 ?_
  refine fr_geti (iz := 6) h kX7 fX7_32 (Ru_at hr) rfl rfl (by decide) (by decide) (Ru_f6 hr) dX7_closeBracket_1 (fun z1 w2 w3 q4 => ?_)
  subst q4
  refine fr_if_ne (tgt := 9) h dX7_closeBracket_4 (by decide) (by omega) (fun c5 => ?_) (fun c5 => ?_)
  ·
    refine fr_aload_n h rfl 0 rfl dX7_closeBracket_9 ?_
    refine fr_iconst h dX7_closeBracket_10 ?_
    refine fr_cvV h kX7 (Ru_at hr) wX7_release lX7_62 (c_X7_release x r hr 1 (by omega) e0) rfl (by decide) (by decide) rfl (Nat.le_of_ble_eq_true rfl) dX7_closeBracket_11 (fun x6 p9 => ?_)
    obtain ⟨p10, p11, p12, p13, f14⟩ := p9
    have hps := RuP_pos p10 (by omega)
    refine fr_aload_n h rfl 0 rfl dX7_closeBracket_14 ?_
    refine fr_dup h rfl dX7_closeBracket_15 ?_
    refine fr_geti (iz := 5) h kX7 fX7_29 (Ru_at hr) rfl rfl (by decide) (by decide) (Ru_f5 hr) dX7_closeBracket_16 (fun z15 w16 w17 q18 => ?_)
    subst q18
    refine fr_iconst h dX7_closeBracket_19 ?_
    refine fr_isub h dX7_closeBracket_20 ?_
    refine fr_puti (iz := 5) h kX7 fX7_29 (Ru_at hr) rfl rfl (by decide) (by decide) rfl (by decide +kernel) (Ru_f5 hr) (by omega) (by omega) dX7_closeBracket_21 ?_
    refine fr_mem (fun x19 m20 => ?_)
    refine fr_aload_n h rfl 0 rfl dX7_closeBracket_24 ?_
    refine fr_dup h rfl dX7_closeBracket_25 ?_
    refine fr_geti (iz := 6) h kX7 fX7_32 (Ru_at hr) rfl rfl (by decide) (by decide) (Ru_f6 hr) dX7_closeBracket_26 (fun z21 w22 w23 q24 => ?_)
    have r25 := q24.trans (fm_rd_i (a := r) (b := 6) m20 (by decide))
    subst q24
    refine fr_iconst h dX7_closeBracket_29 ?_
    refine fr_isub h dX7_closeBracket_30 ?_
    refine fr_puti (iz := 6) h kX7 fX7_32 (Ru_at hr) rfl rfl (by decide) (by decide) rfl (by decide +kernel) (Ru_f6 hr) (by omega) (by omega) dX7_closeBracket_31 ?_
    refine fr_mem (fun x26 m27 => ?_)
    refine fr_iconst h dX7_closeBracket_34 ?_
    have r28 := (fm_rd_i (a := r) (b := 5) m27 (by decide))
    have r29 := r28.trans (fm_rd_s m20)
    have r30 := (fm_rd_i (a := r) (b := 5) m27 (by decide))
    have r31 := r30.trans (fm_rd_s m20)
    have r32 := (fm_rd_s m27)
    exact fr_zret h rfl hq (by omega) ⟨(by omega), (RuP_pop p10 (by omega) (by omega) ((fm_up_row m27 (by omega)).trans (fm_up_row m20 (by omega))) (by rw [if_pos (by omega)]; omega)), (by omega), (fun a k0 => ((fm_up_row m27 (by omega)).trans ((fm_up_row m20 (by omega)).trans (f14 a (by omega)))))⟩ dX7_closeBracket_35
  ·
    refine fr_iconst h dX7_closeBracket_7 ?_
    exact fr_zret h rfl hq (by omega) ⟨(by omega), e0, (by omega), (fun a _ => rfl)⟩ dX7_closeBracket_8
set_option maxHeartbeats 200000 in
theorem c_X7_openBracket (x : Mm) (r : Int) (hr : isRu r) (e0 : RuP x r) (e1 : x r 5 ≤ 39) : CnI YC yX7_openBracket cX7_openBracket 1 .boolean 1 21 (fun G => [vr G r]) x (fun z y' => (z = 0 ∨ z = 1) ∧ (RuP y' r) ∧ (y' r 5 ≤ x r 5 + z) ∧ (∀ a : Int, (a < r ∨ r + 4 < a) → y' a = x a)) := by
  refine cn_I (by decide) (fun _ => Nat.le_of_ble_eq_true rfl) (fun G C h hq => ?_)
  have h : OK YC G C cX7_openBracket RX7 1 (some .boolean) 1 21 := h
  show FW YC G C 1 x 0 [(0, vr G r)] []
  have h_r := Ru_b hr
  refine fr_aload_n h rfl 0 rfl dX7_openBracket_0 ?_
  refine fr_geti (iz := 6) h kX7 fX7_32 (Ru_at hr) rfl rfl (by decide) (by decide) (Ru_f6 hr) dX7_openBracket_1 (fun z1 w2 w3 q4 => ?_)
  subst q4
  refine fr_iconst h dX7_openBracket_4 ?_
  refine fr_icmp_lt (tgt := 10) h dX7_openBracket_5 (by decide) (by omega) (by omega) (fun c5 => ?_) (fun c5 => ?_)
  ·
    refine fr_aload_n h rfl 0 rfl dX7_openBracket_10 ?_
    refine fr_bipush h rfl dX7_openBracket_11 ?_
    refine fr_cvV h kX7 (Ru_at hr) wX7_hold lX7_72 (c_X7_hold x r hr 40 (by omega) (by omega) (by omega)) rfl (by decide) (by decide) rfl (Nat.le_of_ble_eq_true rfl) dX7_openBracket_13 (fun x6 p9 => ?_)
    obtain ⟨p10, p11, p12, f13⟩ := p9
    refine fr_aload_n h rfl 0 rfl dX7_openBracket_16 ?_
    refine fr_dup h rfl dX7_openBracket_17 ?_
    refine fr_geti (iz := 6) h kX7 fX7_32 (Ru_at hr) rfl rfl (by decide) (by decide) (Ru_f6 hr) dX7_openBracket_18 (fun z14 w15 w16 q17 => ?_)
    subst q17
    refine fr_iconst h dX7_openBracket_21 ?_
    refine fr_iadd h dX7_openBracket_22 ?_
    refine fr_puti (iz := 6) h kX7 fX7_32 (Ru_at hr) rfl rfl (by decide) (by decide) rfl (by decide +kernel) (Ru_f6 hr) (by omega) (by omega) dX7_openBracket_23 ?_
    refine fr_mem (fun x18 m19 => ?_)
    refine fr_aload_n h rfl 0 rfl dX7_openBracket_26 ?_
    refine fr_getc (z := (r + 3)) (iz := 2) h kX7 fX7_18 (Ru_at hr) rfl rfl (Ru_f2 hr) (by omega) dX7_openBracket_27 ?_
    refine fr_aload_n h rfl 0 rfl dX7_openBracket_30 ?_
    refine fr_geti (iz := 6) h kX7 fX7_32 (Ru_at hr) rfl rfl (by decide) (by decide) (Ru_f6 hr) dX7_openBracket_31 (fun z20 w21 w22 q23 => ?_)
    have r24 := q23.trans (fm_rd_s m19)
    subst q23
    refine fr_iconst h dX7_openBracket_34 ?_
    refine fr_zast h (Ru_a3 hr) (by omega) (by omega) (Ru_r3 hr (x18 r 6)) (by omega) (by omega) (by omega) dX7_openBracket_35 ?_
    refine fr_mem (fun x25 m26 => ?_)
    refine fr_iconst h dX7_openBracket_36 ?_
    have r27 := (fm_rd_k (a := r) (b := 5) m26 (by omega))
    have r28 := r27.trans (fm_rd_i (a := r) (b := 5) m19 (by decide))
    have r29 := (fm_rd_k (a := r) (b := 5) m26 (by omega))
    have r30 := r29.trans (fm_rd_i (a := r) (b := 5) m19 (by decide))
    have r31 := (fm_rd_k (a := r) (b := 6) m26 (by omega))
    have r32 := r31.trans (fm_rd_s m19)
    exact fr_zret h rfl hq (by omega) ⟨(by omega), (RuP_push (x := x) (v := 40) e0 (by omega) ((congrFun ((fm_up_row m26 (by omega)).trans (fm_up_row m19 (by omega))) _).trans (p11 (by omega)).2) (fun j hj => (congrFun ((fm_up_row m26 (by omega)).trans (fm_up_row m19 (by omega))) j).trans (p12 j hj)) (Or.inl rfl) (by rw [if_pos rfl]; omega)), (by omega), (fun a k0 => ((fm_up_row m26 (by omega)).trans ((fm_up_row m19 (by omega)).trans (f13 a (by omega) (by omega)))))⟩ dX7_openBracket_37
  ·
    refine fr_iconst h dX7_openBracket_8 ?_
    exact fr_zret h rfl hq (by omega) ⟨(by omega), e0, (by omega), (fun a _ => rfl)⟩ dX7_openBracket_9
set_option maxHeartbeats 200000 in
theorem c_X7_goOn (x : Mm) (r : Int) (hr : isRu r) (p : Int) (h_p : fm_r p) (e0 : 0 ≤ p) (e1 : p ≤ 255) (e2 : RuP x r) (e3 : x r 5 ≤ 39) : CnI YC yX7_goOn cX7_goOn 3 .boolean 3 62 (fun G => [vr G r, vi p]) x (fun z y' => (z = 0 ∨ z = 1) ∧ (RuP y' r) ∧ (y' r 5 ≤ x r 5 + 1) ∧ (∀ a : Int, (a < r ∨ r + 4 < a) → y' a = x a)) := by
  refine cn_I (by decide) (fun _ => Nat.le_of_ble_eq_true rfl) (fun G C h hq => ?_)
  have h : OK YC G C cX7_goOn RX7 3 (some .boolean) 3 62 := h
  show FW YC G C 3 x 0 [(0, vr G r), (1, vi p)] []
  have h_r := Ru_b hr
  refine fr_iload_n h rfl 1 rfl dX7_goOn_0 ?_
  refine fr_bipush h rfl dX7_goOn_1 ?_
  refine fr_icmp_ne (tgt := 11) h dX7_goOn_3 (by decide) (by omega) (by omega) (fun c1 => ?_) (fun c1 => ?_)
  ·
    refine fr_iload_n h rfl 1 rfl dX7_goOn_11 ?_
    refine fr_csI h wX7_bindingOf lX7_89 (c_X7_bindingOf x p (by omega)) rfl (by decide) (by decide) rfl (Nat.le_of_ble_eq_true rfl) dX7_goOn_12 (fun z3 x2 w4 p5 => ?_)
    obtain ⟨p6, p7, p8, p9, y10⟩ := p5
    rw [y10]
    clear y10
    refine fr_istore_n (L' := [(0, vr G r), (1, vi p), (2, vi z3)]) h rfl dX7_goOn_15 (by decide) [1, 2, 0] rfl ?_
    refine fr_iload_n h rfl 2 rfl dX7_goOn_16 ?_
    refine fr_if_ne (tgt := 22) h dX7_goOn_17 (by decide) (by omega) (fun c11 => ?_) (fun c11 => ?_)
    ·
      refine fr_iload_n h rfl 2 rfl dX7_goOn_22 ?_
      refine fr_iconst h dX7_goOn_23 ?_
      refine fr_icmp_ne (tgt := 51) h dX7_goOn_24 (by decide) (by omega) (by omega) (fun c12 => ?_) (fun c12 => ?_)
      ·
        refine fr_aload_n h rfl 0 rfl dX7_goOn_51 ?_
        refine fr_iload_n h rfl 2 rfl dX7_goOn_52 ?_
        refine fr_cvV h kX7 (Ru_at hr) wX7_release lX7_62 (c_X7_release x r hr z3 (by omega) e2) rfl (by decide) (by decide) rfl (Nat.le_of_ble_eq_true rfl) dX7_goOn_53 (fun x13 p16 => ?_)
        obtain ⟨p17, p18, p19, p20, f21⟩ := p16
        refine fr_aload_n h rfl 0 rfl dX7_goOn_56 ?_
        refine fr_iload_n h rfl 1 rfl dX7_goOn_57 ?_
        refine fr_cvV h kX7 (Ru_at hr) wX7_hold lX7_72 (c_X7_hold x13 r hr p (by omega) (by omega) (by omega)) rfl (by decide) (by decide) rfl (Nat.le_of_ble_eq_true rfl) dX7_goOn_58 (fun x22 p25 => ?_)
        obtain ⟨p26, p27, p28, f29⟩ := p25
        refine fr_iconst h dX7_goOn_61 ?_
        exact fr_zret h rfl hq (by omega) ⟨(by omega), (RuP_push (x := x13) (v := p) p17 (by omega) ((congrFun rfl _).trans (p27 (by omega)).2) (fun j hj => (congrFun rfl j).trans (p28 j hj)) (by omega) (by rw [if_neg (by omega)]; omega)), (by omega), (fun a k0 => ((f29 a (by omega) (by omega)).trans (f21 a (by omega))))⟩ dX7_goOn_62
      ·
        refine fr_aload_n h rfl 0 rfl dX7_goOn_27 ?_
        refine fr_getc (z := (r + 3)) (iz := 2) h kX7 fX7_18 (Ru_at hr) rfl rfl (Ru_f2 hr) (by omega) dX7_goOn_28 ?_
        refine fr_aload_n h rfl 0 rfl dX7_goOn_31 ?_
        refine fr_geti (iz := 6) h kX7 fX7_32 (Ru_at hr) rfl rfl (by decide) (by decide) (Ru_f6 hr) dX7_goOn_32 (fun z30 w31 w32 q33 => ?_)
        subst q33
        refine fr_zald h (Ru_a3 hr) (by omega) (by omega) (Ru_r3 hr (x r 6)) dX7_goOn_35 (fun z34 w35 w36 q37 => ?_)
        refine fr_if_eq (tgt := 41) h dX7_goOn_36 (by decide) (by omega) (fun c38 => ?_) (fun c38 => ?_)
        ·
          refine fr_aload_n h rfl 0 rfl dX7_goOn_41 ?_
          refine fr_getc (z := (r + 3)) (iz := 2) h kX7 fX7_18 (Ru_at hr) rfl rfl (Ru_f2 hr) (by omega) dX7_goOn_42 ?_
          refine fr_aload_n h rfl 0 rfl dX7_goOn_45 ?_
          refine fr_geti (iz := 6) h kX7 fX7_32 (Ru_at hr) rfl rfl (by decide) (by decide) (Ru_f6 hr) dX7_goOn_46 (fun z39 w40 w41 q42 => ?_)
          subst q42
          refine fr_iconst h dX7_goOn_49 ?_
          refine fr_zast h (Ru_a3 hr) (by omega) (by omega) (Ru_r3 hr (x r 6)) (by omega) (by omega) (by omega) dX7_goOn_50 ?_
          refine fr_mem (fun x43 m44 => ?_)
          refine fr_aload_n h rfl 0 rfl dX7_goOn_51 ?_
          refine fr_iload_n h rfl 2 rfl dX7_goOn_52 ?_
          have r45 := (fm_rd_k (a := r) (b := 5) m44 (by omega))
          have r46 := (fm_rd_k (a := r) (b := 6) m44 (by omega))
          refine fr_cvV h kX7 (Ru_at hr) wX7_release lX7_62 (c_X7_release x43 r hr z3 (by omega) (RuP_keep e2 (by omega) (by omega) (fm_up_row m44 (by omega)))) rfl (by decide) (by decide) rfl (Nat.le_of_ble_eq_true rfl) dX7_goOn_53 (fun x47 p50 => ?_)
          obtain ⟨p51, p52, p53, p54, f55⟩ := p50
          refine fr_aload_n h rfl 0 rfl dX7_goOn_56 ?_
          refine fr_iload_n h rfl 1 rfl dX7_goOn_57 ?_
          refine fr_cvV h kX7 (Ru_at hr) wX7_hold lX7_72 (c_X7_hold x47 r hr p (by omega) (by omega) (by omega)) rfl (by decide) (by decide) rfl (Nat.le_of_ble_eq_true rfl) dX7_goOn_58 (fun x56 p59 => ?_)
          obtain ⟨p60, p61, p62, f63⟩ := p59
          refine fr_iconst h dX7_goOn_61 ?_
          have r64 := (fm_rd_k (a := r) (b := 5) m44 (by omega))
          have r65 := (fm_rd_k (a := r) (b := 5) m44 (by omega))
          have r66 := (fm_rd_k (a := r) (b := 6) m44 (by omega))
          exact fr_zret h rfl hq (by omega) ⟨(by omega), (RuP_push (x := x47) (v := p) p51 (by omega) ((congrFun rfl _).trans (p61 (by omega)).2) (fun j hj => (congrFun rfl j).trans (p62 j hj)) (by omega) (by rw [if_neg (by omega)]; omega)), (by omega), (fun a k0 => ((f63 a (by omega) (by omega)).trans ((f55 a (by omega)).trans (fm_up_row m44 (by omega)))))⟩ dX7_goOn_62
        ·
          refine fr_iconst h dX7_goOn_39 ?_
          exact fr_zret h rfl hq (by omega) ⟨(by omega), e2, (by omega), (fun a _ => rfl)⟩ dX7_goOn_40
    ·
      refine fr_iconst h dX7_goOn_20 ?_
      exact fr_zret h rfl hq (by omega) ⟨(by omega), e2, (by omega), (fun a _ => rfl)⟩ dX7_goOn_21
  ·
    refine fr_aload_n h rfl 0 rfl dX7_goOn_6 ?_
    refine fr_cvI h kX7 (Ru_at hr) wX7_closeBracket lX7_86 (c_X7_closeBracket x r hr e2) rfl (by decide) (by decide) rfl (Nat.le_of_ble_eq_true rfl) dX7_goOn_7 (fun z68 x67 w69 p70 => ?_)
    obtain ⟨p71, p72, p73, f74⟩ := p70
    exact fr_zret h (nr_z (by omega) (by omega)) hq (by omega) ⟨(by omega), p72, (by omega), (fun a k0 => (f74 a (by omega)))⟩ dX7_goOn_10
set_option maxHeartbeats 200000 in
theorem c_X7_readNumber (x : Mm) (r : Int) (hr : isRu r) (p : Int) (w : Int) (h_p : fm_r p) (h_w : fm_r w) : CnI YC yX7_readNumber cX7_readNumber 6 .int 2 42 (fun G => [vr G r, vr G 1, vi p, vi w]) x (fun z y' => (0 ≤ z) ∧ (z ≤ 3) ∧ (y' r 5 = x r 5) ∧ (y' r 6 = x r 6) ∧ (∀ a : Int, (a < r ∨ r + 1 < a) → y' a = x a)) := by
  refine cn_I (by decide) (fun _ => Nat.le_of_ble_eq_true rfl) (fun G C h hq => ?_)
  have h : OK YC G C cX7_readNumber RX7 6 (some .int) 2 42 := h
  show FW YC G C 6 x 0 [(0, vr G r), (1, vr G 1), (2, vi p), (3, vi w)] []
  have h_r := Ru_b hr
  refine fr_iconst h dX7_readNumber_0 ?_
  refine fr_istore (L' := [(0, vr G r), (1, vr G 1), (2, vi p), (3, vi w), (4, vi 0)]) h dX7_readNumber_1 (by decide) [1, 2, 3, 4, 0] rfl ?_
  refine fr_iconst h dX7_readNumber_3 ?_
  refine fr_istore (L' := [(0, vr G r), (1, vr G 1), (2, vi p), (3, vi w), (4, vi 0), (5, vi 0)]) h dX7_readNumber_4 (by decide) [1, 2, 3, 4, 5, 0] rfl ?_
  have HL1 : ∀ (n1 : Nat) (l4_1 l5_1 : Int), fm_r l4_1 → fm_r l5_1 → 0 ≤ l5_1 → l5_1 ≤ 3 → (3 - l5_1) < n1 → FW YC G C 6 x 6 [(0, vr G r), (1, vr G 1), (2, vi p), (3, vi w), (4, vi l4_1), (5, vi l5_1)] [] := by
    intro n1
    induction n1 with
    | zero =>
      intro l4_1 l5_1 g1_0 g1_1 g1_2 g1_3 g1_4
      exfalso; omega
    | succ n1 ih1 =>
      intro l4_1 l5_1 g1_0 g1_1 g1_2 g1_3 g1_4
      refine fr_iload h 5 rfl dX7_readNumber_6 ?_
      refine fr_iconst h dX7_readNumber_8 ?_
      refine fr_icmp_ge (tgt := 53) h dX7_readNumber_9 (by decide) (by omega) (by omega) (fun c2 => ?_) (fun c2 => ?_)
      ·
        refine fr_aload_n h rfl 0 rfl dX7_readNumber_53 ?_
        refine fr_iload h 4 rfl dX7_readNumber_54 ?_
        refine fr_cvV h kX7 (Ru_at hr) wX7_addStep lX7_40 (c_X7_addStep x r hr l4_1 (by omega)) rfl (by decide) (by decide) rfl (Nat.le_of_ble_eq_true rfl) dX7_readNumber_56 (fun x3 p6 => ?_)
        obtain ⟨p7, p8, f9⟩ := p6
        refine fr_iload h 5 rfl dX7_readNumber_59 ?_
        exact fr_iret h hq (by omega) ⟨(by omega), (by omega), (by omega), (by omega), (fun a k0 => (f9 a (by omega)))⟩ dX7_readNumber_61
      ·
        refine fr_iload_n h rfl 2 rfl dX7_readNumber_12 ?_
        refine fr_iload h 5 rfl dX7_readNumber_13 ?_
        refine fr_iadd h dX7_readNumber_15 ?_
        refine fr_normi (fun z10 w11 q12 => ?_)
        have w13 : fm_r ((p + l5_1)) → z10 = (p + l5_1) := fun q => (iI_inj q w11 q12).symm
        refine fr_iload_n h rfl 3 rfl dX7_readNumber_16 ?_
        refine fr_icmp_ge (tgt := 53) h dX7_readNumber_17 (by decide) (by omega) (by omega) (fun c14 => ?_) (fun c14 => ?_)
        ·
          refine fr_aload_n h rfl 0 rfl dX7_readNumber_53 ?_
          refine fr_iload h 4 rfl dX7_readNumber_54 ?_
          refine fr_cvV h kX7 (Ru_at hr) wX7_addStep lX7_40 (c_X7_addStep x r hr l4_1 (by omega)) rfl (by decide) (by decide) rfl (Nat.le_of_ble_eq_true rfl) dX7_readNumber_56 (fun x15 p18 => ?_)
          obtain ⟨p19, p20, f21⟩ := p18
          refine fr_iload h 5 rfl dX7_readNumber_59 ?_
          exact fr_iret h hq (by omega) ⟨(by omega), (by omega), (by omega), (by omega), (fun a k0 => (f21 a (by omega)))⟩ dX7_readNumber_61
        ·
          refine fr_aload_n h rfl 1 rfl dX7_readNumber_20 ?_
          refine fr_iload_n h rfl 2 rfl dX7_readNumber_21 ?_
          refine fr_iload h 5 rfl dX7_readNumber_22 ?_
          refine fr_iadd h dX7_readNumber_24 ?_
          refine fr_normi (fun z22 w23 q24 => ?_)
          have w25 : fm_r ((p + l5_1)) → z22 = (p + l5_1) := fun q => (iI_inj q w23 q24).symm
          refine fr_cvI h kX9 at_1 wX9_hasDigit lX7_65 (c_X9_hasDigit x z22 (by omega)) rfl (by decide) (by decide) rfl (Nat.le_of_ble_eq_true rfl) dX7_readNumber_25 (fun z27 x26 w28 p29 => ?_)
          obtain ⟨p30, p31, y32⟩ := p29
          rw [y32]
          clear y32
          refine fr_if_eq (tgt := 53) h dX7_readNumber_28 (by decide) (by omega) (fun c33 => ?_) (fun c33 => ?_)
          ·
            refine fr_aload_n h rfl 0 rfl dX7_readNumber_53 ?_
            refine fr_iload h 4 rfl dX7_readNumber_54 ?_
            refine fr_cvV h kX7 (Ru_at hr) wX7_addStep lX7_40 (c_X7_addStep x r hr l4_1 (by omega)) rfl (by decide) (by decide) rfl (Nat.le_of_ble_eq_true rfl) dX7_readNumber_56 (fun x34 p37 => ?_)
            obtain ⟨p38, p39, f40⟩ := p37
            refine fr_iload h 5 rfl dX7_readNumber_59 ?_
            exact fr_iret h hq (by omega) ⟨(by omega), (by omega), (by omega), (by omega), (fun a k0 => (f40 a (by omega)))⟩ dX7_readNumber_61
          ·
            refine fr_bipush h rfl dX7_readNumber_31 ?_
            refine fr_iload h 4 rfl dX7_readNumber_33 ?_
            refine fr_imul h dX7_readNumber_35 ?_
            refine fr_normi (fun z41 w42 q43 => ?_)
            have w44 : fm_r ((10 * l4_1)) → z41 = (10 * l4_1) := fun q => (iI_inj q w42 q43).symm
            refine fr_aload_n h rfl 1 rfl dX7_readNumber_36 ?_
            refine fr_iload_n h rfl 2 rfl dX7_readNumber_37 ?_
            refine fr_iload h 5 rfl dX7_readNumber_38 ?_
            refine fr_iadd h dX7_readNumber_40 ?_
            refine fr_normi (fun z45 w46 q47 => ?_)
            have w48 : fm_r ((p + l5_1)) → z45 = (p + l5_1) := fun q => (iI_inj q w46 q47).symm
            refine fr_cvI h kX9 at_1 wX9_digit lX7_82 (c_X9_digit x z45 (by omega)) rfl (by decide) (by decide) rfl (Nat.le_of_ble_eq_true rfl) dX7_readNumber_41 (fun z50 x49 w51 p52 => ?_)
            obtain ⟨p53, p54, p55, y56⟩ := p52
            rw [y56]
            clear y56
            refine fr_iadd h dX7_readNumber_44 ?_
            refine fr_normi (fun z57 w58 q59 => ?_)
            have w60 : fm_r ((z41 + z50)) → z57 = (z41 + z50) := fun q => (iI_inj q w58 q59).symm
            refine fr_istore (L' := [(0, vr G r), (1, vr G 1), (2, vi p), (3, vi w), (4, vi z57), (5, vi l5_1)]) h dX7_readNumber_45 (by decide) [1, 2, 3, 4, 0, 5] rfl ?_
            refine fr_iinc (j := 5) (L' := [(0, vr G r), (1, vr G 1), (2, vi p), (3, vi w), (4, vi z57), (5, vi (l5_1 + 1))]) h dX7_readNumber_47 rfl (by decide) [1, 2, 3, 4, 5, 0] rfl ?_
            refine fr_goto (tgt := 6) h dX7_readNumber_50 (by decide) ?_
            exact ih1 z57 (l5_1 + 1) (by omega) (by omega) (by omega) (by omega) (by omega)
  exact HL1 ((3 - 0) + 1 : Int).toNat 0 0 (by omega) (by omega) (by omega) (by omega) (by omega)
set_option maxHeartbeats 200000 in
theorem c_X7_startThing (x : Mm) (r : Int) (hr : isRu r) (p : Int) (w : Int) (h_p : fm_r p) (h_w : fm_r w) (e0 : RuP x r) (e1 : x r 5 ≤ 39) : CnI YC yX7_startThing cX7_startThing 5 .int 3 67 (fun G => [vr G r, vr G 1, vi p, vi w]) x (fun z y' => (0 ≤ z) ∧ (z ≤ 3) ∧ (RuP y' r) ∧ (y' r 5 ≤ x r 5 + z) ∧ (∀ a : Int, (a < r ∨ r + 4 < a) → y' a = x a)) := by
  refine cn_I (by decide) (fun _ => Nat.le_of_ble_eq_true rfl) (fun G C h hq => ?_)
  have h : OK YC G C cX7_startThing RX7 5 (some .int) 3 67 := h
  show FW YC G C 5 x 0 [(0, vr G r), (1, vr G 1), (2, vi p), (3, vi w)] []
  have h_r := Ru_b hr
  refine fr_aload_n h rfl 1 rfl dX7_startThing_0 ?_
  refine fr_iload_n h rfl 2 rfl dX7_startThing_1 ?_
  refine fr_cvI h kX9 at_1 wX9_at lX7_50 (c_X9_at x p (by omega)) rfl (by decide) (by decide) rfl (Nat.le_of_ble_eq_true rfl) dX7_startThing_2 (fun z2 x1 w3 p4 => ?_)
  obtain ⟨p5, p6, p7, p8, y9⟩ := p4
  rw [y9]
  clear y9
  refine fr_istore (L' := [(0, vr G r), (1, vr G 1), (2, vi p), (3, vi w), (4, vi z2)]) h dX7_startThing_5 (by decide) [1, 2, 3, 4, 0] rfl ?_
  refine fr_aload_n h rfl 1 rfl dX7_startThing_7 ?_
  refine fr_iload_n h rfl 2 rfl dX7_startThing_8 ?_
  refine fr_cvI h kX9 at_1 wX9_hasDigit lX7_65 (c_X9_hasDigit x p (by omega)) rfl (by decide) (by decide) rfl (Nat.le_of_ble_eq_true rfl) dX7_startThing_9 (fun z11 x10 w12 p13 => ?_)
  obtain ⟨p14, p15, y16⟩ := p13
  rw [y16]
  clear y16
  refine fr_if_eq (tgt := 23) h dX7_startThing_12 (by decide) (by omega) (fun c17 => ?_) (fun c17 => ?_)
  ·
    refine fr_iload h 4 rfl dX7_startThing_23 ?_
    refine fr_bipush h rfl dX7_startThing_25 ?_
    refine fr_icmp_ne (tgt := 39) h dX7_startThing_27 (by decide) (by omega) (by omega) (fun c18 => ?_) (fun c18 => ?_)
    ·
      refine fr_iload h 4 rfl dX7_startThing_39 ?_
      refine fr_bipush h rfl dX7_startThing_41 ?_
      refine fr_icmp_ne (tgt := 59) h dX7_startThing_43 (by decide) (by omega) (by omega) (fun c19 => ?_) (fun c19 => ?_)
      ·
        refine fr_iload h 4 rfl dX7_startThing_59 ?_
        refine fr_csI h wX7_isLetter lX7_79 (c_X7_isLetter x z2 (by omega)) rfl (by decide) (by decide) rfl (Nat.le_of_ble_eq_true rfl) dX7_startThing_61 (fun z21 x20 w22 p23 => ?_)
        obtain ⟨p24, y25⟩ := p23
        rw [y25]
        clear y25
        refine fr_if_ne (tgt := 69) h dX7_startThing_64 (by decide) (by omega) (fun c26 => ?_) (fun c26 => ?_)
        ·
          refine fr_aload_n h rfl 0 rfl dX7_startThing_69 ?_
          refine fr_sipush h rfl dX7_startThing_70 ?_
          refine fr_iload h 4 rfl dX7_startThing_73 ?_
          refine fr_iadd h dX7_startThing_75 ?_
          refine fr_cvV h kX7 (Ru_at hr) wX7_addStep lX7_40 (c_X7_addStep x r hr (1000 + z2) (by omega)) rfl (by decide) (by decide) rfl (Nat.le_of_ble_eq_true rfl) dX7_startThing_76 (fun x27 p30 => ?_)
          obtain ⟨p31, p32, f33⟩ := p30
          refine fr_iconst h dX7_startThing_79 ?_
          exact fr_iret h hq (by omega) ⟨(by omega), (by omega), (RuP_keep e0 (by omega) (by omega) (f33 (r + 2) (by omega))), (by omega), (fun a k0 => (f33 a (by omega)))⟩ dX7_startThing_80
        ·
          refine fr_iconst h dX7_startThing_67 ?_
          exact fr_iret h hq (by omega) ⟨(by omega), (by omega), e0, (by omega), (fun a _ => rfl)⟩ dX7_startThing_68
      ·
        refine fr_aload_n h rfl 0 rfl dX7_startThing_46 ?_
        refine fr_cvI h kX7 (Ru_at hr) wX7_openBracket lX7_75 (c_X7_openBracket x r hr e0 (by omega)) rfl (by decide) (by decide) rfl (Nat.le_of_ble_eq_true rfl) dX7_startThing_47 (fun z35 x34 w36 p37 => ?_)
        obtain ⟨p38, p39, p40, f41⟩ := p37
        refine fr_if_eq (tgt := 57) h dX7_startThing_50 (by decide) (by omega) (fun c42 => ?_) (fun c42 => ?_)
        ·
          refine fr_iconst h dX7_startThing_57 ?_
          exact fr_iret h hq (by omega) ⟨(by omega), (by omega), p39, (by omega), (fun a k0 => (f41 a (by omega)))⟩ dX7_startThing_58
        ·
          refine fr_iconst h dX7_startThing_53 ?_
          refine fr_goto (tgt := 58) h dX7_startThing_54 (by decide) ?_
          exact fr_iret h hq (by omega) ⟨(by omega), (by omega), p39, (by omega), (fun a k0 => (f41 a (by omega)))⟩ dX7_startThing_58
    ·
      refine fr_aload_n h rfl 0 rfl dX7_startThing_30 ?_
      refine fr_sipush h rfl dX7_startThing_31 ?_
      refine fr_cvV h kX7 (Ru_at hr) wX7_hold lX7_72 (c_X7_hold x r hr 256 (by omega) (by omega) (by omega)) rfl (by decide) (by decide) rfl (Nat.le_of_ble_eq_true rfl) dX7_startThing_34 (fun x43 p46 => ?_)
      obtain ⟨p47, p48, p49, f50⟩ := p46
      refine fr_iconst h dX7_startThing_37 ?_
      exact fr_iret h hq (by omega) ⟨(by omega), (by omega), (RuP_push (x := x) (v := 256) e0 (by omega) ((congrFun rfl _).trans (p48 (by omega)).2) (fun j hj => (congrFun rfl j).trans (p49 j hj)) (by decide) (by rw [if_neg (by decide)]; omega)), (by omega), (fun a k0 => (f50 a (by omega) (by omega)))⟩ dX7_startThing_38
  ·
    refine fr_aload_n h rfl 0 rfl dX7_startThing_15 ?_
    refine fr_aload_n h rfl 1 rfl dX7_startThing_16 ?_
    refine fr_iload_n h rfl 2 rfl dX7_startThing_17 ?_
    refine fr_iload_n h rfl 3 rfl dX7_startThing_18 ?_
    refine fr_cvI h kX7 (Ru_at hr) wX7_readNumber lX7_69 (c_X7_readNumber x r hr p w (by omega) (by omega)) rfl (by decide) (by decide) rfl (Nat.le_of_ble_eq_true rfl) dX7_startThing_19 (fun z52 x51 w53 p54 => ?_)
    obtain ⟨p55, p56, p57, p58, f59⟩ := p54
    exact fr_iret h hq (by omega) ⟨(by omega), (by omega), (RuP_keep e0 (by omega) (by omega) (f59 (r + 2) (by omega))), (by omega), (fun a k0 => (f59 a (by omega)))⟩ dX7_startThing_22
set_option maxHeartbeats 200000 in
theorem c_X7_read (x : Mm) (r : Int) (hr : isRu r) : CnI YC yX7_read cX7_read 7 .int 4 91 (fun G => [vr G r, vr G 1]) x (fun z y' => ((-1) ≤ z) ∧ (z ≤ 40) ∧ (∀ a : Int, (a < r ∨ r + 4 < a) → y' a = x a)) := by
  refine cn_I (by decide) (fun _ => Nat.le_of_ble_eq_true rfl) (fun G C h hq => ?_)
  have h : OK YC G C cX7_read RX7 7 (some .int) 4 91 := h
  show FW YC G C 7 x 0 [(0, vr G r), (1, vr G 1)] []
  have h_r := Ru_b hr
  refine fr_aload_n h rfl 0 rfl dX7_read_0 ?_
  refine fr_iconst h dX7_read_1 ?_
  refine fr_puti (iz := 4) h kX7 fX7_25 (Ru_at hr) rfl rfl (by decide) (by decide) rfl (by decide +kernel) (Ru_f4 hr) (by omega) (by omega) dX7_read_2 ?_
  refine fr_mem (fun x1 m2 => ?_)
  refine fr_aload_n h rfl 0 rfl dX7_read_5 ?_
  refine fr_iconst h dX7_read_6 ?_
  refine fr_puti (iz := 5) h kX7 fX7_29 (Ru_at hr) rfl rfl (by decide) (by decide) rfl (by decide +kernel) (Ru_f5 hr) (by omega) (by omega) dX7_read_7 ?_
  refine fr_mem (fun x3 m4 => ?_)
  refine fr_aload_n h rfl 0 rfl dX7_read_10 ?_
  refine fr_iconst h dX7_read_11 ?_
  refine fr_puti (iz := 6) h kX7 fX7_32 (Ru_at hr) rfl rfl (by decide) (by decide) rfl (by decide +kernel) (Ru_f6 hr) (by omega) (by omega) dX7_read_12 ?_
  refine fr_mem (fun x5 m6 => ?_)
  refine fr_aload_n h rfl 0 rfl dX7_read_15 ?_
  refine fr_getc (z := (r + 3)) (iz := 2) h kX7 fX7_18 (Ru_at hr) rfl rfl (Ru_f2 hr) (by omega) dX7_read_16 ?_
  refine fr_iconst h dX7_read_19 ?_
  refine fr_iconst h dX7_read_20 ?_
  refine fr_zast h (Ru_a3 hr) (by omega) (by omega) (Ru_r3 hr 0) (by omega) (by omega) (by omega) dX7_read_21 ?_
  refine fr_mem (fun x7 m8 => ?_)
  refine fr_aload_n h rfl 1 rfl dX7_read_22 ?_
  refine fr_cvI h kX9 at_1 wX9_length lX7_35 (c_X9_length x7) rfl (by decide) (by decide) rfl (Nat.le_of_ble_eq_true rfl) dX7_read_23 (fun z10 x9 w11 p12 => ?_)
  obtain ⟨p13, p14, p15, y16⟩ := p12
  rw [y16]
  clear y16
  refine fr_if_ne (tgt := 38) h dX7_read_26 (by decide) (by omega) (fun c17 => ?_) (fun c17 => ?_)
  ·
    refine fr_aload_n h rfl 1 rfl dX7_read_38 ?_
    refine fr_cvI h kX9 at_1 wX9_length lX7_35 (c_X9_length x7) rfl (by decide) (by decide) rfl (Nat.le_of_ble_eq_true rfl) dX7_read_39 (fun z19 x18 w20 p21 => ?_)
    obtain ⟨p22, p23, p24, y25⟩ := p21
    rw [y25]
    clear y25
    refine fr_bipush h rfl dX7_read_42 ?_
    refine fr_mmin h (by omega) (by omega) (tb_2 (i := 156) (by decide +kernel) (by decide +kernel)) w_mmin (by decide) (by decide) (Nat.le_of_ble_eq_true rfl) dX7_read_44 (fun z26 w27 w28 w29 => ?_)
    refine fr_istore_n (L' := [(0, vr G r), (1, vr G 1), (2, vi z26)]) h rfl dX7_read_47 (by decide) [1, 2, 0] rfl ?_
    refine fr_iconst h dX7_read_48 ?_
    refine fr_istore_n (L' := [(0, vr G r), (1, vr G 1), (2, vi z26), (3, vi 1)]) h rfl dX7_read_49 (by decide) [1, 2, 3, 0] rfl ?_
    refine fr_iconst h dX7_read_50 ?_
    refine fr_istore (L' := [(0, vr G r), (1, vr G 1), (2, vi z26), (3, vi 1), (4, vi 0)]) h dX7_read_51 (by decide) [1, 2, 3, 4, 0] rfl ?_
    have HL30 : ∀ (n30 : Nat) (l3_30 l4_30 : Int) (x_30 : Mm), fm_r l3_30 → 0 ≤ l3_30 → l3_30 ≤ 1 → fm_r l4_30 → 0 ≤ l4_30 → l4_30 ≤ 43 → RuP x_30 r → x_30 r 5 ≤ l4_30 → z26 ≤ 40 → (∀ a : Int, (a < r ∨ r + 4 < a) → x_30 a = x7 a) → (43 - l4_30) < n30 → FW YC G C 7 x_30 53 [(0, vr G r), (1, vr G 1), (2, vi z26), (3, vi l3_30), (4, vi l4_30)] [] := by
      intro n30
      induction n30 with
      | zero =>
        intro l3_30 l4_30 x_30 g30_0 g30_1 g30_2 g30_3 g30_4 g30_5 g30_6 g30_7 g30_8 g30_9 g30_10
        exfalso; omega
      | succ n30 ih30 =>
        intro l3_30 l4_30 x_30 g30_0 g30_1 g30_2 g30_3 g30_4 g30_5 g30_6 g30_7 g30_8 g30_9 g30_10
        refine fr_iload h 4 rfl dX7_read_53 ?_
        refine fr_iload_n h rfl 2 rfl dX7_read_55 ?_
        refine fr_icmp_ge (tgt := 150) h dX7_read_56 (by decide) (by omega) (by omega) (fun c31 => ?_) (fun c31 => ?_)
        ·
          refine fr_iload_n h rfl 3 rfl dX7_read_150 ?_
          refine fr_if_ne (tgt := 170) h dX7_read_151 (by decide) (by omega) (fun c32 => ?_) (fun c32 => ?_)
          ·
            refine fr_iload_n h rfl 2 rfl dX7_read_170 ?_
            exact fr_iret h hq (by omega) ⟨(by omega), (by omega), (fun a k0 => ((g30_9 a (by omega)).trans ((fm_up_row m8 (by omega)).trans ((fm_up_row m6 (by omega)).trans ((fm_up_row m4 (by omega)).trans (fm_up_row m2 (by omega)))))))⟩ dX7_read_171
          ·
            refine fr_aload_n h rfl 0 rfl dX7_read_154 ?_
            refine fr_geti (iz := 6) h kX7 fX7_32 (Ru_at hr) rfl rfl (by decide) (by decide) (Ru_f6 hr) dX7_read_155 (fun z33 w34 w35 q36 => ?_)
            have r37 := (fm_rd_k (a := r) (b := 6) m8 (by omega))
            have r38 := r37.trans (fm_rd_s m6)
            refine fr_if_gt (tgt := 170) h dX7_read_158 (by decide) (by omega) (fun c39 => ?_) (fun c39 => ?_)
            ·
              refine fr_iload_n h rfl 2 rfl dX7_read_170 ?_
              exact fr_iret h hq (by omega) ⟨(by omega), (by omega), (fun a k0 => ((g30_9 a (by omega)).trans ((fm_up_row m8 (by omega)).trans ((fm_up_row m6 (by omega)).trans ((fm_up_row m4 (by omega)).trans (fm_up_row m2 (by omega)))))))⟩ dX7_read_171
            ·
              refine fr_aload_n h rfl 1 rfl dX7_read_161 ?_
              refine fr_cvI h kX9 at_1 wX9_length lX7_35 (c_X9_length x_30) rfl (by decide) (by decide) rfl (Nat.le_of_ble_eq_true rfl) dX7_read_162 (fun z41 x40 w42 p43 => ?_)
              obtain ⟨p44, p45, p46, y47⟩ := p43
              rw [y47]
              clear y47
              refine fr_bipush h rfl dX7_read_165 ?_
              refine fr_icmp_le (tgt := 172) h dX7_read_167 (by decide) (by omega) (by omega) (fun c48 => ?_) (fun c48 => ?_)
              ·
                refine fr_aload_n h rfl 0 rfl dX7_read_172 ?_
                refine fr_iconst h dX7_read_173 ?_
                refine fr_cvV h kX7 (Ru_at hr) wX7_release lX7_62 (c_X7_release x_30 r hr 0 (by omega) g30_6) rfl (by decide) (by decide) rfl (Nat.le_of_ble_eq_true rfl) dX7_read_174 (fun x49 p52 => ?_)
                obtain ⟨p53, p54, p55, p56, f57⟩ := p52
                refine fr_iconst h dX7_read_177 ?_
                exact fr_iret h hq (by omega) ⟨(by omega), (by omega), (fun a k0 => ((f57 a (by omega)).trans ((g30_9 a (by omega)).trans ((fm_up_row m8 (by omega)).trans ((fm_up_row m6 (by omega)).trans ((fm_up_row m4 (by omega)).trans (fm_up_row m2 (by omega))))))))⟩ dX7_read_178
              ·
                refine fr_iload_n h rfl 2 rfl dX7_read_170 ?_
                exact fr_iret h hq (by omega) ⟨(by omega), (by omega), (fun a k0 => ((g30_9 a (by omega)).trans ((fm_up_row m8 (by omega)).trans ((fm_up_row m6 (by omega)).trans ((fm_up_row m4 (by omega)).trans (fm_up_row m2 (by omega)))))))⟩ dX7_read_171
        ·
          refine fr_aload_n h rfl 1 rfl dX7_read_59 ?_
          refine fr_iload h 4 rfl dX7_read_60 ?_
          refine fr_cvI h kX9 at_1 wX9_at lX7_50 (c_X9_at x_30 l4_30 (by omega)) rfl (by decide) (by decide) rfl (Nat.le_of_ble_eq_true rfl) dX7_read_62 (fun z59 x58 w60 p61 => ?_)
          obtain ⟨p62, p63, p64, p65, y66⟩ := p61
          rw [y66]
          clear y66
          refine fr_istore (L' := [(0, vr G r), (1, vr G 1), (2, vi z26), (3, vi l3_30), (4, vi l4_30), (5, vi z59)]) h dX7_read_65 (by decide) [1, 2, 3, 4, 5, 0] rfl ?_
          refine fr_iload_n h rfl 3 rfl dX7_read_67 ?_
          refine fr_if_eq (tgt := 119) h dX7_read_68 (by decide) (by omega) (fun c67 => ?_) (fun c67 => ?_)
          ·
            refine fr_aload_n h rfl 0 rfl dX7_read_119 ?_
            refine fr_iload h 5 rfl dX7_read_120 ?_
            have r68 := (fm_rd_k (a := r) (b := 5) m8 (by omega))
            have r69 := r68.trans (fm_rd_i (a := r) (b := 5) m6 (by decide))
            have r70 := r69.trans (fm_rd_s m4)
            refine fr_cvI h kX7 (Ru_at hr) wX7_goOn lX7_58 (c_X7_goOn x_30 r hr z59 (by omega) (by omega) (by omega) g30_6 (by omega)) rfl (by decide) (by decide) rfl (Nat.le_of_ble_eq_true rfl) dX7_read_122 (fun z72 x71 w73 p74 => ?_)
            obtain ⟨p75, p76, p77, f78⟩ := p74
            refine fr_if_ne (tgt := 131) h dX7_read_125 (by decide) (by omega) (fun c79 => ?_) (fun c79 => ?_)
            ·
              refine fr_iload h 5 rfl dX7_read_131 ?_
              refine fr_bipush h rfl dX7_read_133 ?_
              refine fr_icmp_eq (tgt := 142) h dX7_read_135 (by decide) (by omega) (by omega) (fun c80 => ?_) (fun c80 => ?_)
              ·
                refine fr_iconst h dX7_read_142 ?_
                refine fr_istore_n (L' := [(0, vr G r), (1, vr G 1), (2, vi z26), (3, vi 0), (4, vi l4_30), (5, vi z59)]) h rfl dX7_read_143 (by decide) [1, 2, 3, 0, 4, 5] rfl ?_
                refine fr_iinc (j := 4) (L' := [(0, vr G r), (1, vr G 1), (2, vi z26), (3, vi 0), (4, vi (l4_30 + 1)), (5, vi z59)]) h dX7_read_144 rfl (by decide) [1, 2, 3, 4, 0, 5] rfl ?_
                refine fr_goto (tgt := 53) h dX7_read_147 (by decide) ?_
                refine fr_sub (L' := [(0, vr G r), (1, vr G 1), (2, vi z26), (3, vi 0), (4, vi (l4_30 + 1))]) [0, 1, 2, 3, 4] rfl ?_
                have r81 := (fm_rd_k (a := r) (b := 5) m8 (by omega))
                have r82 := r81.trans (fm_rd_i (a := r) (b := 5) m6 (by decide))
                have r83 := r82.trans (fm_rd_s m4)
                exact ih30 0 (l4_30 + 1) x71 (by omega) (by omega) (by omega) (by omega) (by omega) (by omega) p76 (by omega) (by omega) (fun a k0 => ((f78 a (by omega)).trans (g30_9 a (by omega)))) (by omega)
              ·
                refine fr_iconst h dX7_read_138 ?_
                refine fr_goto (tgt := 143) h dX7_read_139 (by decide) ?_
                refine fr_istore_n (L' := [(0, vr G r), (1, vr G 1), (2, vi z26), (3, vi 1), (4, vi l4_30), (5, vi z59)]) h rfl dX7_read_143 (by decide) [1, 2, 3, 0, 4, 5] rfl ?_
                refine fr_iinc (j := 4) (L' := [(0, vr G r), (1, vr G 1), (2, vi z26), (3, vi 1), (4, vi (l4_30 + 1)), (5, vi z59)]) h dX7_read_144 rfl (by decide) [1, 2, 3, 4, 0, 5] rfl ?_
                refine fr_goto (tgt := 53) h dX7_read_147 (by decide) ?_
                refine fr_sub (L' := [(0, vr G r), (1, vr G 1), (2, vi z26), (3, vi 1), (4, vi (l4_30 + 1))]) [0, 1, 2, 3, 4] rfl ?_
                have r84 := (fm_rd_k (a := r) (b := 5) m8 (by omega))
                have r85 := r84.trans (fm_rd_i (a := r) (b := 5) m6 (by decide))
                have r86 := r85.trans (fm_rd_s m4)
                exact ih30 1 (l4_30 + 1) x71 (by omega) (by omega) (by omega) (by omega) (by omega) (by omega) p76 (by omega) (by omega) (fun a k0 => ((f78 a (by omega)).trans (g30_9 a (by omega)))) (by omega)
            ·
              refine fr_iload h 4 rfl dX7_read_128 ?_
              exact fr_iret h hq (by omega) ⟨(by omega), (by omega), (fun a k0 => ((f78 a (by omega)).trans ((g30_9 a (by omega)).trans ((fm_up_row m8 (by omega)).trans ((fm_up_row m6 (by omega)).trans ((fm_up_row m4 (by omega)).trans (fm_up_row m2 (by omega))))))))⟩ dX7_read_130
          ·
            refine fr_aload_n h rfl 0 rfl dX7_read_71 ?_
            refine fr_aload_n h rfl 1 rfl dX7_read_72 ?_
            refine fr_iload h 4 rfl dX7_read_73 ?_
            refine fr_iload_n h rfl 2 rfl dX7_read_75 ?_
            have r87 := (fm_rd_k (a := r) (b := 5) m8 (by omega))
            have r88 := r87.trans (fm_rd_i (a := r) (b := 5) m6 (by decide))
            have r89 := r88.trans (fm_rd_s m4)
            refine fr_cvI h kX7 (Ru_at hr) wX7_startThing lX7_54 (c_X7_startThing x_30 r hr l4_30 z26 (by omega) (by omega) g30_6 (by omega)) rfl (by decide) (by decide) rfl (Nat.le_of_ble_eq_true rfl) dX7_read_76 (fun z91 x90 w92 p93 => ?_)
            obtain ⟨p94, p95, p96, p97, f98⟩ := p93
            refine fr_istore (L' := [(0, vr G r), (1, vr G 1), (2, vi z26), (3, vi l3_30), (4, vi l4_30), (5, vi z59), (6, vi z91)]) h dX7_read_79 (by decide) [1, 2, 3, 4, 5, 6, 0] rfl ?_
            refine fr_iload h 6 rfl dX7_read_81 ?_
            refine fr_if_ne (tgt := 89) h dX7_read_83 (by decide) (by omega) (fun c99 => ?_) (fun c99 => ?_)
            ·
              refine fr_iload h 5 rfl dX7_read_89 ?_
              refine fr_bipush h rfl dX7_read_91 ?_
              refine fr_icmp_eq (tgt := 103) h dX7_read_93 (by decide) (by omega) (by omega) (fun c100 => ?_) (fun c100 => ?_)
              ·
                refine fr_iconst h dX7_read_103 ?_
                refine fr_goto (tgt := 108) h dX7_read_104 (by decide) ?_
                refine fr_istore_n (L' := [(0, vr G r), (1, vr G 1), (2, vi z26), (3, vi 1), (4, vi l4_30), (5, vi z59), (6, vi z91)]) h rfl dX7_read_108 (by decide) [1, 2, 3, 0, 4, 5, 6] rfl ?_
                refine fr_iload h 4 rfl dX7_read_109 ?_
                refine fr_iload h 6 rfl dX7_read_111 ?_
                refine fr_iadd h dX7_read_113 ?_
                refine fr_istore (L' := [(0, vr G r), (1, vr G 1), (2, vi z26), (3, vi 1), (4, vi (l4_30 + z91)), (5, vi z59), (6, vi z91)]) h dX7_read_114 (by decide) [1, 2, 3, 4, 0, 5, 6] rfl ?_
                refine fr_goto (tgt := 147) h dX7_read_116 (by decide) ?_
                refine fr_goto (tgt := 53) h dX7_read_147 (by decide) ?_
                refine fr_sub (L' := [(0, vr G r), (1, vr G 1), (2, vi z26), (3, vi 1), (4, vi (l4_30 + z91))]) [0, 1, 2, 3, 4] rfl ?_
                have r101 := (fm_rd_k (a := r) (b := 5) m8 (by omega))
                have r102 := r101.trans (fm_rd_i (a := r) (b := 5) m6 (by decide))
                have r103 := r102.trans (fm_rd_s m4)
                exact ih30 1 (l4_30 + z91) x90 (by omega) (by omega) (by omega) (by omega) (by omega) (by omega) p96 (by omega) (by omega) (fun a k0 => ((f98 a (by omega)).trans (g30_9 a (by omega)))) (by omega)
              ·
                refine fr_iload h 5 rfl dX7_read_96 ?_
                refine fr_bipush h rfl dX7_read_98 ?_
                refine fr_icmp_ne (tgt := 107) h dX7_read_100 (by decide) (by omega) (by omega) (fun c104 => ?_) (fun c104 => ?_)
                ·
                  refine fr_iconst h dX7_read_107 ?_
                  refine fr_istore_n (L' := [(0, vr G r), (1, vr G 1), (2, vi z26), (3, vi 0), (4, vi l4_30), (5, vi z59), (6, vi z91)]) h rfl dX7_read_108 (by decide) [1, 2, 3, 0, 4, 5, 6] rfl ?_
                  refine fr_iload h 4 rfl dX7_read_109 ?_
                  refine fr_iload h 6 rfl dX7_read_111 ?_
                  refine fr_iadd h dX7_read_113 ?_
                  refine fr_istore (L' := [(0, vr G r), (1, vr G 1), (2, vi z26), (3, vi 0), (4, vi (l4_30 + z91)), (5, vi z59), (6, vi z91)]) h dX7_read_114 (by decide) [1, 2, 3, 4, 0, 5, 6] rfl ?_
                  refine fr_goto (tgt := 147) h dX7_read_116 (by decide) ?_
                  refine fr_goto (tgt := 53) h dX7_read_147 (by decide) ?_
                  refine fr_sub (L' := [(0, vr G r), (1, vr G 1), (2, vi z26), (3, vi 0), (4, vi (l4_30 + z91))]) [0, 1, 2, 3, 4] rfl ?_
                  have r105 := (fm_rd_k (a := r) (b := 5) m8 (by omega))
                  have r106 := r105.trans (fm_rd_i (a := r) (b := 5) m6 (by decide))
                  have r107 := r106.trans (fm_rd_s m4)
                  exact ih30 0 (l4_30 + z91) x90 (by omega) (by omega) (by omega) (by omega) (by omega) (by omega) p96 (by omega) (by omega) (fun a k0 => ((f98 a (by omega)).trans (g30_9 a (by omega)))) (by omega)
                ·
                  refine fr_iconst h dX7_read_103 ?_
                  refine fr_goto (tgt := 108) h dX7_read_104 (by decide) ?_
                  refine fr_istore_n (L' := [(0, vr G r), (1, vr G 1), (2, vi z26), (3, vi 1), (4, vi l4_30), (5, vi z59), (6, vi z91)]) h rfl dX7_read_108 (by decide) [1, 2, 3, 0, 4, 5, 6] rfl ?_
                  refine fr_iload h 4 rfl dX7_read_109 ?_
                  refine fr_iload h 6 rfl dX7_read_111 ?_
                  refine fr_iadd h dX7_read_113 ?_
                  refine fr_istore (L' := [(0, vr G r), (1, vr G 1), (2, vi z26), (3, vi 1), (4, vi (l4_30 + z91)), (5, vi z59), (6, vi z91)]) h dX7_read_114 (by decide) [1, 2, 3, 4, 0, 5, 6] rfl ?_
                  refine fr_goto (tgt := 147) h dX7_read_116 (by decide) ?_
                  refine fr_goto (tgt := 53) h dX7_read_147 (by decide) ?_
                  refine fr_sub (L' := [(0, vr G r), (1, vr G 1), (2, vi z26), (3, vi 1), (4, vi (l4_30 + z91))]) [0, 1, 2, 3, 4] rfl ?_
                  have r108 := (fm_rd_k (a := r) (b := 5) m8 (by omega))
                  have r109 := r108.trans (fm_rd_i (a := r) (b := 5) m6 (by decide))
                  have r110 := r109.trans (fm_rd_s m4)
                  exact ih30 1 (l4_30 + z91) x90 (by omega) (by omega) (by omega) (by omega) (by omega) (by omega) p96 (by omega) (by omega) (fun a k0 => ((f98 a (by omega)).trans (g30_9 a (by omega)))) (by omega)
            ·
              refine fr_iload h 4 rfl dX7_read_86 ?_
              exact fr_iret h hq (by omega) ⟨(by omega), (by omega), (fun a k0 => ((f98 a (by omega)).trans ((g30_9 a (by omega)).trans ((fm_up_row m8 (by omega)).trans ((fm_up_row m6 (by omega)).trans ((fm_up_row m4 (by omega)).trans (fm_up_row m2 (by omega))))))))⟩ dX7_read_88
    have r111 := (fm_rd_k (a := r) (b := 5) m8 (by omega))
    have r112 := r111.trans (fm_rd_i (a := r) (b := 5) m6 (by decide))
    have r113 := r112.trans (fm_rd_s m4)
    have r114 := (fm_rd_k (a := r) (b := 5) m8 (by omega))
    have r115 := r114.trans (fm_rd_i (a := r) (b := 5) m6 (by decide))
    have r116 := r115.trans (fm_rd_s m4)
    have r117 := (fm_rd_k (a := r) (b := 6) m8 (by omega))
    have r118 := r117.trans (fm_rd_s m6)
    exact HL30 ((43 - 0) + 1 : Int).toNat 1 0 x7 (by omega) (by omega) (by omega) (by omega) (by omega) (by omega) (RuP_0 (by omega) (by omega)) (by omega) (by omega) (fun a _ => rfl) (by omega)
  ·
    refine fr_aload_n h rfl 0 rfl dX7_read_29 ?_
    refine fr_sipush h rfl dX7_read_30 ?_
    refine fr_cvV h kX7 (Ru_at hr) wX7_addStep lX7_40 (c_X7_addStep x7 r hr 1115 (by omega)) rfl (by decide) (by decide) rfl (Nat.le_of_ble_eq_true rfl) dX7_read_33 (fun x119 p122 => ?_)
    obtain ⟨p123, p124, f125⟩ := p122
    refine fr_iconst h dX7_read_36 ?_
    exact fr_iret h hq (by omega) ⟨(by omega), (by omega), (fun a k0 => ((f125 a (by omega)).trans ((fm_up_row m8 (by omega)).trans ((fm_up_row m6 (by omega)).trans ((fm_up_row m4 (by omega)).trans (fm_up_row m2 (by omega)))))))⟩ dX7_read_37
