set_option maxHeartbeats 200000 in
theorem d_X7_isLetter (x : Mm) (p : Int) (h_p : fm_r p) : CnI YC yX7_isLetter cX7_isLetter 1 .boolean 0 0 (fun G => [vi p]) x (fun z y' => (z = 0 ∨ z = 1) ∧ ((z = 1 ↔ p = 115 ∨ p = 109 ∨ p = 108 ∨ p = 102 ∨ p = 101 ∨ p = 112 ∨ p = 110)) ∧ (y' = x)) := by
  refine cn_I (by decide) (fun _ => Nat.le_of_ble_eq_true rfl) (fun G C h hq => ?_)
  have h : OK YC G C cX7_isLetter RX7 1 (some .boolean) 0 0 := h
  show FW YC G C 1 x 0 [(0, vi p)] []
  refine fr_iload_n h rfl 0 rfl dX7_isLetter_0 ?_
  by_cases c2 : p = 101
  ·
    refine fr_tab_in (off := 75) (tgt := 76) h dX7_isLetter_1 (by omega) (by omega) (by omega) (by rw [c2]; rfl) (by decide) ?_
    refine fr_iconst h dX7_isLetter_76 ?_
    exact fr_zret h rfl hq (by omega) ⟨(by omega), (by omega), rfl⟩ dX7_isLetter_77
  ·
    by_cases c3 : p = 102
    ·
      refine fr_tab_in (off := 75) (tgt := 76) h dX7_isLetter_1 (by omega) (by omega) (by omega) (by rw [c3]; rfl) (by decide) ?_
      refine fr_iconst h dX7_isLetter_76 ?_
      exact fr_zret h rfl hq (by omega) ⟨(by omega), (by omega), rfl⟩ dX7_isLetter_77
    ·
      by_cases c4 : p = 108
      ·
        refine fr_tab_in (off := 75) (tgt := 76) h dX7_isLetter_1 (by omega) (by omega) (by omega) (by rw [c4]; rfl) (by decide) ?_
        refine fr_iconst h dX7_isLetter_76 ?_
        exact fr_zret h rfl hq (by omega) ⟨(by omega), (by omega), rfl⟩ dX7_isLetter_77
      ·
        by_cases c5 : p = 109
        ·
          refine fr_tab_in (off := 75) (tgt := 76) h dX7_isLetter_1 (by omega) (by omega) (by omega) (by rw [c5]; rfl) (by decide) ?_
          refine fr_iconst h dX7_isLetter_76 ?_
          exact fr_zret h rfl hq (by omega) ⟨(by omega), (by omega), rfl⟩ dX7_isLetter_77
        ·
          by_cases c6 : p = 110
          ·
            refine fr_tab_in (off := 75) (tgt := 76) h dX7_isLetter_1 (by omega) (by omega) (by omega) (by rw [c6]; rfl) (by decide) ?_
            refine fr_iconst h dX7_isLetter_76 ?_
            exact fr_zret h rfl hq (by omega) ⟨(by omega), (by omega), rfl⟩ dX7_isLetter_77
          ·
            by_cases c7 : p = 112
            ·
              refine fr_tab_in (off := 75) (tgt := 76) h dX7_isLetter_1 (by omega) (by omega) (by omega) (by rw [c7]; rfl) (by decide) ?_
              refine fr_iconst h dX7_isLetter_76 ?_
              exact fr_zret h rfl hq (by omega) ⟨(by omega), (by omega), rfl⟩ dX7_isLetter_77
            ·
              by_cases c8 : p = 115
              ·
                refine fr_tab_in (off := 75) (tgt := 76) h dX7_isLetter_1 (by omega) (by omega) (by omega) (by rw [c8]; rfl) (by decide) ?_
                refine fr_iconst h dX7_isLetter_76 ?_
                exact fr_zret h rfl hq (by omega) ⟨(by omega), (by omega), rfl⟩ dX7_isLetter_77
              ·
                have J9 : FW YC G C 1 x 78 [(0, vi p)] [] := by
                  refine fr_iconst h dX7_isLetter_78 ?_
                  exact fr_zret h rfl hq (by omega) ⟨(by omega), (by omega), rfl⟩ dX7_isLetter_79
                by_cases c10 : p < 101 ∨ 115 < p
                · exact fr_tab_out (tgt := 78) h dX7_isLetter_1 (by omega) c10 (by decide) J9
                · have c11 : p = 103 ∨ p = 104 ∨ p = 105 ∨ p = 106 ∨ p = 107 ∨ p = 111 ∨ p = 113 ∨ p = 114 := by omega
                  rcases c11 with c11 | c11 | c11 | c11 | c11 | c11 | c11 | c11 <;> exact fr_tab_in (tgt := 78) h dX7_isLetter_1 (by omega) (by omega) (by omega) (by rw [c11]; rfl) (by decide) J9
set_option maxHeartbeats 200000 in
theorem d_X7_bindingOf (x : Mm) (p : Int) (h_p : fm_r p) : CnI YC yX7_bindingOf cX7_bindingOf 1 .int 0 0 (fun G => [vi p]) x (fun z y' => (0 ≤ z) ∧ (z ≤ 4) ∧ (z ≠ 0 → p = 60 ∨ p = 61 ∨ p = 62 ∨ p = 43 ∨ p = 45 ∨ p = 42 ∨ p = 47 ∨ p = 256) ∧ (p = 60 ∨ p = 61 ∨ p = 62 ∨ p = 43 ∨ p = 45 ∨ p = 42 ∨ p = 47 ∨ p = 256 → 1 ≤ z) ∧ ((z = 1 ↔ p = 60 ∨ p = 61 ∨ p = 62)) ∧ (y' = x)) := by
  refine cn_I (by decide) (fun _ => Nat.le_of_ble_eq_true rfl) (fun G C h hq => ?_)
  have h : OK YC G C cX7_bindingOf RX7 1 (some .int) 0 0 := h
  show FW YC G C 1 x 0 [(0, vi p)] []
  refine fr_iload_n h rfl 0 rfl dX7_bindingOf_0 ?_
  by_cases c2 : p = 42
  ·
    refine fr_look (off := 79) (tgt := 80) h dX7_bindingOf_1 (by omega) (by decide) (by rw [c2]; rfl) (by decide) ?_
    refine fr_iconst h dX7_bindingOf_80 ?_
    exact fr_iret h hq (by omega) ⟨(by omega), (by omega), (by omega), (by omega), (by omega), rfl⟩ dX7_bindingOf_81
  ·
    by_cases c3 : p = 43
    ·
      refine fr_look (off := 77) (tgt := 78) h dX7_bindingOf_1 (by omega) (by decide) (by rw [c3]; rfl) (by decide) ?_
      refine fr_iconst h dX7_bindingOf_78 ?_
      exact fr_iret h hq (by omega) ⟨(by omega), (by omega), (by omega), (by omega), (by omega), rfl⟩ dX7_bindingOf_79
    ·
      by_cases c4 : p = 45
      ·
        refine fr_look (off := 77) (tgt := 78) h dX7_bindingOf_1 (by omega) (by decide) (by rw [c4]; rfl) (by decide) ?_
        refine fr_iconst h dX7_bindingOf_78 ?_
        exact fr_iret h hq (by omega) ⟨(by omega), (by omega), (by omega), (by omega), (by omega), rfl⟩ dX7_bindingOf_79
      ·
        by_cases c5 : p = 47
        ·
          refine fr_look (off := 79) (tgt := 80) h dX7_bindingOf_1 (by omega) (by decide) (by rw [c5]; rfl) (by decide) ?_
          refine fr_iconst h dX7_bindingOf_80 ?_
          exact fr_iret h hq (by omega) ⟨(by omega), (by omega), (by omega), (by omega), (by omega), rfl⟩ dX7_bindingOf_81
        ·
          by_cases c6 : p = 60
          ·
            refine fr_look (off := 75) (tgt := 76) h dX7_bindingOf_1 (by omega) (by decide) (by rw [c6]; rfl) (by decide) ?_
            refine fr_iconst h dX7_bindingOf_76 ?_
            exact fr_iret h hq (by omega) ⟨(by omega), (by omega), (by omega), (by omega), (by omega), rfl⟩ dX7_bindingOf_77
          ·
            by_cases c7 : p = 61
            ·
              refine fr_look (off := 75) (tgt := 76) h dX7_bindingOf_1 (by omega) (by decide) (by rw [c7]; rfl) (by decide) ?_
              refine fr_iconst h dX7_bindingOf_76 ?_
              exact fr_iret h hq (by omega) ⟨(by omega), (by omega), (by omega), (by omega), (by omega), rfl⟩ dX7_bindingOf_77
            ·
              by_cases c8 : p = 62
              ·
                refine fr_look (off := 75) (tgt := 76) h dX7_bindingOf_1 (by omega) (by decide) (by rw [c8]; rfl) (by decide) ?_
                refine fr_iconst h dX7_bindingOf_76 ?_
                exact fr_iret h hq (by omega) ⟨(by omega), (by omega), (by omega), (by omega), (by omega), rfl⟩ dX7_bindingOf_77
              ·
                by_cases c9 : p = 256
                ·
                  refine fr_look (off := 81) (tgt := 82) h dX7_bindingOf_1 (by omega) (by decide) (by rw [c9]; rfl) (by decide) ?_
                  refine fr_iconst h dX7_bindingOf_82 ?_
                  exact fr_iret h hq (by omega) ⟨(by omega), (by omega), (by omega), (by omega), (by omega), rfl⟩ dX7_bindingOf_83
                ·
                  refine fr_look (off := 83) (tgt := 84) h dX7_bindingOf_1 (by omega) (by decide) (by simp [Op.lookupswitch.offset]; omega) (by decide) ?_
                  refine fr_iconst h dX7_bindingOf_84 ?_
                  exact fr_iret h hq (by omega) ⟨(by omega), (by omega), (by omega), (by omega), (by omega), rfl⟩ dX7_bindingOf_85
set_option maxHeartbeats 1000000 in
theorem d_X7_readNumber (x : Mm) (r : Int) (hr : isRu r) (p : Int) (w : Int) (f : Int → Int) (n : Int) (h_p : fm_r p) (h_w : fm_r w) (e0 : x 2 = f) (e1 : x 1 1 = n) (e2 : 0 ≤ p) (e3 : p ≤ 80) (e4 : p < w) (e5 : w ≤ n) (e6 : 48 ≤ f p) (e7 : f p ≤ 57) : CnI YC yX7_readNumber cX7_readNumber 6 .int 2 42 (fun G => [vr G r, vr G 1, vi p, vi w]) x (fun z y' => (1 ≤ z) ∧ (z ≤ 3) ∧ (z = dgn f w p) ∧ (y' r 5 = x r 5) ∧ (y' r 6 = x r 6) ∧ (∀ a : Int, (a < r ∨ r + 1 < a) → y' a = x a)) := by
  refine cn_I (by decide) (fun _ => Nat.le_of_ble_eq_true rfl) (fun G C h hq => ?_)
  have h : OK YC G C cX7_readNumber RX7 6 (some .int) 2 42 := h
  show FW YC G C 6 x 0 [(0, vr G r), (1, vr G 1), (2, vi p), (3, vi w)] []
  have h_r := Ru_b hr
  refine fr_iconst h dX7_readNumber_0 ?_
  refine fr_istore (L' := [(0, vr G r), (1, vr G 1), (2, vi p), (3, vi w), (4, vi 0)]) h dX7_readNumber_1 (by decide) [1, 2, 3, 4, 0] rfl ?_
  refine fr_iconst h dX7_readNumber_3 ?_
  refine fr_istore (L' := [(0, vr G r), (1, vr G 1), (2, vi p), (3, vi w), (4, vi 0), (5, vi 0)]) h dX7_readNumber_4 (by decide) [1, 2, 3, 4, 5, 0] rfl ?_
  have HL1 : ∀ (n1 : Nat) (l4_1 l5_1 : Int), fm_r l4_1 → fm_r l5_1 → 0 ≤ l5_1 → l5_1 ≤ 3 → (2 ≤ l5_1 → p + 1 < w ∧ 48 ≤ f (p + 1) ∧ f (p + 1) ≤ 57) → (3 ≤ l5_1 → p + 1 + 1 < w ∧ 48 ≤ f (p + 1 + 1) ∧ f (p + 1 + 1) ≤ 57) → (3 - l5_1) < n1 → FW YC G C 6 x 6 [(0, vr G r), (1, vr G 1), (2, vi p), (3, vi w), (4, vi l4_1), (5, vi l5_1)] [] := by
    intro n1
    induction n1 with
    | zero =>
      intro l4_1 l5_1 g1_0 g1_1 g1_2 g1_3 g1_4 g1_5 g1_6
      exfalso; omega
    | succ n1 ih1 =>
      intro l4_1 l5_1 g1_0 g1_1 g1_2 g1_3 g1_4 g1_5 g1_6
      have kd := @dgn_c f w p
      have j0 : l5_1 = 0 → x 2 (p + l5_1) = f p := fun q => by rw [q, e0, Int.add_zero]
      have j1 : l5_1 = 1 → x 2 (p + l5_1) = f (p + 1) := fun q => by rw [q, e0]
      have j2 : l5_1 = 2 → x 2 (p + l5_1) = f (p + 1 + 1) := fun q => by rw [q, e0, show p + 2 = p + 1 + 1 by omega]
      refine fr_iload h 5 rfl dX7_readNumber_6 ?_
      refine fr_iconst h dX7_readNumber_8 ?_
      refine fr_icmp_ge (tgt := 53) h dX7_readNumber_9 (by decide) (by omega) (by omega) (fun c2 => ?_) (fun c2 => ?_)
      ·
        refine fr_aload_n h rfl 0 rfl dX7_readNumber_53 ?_
        refine fr_iload h 4 rfl dX7_readNumber_54 ?_
        refine fr_cvV h kX7 (Ru_at hr) wX7_addStep lX7_40 (c_X7_addStep x r hr l4_1 (by omega)) rfl (by decide) (by decide) rfl (Nat.le_of_ble_eq_true rfl) dX7_readNumber_56 (fun x3 p6 => ?_)
        obtain ⟨p7, p8, f9⟩ := p6
        refine fr_iload h 5 rfl dX7_readNumber_59 ?_
        exact fr_iret h hq (by omega) ⟨(by omega), (by omega), (by omega), (by omega), (by omega), (fun a k0 => (f9 a (by omega)))⟩ dX7_readNumber_61
      ·
        refine fr_iload_n h rfl 2 rfl dX7_readNumber_12 ?_
        refine fr_iload h 5 rfl dX7_readNumber_13 ?_
        refine fr_iadd h dX7_readNumber_15 ?_
        refine fr_iload_n h rfl 3 rfl dX7_readNumber_16 ?_
        refine fr_icmp_ge (tgt := 53) h dX7_readNumber_17 (by decide) (by omega) (by omega) (fun c10 => ?_) (fun c10 => ?_)
        ·
          refine fr_aload_n h rfl 0 rfl dX7_readNumber_53 ?_
          refine fr_iload h 4 rfl dX7_readNumber_54 ?_
          refine fr_cvV h kX7 (Ru_at hr) wX7_addStep lX7_40 (c_X7_addStep x r hr l4_1 (by omega)) rfl (by decide) (by decide) rfl (Nat.le_of_ble_eq_true rfl) dX7_readNumber_56 (fun x11 p14 => ?_)
          obtain ⟨p15, p16, f17⟩ := p14
          refine fr_iload h 5 rfl dX7_readNumber_59 ?_
          exact fr_iret h hq (by omega) ⟨(by omega), (by omega), (by omega), (by omega), (by omega), (fun a k0 => (f17 a (by omega)))⟩ dX7_readNumber_61
        ·
          refine fr_aload_n h rfl 1 rfl dX7_readNumber_20 ?_
          refine fr_iload_n h rfl 2 rfl dX7_readNumber_21 ?_
          refine fr_iload h 5 rfl dX7_readNumber_22 ?_
          refine fr_iadd h dX7_readNumber_24 ?_
          refine fr_cvI h kX9 at_1 wX9_hasDigit lX7_65 (c_X9_hasDigit x (p + l5_1) (by omega)) rfl (by decide) (by decide) rfl (Nat.le_of_ble_eq_true rfl) dX7_readNumber_25 (fun z19 x18 w20 p21 => ?_)
          obtain ⟨p22, p23, y24⟩ := p21
          rw [y24]
          clear y24
          refine fr_if_eq (tgt := 53) h dX7_readNumber_28 (by decide) (by omega) (fun c25 => ?_) (fun c25 => ?_)
          ·
            refine fr_aload_n h rfl 0 rfl dX7_readNumber_53 ?_
            refine fr_iload h 4 rfl dX7_readNumber_54 ?_
            refine fr_cvV h kX7 (Ru_at hr) wX7_addStep lX7_40 (c_X7_addStep x r hr l4_1 (by omega)) rfl (by decide) (by decide) rfl (Nat.le_of_ble_eq_true rfl) dX7_readNumber_56 (fun x26 p29 => ?_)
            obtain ⟨p30, p31, f32⟩ := p29
            refine fr_iload h 5 rfl dX7_readNumber_59 ?_
            exact fr_iret h hq (by omega) ⟨(by omega), (by omega), (by omega), (by omega), (by omega), (fun a k0 => (f32 a (by omega)))⟩ dX7_readNumber_61
          ·
            refine fr_bipush h rfl dX7_readNumber_31 ?_
            refine fr_iload h 4 rfl dX7_readNumber_33 ?_
            refine fr_imul h dX7_readNumber_35 ?_
            refine fr_normi (fun z33 w34 q35 => ?_)
            have w36 : fm_r ((10 * l4_1)) → z33 = (10 * l4_1) := fun q => (iI_inj q w34 q35).symm
            refine fr_aload_n h rfl 1 rfl dX7_readNumber_36 ?_
            refine fr_iload_n h rfl 2 rfl dX7_readNumber_37 ?_
            refine fr_iload h 5 rfl dX7_readNumber_38 ?_
            refine fr_iadd h dX7_readNumber_40 ?_
            refine fr_cvI h kX9 at_1 wX9_digit lX7_82 (c_X9_digit x (p + l5_1) (by omega)) rfl (by decide) (by decide) rfl (Nat.le_of_ble_eq_true rfl) dX7_readNumber_41 (fun z38 x37 w39 p40 => ?_)
            obtain ⟨p41, p42, p43, y44⟩ := p40
            rw [y44]
            clear y44
            refine fr_iadd h dX7_readNumber_44 ?_
            refine fr_normi (fun z45 w46 q47 => ?_)
            have w48 : fm_r ((z33 + z38)) → z45 = (z33 + z38) := fun q => (iI_inj q w46 q47).symm
            refine fr_istore (L' := [(0, vr G r), (1, vr G 1), (2, vi p), (3, vi w), (4, vi z45), (5, vi l5_1)]) h dX7_readNumber_45 (by decide) [1, 2, 3, 4, 0, 5] rfl ?_
            refine fr_iinc (j := 5) (L' := [(0, vr G r), (1, vr G 1), (2, vi p), (3, vi w), (4, vi z45), (5, vi (l5_1 + 1))]) h dX7_readNumber_47 rfl (by decide) [1, 2, 3, 4, 5, 0] rfl ?_
            refine fr_goto (tgt := 6) h dX7_readNumber_50 (by decide) ?_
            exact ih1 z45 (l5_1 + 1) (by omega) (by omega) (by omega) (by omega) (by omega) (by omega) (by omega)
  exact HL1 ((3 - 0) + 1 : Int).toNat 0 0 (by omega) (by omega) (by omega) (by omega) (by omega) (by omega) (by omega)
set_option maxHeartbeats 200000 in
theorem d_X7_closeBracket (x : Mm) (r : Int) (hr : isRu r) (e0 : RuP x r) : CnI YC yX7_closeBracket cX7_closeBracket 1 .boolean 2 42 (fun G => [vr G r]) x (fun z y' => (z = 0 ∨ z = 1) ∧ (RuP y' r) ∧ (y' r 5 ≤ x r 5) ∧ (z = 0 → x r 6 = 0) ∧ (z = 1 → 0 < x r 6 ∧ y' r 6 = x r 6 - 1) ∧ (y' (r + 3) = x (r + 3)) ∧ (∀ a : Int, (a < r ∨ r + 4 < a) → y' a = x a)) := by
  refine cn_I (by decide) (fun _ => Nat.le_of_ble_eq_true rfl) (fun G C h hq => ?_)
  have h : OK YC G C cX7_closeBracket RX7 1 (some .boolean) 2 42 := h
  show FW YC G C 1 x 0 [(0, vr G r)] []
  have h_r := Ru_b hr
  refine fr_aload_n h rfl 0 rfl dX7_closeBracket_0 ?_
  refine fr_geti (iz := 6) h kX7 fX7_32 (Ru_at hr) rfl rfl (by decide) (by decide) (Ru_f6 hr) dX7_closeBracket_1 (fun z1 w2 w3 q4 => ?_)
  subst q4
  refine fr_if_ne (tgt := 9) h dX7_closeBracket_4 (by decide) (by omega) (fun c5 => ?_) (fun c5 => ?_)
  ·
    refine fr_aload_n h rfl 0 rfl dX7_closeBracket_9 ?_
    refine fr_iconst h dX7_closeBracket_10 ?_
    refine fr_cvV h kX7 (Ru_at hr) wX7_release lX7_62 (c_X7_release x r hr 1 (by omega) e0) rfl (by decide) (by decide) rfl (Nat.le_of_ble_eq_true rfl) dX7_closeBracket_11 (fun x6 p9 => ?_)
    obtain ⟨p10, p11, p12, p13, f14⟩ := p9
    have hps := RuP_pos p10 (by omega)
    refine fr_aload_n h rfl 0 rfl dX7_closeBracket_14 ?_
    refine fr_dup h rfl dX7_closeBracket_15 ?_
    refine fr_geti (iz := 5) h kX7 fX7_29 (Ru_at hr) rfl rfl (by decide) (by decide) (Ru_f5 hr) dX7_closeBracket_16 (fun z15 w16 w17 q18 => ?_)
    subst q18
    refine fr_iconst h dX7_closeBracket_19 ?_
    refine fr_isub h dX7_closeBracket_20 ?_
    refine fr_puti (iz := 5) h kX7 fX7_29 (Ru_at hr) rfl rfl (by decide) (by decide) rfl (by decide +kernel) (Ru_f5 hr) (by omega) (by omega) dX7_closeBracket_21 ?_
    refine fr_mem (fun x19 m20 => ?_)
    refine fr_aload_n h rfl 0 rfl dX7_closeBracket_24 ?_
    refine fr_dup h rfl dX7_closeBracket_25 ?_
    refine fr_geti (iz := 6) h kX7 fX7_32 (Ru_at hr) rfl rfl (by decide) (by decide) (Ru_f6 hr) dX7_closeBracket_26 (fun z21 w22 w23 q24 => ?_)
    have r25 := q24.trans (fm_rd_i (a := r) (b := 6) m20 (by decide))
    subst q24
    refine fr_iconst h dX7_closeBracket_29 ?_
    refine fr_isub h dX7_closeBracket_30 ?_
    refine fr_puti (iz := 6) h kX7 fX7_32 (Ru_at hr) rfl rfl (by decide) (by decide) rfl (by decide +kernel) (Ru_f6 hr) (by omega) (by omega) dX7_closeBracket_31 ?_
    refine fr_mem (fun x26 m27 => ?_)
    refine fr_iconst h dX7_closeBracket_34 ?_
    have r28 := (fm_rd_i (a := r) (b := 5) m27 (by decide))
    have r29 := r28.trans (fm_rd_s m20)
    have r30 := (fm_rd_s m27)
    have r31 := (fm_rd_i (a := r) (b := 5) m27 (by decide))
    have r32 := r31.trans (fm_rd_s m20)
    have r33 := (fm_rd_s m27)
    exact fr_zret h rfl hq (by omega) ⟨(by omega), (RuP_pop p10 (by omega) (by omega) ((fm_up_row m27 (by omega)).trans (fm_up_row m20 (by omega))) (by rw [if_pos (by omega)]; omega)), (by omega), (by omega), (by omega), ((fm_up_row m27 (by omega)).trans ((fm_up_row m20 (by omega)).trans (f14 (r + 3) (by omega)))), (fun a k0 => ((fm_up_row m27 (by omega)).trans ((fm_up_row m20 (by omega)).trans (f14 a (by omega)))))⟩ dX7_closeBracket_35
  ·
    refine fr_iconst h dX7_closeBracket_7 ?_
    exact fr_zret h rfl hq (by omega) ⟨(by omega), e0, (by omega), (by omega), (by omega), rfl, (fun a _ => rfl)⟩ dX7_closeBracket_8
set_option maxHeartbeats 400000 in
theorem d_X7_openBracket (x : Mm) (r : Int) (hr : isRu r) (e0 : RuP x r) (e1 : x r 5 ≤ 39) : CnI YC yX7_openBracket cX7_openBracket 1 .boolean 1 21 (fun G => [vr G r]) x (fun z y' => (z = 0 ∨ z = 1) ∧ (RuP y' r) ∧ (y' r 5 ≤ x r 5 + z) ∧ (z = 0 → 4 ≤ x r 6) ∧ (z = 1 → x r 6 < 4 ∧ y' r 6 = x r 6 + 1) ∧ (z = 1 → y' (r + 3) = upf (x (r + 3)) (x r 6 + 1) 0) ∧ (∀ a : Int, (a < r ∨ r + 4 < a) → y' a = x a)) := by
  refine cn_I (by decide) (fun _ => Nat.le_of_ble_eq_true rfl) (fun G C h hq => ?_)
  have h : OK YC G C cX7_openBracket RX7 1 (some .boolean) 1 21 := h
  show FW YC G C 1 x 0 [(0, vr G r)] []
  have h_r := Ru_b hr
  refine fr_aload_n h rfl 0 rfl dX7_openBracket_0 ?_
  refine fr_geti (iz := 6) h kX7 fX7_32 (Ru_at hr) rfl rfl (by decide) (by decide) (Ru_f6 hr) dX7_openBracket_1 (fun z1 w2 w3 q4 => ?_)
  subst q4
  refine fr_iconst h dX7_openBracket_4 ?_
  refine fr_icmp_lt (tgt := 10) h dX7_openBracket_5 (by decide) (by omega) (by omega) (fun c5 => ?_) (fun c5 => ?_)
  ·
    refine fr_aload_n h rfl 0 rfl dX7_openBracket_10 ?_
    refine fr_bipush h rfl dX7_openBracket_11 ?_
    refine fr_cvV h kX7 (Ru_at hr) wX7_hold lX7_72 (c_X7_hold x r hr 40 (by omega) (by omega) (by omega)) rfl (by decide) (by decide) rfl (Nat.le_of_ble_eq_true rfl) dX7_openBracket_13 (fun x6 p9 => ?_)
    obtain ⟨p10, p11, p12, f13⟩ := p9
    refine fr_aload_n h rfl 0 rfl dX7_openBracket_16 ?_
    refine fr_dup h rfl dX7_openBracket_17 ?_
    refine fr_geti (iz := 6) h kX7 fX7_32 (Ru_at hr) rfl rfl (by decide) (by decide) (Ru_f6 hr) dX7_openBracket_18 (fun z14 w15 w16 q17 => ?_)
    subst q17
    refine fr_iconst h dX7_openBracket_21 ?_
    refine fr_iadd h dX7_openBracket_22 ?_
    refine fr_puti (iz := 6) h kX7 fX7_32 (Ru_at hr) rfl rfl (by decide) (by decide) rfl (by decide +kernel) (Ru_f6 hr) (by omega) (by omega) dX7_openBracket_23 ?_
    refine fr_mem (fun x18 m19 => ?_)
    refine fr_aload_n h rfl 0 rfl dX7_openBracket_26 ?_
    refine fr_getc (z := (r + 3)) (iz := 2) h kX7 fX7_18 (Ru_at hr) rfl rfl (Ru_f2 hr) (by omega) dX7_openBracket_27 ?_
    refine fr_aload_n h rfl 0 rfl dX7_openBracket_30 ?_
    refine fr_geti (iz := 6) h kX7 fX7_32 (Ru_at hr) rfl rfl (by decide) (by decide) (Ru_f6 hr) dX7_openBracket_31 (fun z20 w21 w22 q23 => ?_)
    have r24 := q23.trans (fm_rd_s m19)
    subst q23
    refine fr_iconst h dX7_openBracket_34 ?_
    refine fr_zast h (Ru_a3 hr) (by omega) (by omega) (Ru_r3 hr (x18 r 6)) (by omega) (by omega) (by omega) dX7_openBracket_35 ?_
    refine fr_mem (fun x25 m26 => ?_)
    refine fr_iconst h dX7_openBracket_36 ?_
    have r27 := (fm_rd_k (a := r) (b := 5) m26 (by omega))
    have r28 := r27.trans (fm_rd_i (a := r) (b := 5) m19 (by decide))
    have r29 := (fm_rd_k (a := r) (b := 6) m26 (by omega))
    have r30 := r29.trans (fm_rd_s m19)
    have r31 := (fm_rd_k (a := r) (b := 5) m26 (by omega))
    have r32 := r31.trans (fm_rd_i (a := r) (b := 5) m19 (by decide))
    have r33 := (fm_rd_k (a := r) (b := 6) m26 (by omega))
    have r34 := r33.trans (fm_rd_s m19)
    exact fr_zret h rfl hq (by omega) ⟨(by omega), (RuP_push (x := x) (v := 40) e0 (by omega) ((congrFun ((fm_up_row m26 (by omega)).trans (fm_up_row m19 (by omega))) _).trans (p11 (by omega)).2) (fun j hj => (congrFun ((fm_up_row m26 (by omega)).trans (fm_up_row m19 (by omega))) j).trans (p12 j hj)) (Or.inl rfl) (by rw [if_pos rfl]; omega)), (by omega), (by omega), (by omega), (fun _ => (funext (fun j => by by_cases q : j = (x18 r 6); (rw [q, fm_rd_s m26, show (x18 r 6) = x r 6 + 1 by omega, upf_s]); (rw [upf_o (show j ≠ x r 6 + 1 by omega)]; exact (fm_rd_i (a := (r + 3)) (b := j) m26 q).trans (congrFun ((fm_up_row m19 (by omega)).trans (f13 (r + 3) (by omega) (by omega))) j))))), (fun a k0 => ((fm_up_row m26 (by omega)).trans ((fm_up_row m19 (by omega)).trans (f13 a (by omega) (by omega)))))⟩ dX7_openBracket_37
  ·
    refine fr_iconst h dX7_openBracket_8 ?_
    exact fr_zret h rfl hq (by omega) ⟨(by omega), e0, (by omega), (by omega), (by omega), (fun q => by exfalso; omega), (fun a _ => rfl)⟩ dX7_openBracket_9
set_option maxHeartbeats 1000000 in
theorem d_X7_goOn (x : Mm) (r : Int) (hr : isRu r) (p : Int) (f : Int → Int) (n : Int) (m : Int) (a : Int) (h_p : fm_r p) (e0 : 0 ≤ p) (e1 : p ≤ 255) (e2 : RuP x r) (e3 : x r 5 ≤ 39) (e4 : f a = p) (e5 : a < m) : CnI YC yX7_goOn cX7_goOn 3 .boolean 3 62 (fun G => [vr G r, vi p]) x (fun z y' => (z = 0 ∨ z = 1) ∧ (RuP y' r) ∧ (y' r 5 ≤ x r 5 + 1) ∧ (z = 0 → AQ f n m a 0 (x r 6) (x (r + 3)) = a) ∧ (z = 1 → p = 41 → AQ f n m a 0 (x r 6) (x (r + 3)) = AQ f n m (a + 1) 0 (y' r 6) (y' (r + 3))) ∧ (z = 1 → p ≠ 41 → AQ f n m a 0 (x r 6) (x (r + 3)) = AQ f n m (a + 1) 1 (y' r 6) (y' (r + 3))) ∧ (∀ a : Int, (a < r ∨ r + 4 < a) → y' a = x a)) := by
  refine cn_I (by decide) (fun _ => Nat.le_of_ble_eq_true rfl) (fun G C h hq => ?_)
  have h : OK YC G C cX7_goOn RX7 3 (some .boolean) 3 62 := h
  show FW YC G C 3 x 0 [(0, vr G r), (1, vi p)] []
  have h_r := Ru_b hr
  refine fr_iload_n h rfl 1 rfl dX7_goOn_0 ?_
  refine fr_bipush h rfl dX7_goOn_1 ?_
  refine fr_icmp_ne (tgt := 11) h dX7_goOn_3 (by decide) (by omega) (by omega) (fun c1 => ?_) (fun c1 => ?_)
  ·
    refine fr_iload_n h rfl 1 rfl dX7_goOn_11 ?_
    refine fr_csI h wX7_bindingOf lX7_89 (d_X7_bindingOf x p (by omega)) rfl (by decide) (by decide) rfl (Nat.le_of_ble_eq_true rfl) dX7_goOn_12 (fun z3 x2 w4 p5 => ?_)
    obtain ⟨p6, p7, p8, p9, p10, y11⟩ := p5
    rw [y11]
    clear y11
    refine fr_istore_n (L' := [(0, vr G r), (1, vi p), (2, vi z3)]) h rfl dX7_goOn_15 (by decide) [1, 2, 0] rfl ?_
    refine fr_iload_n h rfl 2 rfl dX7_goOn_16 ?_
    refine fr_if_ne (tgt := 22) h dX7_goOn_17 (by decide) (by omega) (fun c12 => ?_) (fun c12 => ?_)
    ·
      refine fr_iload_n h rfl 2 rfl dX7_goOn_22 ?_
      refine fr_iconst h dX7_goOn_23 ?_
      refine fr_icmp_ne (tgt := 51) h dX7_goOn_24 (by decide) (by omega) (by omega) (fun c13 => ?_) (fun c13 => ?_)
      ·
        refine fr_aload_n h rfl 0 rfl dX7_goOn_51 ?_
        refine fr_iload_n h rfl 2 rfl dX7_goOn_52 ?_
        refine fr_cvV h kX7 (Ru_at hr) wX7_release lX7_62 (c_X7_release x r hr z3 (by omega) e2) rfl (by decide) (by decide) rfl (Nat.le_of_ble_eq_true rfl) dX7_goOn_53 (fun x14 p17 => ?_)
        obtain ⟨p18, p19, p20, p21, f22⟩ := p17
        refine fr_aload_n h rfl 0 rfl dX7_goOn_56 ?_
        refine fr_iload_n h rfl 1 rfl dX7_goOn_57 ?_
        refine fr_cvV h kX7 (Ru_at hr) wX7_hold lX7_72 (c_X7_hold x14 r hr p (by omega) (by omega) (by omega)) rfl (by decide) (by decide) rfl (Nat.le_of_ble_eq_true rfl) dX7_goOn_58 (fun x23 p26 => ?_)
        obtain ⟨p27, p28, p29, f30⟩ := p26
        refine fr_iconst h dX7_goOn_61 ?_
        exact fr_zret h rfl hq (by omega) ⟨(by omega), (RuP_push (x := x14) (v := p) p18 (by omega) ((congrFun rfl _).trans (p28 (by omega)).2) (fun j hj => (congrFun rfl j).trans (p29 j hj)) (by omega) (by rw [if_neg (by omega)]; omega)), (by omega), (fun q => by exfalso; omega), (fun q q2 => by exfalso; omega), (fun _ _ => Eq.trans (AQ_bin (by omega) (by omega)) (AQ_eq rfl rfl (by omega) ((f30 (r + 3) (by omega) (by omega)).trans (f22 (r + 3) (by omega))).symm)), (fun a k0 => ((f30 a (by omega) (by omega)).trans (f22 a (by omega))))⟩ dX7_goOn_62
      ·
        refine fr_aload_n h rfl 0 rfl dX7_goOn_27 ?_
        refine fr_getc (z := (r + 3)) (iz := 2) h kX7 fX7_18 (Ru_at hr) rfl rfl (Ru_f2 hr) (by omega) dX7_goOn_28 ?_
        refine fr_aload_n h rfl 0 rfl dX7_goOn_31 ?_
        refine fr_geti (iz := 6) h kX7 fX7_32 (Ru_at hr) rfl rfl (by decide) (by decide) (Ru_f6 hr) dX7_goOn_32 (fun z31 w32 w33 q34 => ?_)
        subst q34
        refine fr_zald h (Ru_a3 hr) (by omega) (by omega) (Ru_r3 hr (x r 6)) dX7_goOn_35 (fun z35 w36 w37 q38 => ?_)
        refine fr_if_eq (tgt := 41) h dX7_goOn_36 (by decide) (by omega) (fun c39 => ?_) (fun c39 => ?_)
        ·
          refine fr_aload_n h rfl 0 rfl dX7_goOn_41 ?_
          refine fr_getc (z := (r + 3)) (iz := 2) h kX7 fX7_18 (Ru_at hr) rfl rfl (Ru_f2 hr) (by omega) dX7_goOn_42 ?_
          refine fr_aload_n h rfl 0 rfl dX7_goOn_45 ?_
          refine fr_geti (iz := 6) h kX7 fX7_32 (Ru_at hr) rfl rfl (by decide) (by decide) (Ru_f6 hr) dX7_goOn_46 (fun z40 w41 w42 q43 => ?_)
          subst q43
          refine fr_iconst h dX7_goOn_49 ?_
          refine fr_zast h (Ru_a3 hr) (by omega) (by omega) (Ru_r3 hr (x r 6)) (by omega) (by omega) (by omega) dX7_goOn_50 ?_
          refine fr_mem (fun x44 m45 => ?_)
          refine fr_aload_n h rfl 0 rfl dX7_goOn_51 ?_
          refine fr_iload_n h rfl 2 rfl dX7_goOn_52 ?_
          have r46 := (fm_rd_k (a := r) (b := 5) m45 (by omega))
          have r47 := (fm_rd_k (a := r) (b := 6) m45 (by omega))
          refine fr_cvV h kX7 (Ru_at hr) wX7_release lX7_62 (c_X7_release x44 r hr z3 (by omega) (RuP_keep e2 (by omega) (by omega) (fm_up_row m45 (by omega)))) rfl (by decide) (by decide) rfl (Nat.le_of_ble_eq_true rfl) dX7_goOn_53 (fun x48 p51 => ?_)
          obtain ⟨p52, p53, p54, p55, f56⟩ := p51
          refine fr_aload_n h rfl 0 rfl dX7_goOn_56 ?_
          refine fr_iload_n h rfl 1 rfl dX7_goOn_57 ?_
          refine fr_cvV h kX7 (Ru_at hr) wX7_hold lX7_72 (c_X7_hold x48 r hr p (by omega) (by omega) (by omega)) rfl (by decide) (by decide) rfl (Nat.le_of_ble_eq_true rfl) dX7_goOn_58 (fun x57 p60 => ?_)
          obtain ⟨p61, p62, p63, f64⟩ := p60
          refine fr_iconst h dX7_goOn_61 ?_
          have r65 := (fm_rd_k (a := r) (b := 5) m45 (by omega))
          have r66 := (fm_rd_k (a := r) (b := 6) m45 (by omega))
          have r67 := (fm_rd_k (a := r) (b := 6) m45 (by omega))
          have r68 := (fm_rd_k (a := r) (b := 5) m45 (by omega))
          have r69 := (fm_rd_k (a := r) (b := 6) m45 (by omega))
          have r70 := (fm_rd_k (a := r) (b := 6) m45 (by omega))
          exact fr_zret h rfl hq (by omega) ⟨(by omega), (RuP_push (x := x48) (v := p) p52 (by omega) ((congrFun rfl _).trans (p62 (by omega)).2) (fun j hj => (congrFun rfl j).trans (p63 j hj)) (by omega) (by rw [if_neg (by omega)]; omega)), (by omega), (fun q => by exfalso; omega), (fun q q2 => by exfalso; omega), (fun _ _ => Eq.trans (AQ_cmp (by omega) (by omega) (by omega)) (AQ_eq rfl rfl (by omega) ((fun _ => Eq.trans ((f64 (r + 3) (by omega) (by omega)).trans (f56 (r + 3) (by omega))) (funext (fun j => by by_cases q : j = (x r 6); (rw [q, fm_rd_s m45, show (x r 6) = x r 6 by omega, upf_s]); (rw [upf_o (show j ≠ x r 6 by omega)]; exact (fm_rd_i (a := (r + 3)) (b := j) m45 q).trans (congrFun rfl j))))) True.intro).symm)), (fun a k0 => ((f64 a (by omega) (by omega)).trans ((f56 a (by omega)).trans (fm_up_row m45 (by omega)))))⟩ dX7_goOn_62
        ·
          refine fr_iconst h dX7_goOn_39 ?_
          exact fr_zret h rfl hq (by omega) ⟨(by omega), e2, (by omega), (fun _ => AQ_cmx (by omega) (by omega) (by omega)), (fun q q2 => by exfalso; omega), (fun q q2 => by exfalso; omega), (fun a _ => rfl)⟩ dX7_goOn_40
    ·
      refine fr_iconst h dX7_goOn_20 ?_
      exact fr_zret h rfl hq (by omega) ⟨(by omega), e2, (by omega), (fun _ => AQ_ox (by omega) (by omega) (by omega) (by omega)), (fun q q2 => by exfalso; omega), (fun q q2 => by exfalso; omega), (fun a _ => rfl)⟩ dX7_goOn_21
  ·
    refine fr_aload_n h rfl 0 rfl dX7_goOn_6 ?_
    refine fr_cvI h kX7 (Ru_at hr) wX7_closeBracket lX7_86 (d_X7_closeBracket x r hr e2) rfl (by decide) (by decide) rfl (Nat.le_of_ble_eq_true rfl) dX7_goOn_7 (fun z72 x71 w73 p74 => ?_)
    obtain ⟨p75, p76, p77, p78, p79, p80, f81⟩ := p74
    exact fr_zret h (nr_z (by omega) (by omega)) hq (by omega) ⟨(by omega), p76, (by omega), (fun q => AQ_clx (by omega) (by omega) (by omega)), (fun _ _ => Eq.trans (AQ_cls (by omega) (by omega) (by omega)) (AQ_eq rfl rfl (by omega) p80.symm)), (fun q q2 => by exfalso; omega), (fun a k0 => (f81 a (by omega)))⟩ dX7_goOn_10
set_option maxHeartbeats 1000000 in
theorem d_X7_startThing (x : Mm) (r : Int) (hr : isRu r) (p : Int) (w : Int) (f : Int → Int) (n : Int) (h_p : fm_r p) (h_w : fm_r w) (e0 : RuP x r) (e1 : x r 5 ≤ 39) (e2 : x 2 = f) (e3 : x 1 1 = n) (e4 : 0 ≤ p) (e5 : p ≤ 80) (e6 : p < w) (e7 : w ≤ n) : CnI YC yX7_startThing cX7_startThing 5 .int 3 67 (fun G => [vr G r, vr G 1, vi p, vi w]) x (fun z y' => (0 ≤ z) ∧ (z ≤ 3) ∧ (RuP y' r) ∧ (y' r 5 ≤ x r 5 + z) ∧ (z = 0 → AQ f n w p 1 (x r 6) (x (r + 3)) = p) ∧ (z ≠ 0 → (f p = 45 ∨ f p = 40) → AQ f n w p 1 (x r 6) (x (r + 3)) = AQ f n w (p + z) 1 (y' r 6) (y' (r + 3))) ∧ (z ≠ 0 → ¬ (f p = 45 ∨ f p = 40) → AQ f n w p 1 (x r 6) (x (r + 3)) = AQ f n w (p + z) 0 (y' r 6) (y' (r + 3))) ∧ (∀ a : Int, (a < r ∨ r + 4 < a) → y' a = x a)) := by
  refine cn_I (by decide) (fun _ => Nat.le_of_ble_eq_true rfl) (fun G C h hq => ?_)
  have h : OK YC G C cX7_startThing RX7 5 (some .int) 3 67 := h
  show FW YC G C 5 x 0 [(0, vr G r), (1, vr G 1), (2, vi p), (3, vi w)] []
  have h_r := Ru_b hr
  have kf : x 2 p = f p := by rw [e2]
  refine fr_aload_n h rfl 1 rfl dX7_startThing_0 ?_
  refine fr_iload_n h rfl 2 rfl dX7_startThing_1 ?_
  refine fr_cvI h kX9 at_1 wX9_at lX7_50 (c_X9_at x p (by omega)) rfl (by decide) (by decide) rfl (Nat.le_of_ble_eq_true rfl) dX7_startThing_2 (fun z2 x1 w3 p4 => ?_)
  obtain ⟨p5, p6, p7, p8, y9⟩ := p4
  rw [y9]
  clear y9
  refine fr_istore (L' := [(0, vr G r), (1, vr G 1), (2, vi p), (3, vi w), (4, vi z2)]) h dX7_startThing_5 (by decide) [1, 2, 3, 4, 0] rfl ?_
  refine fr_aload_n h rfl 1 rfl dX7_startThing_7 ?_
  refine fr_iload_n h rfl 2 rfl dX7_startThing_8 ?_
  refine fr_cvI h kX9 at_1 wX9_hasDigit lX7_65 (c_X9_hasDigit x p (by omega)) rfl (by decide) (by decide) rfl (Nat.le_of_ble_eq_true rfl) dX7_startThing_9 (fun z11 x10 w12 p13 => ?_)
  obtain ⟨p14, p15, y16⟩ := p13
  rw [y16]
  clear y16
  refine fr_if_eq (tgt := 23) h dX7_startThing_12 (by decide) (by omega) (fun c17 => ?_) (fun c17 => ?_)
  ·
    refine fr_iload h 4 rfl dX7_startThing_23 ?_
    refine fr_bipush h rfl dX7_startThing_25 ?_
    refine fr_icmp_ne (tgt := 39) h dX7_startThing_27 (by decide) (by omega) (by omega) (fun c18 => ?_) (fun c18 => ?_)
    ·
      refine fr_iload h 4 rfl dX7_startThing_39 ?_
      refine fr_bipush h rfl dX7_startThing_41 ?_
      refine fr_icmp_ne (tgt := 59) h dX7_startThing_43 (by decide) (by omega) (by omega) (fun c19 => ?_) (fun c19 => ?_)
      ·
        refine fr_iload h 4 rfl dX7_startThing_59 ?_
        refine fr_csI h wX7_isLetter lX7_79 (d_X7_isLetter x z2 (by omega)) rfl (by decide) (by decide) rfl (Nat.le_of_ble_eq_true rfl) dX7_startThing_61 (fun z21 x20 w22 p23 => ?_)
        obtain ⟨p24, p25, y26⟩ := p23
        rw [y26]
        clear y26
        refine fr_if_ne (tgt := 69) h dX7_startThing_64 (by decide) (by omega) (fun c27 => ?_) (fun c27 => ?_)
        ·
          refine fr_aload_n h rfl 0 rfl dX7_startThing_69 ?_
          refine fr_sipush h rfl dX7_startThing_70 ?_
          refine fr_iload h 4 rfl dX7_startThing_73 ?_
          refine fr_iadd h dX7_startThing_75 ?_
          refine fr_cvV h kX7 (Ru_at hr) wX7_addStep lX7_40 (c_X7_addStep x r hr (1000 + z2) (by omega)) rfl (by decide) (by decide) rfl (Nat.le_of_ble_eq_true rfl) dX7_startThing_76 (fun x28 p31 => ?_)
          obtain ⟨p32, p33, f34⟩ := p31
          refine fr_iconst h dX7_startThing_79 ?_
          exact fr_iret h hq (by omega) ⟨(by omega), (by omega), (RuP_keep e0 (by omega) (by omega) (f34 (r + 2) (by omega))), (by omega), (fun q => by exfalso; omega), (fun q q2 => by exfalso; omega), (fun _ _ => Eq.trans (AQ_let (by omega) (by omega)) (AQ_eq (by omega) rfl (by omega) (f34 (r + 3) (by omega)).symm)), (fun a k0 => (f34 a (by omega)))⟩ dX7_startThing_80
        ·
          refine fr_iconst h dX7_startThing_67 ?_
          exact fr_iret h hq (by omega) ⟨(by omega), (by omega), e0, (by omega), (fun _ => AQ_wx (by omega) (by omega) (by omega) (by omega) (by omega)), (fun q q2 => by exfalso; omega), (fun q q2 => by exfalso; omega), (fun a _ => rfl)⟩ dX7_startThing_68
      ·
        refine fr_aload_n h rfl 0 rfl dX7_startThing_46 ?_
        refine fr_cvI h kX7 (Ru_at hr) wX7_openBracket lX7_75 (d_X7_openBracket x r hr e0 (by omega)) rfl (by decide) (by decide) rfl (Nat.le_of_ble_eq_true rfl) dX7_startThing_47 (fun z36 x35 w37 p38 => ?_)
        obtain ⟨p39, p40, p41, p42, p43, p44, f45⟩ := p38
        refine fr_if_eq (tgt := 57) h dX7_startThing_50 (by decide) (by omega) (fun c46 => ?_) (fun c46 => ?_)
        ·
          refine fr_iconst h dX7_startThing_57 ?_
          exact fr_iret h hq (by omega) ⟨(by omega), (by omega), p40, (by omega), (fun _ => AQ_opx (by omega) (by omega) (by omega)), (fun q q2 => by exfalso; omega), (fun q q2 => by exfalso; omega), (fun a k0 => (f45 a (by omega)))⟩ dX7_startThing_58
        ·
          refine fr_iconst h dX7_startThing_53 ?_
          refine fr_goto (tgt := 58) h dX7_startThing_54 (by decide) ?_
          exact fr_iret h hq (by omega) ⟨(by omega), (by omega), p40, (by omega), (fun q => by exfalso; omega), (fun _ _ => Eq.trans (AQ_opn (by omega) (by omega) (by omega)) (AQ_eq (by omega) rfl (by omega) (p44 (by omega)).symm)), (fun q q2 => by exfalso; omega), (fun a k0 => (f45 a (by omega)))⟩ dX7_startThing_58
    ·
      refine fr_aload_n h rfl 0 rfl dX7_startThing_30 ?_
      refine fr_sipush h rfl dX7_startThing_31 ?_
      refine fr_cvV h kX7 (Ru_at hr) wX7_hold lX7_72 (c_X7_hold x r hr 256 (by omega) (by omega) (by omega)) rfl (by decide) (by decide) rfl (Nat.le_of_ble_eq_true rfl) dX7_startThing_34 (fun x47 p50 => ?_)
      obtain ⟨p51, p52, p53, f54⟩ := p50
      refine fr_iconst h dX7_startThing_37 ?_
      exact fr_iret h hq (by omega) ⟨(by omega), (by omega), (RuP_push (x := x) (v := 256) e0 (by omega) ((congrFun rfl _).trans (p52 (by omega)).2) (fun j hj => (congrFun rfl j).trans (p53 j hj)) (by decide) (by rw [if_neg (by decide)]; omega)), (by omega), (fun q => by exfalso; omega), (fun _ _ => Eq.trans (AQ_neg (by omega) (by omega)) (AQ_eq (by omega) rfl (by omega) (f54 (r + 3) (by omega) (by omega)).symm)), (fun q q2 => by exfalso; omega), (fun a k0 => (f54 a (by omega) (by omega)))⟩ dX7_startThing_38
  ·
    refine fr_aload_n h rfl 0 rfl dX7_startThing_15 ?_
    refine fr_aload_n h rfl 1 rfl dX7_startThing_16 ?_
    refine fr_iload_n h rfl 2 rfl dX7_startThing_17 ?_
    refine fr_iload_n h rfl 3 rfl dX7_startThing_18 ?_
    refine fr_cvI h kX7 (Ru_at hr) wX7_readNumber lX7_69 (d_X7_readNumber x r hr p w f n (by omega) (by omega) e2 (by omega) (by omega) (by omega) (by omega) (by omega) (by omega) (by omega)) rfl (by decide) (by decide) rfl (Nat.le_of_ble_eq_true rfl) dX7_startThing_19 (fun z56 x55 w57 p58 => ?_)
    obtain ⟨p59, p60, p61, p62, p63, f64⟩ := p58
    exact fr_iret h hq (by omega) ⟨(by omega), (by omega), (RuP_keep e0 (by omega) (by omega) (f64 (r + 2) (by omega))), (by omega), (fun q => by exfalso; omega), (fun q q2 => by exfalso; omega), (fun _ _ => Eq.trans (AQ_dig (by omega) (by omega) (by omega)) (AQ_eq (by omega) rfl (by omega) (f64 (r + 3) (by omega)).symm)), (fun a k0 => (f64 a (by omega)))⟩ dX7_startThing_22
set_option maxHeartbeats 4000000 in
theorem d_X7_read (x : Mm) (r : Int) (hr : isRu r) : CnI YC yX7_read cX7_read 7 .int 4 91 (fun G => [vr G r, vr G 1]) x (fun z y' => ((-1) ≤ z) ∧ (z ≤ 40) ∧ (x 1 1 = 0 → z = (-1)) ∧ (0 < x 1 1 → z = ARd (x 2) (x 1 1)) ∧ (∀ a : Int, (a < r ∨ r + 4 < a) → y' a = x a)) := by
  refine cn_I (by decide) (fun _ => Nat.le_of_ble_eq_true rfl) (fun G C h hq => ?_)
  have h : OK YC G C cX7_read RX7 7 (some .int) 4 91 := h
  show FW YC G C 7 x 0 [(0, vr G r), (1, vr G 1)] []
  have h_r := Ru_b hr
  refine fr_aload_n h rfl 0 rfl dX7_read_0 ?_
  refine fr_iconst h dX7_read_1 ?_
  refine fr_puti (iz := 4) h kX7 fX7_25 (Ru_at hr) rfl rfl (by decide) (by decide) rfl (by decide +kernel) (Ru_f4 hr) (by omega) (by omega) dX7_read_2 ?_
  refine fr_mem (fun x1 m2 => ?_)
  refine fr_aload_n h rfl 0 rfl dX7_read_5 ?_
  refine fr_iconst h dX7_read_6 ?_
  refine fr_puti (iz := 5) h kX7 fX7_29 (Ru_at hr) rfl rfl (by decide) (by decide) rfl (by decide +kernel) (Ru_f5 hr) (by omega) (by omega) dX7_read_7 ?_
  refine fr_mem (fun x3 m4 => ?_)
  refine fr_aload_n h rfl 0 rfl dX7_read_10 ?_
  refine fr_iconst h dX7_read_11 ?_
  refine fr_puti (iz := 6) h kX7 fX7_32 (Ru_at hr) rfl rfl (by decide) (by decide) rfl (by decide +kernel) (Ru_f6 hr) (by omega) (by omega) dX7_read_12 ?_
  refine fr_mem (fun x5 m6 => ?_)
  refine fr_aload_n h rfl 0 rfl dX7_read_15 ?_
  refine fr_getc (z := (r + 3)) (iz := 2) h kX7 fX7_18 (Ru_at hr) rfl rfl (Ru_f2 hr) (by omega) dX7_read_16 ?_
  refine fr_iconst h dX7_read_19 ?_
  refine fr_iconst h dX7_read_20 ?_
  refine fr_zast h (Ru_a3 hr) (by omega) (by omega) (Ru_r3 hr 0) (by omega) (by omega) (by omega) dX7_read_21 ?_
  refine fr_mem (fun x7 m8 => ?_)
  refine fr_aload_n h rfl 1 rfl dX7_read_22 ?_
  refine fr_cvI h kX9 at_1 wX9_length lX7_35 (c_X9_length x7) rfl (by decide) (by decide) rfl (Nat.le_of_ble_eq_true rfl) dX7_read_23 (fun z10 x9 w11 p12 => ?_)
  obtain ⟨p13, p14, p15, y16⟩ := p12
  rw [y16]
  clear y16
  have r17 := (fm_rd_k (a := 1) (b := 1) m8 (by omega))
  have r18 := r17.trans (fm_rd_k (a := 1) (b := 1) m6 (by omega))
  have r19 := r18.trans (fm_rd_k (a := 1) (b := 1) m4 (by omega))
  have r20 := r19.trans (fm_rd_k (a := 1) (b := 1) m2 (by omega))
  skip
  refine fr_if_ne (tgt := 38) h dX7_read_26 (by decide) (by omega) (fun c21 => ?_) (fun c21 => ?_)
  ·
    refine fr_aload_n h rfl 1 rfl dX7_read_38 ?_
    refine fr_cvI h kX9 at_1 wX9_length lX7_35 (c_X9_length x7) rfl (by decide) (by decide) rfl (Nat.le_of_ble_eq_true rfl) dX7_read_39 (fun z23 x22 w24 p25 => ?_)
    obtain ⟨p26, p27, p28, y29⟩ := p25
    rw [y29]
    clear y29
    refine fr_bipush h rfl dX7_read_42 ?_
    refine fr_mmin h (by omega) (by omega) (tb_2 (i := 156) (by decide +kernel) (by decide +kernel)) w_mmin (by decide) (by decide) (Nat.le_of_ble_eq_true rfl) dX7_read_44 (fun z30 w31 w32 w33 => ?_)
    refine fr_istore_n (L' := [(0, vr G r), (1, vr G 1), (2, vi z30)]) h rfl dX7_read_47 (by decide) [1, 2, 0] rfl ?_
    refine fr_iconst h dX7_read_48 ?_
    refine fr_istore_n (L' := [(0, vr G r), (1, vr G 1), (2, vi z30), (3, vi 1)]) h rfl dX7_read_49 (by decide) [1, 2, 3, 0] rfl ?_
    refine fr_iconst h dX7_read_50 ?_
    refine fr_istore (L' := [(0, vr G r), (1, vr G 1), (2, vi z30), (3, vi 1), (4, vi 0)]) h dX7_read_51 (by decide) [1, 2, 3, 4, 0] rfl ?_
    have HL34 : ∀ (n34 : Nat) (l3_34 l4_34 : Int) (x_34 : Mm), fm_r l3_34 → 0 ≤ l3_34 → l3_34 ≤ 1 → fm_r l4_34 → 0 ≤ l4_34 → l4_34 ≤ 43 → RuP x_34 r → x_34 r 5 ≤ l4_34 → z30 ≤ 40 → 0 < x 1 1 → ((x 1 1 ≤ 40 ∧ z30 = x 1 1) ∨ (40 < x 1 1 ∧ z30 = 40)) → AQ (x 2) (x 1 1) z30 l4_34 l3_34 (x_34 r 6) (x_34 (r + 3)) = ARd (x 2) (x 1 1) → (∀ a : Int, (a < r ∨ r + 4 < a) → x_34 a = x7 a) → (43 - l4_34) < n34 → FW YC G C 7 x_34 53 [(0, vr G r), (1, vr G 1), (2, vi z30), (3, vi l3_34), (4, vi l4_34)] [] := by
      intro n34
      induction n34 with
      | zero =>
        intro l3_34 l4_34 x_34 g34_0 g34_1 g34_2 g34_3 g34_4 g34_5 g34_6 g34_7 g34_8 g34_9 g34_10 g34_11 g34_12 g34_13
        exfalso; omega
      | succ n34 ih34 =>
        intro l3_34 l4_34 x_34 g34_0 g34_1 g34_2 g34_3 g34_4 g34_5 g34_6 g34_7 g34_8 g34_9 g34_10 g34_11 g34_12 g34_13
        refine fr_iload h 4 rfl dX7_read_53 ?_
        refine fr_iload_n h rfl 2 rfl dX7_read_55 ?_
        refine fr_icmp_ge (tgt := 150) h dX7_read_56 (by decide) (by omega) (by omega) (fun c35 => ?_) (fun c35 => ?_)
        ·
          skip
          refine fr_iload_n h rfl 3 rfl dX7_read_150 ?_
          refine fr_if_ne (tgt := 170) h dX7_read_151 (by decide) (by omega) (fun c36 => ?_) (fun c36 => ?_)
          ·
            refine fr_iload_n h rfl 2 rfl dX7_read_170 ?_
            exact fr_iret h hq (by omega) ⟨(by omega), (by omega), (by omega), (fun _ => (Eq.trans (Eq.symm g34_11) (Eq.trans (AQ_eq rfl (show l3_34 = (1 : Int) by omega) rfl rfl) (AQ_e1 (by omega)))).symm), (fun a k0 => ((g34_12 a (by omega)).trans ((fm_up_row m8 (by omega)).trans ((fm_up_row m6 (by omega)).trans ((fm_up_row m4 (by omega)).trans (fm_up_row m2 (by omega)))))))⟩ dX7_read_171
          ·
            refine fr_aload_n h rfl 0 rfl dX7_read_154 ?_
            refine fr_geti (iz := 6) h kX7 fX7_32 (Ru_at hr) rfl rfl (by decide) (by decide) (Ru_f6 hr) dX7_read_155 (fun z37 w38 w39 q40 => ?_)
            have r41 := (fm_rd_k (a := r) (b := 6) m8 (by omega))
            have r42 := r41.trans (fm_rd_s m6)
            refine fr_if_gt (tgt := 170) h dX7_read_158 (by decide) (by omega) (fun c43 => ?_) (fun c43 => ?_)
            ·
              refine fr_iload_n h rfl 2 rfl dX7_read_170 ?_
              exact fr_iret h hq (by omega) ⟨(by omega), (by omega), (by omega), (fun _ => (Eq.trans (Eq.symm g34_11) (Eq.trans (AQ_eq rfl (show l3_34 = (0 : Int) by omega) rfl rfl) (AQ_e2 (by omega) (by omega)))).symm), (fun a k0 => ((g34_12 a (by omega)).trans ((fm_up_row m8 (by omega)).trans ((fm_up_row m6 (by omega)).trans ((fm_up_row m4 (by omega)).trans (fm_up_row m2 (by omega)))))))⟩ dX7_read_171
            ·
              refine fr_aload_n h rfl 1 rfl dX7_read_161 ?_
              refine fr_cvI h kX9 at_1 wX9_length lX7_35 (c_X9_length x_34) rfl (by decide) (by decide) rfl (Nat.le_of_ble_eq_true rfl) dX7_read_162 (fun z45 x44 w46 p47 => ?_)
              obtain ⟨p48, p49, p50, y51⟩ := p47
              rw [y51]
              clear y51
              have r52 := (congrFun (g34_12 1 (by omega)) 1)
              have r53 := r52.trans (fm_rd_k (a := 1) (b := 1) m8 (by omega))
              have r54 := r53.trans (fm_rd_k (a := 1) (b := 1) m6 (by omega))
              have r55 := r54.trans (fm_rd_k (a := 1) (b := 1) m4 (by omega))
              have r56 := r55.trans (fm_rd_k (a := 1) (b := 1) m2 (by omega))
              skip
              refine fr_bipush h rfl dX7_read_165 ?_
              refine fr_icmp_le (tgt := 172) h dX7_read_167 (by decide) (by omega) (by omega) (fun c57 => ?_) (fun c57 => ?_)
              ·
                refine fr_aload_n h rfl 0 rfl dX7_read_172 ?_
                refine fr_iconst h dX7_read_173 ?_
                refine fr_cvV h kX7 (Ru_at hr) wX7_release lX7_62 (c_X7_release x_34 r hr 0 (by omega) g34_6) rfl (by decide) (by decide) rfl (Nat.le_of_ble_eq_true rfl) dX7_read_174 (fun x58 p61 => ?_)
                obtain ⟨p62, p63, p64, p65, f66⟩ := p61
                refine fr_iconst h dX7_read_177 ?_
                exact fr_iret h hq (by omega) ⟨(by omega), (by omega), (by omega), (fun _ => (Eq.trans (Eq.symm g34_11) (Eq.trans (AQ_eq rfl (show l3_34 = (0 : Int) by omega) rfl rfl) (AQ_e3 (by omega) (by omega) (by omega)))).symm), (fun a k0 => ((f66 a (by omega)).trans ((g34_12 a (by omega)).trans ((fm_up_row m8 (by omega)).trans ((fm_up_row m6 (by omega)).trans ((fm_up_row m4 (by omega)).trans (fm_up_row m2 (by omega))))))))⟩ dX7_read_178
              ·
                refine fr_iload_n h rfl 2 rfl dX7_read_170 ?_
                exact fr_iret h hq (by omega) ⟨(by omega), (by omega), (by omega), (fun _ => (Eq.trans (Eq.symm g34_11) (Eq.trans (AQ_eq rfl (show l3_34 = (0 : Int) by omega) rfl rfl) (AQ_e2 (by omega) (by omega)))).symm), (fun a k0 => ((g34_12 a (by omega)).trans ((fm_up_row m8 (by omega)).trans ((fm_up_row m6 (by omega)).trans ((fm_up_row m4 (by omega)).trans (fm_up_row m2 (by omega)))))))⟩ dX7_read_171
        ·
          skip
          have r67 := (congrFun (g34_12 1 (by omega)) 1)
          have r68 := r67.trans (fm_rd_k (a := 1) (b := 1) m8 (by omega))
          have r69 := r68.trans (fm_rd_k (a := 1) (b := 1) m6 (by omega))
          have r70 := r69.trans (fm_rd_k (a := 1) (b := 1) m4 (by omega))
          have r71 := r70.trans (fm_rd_k (a := 1) (b := 1) m2 (by omega))
          have ks : x_34 2 l4_34 = x 2 l4_34 := congrFun ((g34_12 2 (by omega)).trans ((fm_up_row m8 (by omega)).trans ((fm_up_row m6 (by omega)).trans ((fm_up_row m4 (by omega)).trans (fm_up_row m2 (by omega)))))) l4_34
          refine fr_aload_n h rfl 1 rfl dX7_read_59 ?_
          refine fr_iload h 4 rfl dX7_read_60 ?_
          refine fr_cvI h kX9 at_1 wX9_at lX7_50 (c_X9_at x_34 l4_34 (by omega)) rfl (by decide) (by decide) rfl (Nat.le_of_ble_eq_true rfl) dX7_read_62 (fun z73 x72 w74 p75 => ?_)
          obtain ⟨p76, p77, p78, p79, y80⟩ := p75
          rw [y80]
          clear y80
          refine fr_istore (L' := [(0, vr G r), (1, vr G 1), (2, vi z30), (3, vi l3_34), (4, vi l4_34), (5, vi z73)]) h dX7_read_65 (by decide) [1, 2, 3, 4, 5, 0] rfl ?_
          refine fr_iload_n h rfl 3 rfl dX7_read_67 ?_
          refine fr_if_eq (tgt := 119) h dX7_read_68 (by decide) (by omega) (fun c81 => ?_) (fun c81 => ?_)
          ·
            refine fr_aload_n h rfl 0 rfl dX7_read_119 ?_
            refine fr_iload h 5 rfl dX7_read_120 ?_
            have r82 := (fm_rd_k (a := r) (b := 5) m8 (by omega))
            have r83 := r82.trans (fm_rd_i (a := r) (b := 5) m6 (by decide))
            have r84 := r83.trans (fm_rd_s m4)
            refine fr_cvI h kX7 (Ru_at hr) wX7_goOn lX7_58 (d_X7_goOn x_34 r hr z73 (x 2) (x 1 1) z30 l4_34 (by omega) (by omega) (by omega) g34_6 (by omega) (by omega) (by omega)) rfl (by decide) (by decide) rfl (Nat.le_of_ble_eq_true rfl) dX7_read_122 (fun z86 x85 w87 p88 => ?_)
            obtain ⟨p89, p90, p91, p92, p93, p94, f95⟩ := p88
            refine fr_if_ne (tgt := 131) h dX7_read_125 (by decide) (by omega) (fun c96 => ?_) (fun c96 => ?_)
            ·
              refine fr_iload h 5 rfl dX7_read_131 ?_
              refine fr_bipush h rfl dX7_read_133 ?_
              refine fr_icmp_eq (tgt := 142) h dX7_read_135 (by decide) (by omega) (by omega) (fun c97 => ?_) (fun c97 => ?_)
              ·
                refine fr_iconst h dX7_read_142 ?_
                refine fr_istore_n (L' := [(0, vr G r), (1, vr G 1), (2, vi z30), (3, vi 0), (4, vi l4_34), (5, vi z73)]) h rfl dX7_read_143 (by decide) [1, 2, 3, 0, 4, 5] rfl ?_
                refine fr_iinc (j := 4) (L' := [(0, vr G r), (1, vr G 1), (2, vi z30), (3, vi 0), (4, vi (l4_34 + 1)), (5, vi z73)]) h dX7_read_144 rfl (by decide) [1, 2, 3, 4, 0, 5] rfl ?_
                refine fr_goto (tgt := 53) h dX7_read_147 (by decide) ?_
                refine fr_sub (L' := [(0, vr G r), (1, vr G 1), (2, vi z30), (3, vi 0), (4, vi (l4_34 + 1))]) [0, 1, 2, 3, 4] rfl ?_
                have r98 := (fm_rd_k (a := r) (b := 5) m8 (by omega))
                have r99 := r98.trans (fm_rd_i (a := r) (b := 5) m6 (by decide))
                have r100 := r99.trans (fm_rd_s m4)
                have r101 := (fm_rd_k (a := r) (b := 6) m8 (by omega))
                have r102 := r101.trans (fm_rd_s m6)
                exact ih34 0 (l4_34 + 1) x85 (by omega) (by omega) (by omega) (by omega) (by omega) (by omega) p90 (by omega) (by omega) (by omega) (by omega) (Eq.trans (Eq.symm (p93 (by omega) (by omega))) (Eq.trans (AQ_eq rfl (show (0 : Int) = l3_34 by omega) rfl rfl) g34_11)) (fun a k0 => ((f95 a (by omega)).trans (g34_12 a (by omega)))) (by omega)
              ·
                refine fr_iconst h dX7_read_138 ?_
                refine fr_goto (tgt := 143) h dX7_read_139 (by decide) ?_
                refine fr_istore_n (L' := [(0, vr G r), (1, vr G 1), (2, vi z30), (3, vi 1), (4, vi l4_34), (5, vi z73)]) h rfl dX7_read_143 (by decide) [1, 2, 3, 0, 4, 5] rfl ?_
                refine fr_iinc (j := 4) (L' := [(0, vr G r), (1, vr G 1), (2, vi z30), (3, vi 1), (4, vi (l4_34 + 1)), (5, vi z73)]) h dX7_read_144 rfl (by decide) [1, 2, 3, 4, 0, 5] rfl ?_
                refine fr_goto (tgt := 53) h dX7_read_147 (by decide) ?_
                refine fr_sub (L' := [(0, vr G r), (1, vr G 1), (2, vi z30), (3, vi 1), (4, vi (l4_34 + 1))]) [0, 1, 2, 3, 4] rfl ?_
                have r103 := (fm_rd_k (a := r) (b := 5) m8 (by omega))
                have r104 := r103.trans (fm_rd_i (a := r) (b := 5) m6 (by decide))
                have r105 := r104.trans (fm_rd_s m4)
                have r106 := (fm_rd_k (a := r) (b := 6) m8 (by omega))
                have r107 := r106.trans (fm_rd_s m6)
                exact ih34 1 (l4_34 + 1) x85 (by omega) (by omega) (by omega) (by omega) (by omega) (by omega) p90 (by omega) (by omega) (by omega) (by omega) (Eq.trans (Eq.symm (p94 (by omega) (by omega))) (Eq.trans (AQ_eq rfl (show (0 : Int) = l3_34 by omega) rfl rfl) g34_11)) (fun a k0 => ((f95 a (by omega)).trans (g34_12 a (by omega)))) (by omega)
            ·
              refine fr_iload h 4 rfl dX7_read_128 ?_
              exact fr_iret h hq (by omega) ⟨(by omega), (by omega), (by omega), (fun _ => (Eq.trans (Eq.symm g34_11) (Eq.trans (AQ_eq rfl (show l3_34 = (0 : Int) by omega) rfl rfl) (p92 (by omega)))).symm), (fun a k0 => ((f95 a (by omega)).trans ((g34_12 a (by omega)).trans ((fm_up_row m8 (by omega)).trans ((fm_up_row m6 (by omega)).trans ((fm_up_row m4 (by omega)).trans (fm_up_row m2 (by omega))))))))⟩ dX7_read_130
          ·
            refine fr_aload_n h rfl 0 rfl dX7_read_71 ?_
            refine fr_aload_n h rfl 1 rfl dX7_read_72 ?_
            refine fr_iload h 4 rfl dX7_read_73 ?_
            refine fr_iload_n h rfl 2 rfl dX7_read_75 ?_
            have r108 := (fm_rd_k (a := r) (b := 5) m8 (by omega))
            have r109 := r108.trans (fm_rd_i (a := r) (b := 5) m6 (by decide))
            have r110 := r109.trans (fm_rd_s m4)
            have r111 := (congrFun (g34_12 1 (by omega)) 1)
            have r112 := r111.trans (fm_rd_k (a := 1) (b := 1) m8 (by omega))
            have r113 := r112.trans (fm_rd_k (a := 1) (b := 1) m6 (by omega))
            have r114 := r113.trans (fm_rd_k (a := 1) (b := 1) m4 (by omega))
            have r115 := r114.trans (fm_rd_k (a := 1) (b := 1) m2 (by omega))
            refine fr_cvI h kX7 (Ru_at hr) wX7_startThing lX7_54 (d_X7_startThing x_34 r hr l4_34 z30 (x 2) (x 1 1) (by omega) (by omega) g34_6 (by omega) ((g34_12 2 (by omega)).trans ((fm_up_row m8 (by omega)).trans ((fm_up_row m6 (by omega)).trans ((fm_up_row m4 (by omega)).trans (fm_up_row m2 (by omega)))))) (by omega) (by omega) (by omega) (by omega) (by omega)) rfl (by decide) (by decide) rfl (Nat.le_of_ble_eq_true rfl) dX7_read_76 (fun z117 x116 w118 p119 => ?_)
            obtain ⟨p120, p121, p122, p123, p124, p125, p126, f127⟩ := p119
            refine fr_istore (L' := [(0, vr G r), (1, vr G 1), (2, vi z30), (3, vi l3_34), (4, vi l4_34), (5, vi z73), (6, vi z117)]) h dX7_read_79 (by decide) [1, 2, 3, 4, 5, 6, 0] rfl ?_
            refine fr_iload h 6 rfl dX7_read_81 ?_
            refine fr_if_ne (tgt := 89) h dX7_read_83 (by decide) (by omega) (fun c128 => ?_) (fun c128 => ?_)
            ·
              refine fr_iload h 5 rfl dX7_read_89 ?_
              refine fr_bipush h rfl dX7_read_91 ?_
              refine fr_icmp_eq (tgt := 103) h dX7_read_93 (by decide) (by omega) (by omega) (fun c129 => ?_) (fun c129 => ?_)
              ·
                refine fr_iconst h dX7_read_103 ?_
                refine fr_goto (tgt := 108) h dX7_read_104 (by decide) ?_
                refine fr_istore_n (L' := [(0, vr G r), (1, vr G 1), (2, vi z30), (3, vi 1), (4, vi l4_34), (5, vi z73), (6, vi z117)]) h rfl dX7_read_108 (by decide) [1, 2, 3, 0, 4, 5, 6] rfl ?_
                refine fr_iload h 4 rfl dX7_read_109 ?_
                refine fr_iload h 6 rfl dX7_read_111 ?_
                refine fr_iadd h dX7_read_113 ?_
                refine fr_istore (L' := [(0, vr G r), (1, vr G 1), (2, vi z30), (3, vi 1), (4, vi (l4_34 + z117)), (5, vi z73), (6, vi z117)]) h dX7_read_114 (by decide) [1, 2, 3, 4, 0, 5, 6] rfl ?_
                refine fr_goto (tgt := 147) h dX7_read_116 (by decide) ?_
                refine fr_goto (tgt := 53) h dX7_read_147 (by decide) ?_
                refine fr_sub (L' := [(0, vr G r), (1, vr G 1), (2, vi z30), (3, vi 1), (4, vi (l4_34 + z117))]) [0, 1, 2, 3, 4] rfl ?_
                have r130 := (fm_rd_k (a := r) (b := 5) m8 (by omega))
                have r131 := r130.trans (fm_rd_i (a := r) (b := 5) m6 (by decide))
                have r132 := r131.trans (fm_rd_s m4)
                have r133 := (fm_rd_k (a := r) (b := 6) m8 (by omega))
                have r134 := r133.trans (fm_rd_s m6)
                exact ih34 1 (l4_34 + z117) x116 (by omega) (by omega) (by omega) (by omega) (by omega) (by omega) p122 (by omega) (by omega) (by omega) (by omega) (Eq.trans (Eq.symm (p125 (by omega) (by omega))) (Eq.trans (AQ_eq rfl (show (1 : Int) = l3_34 by omega) rfl rfl) g34_11)) (fun a k0 => ((f127 a (by omega)).trans (g34_12 a (by omega)))) (by omega)
              ·
                refine fr_iload h 5 rfl dX7_read_96 ?_
                refine fr_bipush h rfl dX7_read_98 ?_
                refine fr_icmp_ne (tgt := 107) h dX7_read_100 (by decide) (by omega) (by omega) (fun c135 => ?_) (fun c135 => ?_)
                ·
                  refine fr_iconst h dX7_read_107 ?_
                  refine fr_istore_n (L' := [(0, vr G r), (1, vr G 1), (2, vi z30), (3, vi 0), (4, vi l4_34), (5, vi z73), (6, vi z117)]) h rfl dX7_read_108 (by decide) [1, 2, 3, 0, 4, 5, 6] rfl ?_
                  refine fr_iload h 4 rfl dX7_read_109 ?_
                  refine fr_iload h 6 rfl dX7_read_111 ?_
                  refine fr_iadd h dX7_read_113 ?_
                  refine fr_istore (L' := [(0, vr G r), (1, vr G 1), (2, vi z30), (3, vi 0), (4, vi (l4_34 + z117)), (5, vi z73), (6, vi z117)]) h dX7_read_114 (by decide) [1, 2, 3, 4, 0, 5, 6] rfl ?_
                  refine fr_goto (tgt := 147) h dX7_read_116 (by decide) ?_
                  refine fr_goto (tgt := 53) h dX7_read_147 (by decide) ?_
                  refine fr_sub (L' := [(0, vr G r), (1, vr G 1), (2, vi z30), (3, vi 0), (4, vi (l4_34 + z117))]) [0, 1, 2, 3, 4] rfl ?_
                  have r136 := (fm_rd_k (a := r) (b := 5) m8 (by omega))
                  have r137 := r136.trans (fm_rd_i (a := r) (b := 5) m6 (by decide))
                  have r138 := r137.trans (fm_rd_s m4)
                  have r139 := (fm_rd_k (a := r) (b := 6) m8 (by omega))
                  have r140 := r139.trans (fm_rd_s m6)
                  exact ih34 0 (l4_34 + z117) x116 (by omega) (by omega) (by omega) (by omega) (by omega) (by omega) p122 (by omega) (by omega) (by omega) (by omega) (Eq.trans (Eq.symm (p126 (by omega) (by omega))) (Eq.trans (AQ_eq rfl (show (1 : Int) = l3_34 by omega) rfl rfl) g34_11)) (fun a k0 => ((f127 a (by omega)).trans (g34_12 a (by omega)))) (by omega)
                ·
                  refine fr_iconst h dX7_read_103 ?_
                  refine fr_goto (tgt := 108) h dX7_read_104 (by decide) ?_
                  refine fr_istore_n (L' := [(0, vr G r), (1, vr G 1), (2, vi z30), (3, vi 1), (4, vi l4_34), (5, vi z73), (6, vi z117)]) h rfl dX7_read_108 (by decide) [1, 2, 3, 0, 4, 5, 6] rfl ?_
                  refine fr_iload h 4 rfl dX7_read_109 ?_
                  refine fr_iload h 6 rfl dX7_read_111 ?_
                  refine fr_iadd h dX7_read_113 ?_
                  refine fr_istore (L' := [(0, vr G r), (1, vr G 1), (2, vi z30), (3, vi 1), (4, vi (l4_34 + z117)), (5, vi z73), (6, vi z117)]) h dX7_read_114 (by decide) [1, 2, 3, 4, 0, 5, 6] rfl ?_
                  refine fr_goto (tgt := 147) h dX7_read_116 (by decide) ?_
                  refine fr_goto (tgt := 53) h dX7_read_147 (by decide) ?_
                  refine fr_sub (L' := [(0, vr G r), (1, vr G 1), (2, vi z30), (3, vi 1), (4, vi (l4_34 + z117))]) [0, 1, 2, 3, 4] rfl ?_
                  have r141 := (fm_rd_k (a := r) (b := 5) m8 (by omega))
                  have r142 := r141.trans (fm_rd_i (a := r) (b := 5) m6 (by decide))
                  have r143 := r142.trans (fm_rd_s m4)
                  have r144 := (fm_rd_k (a := r) (b := 6) m8 (by omega))
                  have r145 := r144.trans (fm_rd_s m6)
                  exact ih34 1 (l4_34 + z117) x116 (by omega) (by omega) (by omega) (by omega) (by omega) (by omega) p122 (by omega) (by omega) (by omega) (by omega) (Eq.trans (Eq.symm (p125 (by omega) (by omega))) (Eq.trans (AQ_eq rfl (show (1 : Int) = l3_34 by omega) rfl rfl) g34_11)) (fun a k0 => ((f127 a (by omega)).trans (g34_12 a (by omega)))) (by omega)
            ·
              refine fr_iload h 4 rfl dX7_read_86 ?_
              exact fr_iret h hq (by omega) ⟨(by omega), (by omega), (by omega), (fun _ => (Eq.trans (Eq.symm g34_11) (Eq.trans (AQ_eq rfl (show l3_34 = (1 : Int) by omega) rfl rfl) (p124 (by omega)))).symm), (fun a k0 => ((f127 a (by omega)).trans ((g34_12 a (by omega)).trans ((fm_up_row m8 (by omega)).trans ((fm_up_row m6 (by omega)).trans ((fm_up_row m4 (by omega)).trans (fm_up_row m2 (by omega))))))))⟩ dX7_read_88
    have r146 := (fm_rd_k (a := r) (b := 5) m8 (by omega))
    have r147 := r146.trans (fm_rd_i (a := r) (b := 5) m6 (by decide))
    have r148 := r147.trans (fm_rd_s m4)
    have r149 := (fm_rd_k (a := r) (b := 6) m8 (by omega))
    have r150 := r149.trans (fm_rd_s m6)
    have r151 := (fm_rd_k (a := r) (b := 5) m8 (by omega))
    have r152 := r151.trans (fm_rd_i (a := r) (b := 5) m6 (by decide))
    have r153 := r152.trans (fm_rd_s m4)
    have r154 := (fm_rd_k (a := r) (b := 6) m8 (by omega))
    have r155 := r154.trans (fm_rd_s m6)
    have r156 := (fm_rd_k (a := r) (b := 6) m8 (by omega))
    have r157 := r156.trans (fm_rd_s m6)
    exact HL34 ((43 - 0) + 1 : Int).toNat 1 0 x7 (by omega) (by omega) (by omega) (by omega) (by omega) (by omega) (RuP_0 (by omega) (by omega)) (by omega) (by omega) (by omega) (by omega) (Eq.trans (AQ_eq rfl rfl (show x7 r 6 = 0 by omega) rfl) (Eq.trans (AQ_c (by decide) (by decide) (fun j a b => (congrFun rfl j).trans (by rw [show j = 0 by omega]; exact fm_rd_s m8))) (ARd_m (by omega)).symm)) (fun a _ => rfl) (by omega)
  ·
    refine fr_aload_n h rfl 0 rfl dX7_read_29 ?_
    refine fr_sipush h rfl dX7_read_30 ?_
    refine fr_cvV h kX7 (Ru_at hr) wX7_addStep lX7_40 (c_X7_addStep x7 r hr 1115 (by omega)) rfl (by decide) (by decide) rfl (Nat.le_of_ble_eq_true rfl) dX7_read_33 (fun x158 p161 => ?_)
    obtain ⟨p162, p163, f164⟩ := p161
    refine fr_iconst h dX7_read_36 ?_
    exact fr_iret h hq (by omega) ⟨(by omega), (by omega), (by omega), (fun q => by exfalso; omega), (fun a k0 => ((f164 a (by omega)).trans ((fm_up_row m8 (by omega)).trans ((fm_up_row m6 (by omega)).trans ((fm_up_row m4 (by omega)).trans (fm_up_row m2 (by omega)))))))⟩ dX7_read_37
set_option maxHeartbeats 1000000 in
theorem d_X11_rule (x : Mm) (e0 : ((x 0 13 = 110 ∧ x 0 14 = 115) ∨ (x 0 13 = 115 ∧ x 0 14 = 110))) : CnI YC yX11_rule cX11_rule 3 .int 5 117 (fun G => [vr G 0]) x (fun z y' => (((y' 0 13 = 110 ∧ y' 0 14 = 115) ∨ (y' 0 13 = 115 ∧ y' 0 14 = 110))) ∧ (y' 1 1 = 0) ∧ (x 1 1 = 0 → z = 0) ∧ (0 < x 1 1 → (ARd (x 2) (x 1 1) = (-1) → z = 0) ∧ (ARd (x 2) (x 1 1) ≠ (-1) → z = -1 - ARd (x 2) (x 1 1))) ∧ (∀ a : Int, (a < 0 ∨ 2 < a) → (a < 79 ∨ 88 < a) → (a < 95 ∨ 97 < a) → (a < 110 ∨ 119 < a) → y' a = x a)) := by
  refine cn_I (by decide) (fun _ => Nat.le_of_ble_eq_true rfl) (fun G C h hq => ?_)
  have h : OK YC G C cX11_rule RX11 3 (some .int) 5 117 := h
  show FW YC G C 3 x 0 [(0, vr G 0)] []
  obtain ⟨r, hr, er⟩ : ∃ r : Int, isRu r ∧ x 0 13 = r := ⟨x 0 13, by unfold isRu; omega, rfl⟩
  have h_r := Ru_b hr
  obtain ⟨q, hq2, eq⟩ : ∃ q : Int, isRu q ∧ x 0 14 = q := ⟨x 0 14, by unfold isRu; omega, rfl⟩
  have h_q := Ru_b hq2
  refine fr_aload_n h rfl 0 rfl dX11_rule_0 ?_
  refine fr_getr (z := q) (iz := 14) h kX11 fX11_92 at_0 rfl rfl eq (by omega) dX11_rule_1 ?_
  refine fr_aload_n h rfl 0 rfl dX11_rule_4 ?_
  refine fr_getc (z := 1) (iz := 0) h kX11 fX11_10 at_0 rfl rfl rf_0_0 (by omega) dX11_rule_5 ?_
  refine fr_cvI h kX7 (Ru_at hq2) wX7_read lX11_132 (d_X7_read x q hq2) rfl (by decide) (by decide) rfl (Nat.le_of_ble_eq_true rfl) dX11_rule_8 (fun z2 x1 w3 p4 => ?_)
  obtain ⟨p5, p6, p7, p8, f9⟩ := p4
  refine fr_istore_n (L' := [(0, vr G 0), (1, vi z2)]) h rfl dX11_rule_11 (by decide) [1, 0] rfl ?_
  refine fr_aload_n h rfl 0 rfl dX11_rule_12 ?_
  refine fr_getc (z := 1) (iz := 0) h kX11 fX11_10 at_0 rfl rfl rf_0_0 (by omega) dX11_rule_13 ?_
  refine fr_cvV h kX9 at_1 wX9_clear lX11_117 (c_X9_clear x1) rfl (by decide) (by decide) rfl (Nat.le_of_ble_eq_true rfl) dX11_rule_16 (fun x10 p13 => ?_)
  obtain ⟨p14, f15⟩ := p13
  refine fr_iload_n h rfl 1 rfl dX11_rule_19 ?_
  refine fr_iconst h dX11_rule_20 ?_
  refine fr_icmp_eq (tgt := 28) h dX11_rule_21 (by decide) (by omega) (by omega) (fun c16 => ?_) (fun c16 => ?_)
  ·
    refine fr_aload_n h rfl 0 rfl dX11_rule_28 ?_
    refine fr_getr (z := r) (iz := 13) h kX11 fX11_88 at_0 rfl rfl ((congrFun (f15 0 (by omega)) 13).trans ((congrFun (f9 0 (by omega)) 13).trans er)) (by omega) dX11_rule_29 ?_
    refine fr_astore_n (L' := [(0, vr G 0), (1, vi z2), (2, vr G r)]) h rfl dX11_rule_32 (by decide) [1, 2, 0] rfl ?_
    refine fr_aload_n h rfl 0 rfl dX11_rule_33 ?_
    refine fr_aload_n h rfl 0 rfl dX11_rule_34 ?_
    refine fr_getr (z := q) (iz := 14) h kX11 fX11_92 at_0 rfl rfl ((congrFun (f15 0 (by omega)) 14).trans ((congrFun (f9 0 (by omega)) 14).trans eq)) (by omega) dX11_rule_35 ?_
    refine fr_putr (tf := (.object "BestWalks$Rule")) (iz := 13) h kX11 fX11_88 at_0 rfl rfl rfl (by decide +kernel) (fun _ => rfl) (fun _ => rfl) rf_0_13 (by omega) (by omega) (by omega) dX11_rule_38 ?_
    refine fr_mem (fun x17 m18 => ?_)
    refine fr_aload_n h rfl 0 rfl dX11_rule_41 ?_
    refine fr_aload_n h rfl 2 rfl dX11_rule_42 ?_
    refine fr_putr (tf := (.object "BestWalks$Rule")) (iz := 14) h kX11 fX11_92 at_0 rfl rfl rfl (by decide +kernel) (fun _ => rfl) (fun _ => rfl) rf_0_14 (by omega) (by omega) (by omega) dX11_rule_43 ?_
    refine fr_mem (fun x19 m20 => ?_)
    refine fr_aload_n h rfl 0 rfl dX11_rule_46 ?_
    refine fr_cvV h kX11 at_0 wX11_changed lX11_136 (c_X11_changed x19) rfl (by decide) (by decide) rfl (Nat.le_of_ble_eq_true rfl) dX11_rule_47 (fun x21 p24 => ?_)
    have f25 := p24
    refine fr_iconst h dX11_rule_50 ?_
    have r26 := (congrFun (f25 0 (by omega) (by omega)) 13)
    have r27 := r26.trans (fm_rd_i (a := 0) (b := 13) m20 (by decide))
    have r28 := r27.trans (fm_rd_s m18)
    have r29 := (congrFun (f25 0 (by omega) (by omega)) 14)
    have r30 := r29.trans (fm_rd_s m20)
    have r31 := (congrFun (f25 0 (by omega) (by omega)) 13)
    have r32 := r31.trans (fm_rd_i (a := 0) (b := 13) m20 (by decide))
    have r33 := r32.trans (fm_rd_s m18)
    have r34 := (congrFun (f25 0 (by omega) (by omega)) 14)
    have r35 := r34.trans (fm_rd_s m20)
    have r36 := (congrFun (f25 1 (by omega) (by omega)) 1)
    have r37 := r36.trans (fm_rd_k (a := 1) (b := 1) m20 (by omega))
    have r38 := r37.trans (fm_rd_k (a := 1) (b := 1) m18 (by omega))
    have r39 := (congrFun (f9 1 (by omega)) 1)
    exact fr_iret h hq (by omega) ⟨(by omega), (by omega), (by omega), (by omega), (fun a k0 k1 k2 k3 => ((f25 a (by omega) (by omega)).trans ((fm_up_row m20 (by omega)).trans ((fm_up_row m18 (by omega)).trans ((f15 a (by omega)).trans (f9 a (by omega)))))))⟩ dX11_rule_51
  ·
    refine fr_iconst h dX11_rule_24 ?_
    refine fr_iload_n h rfl 1 rfl dX11_rule_25 ?_
    refine fr_isub h dX11_rule_26 ?_
    have r40 := (congrFun (f15 0 (by omega)) 13)
    have r41 := r40.trans (congrFun (f9 0 (by omega)) 13)
    have r42 := (congrFun (f15 0 (by omega)) 14)
    have r43 := r42.trans (congrFun (f9 0 (by omega)) 14)
    have r44 := (congrFun (f15 0 (by omega)) 13)
    have r45 := r44.trans (congrFun (f9 0 (by omega)) 13)
    have r46 := (congrFun (f15 0 (by omega)) 14)
    have r47 := r46.trans (congrFun (f9 0 (by omega)) 14)
    have r48 := (congrFun (f9 1 (by omega)) 1)
    exact fr_iret h hq (by omega) ⟨(by omega), (by omega), (by omega), (by omega), (fun a k0 k1 k2 k3 => ((f15 a (by omega)).trans (f9 a (by omega))))⟩ dX11_rule_27
