set_option maxHeartbeats 200000 in
theorem c_X4_groupOf (x : Mm) (p : Int) (w : Int) (h_p : fm_r p) (h_w : fm_r w) : CnI YC yX4_groupOf cX4_groupOf 2 .int 0 0 (fun G => [vi p, vi w]) x (fun z y' => (0 ≤ z) ∧ (z ≤ 7) ∧ (y' = x)) := by
  refine cn_I (by decide) (fun _ => Nat.le_of_ble_eq_true rfl) (fun G C h hq => ?_)
  have h : OK YC G C cX4_groupOf RX4 2 (some .int) 0 0 := h
  show FW YC G C 2 x 0 [(0, vi p), (1, vi w)] []
  refine fr_iload_n h rfl 0 rfl dX4_groupOf_0 ?_
  refine fr_iconst h dX4_groupOf_1 ?_
  refine fr_iload_n h rfl 1 rfl dX4_groupOf_2 ?_
  refine fr_imul h dX4_groupOf_3 ?_
  refine fr_normi (fun z1 w2 q3 => ?_)
  have w4 : fm_r ((3 * w)) → z1 = (3 * w) := fun q => (iI_inj q w2 q3).symm
  refine fr_iushr h dX4_groupOf_4 (fun z5 w6 q7 w8 => ?_)
  refine fr_bipush h rfl dX4_groupOf_5 ?_
  refine fr_iand h dX4_groupOf_7 (fun z9 w10 q11 w12 => ?_)
  have w13 := w12 (by omega) (by omega)
  exact fr_iret h hq (by omega) ⟨(by omega), (by omega), rfl⟩ dX4_groupOf_8
set_option maxHeartbeats 200000 in
theorem c_X4_regrouped (x : Mm) (p : Int) (w : Int) (v : Int) (h_p : fm_r p) (h_w : fm_r w) (h_v : fm_r v) : CnI YC yX4_regrouped cX4_regrouped 3 .int 0 0 (fun G => [vi p, vi w, vi v]) x (fun z y' => (y' = x)) := by
  refine cn_I (by decide) (fun _ => Nat.le_of_ble_eq_true rfl) (fun G C h hq => ?_)
  have h : OK YC G C cX4_regrouped RX4 3 (some .int) 0 0 := h
  show FW YC G C 3 x 0 [(0, vi p), (1, vi w), (2, vi v)] []
  refine fr_iload_n h rfl 0 rfl dX4_regrouped_0 ?_
  refine fr_bipush h rfl dX4_regrouped_1 ?_
  refine fr_iconst h dX4_regrouped_3 ?_
  refine fr_iload_n h rfl 1 rfl dX4_regrouped_4 ?_
  refine fr_imul h dX4_regrouped_5 ?_
  refine fr_normi (fun z1 w2 q3 => ?_)
  have w4 : fm_r ((3 * w)) → z1 = (3 * w) := fun q => (iI_inj q w2 q3).symm
  refine fr_ishl h dX4_regrouped_6 (fun z5 w6 q7 w8 => ?_)
  refine fr_iconst h dX4_regrouped_7 ?_
  refine fr_ixor h dX4_regrouped_8 (fun z9 w10 q11 w12 => ?_)
  refine fr_iand h dX4_regrouped_9 (fun z13 w14 q15 w16 => ?_)
  refine fr_iload_n h rfl 2 rfl dX4_regrouped_10 ?_
  refine fr_iconst h dX4_regrouped_11 ?_
  refine fr_iload_n h rfl 1 rfl dX4_regrouped_12 ?_
  refine fr_imul h dX4_regrouped_13 ?_
  refine fr_normi (fun z17 w18 q19 => ?_)
  have w20 : fm_r ((3 * w)) → z17 = (3 * w) := fun q => (iI_inj q w18 q19).symm
  refine fr_ishl h dX4_regrouped_14 (fun z21 w22 q23 w24 => ?_)
  refine fr_ior h dX4_regrouped_15 (fun z25 w26 q27 w28 => ?_)
  exact fr_iret h hq (by omega) rfl dX4_regrouped_16
set_option maxHeartbeats 200000 in
theorem c_X4_merged (x : Mm) (p : Int) (w : Int) (v : Int) (h_p : fm_r p) (h_w : fm_r w) (h_v : fm_r v) : CnI YC yX4_merged cX4_merged 5 .int 1 22 (fun G => [vi p, vi w, vi v]) x (fun z y' => (y' = x)) := by
  refine cn_I (by decide) (fun _ => Nat.le_of_ble_eq_true rfl) (fun G C h hq => ?_)
  have h : OK YC G C cX4_merged RX4 5 (some .int) 1 22 := h
  show FW YC G C 5 x 0 [(0, vi p), (1, vi w), (2, vi v)] []
  refine fr_iload_n h rfl 0 rfl dX4_merged_0 ?_
  refine fr_istore_n (L' := [(0, vi p), (1, vi w), (2, vi v), (3, vi p)]) h rfl dX4_merged_1 (by decide) [1, 2, 3, 0] rfl ?_
  refine fr_iconst h dX4_merged_2 ?_
  refine fr_istore (L' := [(0, vi p), (1, vi w), (2, vi v), (3, vi p), (4, vi 0)]) h dX4_merged_3 (by decide) [1, 2, 3, 4, 0] rfl ?_
  have HL1 : ∀ (n1 : Nat) (l3_1 l4_1 : Int), fm_r l3_1 → fm_r l4_1 → 0 ≤ l4_1 → l4_1 ≤ 7 → (7 - l4_1) < n1 → FW YC G C 5 x 5 [(0, vi p), (1, vi w), (2, vi v), (3, vi l3_1), (4, vi l4_1)] [] := by
    intro n1
    induction n1 with
    | zero =>
      intro l3_1 l4_1 g1_0 g1_1 g1_2 g1_3 g1_4
      exfalso; omega
    | succ n1 ih1 =>
      intro l3_1 l4_1 g1_0 g1_1 g1_2 g1_3 g1_4
      refine fr_iload h 4 rfl dX4_merged_5 ?_
      refine fr_bipush h rfl dX4_merged_7 ?_
      refine fr_icmp_ge (tgt := 36) h dX4_merged_9 (by decide) (by omega) (by omega) (fun c2 => ?_) (fun c2 => ?_)
      ·
        refine fr_iload_n h rfl 3 rfl dX4_merged_36 ?_
        exact fr_iret h hq (by omega) rfl dX4_merged_37
      ·
        refine fr_iload_n h rfl 0 rfl dX4_merged_12 ?_
        refine fr_iload h 4 rfl dX4_merged_13 ?_
        refine fr_csI h wX4_groupOf lX4_119 (c_X4_groupOf x p l4_1 (by omega) (by omega)) rfl (by decide) (by decide) rfl (Nat.le_of_ble_eq_true rfl) dX4_merged_15 (fun z4 x3 w5 p6 => ?_)
        obtain ⟨p7, p8, y9⟩ := p6
        rw [y9]
        clear y9
        refine fr_iload_n h rfl 2 rfl dX4_merged_18 ?_
        refine fr_icmp_ne (tgt := 30) h dX4_merged_19 (by decide) (by omega) (by omega) (fun c10 => ?_) (fun c10 => ?_)
        ·
          refine fr_iinc (j := 4) (L' := [(0, vi p), (1, vi w), (2, vi v), (3, vi l3_1), (4, vi (l4_1 + 1))]) h dX4_merged_30 rfl (by decide) [1, 2, 3, 4, 0] rfl ?_
          refine fr_goto (tgt := 5) h dX4_merged_33 (by decide) ?_
          exact ih1 l3_1 (l4_1 + 1) (by omega) (by omega) (by omega) (by omega) (by omega)
        ·
          refine fr_iload_n h rfl 3 rfl dX4_merged_22 ?_
          refine fr_iload h 4 rfl dX4_merged_23 ?_
          refine fr_iload_n h rfl 1 rfl dX4_merged_25 ?_
          refine fr_csI h wX4_regrouped lX4_112 (c_X4_regrouped x l3_1 l4_1 w (by omega) (by omega) (by omega)) rfl (by decide) (by decide) rfl (Nat.le_of_ble_eq_true rfl) dX4_merged_26 (fun z12 x11 w13 p14 => ?_)
          have y15 := p14
          rw [y15]
          clear y15
          refine fr_istore_n (L' := [(0, vi p), (1, vi w), (2, vi v), (3, vi z12), (4, vi l4_1)]) h rfl dX4_merged_29 (by decide) [1, 2, 3, 0, 4] rfl ?_
          refine fr_iinc (j := 4) (L' := [(0, vi p), (1, vi w), (2, vi v), (3, vi z12), (4, vi (l4_1 + 1))]) h dX4_merged_30 rfl (by decide) [1, 2, 3, 4, 0] rfl ?_
          refine fr_goto (tgt := 5) h dX4_merged_33 (by decide) ?_
          exact ih1 z12 (l4_1 + 1) (by omega) (by omega) (by omega) (by omega) (by omega)
  exact HL1 ((7 - 0) + 1 : Int).toNat p 0 (by omega) (by omega) (by omega) (by omega) (by omega)
set_option maxHeartbeats 200000 in
theorem c_X4_findChoices : ∀ (d : Nat) (x : Mm) (r : Int) (hr : isRu r) (o : Int) (on : Nat) (ho : OrN o on) (p : Int) (n : Int) (v : Int) (h_p : fm_r p) (h_n : fm_r n) (h_v : fm_l v) (e0 : x 89 6 = 3) (e1 : x 89 7 = r) (e2 : x 89 8 = o) (e3 : 0 ≤ p) (e4 : p ≤ 4) (e5 : 0 ≤ n) (e6 : n ≤ 4), (4 - p) < d → CnV YC yX4_findChoices cX4_findChoices 7 (d + 10) (d * 30 + 300) (fun G => [vr G 89, vi p, vi n, vj v]) x (fun y' => (y' 89 6 = x 89 6) ∧ (y' 89 7 = x 89 7) ∧ (y' 89 8 = x 89 8) ∧ (∀ a : Int, (a < 89 ∨ 93 < a) → (a < o ∨ o + 1 < a) → (a < r ∨ r + 4 < a) → y' a = x a)) := by
  intro d
  induction d with
  | zero => intro x r hr o on ho p n v h_p h_n h_v e0 e1 e2 e3 e4 e5 e6 hmu; exfalso; omega
  | succ d ih =>
    intro x r hr o on ho p n v h_p h_n h_v e0 e1 e2 e3 e4 e5 e6 hmu
    refine cn_V (by decide) (fun _ => Nat.le_of_ble_eq_true rfl) (fun G C h hq => ?_)
    have h : OK YC G C cX4_findChoices RX4 7 none (d + 1 + 10) ((d + 1) * 30 + 300) := h
    show FW YC G C 7 x 0 [(0, vr G 89), (1, vi p), (2, vi n), (3, vj v)] []
    have h_r := Ru_b hr
    have h_o := OrN_b ho
    refine fr_iload_n h rfl 1 rfl dX4_findChoices_0 ?_
    refine fr_iconst h dX4_findChoices_1 ?_
    refine fr_icmp_lt (tgt := 26) h dX4_findChoices_2 (by decide) (by omega) (by omega) (fun c1 => ?_) (fun c1 => ?_)
    ·
      refine fr_aload_n h rfl 0 rfl dX4_findChoices_26 ?_
      refine fr_getr (z := 3) (iz := 6) h kX4 fX4_24 at_89 rfl rfl e0 (by omega) dX4_findChoices_27 ?_
      refine fr_iload_n h rfl 1 rfl dX4_findChoices_30 ?_
      refine fr_cvI h kX8 (St_at St_3) wX8_sizeOf lX4_61 (c_X8_sizeOf x 3 St_3 p (by omega)) rfl (by omega) (by omega) rfl (Nat.le_of_ble_eq_true rfl) dX4_findChoices_31 (fun z3 x2 w4 p5 => ?_)
      obtain ⟨p6, p7, p8, p9, y10⟩ := p5
      rw [y10]
      clear y10
      refine fr_istore (L' := [(0, vr G 89), (1, vi p), (2, vi n), (3, vj v), (5, vi z3)]) h dX4_findChoices_34 (by decide) [1, 2, 3, 4, 0] rfl ?_
      refine fr_iload h 4 rfl dX4_findChoices_36 ?_
      refine fr_if_ne (tgt := 50) h dX4_findChoices_38 (by decide) (by omega) (fun c11 => ?_) (fun c11 => ?_)
      ·
        refine fr_iconst h dX4_findChoices_50 ?_
        refine fr_istore (L' := [(0, vr G 89), (1, vi p), (2, vi n), (3, vj v), (5, vi z3), (6, vi 0)]) h dX4_findChoices_51 (by decide) [1, 2, 3, 4, 5, 0] rfl ?_
        have HL12 : ∀ (n12 : Nat) (l6_12 : Int) (x_12 : Mm), fm_r l6_12 → 0 ≤ l6_12 → l6_12 ≤ 6 → x_12 89 6 = 3 → x_12 89 7 = r → x_12 89 8 = o → (∀ a : Int, (a < 89 ∨ 93 < a) → (a < o ∨ o + 1 < a) → (a < r ∨ r + 4 < a) → x_12 a = x a) → (6 - l6_12) < n12 → FW YC G C 7 x_12 53 [(0, vr G 89), (1, vi p), (2, vi n), (3, vj v), (5, vi z3), (6, vi l6_12)] [] := by
          intro n12
          induction n12 with
          | zero =>
            intro l6_12 x_12 g12_0 g12_1 g12_2 g12_3 g12_4 g12_5 g12_6 g12_7
            exfalso; omega
          | succ n12 ih12 =>
            intro l6_12 x_12 g12_0 g12_1 g12_2 g12_3 g12_4 g12_5 g12_6 g12_7
            refine fr_iload h 5 rfl dX4_findChoices_53 ?_
            refine fr_iload h 4 rfl dX4_findChoices_55 ?_
            refine fr_icmp_ge (tgt := 104) h dX4_findChoices_57 (by decide) (by omega) (by omega) (fun c13 => ?_) (fun c13 => ?_)
            ·
              exact fr_vret h hq ⟨(by omega), (by omega), (by omega), (fun a k0 k1 k2 => (g12_6 a (by omega) (by omega) (by omega)))⟩ dX4_findChoices_104
            ·
              refine fr_iload_n h rfl 2 rfl dX4_findChoices_60 ?_
              refine fr_iconst h dX4_findChoices_61 ?_
              refine fr_icmp_ge (tgt := 104) h dX4_findChoices_62 (by decide) (by omega) (by omega) (fun c14 => ?_) (fun c14 => ?_)
              ·
                exact fr_vret h hq ⟨(by omega), (by omega), (by omega), (fun a k0 k1 k2 => (g12_6 a (by omega) (by omega) (by omega)))⟩ dX4_findChoices_104
              ·
                refine fr_aload_n h rfl 0 rfl dX4_findChoices_65 ?_
                refine fr_getc (z := 90) (iz := 0) h kX4 fX4_9 at_89 rfl rfl rf_89_0 (by omega) dX4_findChoices_66 ?_
                refine fr_iload_n h rfl 2 rfl dX4_findChoices_69 ?_
                refine fr_aload_n h rfl 0 rfl dX4_findChoices_70 ?_
                refine fr_getr (z := 3) (iz := 6) h kX4 fX4_24 at_89 rfl rfl g12_3 (by omega) dX4_findChoices_71 ?_
                refine fr_iload_n h rfl 1 rfl dX4_findChoices_74 ?_
                refine fr_iload h 5 rfl dX4_findChoices_75 ?_
                refine fr_cvI h kX8 (St_at St_3) wX8_numberAt lX4_71 (c_X8_numberAt x_12 3 St_3 p l6_12 (by omega) (by omega)) rfl (by omega) (by omega) rfl (Nat.le_of_ble_eq_true rfl) dX4_findChoices_77 (fun z16 x15 w17 p18 => ?_)
                obtain ⟨p19, p20, p21, y22⟩ := p18
                rw [y22]
                clear y22
                refine fr_iast h ar_90 (by omega) (by omega) (rr_90 n) (by omega) (by omega) dX4_findChoices_80 ?_
                refine fr_mem (fun x23 m24 => ?_)
                refine fr_aload_n h rfl 0 rfl dX4_findChoices_81 ?_
                refine fr_iload_n h rfl 1 rfl dX4_findChoices_82 ?_
                refine fr_iconst h dX4_findChoices_83 ?_
                refine fr_iadd h dX4_findChoices_84 ?_
                refine fr_iload_n h rfl 2 rfl dX4_findChoices_85 ?_
                refine fr_iconst h dX4_findChoices_86 ?_
                refine fr_iadd h dX4_findChoices_87 ?_
                refine fr_lload_n h rfl 3 rfl dX4_findChoices_88 ?_
                refine fr_iload_n h rfl 2 rfl dX4_findChoices_89 ?_
                refine fr_iload h 5 rfl dX4_findChoices_90 ?_
                refine fr_csL h wX2_with lX4_86 (c_X2_with x23 v n l6_12 (by omega) (by omega) (by omega)) rfl (by omega) (by omega) rfl (Nat.le_of_ble_eq_true rfl) dX4_findChoices_92 (fun z26 x25 w27 p28 => ?_)
                have y29 := p28
                rw [y29]
                clear y29
                have r30 := (fm_rd_k (a := 89) (b := 6) m24 (by omega))
                have r31 := (fm_rd_k (a := 89) (b := 7) m24 (by omega))
                have r32 := (fm_rd_k (a := 89) (b := 8) m24 (by omega))
                refine fr_cvV h kX4 at_89 wX4_findChoices lX4_36 (ih x23 r hr o on ho (p + 1) (n + 1) z26 (by omega) (by omega) (by omega) (by omega) (by omega) (by omega) (by omega) (by omega) (by omega) (by omega) (by omega)) rfl (by omega) (by omega) rfl (Nat.le_of_ble_eq_true rfl) dX4_findChoices_95 (fun x33 p36 => ?_)
                obtain ⟨p37, p38, p39, f40⟩ := p36
                refine fr_iinc (j := 5) (L' := [(0, vr G 89), (1, vi p), (2, vi n), (3, vj v), (5, vi z3), (6, vi (l6_12 + 1))]) h dX4_findChoices_98 rfl (by decide) [1, 2, 3, 4, 5, 0] rfl ?_
                refine fr_goto (tgt := 53) h dX4_findChoices_101 (by decide) ?_
                have r41 := (fm_rd_k (a := 89) (b := 6) m24 (by omega))
                have r42 := (fm_rd_k (a := 89) (b := 7) m24 (by omega))
                have r43 := (fm_rd_k (a := 89) (b := 8) m24 (by omega))
                exact ih12 (l6_12 + 1) x33 (by omega) (by omega) (by omega) (by omega) (by omega) (by omega) (fun a k0 k1 k2 => ((f40 a (by omega) (by omega) (by omega)).trans ((fm_up_row m24 (by omega)).trans (g12_6 a (by omega) (by omega) (by omega))))) (by omega)
        exact HL12 ((6 - 0) + 1 : Int).toNat 0 x (by omega) (by omega) (by omega) (by omega) (by omega) (by omega) (fun a _ _ _ => rfl) (by omega)
      ·
        refine fr_aload_n h rfl 0 rfl dX4_findChoices_41 ?_
        refine fr_iload_n h rfl 1 rfl dX4_findChoices_42 ?_
        refine fr_iconst h dX4_findChoices_43 ?_
        refine fr_iadd h dX4_findChoices_44 ?_
        refine fr_iload_n h rfl 2 rfl dX4_findChoices_45 ?_
        refine fr_lload_n h rfl 3 rfl dX4_findChoices_46 ?_
        refine fr_cvV h kX4 at_89 wX4_findChoices lX4_36 (ih x r hr o on ho (p + 1) n v (by omega) (by omega) (by omega) (by omega) (by omega) (by omega) (by omega) (by omega) (by omega) (by omega) (by omega)) rfl (by omega) (by omega) rfl (Nat.le_of_ble_eq_true rfl) dX4_findChoices_47 (fun x44 p47 => ?_)
        obtain ⟨p48, p49, p50, f51⟩ := p47
        refine fr_iconst h dX4_findChoices_50 ?_
        refine fr_istore (L' := [(0, vr G 89), (1, vi p), (2, vi n), (3, vj v), (5, vi z3), (6, vi 0)]) h dX4_findChoices_51 (by decide) [1, 2, 3, 4, 5, 0] rfl ?_
        have HL52 : ∀ (n52 : Nat) (l6_52 : Int) (x_52 : Mm), fm_r l6_52 → 0 ≤ l6_52 → l6_52 ≤ 6 → x_52 89 6 = 3 → x_52 89 7 = r → x_52 89 8 = o → (∀ a : Int, (a < 89 ∨ 93 < a) → (a < o ∨ o + 1 < a) → (a < r ∨ r + 4 < a) → x_52 a = x44 a) → (6 - l6_52) < n52 → FW YC G C 7 x_52 53 [(0, vr G 89), (1, vi p), (2, vi n), (3, vj v), (5, vi z3), (6, vi l6_52)] [] := by
          intro n52
          induction n52 with
          | zero =>
            intro l6_52 x_52 g52_0 g52_1 g52_2 g52_3 g52_4 g52_5 g52_6 g52_7
            exfalso; omega
          | succ n52 ih52 =>
            intro l6_52 x_52 g52_0 g52_1 g52_2 g52_3 g52_4 g52_5 g52_6 g52_7
            refine fr_iload h 5 rfl dX4_findChoices_53 ?_
            refine fr_iload h 4 rfl dX4_findChoices_55 ?_
            refine fr_icmp_ge (tgt := 104) h dX4_findChoices_57 (by decide) (by omega) (by omega) (fun c53 => ?_) (fun c53 => by exfalso; omega)
            exact fr_vret h hq ⟨(by omega), (by omega), (by omega), (fun a k0 k1 k2 => ((g52_6 a (by omega) (by omega) (by omega)).trans (f51 a (by omega) (by omega) (by omega))))⟩ dX4_findChoices_104
        exact HL52 ((6 - 0) + 1 : Int).toNat 0 x44 (by omega) (by omega) (by omega) (by omega) (by omega) (by omega) (fun a _ _ _ => rfl) (by omega)
    ·
      refine fr_aload_n h rfl 0 rfl dX4_findChoices_5 ?_
      refine fr_getr (z := o) (iz := 8) h kX4 fX4_32 at_89 rfl rfl e2 (by omega) dX4_findChoices_6 ?_
      refine fr_aload_n h rfl 0 rfl dX4_findChoices_9 ?_
      refine fr_getr (z := r) (iz := 7) h kX4 fX4_28 at_89 rfl rfl e1 (by omega) dX4_findChoices_10 ?_
      refine fr_aload_n h rfl 0 rfl dX4_findChoices_13 ?_
      refine fr_getc (z := 90) (iz := 0) h kX4 fX4_9 at_89 rfl rfl rf_89_0 (by omega) dX4_findChoices_14 ?_
      refine fr_iload_n h rfl 2 rfl dX4_findChoices_17 ?_
      refine fr_cvI h kX7 (Ru_at hr) wX7_costOf lX4_74 (c_X7_costOf x r hr n (by omega) (by omega)) rfl (by omega) (by omega) rfl (Nat.le_of_ble_eq_true rfl) dX4_findChoices_18 (fun z55 x54 w56 p57 => ?_)
      have f58 := p57
      refine fr_lload_n h rfl 3 rfl dX4_findChoices_21 ?_
      refine fr_cvV h kX6 (Or_at (OrN_is ho)) wX6_add lX4_80 (c_X6_add x54 o on ho z55 v (by omega) (by omega)) rfl (by omega) (by omega) rfl (Nat.le_of_ble_eq_true rfl) dX4_findChoices_22 (fun x59 p62 => ?_)
      have f63 := p62
      have r64 := (congrFun (f63 89 (by omega)) 6)
      have r65 := r64.trans (congrFun (f58 89 (by omega)) 6)
      have r66 := (congrFun (f63 89 (by omega)) 7)
      have r67 := r66.trans (congrFun (f58 89 (by omega)) 7)
      have r68 := (congrFun (f63 89 (by omega)) 8)
      have r69 := r68.trans (congrFun (f58 89 (by omega)) 8)
      exact fr_vret h hq ⟨(by omega), (by omega), (by omega), (fun a k0 k1 k2 => ((f63 a (by omega)).trans (f58 a (by omega))))⟩ dX4_findChoices_25
set_option maxHeartbeats 200000 in
theorem c_X4_growTree : ∀ (d : Nat) (x : Mm) (r : Int) (hr : isRu r) (o : Int) (on : Nat) (ho : OrN o on) (p : Int) (n : Int) (u : Int) (v : Int) (w : Int) (h_p : fm_r p) (h_n : fm_r n) (h_u : fm_r u) (h_v : fm_l v) (h_w : fm_r w) (e0 : x 89 6 = 3) (e1 : x 89 7 = r) (e2 : x 89 8 = o) (e3 : 0 ≤ p) (e4 : p ≤ 12) (e5 : 0 ≤ n) (e6 : n ≤ p), (12 - p) < d → CnV YC yX4_growTree cX4_growTree 9 (d + 10) (d * 40 + 300) (fun G => [vr G 89, vi p, vi n, vi u, vj v, vi w]) x (fun y' => (y' 89 6 = x 89 6) ∧ (y' 89 7 = x 89 7) ∧ (y' 89 8 = x 89 8) ∧ (∀ a : Int, (a < 89 ∨ 93 < a) → (a < o ∨ o + 1 < a) → (a < r ∨ r + 4 < a) → y' a = x a)) := by
  intro d
  induction d with
  | zero => intro x r hr o on ho p n u v w h_p h_n h_u h_v h_w e0 e1 e2 e3 e4 e5 e6 hmu; exfalso; omega
  | succ d ih =>
    intro x r hr o on ho p n u v w h_p h_n h_u h_v h_w e0 e1 e2 e3 e4 e5 e6 hmu
    refine cn_V (by decide) (fun _ => Nat.le_of_ble_eq_true rfl) (fun G C h hq => ?_)
    have h : OK YC G C cX4_growTree RX4 9 none (d + 1 + 10) ((d + 1) * 40 + 300) := h
    show FW YC G C 9 x 0 [(0, vr G 89), (1, vi p), (2, vi n), (3, vi u), (4, vj v), (6, vi w)] []
    have h_r := Ru_b hr
    have h_o := OrN_b ho
    refine fr_iload_n h rfl 2 rfl dX4_growTree_0 ?_
    refine fr_aload_n h rfl 0 rfl dX4_growTree_1 ?_
    refine fr_geti (iz := 5) h kX4 fX4_109 at_89 rfl rfl (by decide) (by decide) rf_89_5 dX4_growTree_2 (fun z1 w2 w3 q4 => ?_)
    refine fr_icmp_ne (tgt := 19) h dX4_growTree_5 (by decide) (by omega) (by omega) (fun c5 => ?_) (fun c5 => ?_)
    ·
      refine fr_iload_n h rfl 1 rfl dX4_growTree_19 ?_
      refine fr_aload_n h rfl 0 rfl dX4_growTree_20 ?_
      refine fr_geti (iz := 4) h kX4 fX4_90 at_89 rfl rfl (by decide) (by decide) rf_89_4 dX4_growTree_21 (fun z6 w7 w8 q9 => ?_)
      refine fr_icmp_ge (tgt := 42) h dX4_growTree_24 (by decide) (by omega) (by omega) (fun c10 => ?_) (fun c10 => ?_)
      ·
        exact fr_vret h hq ⟨(by omega), (by omega), (by omega), (fun a _ _ _ => rfl)⟩ dX4_growTree_42
      ·
        refine fr_aload_n h rfl 0 rfl dX4_growTree_27 ?_
        refine fr_geti (iz := 4) h kX4 fX4_90 at_89 rfl rfl (by decide) (by decide) rf_89_4 dX4_growTree_28 (fun z11 w12 w13 q14 => ?_)
        refine fr_iload_n h rfl 1 rfl dX4_growTree_31 ?_
        refine fr_isub h dX4_growTree_32 ?_
        refine fr_normi (fun z15 w16 q17 => ?_)
        have w18 : fm_r ((z11 - p)) → z15 = (z11 - p) := fun q => (iI_inj q w16 q17).symm
        refine fr_aload_n h rfl 0 rfl dX4_growTree_33 ?_
        refine fr_geti (iz := 5) h kX4 fX4_109 at_89 rfl rfl (by decide) (by decide) rf_89_5 dX4_growTree_34 (fun z19 w20 w21 q22 => ?_)
        refine fr_iload_n h rfl 2 rfl dX4_growTree_37 ?_
        refine fr_isub h dX4_growTree_38 ?_
        refine fr_normi (fun z23 w24 q25 => ?_)
        have w26 : fm_r ((z19 - n)) → z23 = (z19 - n) := fun q => (iI_inj q w24 q25).symm
        refine fr_icmp_ge (tgt := 43) h dX4_growTree_39 (by decide) (by omega) (by omega) (fun c27 => ?_) (fun c27 => ?_)
        ·
          refine fr_iload h 5 rfl dX4_growTree_43 ?_
          refine fr_aload_n h rfl 0 rfl dX4_growTree_45 ?_
          refine fr_getc (z := 91) (iz := 1) h kX4 fX4_15 at_89 rfl rfl rf_89_1 (by omega) dX4_growTree_46 ?_
          refine fr_iload_n h rfl 1 rfl dX4_growTree_49 ?_
          refine fr_iald h ar_91 (by omega) (by omega) (rr_91 p) dX4_growTree_50 (fun z28 w29 w30 q31 => ?_)
          refine fr_csI h wX4_groupOf lX4_119 (c_X4_groupOf x w z28 (by omega) (by omega)) rfl (by omega) (by omega) rfl (Nat.le_of_ble_eq_true rfl) dX4_growTree_51 (fun z33 x32 w34 p35 => ?_)
          obtain ⟨p36, p37, y38⟩ := p35
          rw [y38]
          clear y38
          refine fr_istore (L' := [(0, vr G 89), (1, vi p), (2, vi n), (3, vi u), (4, vj v), (6, vi w), (7, vi z33)]) h dX4_growTree_54 (by decide) [1, 2, 3, 4, 5, 6, 0] rfl ?_
          refine fr_iload h 5 rfl dX4_growTree_56 ?_
          refine fr_aload_n h rfl 0 rfl dX4_growTree_58 ?_
          refine fr_getc (z := 92) (iz := 2) h kX4 fX4_18 at_89 rfl rfl rf_89_2 (by omega) dX4_growTree_59 ?_
          refine fr_iload_n h rfl 1 rfl dX4_growTree_62 ?_
          refine fr_iald h ar_92 (by omega) (by omega) (rr_92 p) dX4_growTree_63 (fun z39 w40 w41 q42 => ?_)
          refine fr_csI h wX4_groupOf lX4_119 (c_X4_groupOf x w z39 (by omega) (by omega)) rfl (by omega) (by omega) rfl (Nat.le_of_ble_eq_true rfl) dX4_growTree_64 (fun z44 x43 w45 p46 => ?_)
          obtain ⟨p47, p48, y49⟩ := p46
          rw [y49]
          clear y49
          refine fr_istore (L' := [(0, vr G 89), (1, vi p), (2, vi n), (3, vi u), (4, vj v), (6, vi w), (7, vi z33), (8, vi z44)]) h dX4_growTree_67 (by decide) [1, 2, 3, 4, 5, 6, 7, 0] rfl ?_
          refine fr_iload h 6 rfl dX4_growTree_69 ?_
          refine fr_iload h 7 rfl dX4_growTree_71 ?_
          refine fr_icmp_eq (tgt := 110) h dX4_growTree_73 (by decide) (by omega) (by omega) (fun c50 => ?_) (fun c50 => ?_)
          ·
            refine fr_aload_n h rfl 0 rfl dX4_growTree_110 ?_
            refine fr_iload_n h rfl 1 rfl dX4_growTree_111 ?_
            refine fr_iconst h dX4_growTree_112 ?_
            refine fr_iadd h dX4_growTree_113 ?_
            refine fr_iload_n h rfl 2 rfl dX4_growTree_114 ?_
            refine fr_iload_n h rfl 3 rfl dX4_growTree_115 ?_
            refine fr_lload h 4 rfl dX4_growTree_116 ?_
            refine fr_iload h 5 rfl dX4_growTree_118 ?_
            refine fr_cvV h kX4 at_89 wX4_growTree lX4_116 (ih x r hr o on ho (p + 1) n u v w (by omega) (by omega) (by omega) (by omega) (by omega) (by omega) (by omega) (by omega) (by omega) (by omega) (by omega) (by omega) (by omega)) rfl (by omega) (by omega) rfl (Nat.le_of_ble_eq_true rfl) dX4_growTree_120 (fun x51 p54 => ?_)
            obtain ⟨p55, p56, p57, f58⟩ := p54
            exact fr_vret h hq ⟨(by omega), (by omega), (by omega), (fun a k0 k1 k2 => (f58 a (by omega) (by omega) (by omega)))⟩ dX4_growTree_123
          ·
            refine fr_aload_n h rfl 0 rfl dX4_growTree_76 ?_
            refine fr_iload_n h rfl 1 rfl dX4_growTree_77 ?_
            refine fr_iconst h dX4_growTree_78 ?_
            refine fr_iadd h dX4_growTree_79 ?_
            refine fr_iload_n h rfl 2 rfl dX4_growTree_80 ?_
            refine fr_iconst h dX4_growTree_81 ?_
            refine fr_iadd h dX4_growTree_82 ?_
            refine fr_normi (fun z59 w60 q61 => ?_)
            have w62 : fm_r ((n + 1)) → z59 = (n + 1) := fun q => (iI_inj q w60 q61).symm
            refine fr_iload_n h rfl 3 rfl dX4_growTree_83 ?_
            refine fr_aload_n h rfl 0 rfl dX4_growTree_84 ?_
            refine fr_getc (z := 93) (iz := 3) h kX4 fX4_21 at_89 rfl rfl rf_89_3 (by omega) dX4_growTree_85 ?_
            refine fr_iload_n h rfl 1 rfl dX4_growTree_88 ?_
            refine fr_iald h ar_93 (by omega) (by omega) (rr_93 p) dX4_growTree_89 (fun z63 w64 w65 q66 => ?_)
            refine fr_iadd h dX4_growTree_90 ?_
            refine fr_normi (fun z67 w68 q69 => ?_)
            have w70 : fm_r ((u + z63)) → z67 = (u + z63) := fun q => (iI_inj q w68 q69).symm
            refine fr_lload h 4 rfl dX4_growTree_91 ?_
            refine fr_iload_n h rfl 2 rfl dX4_growTree_93 ?_
            refine fr_iload_n h rfl 1 rfl dX4_growTree_94 ?_
            refine fr_csL h wX2_with lX4_86 (c_X2_with x v n p (by omega) (by omega) (by omega)) rfl (by omega) (by omega) rfl (Nat.le_of_ble_eq_true rfl) dX4_growTree_95 (fun z72 x71 w73 p74 => ?_)
            have y75 := p74
            rw [y75]
            clear y75
            refine fr_iload h 5 rfl dX4_growTree_98 ?_
            refine fr_iload h 6 rfl dX4_growTree_100 ?_
            refine fr_iload h 7 rfl dX4_growTree_102 ?_
            refine fr_csI h wX4_merged lX4_122 (c_X4_merged x w z33 z44 (by omega) (by omega) (by omega)) rfl (by omega) (by omega) rfl (Nat.le_of_ble_eq_true rfl) dX4_growTree_104 (fun z77 x76 w78 p79 => ?_)
            have y80 := p79
            rw [y80]
            clear y80
            refine fr_cvV h kX4 at_89 wX4_growTree lX4_116 (ih x r hr o on ho (p + 1) z59 z67 z72 z77 (by omega) (by omega) (by omega) (by omega) (by omega) (by omega) (by omega) (by omega) (by omega) (by omega) (by omega) (by omega) (by omega)) rfl (by omega) (by omega) rfl (Nat.le_of_ble_eq_true rfl) dX4_growTree_107 (fun x81 p84 => ?_)
            obtain ⟨p85, p86, p87, f88⟩ := p84
            refine fr_aload_n h rfl 0 rfl dX4_growTree_110 ?_
            refine fr_iload_n h rfl 1 rfl dX4_growTree_111 ?_
            refine fr_iconst h dX4_growTree_112 ?_
            refine fr_iadd h dX4_growTree_113 ?_
            refine fr_iload_n h rfl 2 rfl dX4_growTree_114 ?_
            refine fr_iload_n h rfl 3 rfl dX4_growTree_115 ?_
            refine fr_lload h 4 rfl dX4_growTree_116 ?_
            refine fr_iload h 5 rfl dX4_growTree_118 ?_
            refine fr_cvV h kX4 at_89 wX4_growTree lX4_116 (ih x81 r hr o on ho (p + 1) n u v w (by omega) (by omega) (by omega) (by omega) (by omega) (by omega) (by omega) (by omega) (by omega) (by omega) (by omega) (by omega) (by omega)) rfl (by omega) (by omega) rfl (Nat.le_of_ble_eq_true rfl) dX4_growTree_120 (fun x89 p92 => ?_)
            obtain ⟨p93, p94, p95, f96⟩ := p92
            exact fr_vret h hq ⟨(by omega), (by omega), (by omega), (fun a k0 k1 k2 => ((f96 a (by omega) (by omega) (by omega)).trans (f88 a (by omega) (by omega) (by omega))))⟩ dX4_growTree_123
        ·
          exact fr_vret h hq ⟨(by omega), (by omega), (by omega), (fun a _ _ _ => rfl)⟩ dX4_growTree_42
    ·
      refine fr_aload_n h rfl 0 rfl dX4_growTree_8 ?_
      refine fr_getr (z := o) (iz := 8) h kX4 fX4_32 at_89 rfl rfl e2 (by omega) dX4_growTree_9 ?_
      refine fr_iload_n h rfl 3 rfl dX4_growTree_12 ?_
      refine fr_lload h 4 rfl dX4_growTree_13 ?_
      refine fr_cvV h kX6 (Or_at (OrN_is ho)) wX6_add lX4_80 (c_X6_add x o on ho u v (by omega) (by omega)) rfl (by omega) (by omega) rfl (Nat.le_of_ble_eq_true rfl) dX4_growTree_15 (fun x97 p100 => ?_)
      have f101 := p100
      have r102 := (congrFun (f101 89 (by omega)) 6)
      have r103 := (congrFun (f101 89 (by omega)) 7)
      have r104 := (congrFun (f101 89 (by omega)) 8)
      exact fr_vret h hq ⟨(by omega), (by omega), (by omega), (fun a k0 k1 k2 => (f101 a (by omega)))⟩ dX4_growTree_18
set_option maxHeartbeats 200000 in
theorem c_X4_findPairings : ∀ (d : Nat) (x : Mm) (r : Int) (hr : isRu r) (o : Int) (on : Nat) (ho : OrN o on) (p : Int) (u : Int) (v : Int) (w : Int) (h_p : fm_r p) (h_u : fm_r u) (h_v : fm_l v) (h_w : fm_r w) (e0 : x 89 6 = 3) (e1 : x 89 7 = r) (e2 : x 89 8 = o) (e3 : 0 ≤ p) (e4 : p ≤ 5), (5 - p) < d → CnV YC yX4_findPairings cX4_findPairings 7 (d + 10) (d * 40 + 300) (fun G => [vr G 89, vi p, vi u, vj v, vi w]) x (fun y' => (y' 89 6 = x 89 6) ∧ (y' 89 7 = x 89 7) ∧ (y' 89 8 = x 89 8) ∧ (∀ a : Int, (a < 89 ∨ 93 < a) → (a < o ∨ o + 1 < a) → (a < r ∨ r + 4 < a) → y' a = x a)) := by
  intro d
  induction d with
  | zero => intro x r hr o on ho p u v w h_p h_u h_v h_w e0 e1 e2 e3 e4 hmu; exfalso; omega
  | succ d ih =>
    intro x r hr o on ho p u v w h_p h_u h_v h_w e0 e1 e2 e3 e4 hmu
    refine cn_V (by decide) (fun _ => Nat.le_of_ble_eq_true rfl) (fun G C h hq => ?_)
    have h : OK YC G C cX4_findPairings RX4 7 none (d + 1 + 10) ((d + 1) * 40 + 300) := h
    show FW YC G C 7 x 0 [(0, vr G 89), (1, vi p), (2, vi u), (3, vj v), (5, vi w)] []
    have h_r := Ru_b hr
    have h_o := OrN_b ho
    refine fr_iload_n h rfl 1 rfl dX4_findPairings_0 ?_
    refine fr_aload_n h rfl 0 rfl dX4_findPairings_1 ?_
    refine fr_getr (z := 3) (iz := 6) h kX4 fX4_24 at_89 rfl rfl e0 (by omega) dX4_findPairings_2 ?_
    refine fr_cvI h kX8 (St_at St_3) wX8_size lX4_125 (c_X8_size x 3 St_3) rfl (by omega) (by omega) rfl (Nat.le_of_ble_eq_true rfl) dX4_findPairings_5 (fun z2 x1 w3 p4 => ?_)
    obtain ⟨p5, p6, p7, y8⟩ := p4
    rw [y8]
    clear y8
    refine fr_icmp_lt (tgt := 21) h dX4_findPairings_8 (by decide) (by omega) (by omega) (fun c9 => ?_) (fun c9 => ?_)
    ·
      refine fr_iconst h dX4_findPairings_21 ?_
      refine fr_istore (L' := [(0, vr G 89), (1, vi p), (2, vi u), (3, vj v), (5, vi w), (6, vi 0)]) h dX4_findPairings_22 (by decide) [1, 2, 3, 4, 5, 0] rfl ?_
      have HL10 : ∀ (n10 : Nat) (l6_10 : Int) (x_10 : Mm), fm_r l6_10 → 0 ≤ l6_10 → l6_10 ≤ 5 → x_10 89 6 = 3 → x_10 89 7 = r → x_10 89 8 = o → (∀ a : Int, (a < 89 ∨ 93 < a) → (a < o ∨ o + 1 < a) → (a < r ∨ r + 4 < a) → x_10 a = x a) → (5 - l6_10) < n10 → FW YC G C 7 x_10 24 [(0, vr G 89), (1, vi p), (2, vi u), (3, vj v), (5, vi w), (6, vi l6_10)] [] := by
        intro n10
        induction n10 with
        | zero =>
          intro l6_10 x_10 g10_0 g10_1 g10_2 g10_3 g10_4 g10_5 g10_6 g10_7
          exfalso; omega
        | succ n10 ih10 =>
          intro l6_10 x_10 g10_0 g10_1 g10_2 g10_3 g10_4 g10_5 g10_6 g10_7
          refine fr_iload h 5 rfl dX4_findPairings_24 ?_
          refine fr_aload_n h rfl 0 rfl dX4_findPairings_26 ?_
          refine fr_getr (z := 3) (iz := 6) h kX4 fX4_24 at_89 rfl rfl g10_3 (by omega) dX4_findPairings_27 ?_
          refine fr_cvI h kX8 (St_at St_3) wX8_size lX4_125 (c_X8_size x_10 3 St_3) rfl (by omega) (by omega) rfl (Nat.le_of_ble_eq_true rfl) dX4_findPairings_30 (fun z12 x11 w13 p14 => ?_)
          obtain ⟨p15, p16, p17, y18⟩ := p14
          rw [y18]
          clear y18
          refine fr_icmp_ge (tgt := 85) h dX4_findPairings_33 (by decide) (by omega) (by omega) (fun c19 => ?_) (fun c19 => ?_)
          ·
            exact fr_vret h hq ⟨(by omega), (by omega), (by omega), (fun a k0 k1 k2 => (g10_6 a (by omega) (by omega) (by omega)))⟩ dX4_findPairings_85
          ·
            refine fr_iload h 4 rfl dX4_findPairings_36 ?_
            refine fr_iconst h dX4_findPairings_38 ?_
            refine fr_iload h 5 rfl dX4_findPairings_39 ?_
            refine fr_ishl h dX4_findPairings_41 (fun z20 w21 q22 w23 => ?_)
            refine fr_iand h dX4_findPairings_42 (fun z24 w25 q26 w27 => ?_)
            refine fr_if_ne (tgt := 79) h dX4_findPairings_43 (by decide) (by omega) (fun c28 => ?_) (fun c28 => ?_)
            ·
              refine fr_iinc (j := 5) (L' := [(0, vr G 89), (1, vi p), (2, vi u), (3, vj v), (5, vi w), (6, vi (l6_10 + 1))]) h dX4_findPairings_79 rfl (by decide) [1, 2, 3, 4, 5, 0] rfl ?_
              refine fr_goto (tgt := 24) h dX4_findPairings_82 (by decide) ?_
              exact ih10 (l6_10 + 1) x_10 (by omega) (by omega) (by omega) (by omega) (by omega) (by omega) (fun a k0 k1 k2 => (g10_6 a (by omega) (by omega) (by omega))) (by omega)
            ·
              refine fr_aload_n h rfl 0 rfl dX4_findPairings_46 ?_
              refine fr_iload_n h rfl 1 rfl dX4_findPairings_47 ?_
              refine fr_iconst h dX4_findPairings_48 ?_
              refine fr_iadd h dX4_findPairings_49 ?_
              refine fr_iload_n h rfl 2 rfl dX4_findPairings_50 ?_
              refine fr_aload_n h rfl 0 rfl dX4_findPairings_51 ?_
              refine fr_getr (z := 3) (iz := 6) h kX4 fX4_24 at_89 rfl rfl g10_3 (by omega) dX4_findPairings_52 ?_
              refine fr_iload_n h rfl 1 rfl dX4_findPairings_55 ?_
              refine fr_iload h 5 rfl dX4_findPairings_56 ?_
              refine fr_cvI h kX8 (St_at St_3) wX8_costAt lX4_128 (c_X8_costAt x_10 3 St_3 p l6_10 (by omega) (by omega)) rfl (by omega) (by omega) rfl (Nat.le_of_ble_eq_true rfl) dX4_findPairings_58 (fun z30 x29 w31 p32 => ?_)
              obtain ⟨p33, p34, y35⟩ := p32
              rw [y35]
              clear y35
              refine fr_iadd h dX4_findPairings_61 ?_
              refine fr_normi (fun z36 w37 q38 => ?_)
              have w39 : fm_r ((u + z30)) → z36 = (u + z30) := fun q => (iI_inj q w37 q38).symm
              refine fr_lload_n h rfl 3 rfl dX4_findPairings_62 ?_
              refine fr_iload_n h rfl 1 rfl dX4_findPairings_63 ?_
              refine fr_iload h 5 rfl dX4_findPairings_64 ?_
              refine fr_csL h wX2_with lX4_86 (c_X2_with x_10 v p l6_10 (by omega) (by omega) (by omega)) rfl (by omega) (by omega) rfl (Nat.le_of_ble_eq_true rfl) dX4_findPairings_66 (fun z41 x40 w42 p43 => ?_)
              have y44 := p43
              rw [y44]
              clear y44
              refine fr_iload h 4 rfl dX4_findPairings_69 ?_
              refine fr_iconst h dX4_findPairings_71 ?_
              refine fr_iload h 5 rfl dX4_findPairings_72 ?_
              refine fr_ishl h dX4_findPairings_74 (fun z45 w46 q47 w48 => ?_)
              refine fr_ior h dX4_findPairings_75 (fun z49 w50 q51 w52 => ?_)
              refine fr_cvV h kX4 at_89 wX4_findPairings lX4_43 (ih x_10 r hr o on ho (p + 1) z36 z41 z49 (by omega) (by omega) (by omega) (by omega) (by omega) (by omega) (by omega) (by omega) (by omega) (by omega)) rfl (by omega) (by omega) rfl (Nat.le_of_ble_eq_true rfl) dX4_findPairings_76 (fun x53 p56 => ?_)
              obtain ⟨p57, p58, p59, f60⟩ := p56
              refine fr_iinc (j := 5) (L' := [(0, vr G 89), (1, vi p), (2, vi u), (3, vj v), (5, vi w), (6, vi (l6_10 + 1))]) h dX4_findPairings_79 rfl (by decide) [1, 2, 3, 4, 5, 0] rfl ?_
              refine fr_goto (tgt := 24) h dX4_findPairings_82 (by decide) ?_
              exact ih10 (l6_10 + 1) x53 (by omega) (by omega) (by omega) (by omega) (by omega) (by omega) (fun a k0 k1 k2 => ((f60 a (by omega) (by omega) (by omega)).trans (g10_6 a (by omega) (by omega) (by omega)))) (by omega)
      exact HL10 ((5 - 0) + 1 : Int).toNat 0 x (by omega) (by omega) (by omega) (by omega) (by omega) (by omega) (fun a _ _ _ => rfl) (by omega)
    ·
      refine fr_aload_n h rfl 0 rfl dX4_findPairings_11 ?_
      refine fr_getr (z := o) (iz := 8) h kX4 fX4_32 at_89 rfl rfl e2 (by omega) dX4_findPairings_12 ?_
      refine fr_iload_n h rfl 2 rfl dX4_findPairings_15 ?_
      refine fr_lload_n h rfl 3 rfl dX4_findPairings_16 ?_
      refine fr_cvV h kX6 (Or_at (OrN_is ho)) wX6_add lX4_80 (c_X6_add x o on ho u v (by omega) (by omega)) rfl (by omega) (by omega) rfl (Nat.le_of_ble_eq_true rfl) dX4_findPairings_17 (fun x61 p64 => ?_)
      have f65 := p64
      have r66 := (congrFun (f65 89 (by omega)) 6)
      have r67 := (congrFun (f65 89 (by omega)) 7)
      have r68 := (congrFun (f65 89 (by omega)) 8)
      exact fr_vret h hq ⟨(by omega), (by omega), (by omega), (fun a k0 k1 k2 => (f65 a (by omega)))⟩ dX4_findPairings_20
set_option maxHeartbeats 200000 in
theorem c_X4_findSubsets : ∀ (d : Nat) (x : Mm) (r : Int) (hr : isRu r) (o : Int) (on : Nat) (ho : OrN o on) (p : Int) (n : Int) (u : Int) (v : Int) (h_p : fm_r p) (h_n : fm_r n) (h_u : fm_r u) (h_v : fm_l v) (e0 : x 89 6 = 3) (e1 : x 89 7 = r) (e2 : x 89 8 = o) (e3 : 0 ≤ n) (e4 : n ≤ p) (e5 : p ≤ 6), (6 - p) < d → CnV YC yX4_findSubsets cX4_findSubsets 8 (d + 10) (d * 40 + 300) (fun G => [vr G 89, vi p, vi n, vi u, vj v]) x (fun y' => (y' 89 6 = x 89 6) ∧ (y' 89 7 = x 89 7) ∧ (y' 89 8 = x 89 8) ∧ (∀ a : Int, (a < 89 ∨ 93 < a) → (a < o ∨ o + 1 < a) → (a < r ∨ r + 4 < a) → y' a = x a)) := by
  intro d
  induction d with
  | zero => intro x r hr o on ho p n u v h_p h_n h_u h_v e0 e1 e2 e3 e4 e5 hmu; exfalso; omega
  | succ d ih =>
    intro x r hr o on ho p n u v h_p h_n h_u h_v e0 e1 e2 e3 e4 e5 hmu
    refine cn_V (by decide) (fun _ => Nat.le_of_ble_eq_true rfl) (fun G C h hq => ?_)
    have h : OK YC G C cX4_findSubsets RX4 8 none (d + 1 + 10) ((d + 1) * 40 + 300) := h
    show FW YC G C 8 x 0 [(0, vr G 89), (1, vi p), (2, vi n), (3, vi u), (4, vj v)] []
    have h_r := Ru_b hr
    have h_o := OrN_b ho
    refine fr_aload_n h rfl 0 rfl dX4_findSubsets_0 ?_
    refine fr_getr (z := o) (iz := 8) h kX4 fX4_32 at_89 rfl rfl e2 (by omega) dX4_findSubsets_1 ?_
    refine fr_iload_n h rfl 3 rfl dX4_findSubsets_4 ?_
    refine fr_lload h 4 rfl dX4_findSubsets_5 ?_
    refine fr_cvV h kX6 (Or_at (OrN_is ho)) wX6_add lX4_80 (c_X6_add x o on ho u v (by omega) (by omega)) rfl (by omega) (by omega) rfl (Nat.le_of_ble_eq_true rfl) dX4_findSubsets_7 (fun x1 p4 => ?_)
    have f5 := p4
    refine fr_aload_n h rfl 0 rfl dX4_findSubsets_10 ?_
    refine fr_getr (z := 3) (iz := 6) h kX4 fX4_24 at_89 rfl rfl ((congrFun (f5 89 (by omega)) 6).trans e0) (by omega) dX4_findSubsets_11 ?_
    refine fr_cvI h kX8 (St_at St_3) wX8_picked lX4_131 (c_X8_picked x1 3 St_3) rfl (by omega) (by omega) rfl (Nat.le_of_ble_eq_true rfl) dX4_findSubsets_14 (fun z7 x6 w8 p9 => ?_)
    obtain ⟨p10, p11, p12, y13⟩ := p9
    rw [y13]
    clear y13
    refine fr_istore (L' := [(0, vr G 89), (1, vi p), (2, vi n), (3, vi u), (4, vj v), (6, vi z7)]) h dX4_findSubsets_17 (by decide) [1, 2, 3, 4, 5, 0] rfl ?_
    refine fr_iload_n h rfl 1 rfl dX4_findSubsets_19 ?_
    refine fr_istore (L' := [(0, vr G 89), (1, vi p), (2, vi n), (3, vi u), (4, vj v), (6, vi z7), (7, vi p)]) h dX4_findSubsets_20 (by decide) [1, 2, 3, 4, 5, 6, 0] rfl ?_
    have HL14 : ∀ (n14 : Nat) (l7_14 : Int) (x_14 : Mm), fm_r l7_14 → 0 ≤ l7_14 → l7_14 ≤ 6 → x_14 89 6 = 3 → x_14 89 7 = r → x_14 89 8 = o → p ≤ l7_14 → (∀ a : Int, (a < 89 ∨ 93 < a) → (a < o ∨ o + 1 < a) → (a < r ∨ r + 4 < a) → x_14 a = x1 a) → (6 - l7_14) < n14 → FW YC G C 8 x_14 22 [(0, vr G 89), (1, vi p), (2, vi n), (3, vi u), (4, vj v), (6, vi z7), (7, vi l7_14)] [] := by
      intro n14
      induction n14 with
      | zero =>
        intro l7_14 x_14 g14_0 g14_1 g14_2 g14_3 g14_4 g14_5 g14_6 g14_7 g14_8
        exfalso; omega
      | succ n14 ih14 =>
        intro l7_14 x_14 g14_0 g14_1 g14_2 g14_3 g14_4 g14_5 g14_6 g14_7 g14_8
        refine fr_iload h 6 rfl dX4_findSubsets_22 ?_
        refine fr_aload_n h rfl 0 rfl dX4_findSubsets_24 ?_
        refine fr_getr (z := 3) (iz := 6) h kX4 fX4_24 at_89 rfl rfl g14_3 (by omega) dX4_findSubsets_25 ?_
        refine fr_iload h 5 rfl dX4_findSubsets_28 ?_
        refine fr_cvI h kX8 (St_at St_3) wX8_sizeOf lX4_61 (c_X8_sizeOf x_14 3 St_3 z7 (by omega)) rfl (by omega) (by omega) rfl (Nat.le_of_ble_eq_true rfl) dX4_findSubsets_30 (fun z16 x15 w17 p18 => ?_)
        obtain ⟨p19, p20, p21, p22, y23⟩ := p18
        rw [y23]
        clear y23
        refine fr_icmp_ge (tgt := 74) h dX4_findSubsets_33 (by decide) (by omega) (by omega) (fun c24 => ?_) (fun c24 => ?_)
        ·
          have r25 := (congrFun (f5 89 (by omega)) 6)
          have r26 := (congrFun (f5 89 (by omega)) 7)
          have r27 := (congrFun (f5 89 (by omega)) 8)
          exact fr_vret h hq ⟨(by omega), (by omega), (by omega), (fun a k0 k1 k2 => ((g14_7 a (by omega) (by omega) (by omega)).trans (f5 a (by omega))))⟩ dX4_findSubsets_74
        ·
          refine fr_aload_n h rfl 0 rfl dX4_findSubsets_36 ?_
          refine fr_iload h 6 rfl dX4_findSubsets_37 ?_
          refine fr_iconst h dX4_findSubsets_39 ?_
          refine fr_iadd h dX4_findSubsets_40 ?_
          refine fr_iload_n h rfl 2 rfl dX4_findSubsets_41 ?_
          refine fr_iconst h dX4_findSubsets_42 ?_
          refine fr_iadd h dX4_findSubsets_43 ?_
          refine fr_normi (fun z28 w29 q30 => ?_)
          have w31 : fm_r ((n + 1)) → z28 = (n + 1) := fun q => (iI_inj q w29 q30).symm
          refine fr_iload_n h rfl 3 rfl dX4_findSubsets_44 ?_
          refine fr_aload_n h rfl 0 rfl dX4_findSubsets_45 ?_
          refine fr_getr (z := 3) (iz := 6) h kX4 fX4_24 at_89 rfl rfl g14_3 (by omega) dX4_findSubsets_46 ?_
          refine fr_iload h 5 rfl dX4_findSubsets_49 ?_
          refine fr_iload h 6 rfl dX4_findSubsets_51 ?_
          refine fr_cvI h kX8 (St_at St_3) wX8_numberAt lX4_71 (c_X8_numberAt x_14 3 St_3 z7 l7_14 (by omega) (by omega)) rfl (by omega) (by omega) rfl (Nat.le_of_ble_eq_true rfl) dX4_findSubsets_53 (fun z33 x32 w34 p35 => ?_)
          obtain ⟨p36, p37, p38, y39⟩ := p35
          rw [y39]
          clear y39
          refine fr_iadd h dX4_findSubsets_56 ?_
          refine fr_normi (fun z40 w41 q42 => ?_)
          have w43 : fm_r ((u + z33)) → z40 = (u + z33) := fun q => (iI_inj q w41 q42).symm
          refine fr_lload h 4 rfl dX4_findSubsets_57 ?_
          refine fr_iload_n h rfl 2 rfl dX4_findSubsets_59 ?_
          refine fr_iload h 6 rfl dX4_findSubsets_60 ?_
          refine fr_csL h wX2_with lX4_86 (c_X2_with x_14 v n l7_14 (by omega) (by omega) (by omega)) rfl (by omega) (by omega) rfl (Nat.le_of_ble_eq_true rfl) dX4_findSubsets_62 (fun z45 x44 w46 p47 => ?_)
          have y48 := p47
          rw [y48]
          clear y48
          have r49 := (congrFun (f5 89 (by omega)) 6)
          have r50 := (congrFun (f5 89 (by omega)) 7)
          have r51 := (congrFun (f5 89 (by omega)) 8)
          refine fr_cvV h kX4 at_89 wX4_findSubsets lX4_47 (ih x_14 r hr o on ho (l7_14 + 1) z28 z40 z45 (by omega) (by omega) (by omega) (by omega) (by omega) (by omega) (by omega) (by omega) (by omega) (by omega) (by omega)) rfl (by omega) (by omega) rfl (Nat.le_of_ble_eq_true rfl) dX4_findSubsets_65 (fun x52 p55 => ?_)
          obtain ⟨p56, p57, p58, f59⟩ := p55
          refine fr_iinc (j := 6) (L' := [(0, vr G 89), (1, vi p), (2, vi n), (3, vi u), (4, vj v), (6, vi z7), (7, vi (l7_14 + 1))]) h dX4_findSubsets_68 rfl (by decide) [1, 2, 3, 4, 5, 6, 0] rfl ?_
          refine fr_goto (tgt := 22) h dX4_findSubsets_71 (by decide) ?_
          have r60 := (congrFun (f5 89 (by omega)) 6)
          have r61 := (congrFun (f5 89 (by omega)) 7)
          have r62 := (congrFun (f5 89 (by omega)) 8)
          exact ih14 (l7_14 + 1) x52 (by omega) (by omega) (by omega) (by omega) (by omega) (by omega) (by omega) (fun a k0 k1 k2 => ((f59 a (by omega) (by omega) (by omega)).trans (g14_7 a (by omega) (by omega) (by omega)))) (by omega)
    have r63 := (congrFun (f5 89 (by omega)) 6)
    have r64 := (congrFun (f5 89 (by omega)) 7)
    have r65 := (congrFun (f5 89 (by omega)) 8)
    exact HL14 ((6 - p) + 1 : Int).toNat p x1 (by omega) (by omega) (by omega) (by omega) (by omega) (by omega) (by omega) (fun a _ _ _ => rfl) (by omega)
set_option maxHeartbeats 200000 in
theorem c_X4_findRoutes : ∀ (d : Nat) (x : Mm) (r : Int) (hr : isRu r) (o : Int) (on : Nat) (ho : OrN o on) (p : Int) (n : Int) (u : Int) (v : Int) (w : Int) (h_p : fm_r p) (h_n : fm_r n) (h_u : fm_r u) (h_v : fm_l v) (h_w : fm_r w) (e0 : x 89 6 = 3) (e1 : x 89 7 = r) (e2 : x 89 8 = o) (e3 : 0 ≤ p) (e4 : p ≤ 6) (e5 : 0 ≤ n) (e6 : n ≤ 6), (6 - n) < d → CnV YC yX4_findRoutes cX4_findRoutes 12 (d + 10) (d * 40 + 300) (fun G => [vr G 89, vi p, vi n, vi u, vj v, vi w]) x (fun y' => (y' 89 6 = x 89 6) ∧ (y' 89 7 = x 89 7) ∧ (y' 89 8 = x 89 8) ∧ (∀ a : Int, (a < 89 ∨ 93 < a) → (a < o ∨ o + 1 < a) → (a < r ∨ r + 4 < a) → y' a = x a)) := by
  intro d
  induction d with
  | zero => intro x r hr o on ho p n u v w h_p h_n h_u h_v h_w e0 e1 e2 e3 e4 e5 e6 hmu; exfalso; omega
  | succ d ih =>
    intro x r hr o on ho p n u v w h_p h_n h_u h_v h_w e0 e1 e2 e3 e4 e5 e6 hmu
    refine cn_V (by decide) (fun _ => Nat.le_of_ble_eq_true rfl) (fun G C h hq => ?_)
    have h : OK YC G C cX4_findRoutes RX4 12 none (d + 1 + 10) ((d + 1) * 40 + 300) := h
    show FW YC G C 12 x 0 [(0, vr G 89), (1, vi p), (2, vi n), (3, vi u), (4, vj v), (6, vi w)] []
    have h_r := Ru_b hr
    have h_o := OrN_b ho
    refine fr_lload h 4 rfl dX4_findRoutes_0 ?_
    refine fr_iload_n h rfl 2 rfl dX4_findRoutes_2 ?_
    refine fr_iload_n h rfl 1 rfl dX4_findRoutes_3 ?_
    refine fr_csL h wX2_with lX4_86 (c_X2_with x v n p (by omega) (by omega) (by omega)) rfl (by omega) (by omega) rfl (Nat.le_of_ble_eq_true rfl) dX4_findRoutes_4 (fun z2 x1 w3 p4 => ?_)
    have y5 := p4
    rw [y5]
    clear y5
    refine fr_lstore (L' := [(0, vr G 89), (1, vi p), (2, vi n), (3, vi u), (4, vj v), (6, vi w), (7, vj z2)]) h dX4_findRoutes_7 (by decide) [1, 2, 3, 4, 5, 6, 0] rfl ?_
    refine fr_iload_n h rfl 1 rfl dX4_findRoutes_9 ?_
    refine fr_aload_n h rfl 0 rfl dX4_findRoutes_10 ?_
    refine fr_getr (z := 3) (iz := 6) h kX4 fX4_24 at_89 rfl rfl e0 (by omega) dX4_findRoutes_11 ?_
    refine fr_cvI h kX8 (St_at St_3) wX8_secondEnd lX4_134 (c_X8_secondEnd x 3 St_3) rfl (by omega) (by omega) rfl (Nat.le_of_ble_eq_true rfl) dX4_findRoutes_14 (fun z7 x6 w8 p9 => ?_)
    obtain ⟨p10, p11, p12, y13⟩ := p9
    rw [y13]
    clear y13
    refine fr_icmp_ne (tgt := 31) h dX4_findRoutes_17 (by decide) (by omega) (by omega) (fun c14 => ?_) (fun c14 => ?_)
    ·
      refine fr_iload h 5 rfl dX4_findRoutes_31 ?_
      refine fr_iconst h dX4_findRoutes_33 ?_
      refine fr_iload_n h rfl 1 rfl dX4_findRoutes_34 ?_
      refine fr_ishl h dX4_findRoutes_35 (fun z15 w16 q17 w18 => ?_)
      refine fr_ior h dX4_findRoutes_36 (fun z19 w20 q21 w22 => ?_)
      refine fr_istore (L' := [(0, vr G 89), (1, vi p), (2, vi n), (3, vi u), (4, vj v), (6, vi w), (7, vj z2), (9, vi z19)]) h dX4_findRoutes_37 (by decide) [1, 2, 3, 4, 5, 6, 7, 0] rfl ?_
      refine fr_iconst h dX4_findRoutes_39 ?_
      refine fr_istore (L' := [(0, vr G 89), (1, vi p), (2, vi n), (3, vi u), (4, vj v), (6, vi w), (7, vj z2), (9, vi z19), (10, vi 0)]) h dX4_findRoutes_40 (by decide) [1, 2, 3, 4, 5, 6, 7, 8, 0] rfl ?_
      have HL23 : ∀ (n23 : Nat) (l10_23 : Int) (x_23 : Mm), fm_r l10_23 → 0 ≤ l10_23 → l10_23 ≤ 7 → x_23 89 6 = 3 → x_23 89 7 = r → x_23 89 8 = o → (∀ a : Int, (a < 89 ∨ 93 < a) → (a < o ∨ o + 1 < a) → (a < r ∨ r + 4 < a) → x_23 a = x a) → (7 - l10_23) < n23 → FW YC G C 12 x_23 42 [(0, vr G 89), (1, vi p), (2, vi n), (3, vi u), (4, vj v), (6, vi w), (7, vj z2), (9, vi z19), (10, vi l10_23)] [] := by
        intro n23
        induction n23 with
        | zero =>
          intro l10_23 x_23 g23_0 g23_1 g23_2 g23_3 g23_4 g23_5 g23_6 g23_7
          exfalso; omega
        | succ n23 ih23 =>
          intro l10_23 x_23 g23_0 g23_1 g23_2 g23_3 g23_4 g23_5 g23_6 g23_7
          refine fr_iload h 8 rfl dX4_findRoutes_42 ?_
          refine fr_bipush h rfl dX4_findRoutes_44 ?_
          refine fr_icmp_ge (tgt := 107) h dX4_findRoutes_46 (by decide) (by omega) (by omega) (fun c24 => ?_) (fun c24 => ?_)
          ·
            exact fr_vret h hq ⟨(by omega), (by omega), (by omega), (fun a k0 k1 k2 => (g23_6 a (by omega) (by omega) (by omega)))⟩ dX4_findRoutes_107
          ·
            refine fr_iload_n h rfl 2 rfl dX4_findRoutes_49 ?_
            refine fr_iconst h dX4_findRoutes_50 ?_
            refine fr_iadd h dX4_findRoutes_51 ?_
            refine fr_normi (fun z25 w26 q27 => ?_)
            have w28 : fm_r ((n + 1)) → z25 = (n + 1) := fun q => (iI_inj q w26 q27).symm
            refine fr_bipush h rfl dX4_findRoutes_52 ?_
            refine fr_icmp_ge (tgt := 107) h dX4_findRoutes_54 (by decide) (by omega) (by omega) (fun c29 => ?_) (fun c29 => ?_)
            ·
              exact fr_vret h hq ⟨(by omega), (by omega), (by omega), (fun a k0 k1 k2 => (g23_6 a (by omega) (by omega) (by omega)))⟩ dX4_findRoutes_107
            ·
              refine fr_aload_n h rfl 0 rfl dX4_findRoutes_57 ?_
              refine fr_getr (z := 3) (iz := 6) h kX4 fX4_24 at_89 rfl rfl g23_3 (by omega) dX4_findRoutes_58 ?_
              refine fr_iload_n h rfl 1 rfl dX4_findRoutes_61 ?_
              refine fr_iload h 8 rfl dX4_findRoutes_62 ?_
              refine fr_cvI h kX8 (St_at St_3) wX8_weight lX4_94 (c_X8_weight x_23 3 St_3 p l10_23 (by omega) (by omega)) rfl (by omega) (by omega) rfl (Nat.le_of_ble_eq_true rfl) dX4_findRoutes_64 (fun z31 x30 w32 p33 => ?_)
              obtain ⟨p34, p35, y36⟩ := p33
              rw [y36]
              clear y36
              refine fr_istore (L' := [(0, vr G 89), (1, vi p), (2, vi n), (3, vi u), (4, vj v), (6, vi w), (7, vj z2), (9, vi z19), (10, vi l10_23), (11, vi z31)]) h dX4_findRoutes_67 (by decide) [1, 2, 3, 4, 5, 6, 7, 8, 9, 0] rfl ?_
              refine fr_iload h 9 rfl dX4_findRoutes_69 ?_
              refine fr_if_le (tgt := 101) h dX4_findRoutes_71 (by decide) (by omega) (fun c37 => ?_) (fun c37 => ?_)
              ·
                refine fr_iinc (j := 8) (L' := [(0, vr G 89), (1, vi p), (2, vi n), (3, vi u), (4, vj v), (6, vi w), (7, vj z2), (9, vi z19), (10, vi (l10_23 + 1)), (11, vi z31)]) h dX4_findRoutes_101 rfl (by decide) [1, 2, 3, 4, 5, 6, 7, 8, 0, 9] rfl ?_
                refine fr_goto (tgt := 42) h dX4_findRoutes_104 (by decide) ?_
                refine fr_sub (L' := [(0, vr G 89), (1, vi p), (2, vi n), (3, vi u), (4, vj v), (6, vi w), (7, vj z2), (9, vi z19), (10, vi (l10_23 + 1))]) [0, 1, 2, 3, 4, 5, 6, 7, 8] rfl ?_
                exact ih23 (l10_23 + 1) x_23 (by omega) (by omega) (by omega) (by omega) (by omega) (by omega) (fun a k0 k1 k2 => (g23_6 a (by omega) (by omega) (by omega))) (by omega)
              ·
                refine fr_iload h 7 rfl dX4_findRoutes_74 ?_
                refine fr_iconst h dX4_findRoutes_76 ?_
                refine fr_iload h 8 rfl dX4_findRoutes_77 ?_
                refine fr_ishl h dX4_findRoutes_79 (fun z38 w39 q40 w41 => ?_)
                refine fr_iand h dX4_findRoutes_80 (fun z42 w43 q44 w45 => ?_)
                refine fr_if_ne (tgt := 101) h dX4_findRoutes_81 (by decide) (by omega) (fun c46 => ?_) (fun c46 => ?_)
                ·
                  refine fr_iinc (j := 8) (L' := [(0, vr G 89), (1, vi p), (2, vi n), (3, vi u), (4, vj v), (6, vi w), (7, vj z2), (9, vi z19), (10, vi (l10_23 + 1)), (11, vi z31)]) h dX4_findRoutes_101 rfl (by decide) [1, 2, 3, 4, 5, 6, 7, 8, 0, 9] rfl ?_
                  refine fr_goto (tgt := 42) h dX4_findRoutes_104 (by decide) ?_
                  refine fr_sub (L' := [(0, vr G 89), (1, vi p), (2, vi n), (3, vi u), (4, vj v), (6, vi w), (7, vj z2), (9, vi z19), (10, vi (l10_23 + 1))]) [0, 1, 2, 3, 4, 5, 6, 7, 8] rfl ?_
                  exact ih23 (l10_23 + 1) x_23 (by omega) (by omega) (by omega) (by omega) (by omega) (by omega) (fun a k0 k1 k2 => (g23_6 a (by omega) (by omega) (by omega))) (by omega)
                ·
                  refine fr_aload_n h rfl 0 rfl dX4_findRoutes_84 ?_
                  refine fr_iload h 8 rfl dX4_findRoutes_85 ?_
                  refine fr_iload_n h rfl 2 rfl dX4_findRoutes_87 ?_
                  refine fr_iconst h dX4_findRoutes_88 ?_
                  refine fr_iadd h dX4_findRoutes_89 ?_
                  refine fr_normi (fun z47 w48 q49 => ?_)
                  have w50 : fm_r ((n + 1)) → z47 = (n + 1) := fun q => (iI_inj q w48 q49).symm
                  refine fr_iload_n h rfl 3 rfl dX4_findRoutes_90 ?_
                  refine fr_iload h 9 rfl dX4_findRoutes_91 ?_
                  refine fr_iadd h dX4_findRoutes_93 ?_
                  refine fr_normi (fun z51 w52 q53 => ?_)
                  have w54 : fm_r ((u + z31)) → z51 = (u + z31) := fun q => (iI_inj q w52 q53).symm
                  refine fr_lload h 6 rfl dX4_findRoutes_94 ?_
                  refine fr_iload h 7 rfl dX4_findRoutes_96 ?_
                  refine fr_cvV h kX4 at_89 wX4_findRoutes lX4_57 (ih x_23 r hr o on ho l10_23 z47 z51 z2 z19 (by omega) (by omega) (by omega) (by omega) (by omega) (by omega) (by omega) (by omega) (by omega) (by omega) (by omega) (by omega) (by omega)) rfl (by omega) (by omega) rfl (Nat.le_of_ble_eq_true rfl) dX4_findRoutes_98 (fun x55 p58 => ?_)
                  obtain ⟨p59, p60, p61, f62⟩ := p58
                  refine fr_iinc (j := 8) (L' := [(0, vr G 89), (1, vi p), (2, vi n), (3, vi u), (4, vj v), (6, vi w), (7, vj z2), (9, vi z19), (10, vi (l10_23 + 1)), (11, vi z31)]) h dX4_findRoutes_101 rfl (by decide) [1, 2, 3, 4, 5, 6, 7, 8, 0, 9] rfl ?_
                  refine fr_goto (tgt := 42) h dX4_findRoutes_104 (by decide) ?_
                  refine fr_sub (L' := [(0, vr G 89), (1, vi p), (2, vi n), (3, vi u), (4, vj v), (6, vi w), (7, vj z2), (9, vi z19), (10, vi (l10_23 + 1))]) [0, 1, 2, 3, 4, 5, 6, 7, 8] rfl ?_
                  exact ih23 (l10_23 + 1) x55 (by omega) (by omega) (by omega) (by omega) (by omega) (by omega) (fun a k0 k1 k2 => ((f62 a (by omega) (by omega) (by omega)).trans (g23_6 a (by omega) (by omega) (by omega)))) (by omega)
      exact HL23 ((7 - 0) + 1 : Int).toNat 0 x (by omega) (by omega) (by omega) (by omega) (by omega) (by omega) (fun a _ _ _ => rfl) (by omega)
    ·
      refine fr_aload_n h rfl 0 rfl dX4_findRoutes_20 ?_
      refine fr_getr (z := o) (iz := 8) h kX4 fX4_32 at_89 rfl rfl e2 (by omega) dX4_findRoutes_21 ?_
      refine fr_iload_n h rfl 3 rfl dX4_findRoutes_24 ?_
      refine fr_lload h 6 rfl dX4_findRoutes_25 ?_
      refine fr_cvV h kX6 (Or_at (OrN_is ho)) wX6_add lX4_80 (c_X6_add x o on ho u z2 (by omega) (by omega)) rfl (by omega) (by omega) rfl (Nat.le_of_ble_eq_true rfl) dX4_findRoutes_27 (fun x63 p66 => ?_)
      have f67 := p66
      have r68 := (congrFun (f67 89 (by omega)) 6)
      have r69 := (congrFun (f67 89 (by omega)) 7)
      have r70 := (congrFun (f67 89 (by omega)) 8)
      exact fr_vret h hq ⟨(by omega), (by omega), (by omega), (fun a k0 k1 k2 => (f67 a (by omega)))⟩ dX4_findRoutes_30
