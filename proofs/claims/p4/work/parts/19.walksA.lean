set_option maxHeartbeats 200000 in
theorem c_X11_isKind (x : Mm) (p : Int) (h_p : fm_r p) : CnI YC yX11_isKind cX11_isKind 1 .boolean 0 0 (fun G => [vi p]) x (fun z y' => (z = 0 ∨ z = 1) ∧ ((z = 1 ↔ 0 ≤ p ∧ p < 5)) ∧ (y' = x)) := by
  refine cn_I (by decide) (fun _ => Nat.le_of_ble_eq_true rfl) (fun G C h hq => ?_)
  have h : OK YC G C cX11_isKind RX11 1 (some .boolean) 0 0 := h
  show FW YC G C 1 x 0 [(0, vi p)] []
  refine fr_iload_n h rfl 0 rfl dX11_isKind_0 ?_
  refine fr_if_lt (tgt := 13) h dX11_isKind_1 (by decide) (by omega) (fun c1 => ?_) (fun c1 => ?_)
  ·
    refine fr_iconst h dX11_isKind_13 ?_
    exact fr_zret h rfl hq (by omega) ⟨(by omega), (by omega), rfl⟩ dX11_isKind_14
  ·
    refine fr_iload_n h rfl 0 rfl dX11_isKind_4 ?_
    refine fr_iconst h dX11_isKind_5 ?_
    refine fr_icmp_ge (tgt := 13) h dX11_isKind_6 (by decide) (by omega) (by omega) (fun c2 => ?_) (fun c2 => ?_)
    ·
      refine fr_iconst h dX11_isKind_13 ?_
      exact fr_zret h rfl hq (by omega) ⟨(by omega), (by omega), rfl⟩ dX11_isKind_14
    ·
      refine fr_iconst h dX11_isKind_9 ?_
      refine fr_goto (tgt := 14) h dX11_isKind_10 (by decide) ?_
      exact fr_zret h rfl hq (by omega) ⟨(by omega), (by omega), rfl⟩ dX11_isKind_14
set_option maxHeartbeats 200000 in
theorem c_X11_isPlace (x : Mm) (p : Int) (w : Int) (h_p : fm_r p) (h_w : fm_r w) : CnI YC yX11_isPlace cX11_isPlace 2 .boolean 0 0 (fun G => [vi p, vi w]) x (fun z y' => (z = 0 ∨ z = 1) ∧ ((z = 1 ↔ 1 ≤ p ∧ p ≤ w)) ∧ (y' = x)) := by
  refine cn_I (by decide) (fun _ => Nat.le_of_ble_eq_true rfl) (fun G C h hq => ?_)
  have h : OK YC G C cX11_isPlace RX11 2 (some .boolean) 0 0 := h
  show FW YC G C 2 x 0 [(0, vi p), (1, vi w)] []
  refine fr_iload_n h rfl 0 rfl dX11_isPlace_0 ?_
  refine fr_iconst h dX11_isPlace_1 ?_
  refine fr_icmp_lt (tgt := 14) h dX11_isPlace_2 (by decide) (by omega) (by omega) (fun c1 => ?_) (fun c1 => ?_)
  ·
    refine fr_iconst h dX11_isPlace_14 ?_
    exact fr_zret h rfl hq (by omega) ⟨(by omega), (by omega), rfl⟩ dX11_isPlace_15
  ·
    refine fr_iload_n h rfl 0 rfl dX11_isPlace_5 ?_
    refine fr_iload_n h rfl 1 rfl dX11_isPlace_6 ?_
    refine fr_icmp_gt (tgt := 14) h dX11_isPlace_7 (by decide) (by omega) (by omega) (fun c2 => ?_) (fun c2 => ?_)
    ·
      refine fr_iconst h dX11_isPlace_14 ?_
      exact fr_zret h rfl hq (by omega) ⟨(by omega), (by omega), rfl⟩ dX11_isPlace_15
    ·
      refine fr_iconst h dX11_isPlace_10 ?_
      refine fr_goto (tgt := 15) h dX11_isPlace_11 (by decide) ?_
      exact fr_zret h rfl hq (by omega) ⟨(by omega), (by omega), rfl⟩ dX11_isPlace_15
set_option maxHeartbeats 200000 in
theorem c_X11_changed (x : Mm) : CnV YC yX11_changed cX11_changed 2 1 20 (fun G => [vr G 0]) x (fun y' => (∀ a : Int, (a < 79 ∨ 88 < a) → (a < 95 ∨ 97 < a) → y' a = x a)) := by
  refine cn_V (by decide) (fun _ => Nat.le_of_ble_eq_true rfl) (fun G C h hq => ?_)
  have h : OK YC G C cX11_changed RX11 2 none 1 20 := h
  show FW YC G C 2 x 0 [(0, vr G 0)] []
  refine fr_iconst h dX11_changed_0 ?_
  refine fr_istore_n (L' := [(0, vr G 0), (1, vi 0)]) h rfl dX11_changed_1 (by decide) [1, 0] rfl ?_
  have HL1 : ∀ (n1 : Nat) (l1_1 : Int) (x_1 : Mm), fm_r l1_1 → 0 ≤ l1_1 → l1_1 ≤ 5 → (∀ a : Int, (a < 79 ∨ 88 < a) → (a < 95 ∨ 97 < a) → x_1 a = x a) → (5 - l1_1) < n1 → FW YC G C 2 x_1 2 [(0, vr G 0), (1, vi l1_1)] [] := by
    intro n1
    induction n1 with
    | zero =>
      intro l1_1 x_1 g1_0 g1_1 g1_2 g1_3 g1_4
      exfalso; omega
    | succ n1 ih1 =>
      intro l1_1 x_1 g1_0 g1_1 g1_2 g1_3 g1_4
      refine fr_iload_n h rfl 1 rfl dX11_changed_2 ?_
      refine fr_iconst h dX11_changed_3 ?_
      refine fr_icmp_ge (tgt := 22) h dX11_changed_4 (by decide) (by omega) (by omega) (fun c2 => ?_) (fun c2 => ?_)
      ·
        refine fr_iconst h dX11_changed_22 ?_
        refine fr_istore_n (L' := [(0, vr G 0), (1, vi 0)]) h rfl dX11_changed_23 (by decide) [1, 0] rfl ?_
        have HL3 : ∀ (n3 : Nat) (l1_3 : Int) (x_3 : Mm), fm_r l1_3 → 0 ≤ l1_3 → l1_3 ≤ 3 → (∀ a : Int, (a < 79 ∨ 88 < a) → (a < 95 ∨ 97 < a) → x_3 a = x_1 a) → (3 - l1_3) < n3 → FW YC G C 2 x_3 24 [(0, vr G 0), (1, vi l1_3)] [] := by
          intro n3
          induction n3 with
          | zero =>
            intro l1_3 x_3 g3_0 g3_1 g3_2 g3_3 g3_4
            exfalso; omega
          | succ n3 ih3 =>
            intro l1_3 x_3 g3_0 g3_1 g3_2 g3_3 g3_4
            refine fr_iload_n h rfl 1 rfl dX11_changed_24 ?_
            refine fr_iconst h dX11_changed_25 ?_
            refine fr_icmp_ge (tgt := 44) h dX11_changed_26 (by decide) (by omega) (by omega) (fun c4 => ?_) (fun c4 => ?_)
            ·
              exact fr_vret h hq (fun a k0 k1 => ((g3_3 a (by omega) (by omega)).trans (g1_3 a (by omega) (by omega)))) dX11_changed_44
            ·
              refine fr_aload_n h rfl 0 rfl dX11_changed_29 ?_
              refine fr_getc (z := 94) (iz := 9) h kX11 fX11_63 at_0 rfl rfl rf_0_9 (by omega) dX11_changed_30 ?_
              refine fr_iload_n h rfl 1 rfl dX11_changed_33 ?_
              refine fr_aaldc7 h ar_94 (by omega) (by omega) (rx_94 (by omega) (by omega)) (by omega) dX11_changed_34 (fun q5 w6 => ?_)
              have i7 : isCu q5 := by rw [w6]; exact Cu_ix94 (by omega) (by omega)
              have h_q5 := Cu_b i7
              refine fr_cvV h kX3 (Cu_at i7) wX3_outdate lX11_368 (c_X3_outdate x_3 q5 i7) rfl (by decide) (by decide) rfl (Nat.le_of_ble_eq_true rfl) dX11_changed_35 (fun x8 p11 => ?_)
              have f12 := p11
              refine fr_iinc (j := 1) (L' := [(0, vr G 0), (1, vi (l1_3 + 1))]) h dX11_changed_38 rfl (by decide) [1, 0] rfl ?_
              refine fr_goto (tgt := 24) h dX11_changed_41 (by decide) ?_
              exact ih3 (l1_3 + 1) x8 (by omega) (by omega) (by omega) (fun a k0 k1 => ((f12 a (by omega)).trans (g3_3 a (by omega) (by omega)))) (by omega)
        exact HL3 ((3 - 0) + 1 : Int).toNat 0 x_1 (by omega) (by omega) (by omega) (fun a _ _ => rfl) (by omega)
      ·
        refine fr_aload_n h rfl 0 rfl dX11_changed_7 ?_
        refine fr_getc (z := 78) (iz := 7) h kX11 fX11_50 at_0 rfl rfl rf_0_7 (by omega) dX11_changed_8 ?_
        refine fr_iload_n h rfl 1 rfl dX11_changed_11 ?_
        refine fr_aaldc6 h ar_78 (by omega) (by omega) (rx_78 (by omega) (by omega)) (by omega) dX11_changed_12 (fun q13 w14 => ?_)
        obtain ⟨n16, i15⟩ := OrN_ex (show isOr q13 by rw [w14]; exact Or_ix78 (by omega) (by omega))
        have h_q13 := OrN_b i15
        refine fr_cvV h kX6 (Or_at (OrN_is i15)) wX6_outdate lX11_365 (c_X6_outdate x_1 q13 n16 i15) rfl (by decide) (by decide) rfl (Nat.le_of_ble_eq_true rfl) dX11_changed_13 (fun x17 p20 => ?_)
        have f21 := p20
        refine fr_iinc (j := 1) (L' := [(0, vr G 0), (1, vi (l1_1 + 1))]) h dX11_changed_16 rfl (by decide) [1, 0] rfl ?_
        refine fr_goto (tgt := 2) h dX11_changed_19 (by decide) ?_
        exact ih1 (l1_1 + 1) x17 (by omega) (by omega) (by omega) (fun a k0 k1 => ((f21 a (by omega)).trans (g1_3 a (by omega) (by omega)))) (by omega)
  exact HL1 ((5 - 0) + 1 : Int).toNat 0 x (by omega) (by omega) (by omega) (fun a _ _ => rfl) (by omega)
set_option maxHeartbeats 200000 in
theorem c_X11_settled (x : Mm) (p : Int) (h_p : fm_r p) : CnI YC yX11_settled cX11_settled 2 .int 3 68 (fun G => [vr G 0, vi p]) x (fun z y' => (z = p) ∧ (∀ a : Int, (a < 14 ∨ 65 < a) → (a < 79 ∨ 88 < a) → (a < 95 ∨ 97 < a) → y' a = x a)) := by
  refine cn_I (by decide) (fun _ => Nat.le_of_ble_eq_true rfl) (fun G C h hq => ?_)
  have h : OK YC G C cX11_settled RX11 2 (some .int) 3 68 := h
  show FW YC G C 2 x 0 [(0, vr G 0), (1, vi p)] []
  refine fr_iload_n h rfl 1 rfl dX11_settled_0 ?_
  refine fr_if_lt (tgt := 19) h dX11_settled_1 (by decide) (by omega) (fun c1 => ?_) (fun c1 => ?_)
  ·
    refine fr_iload_n h rfl 1 rfl dX11_settled_19 ?_
    exact fr_iret h hq (by omega) ⟨(by omega), (fun a _ _ _ => rfl)⟩ dX11_settled_20
  ·
    refine fr_aload_n h rfl 0 rfl dX11_settled_4 ?_
    refine fr_getc (z := 14) (iz := 4) h kX11 fX11_36 at_0 rfl rfl rf_0_4 (by omega) dX11_settled_5 ?_
    refine fr_aload_n h rfl 0 rfl dX11_settled_8 ?_
    refine fr_getc (z := 8) (iz := 2) h kX11 fX11_23 at_0 rfl rfl rf_0_2 (by omega) dX11_settled_9 ?_
    refine fr_cvV h kX5 at_14 wX5_add lX11_363 (c_X5_add x 8 St_8) rfl (by decide) (by decide) rfl (Nat.le_of_ble_eq_true rfl) dX11_settled_12 (fun x2 p5 => ?_)
    have f6 := p5
    refine fr_aload_n h rfl 0 rfl dX11_settled_15 ?_
    refine fr_cvV h kX11 at_0 wX11_changed lX11_136 (c_X11_changed x2) rfl (by decide) (by decide) rfl (Nat.le_of_ble_eq_true rfl) dX11_settled_16 (fun x7 p10 => ?_)
    have f11 := p10
    refine fr_iload_n h rfl 1 rfl dX11_settled_19 ?_
    exact fr_iret h hq (by omega) ⟨(by omega), (fun a k0 k1 k2 => ((f11 a (by omega) (by omega)).trans (f6 a (by omega))))⟩ dX11_settled_20
set_option maxHeartbeats 200000 in
theorem c_X11_orderOf (x : Mm) (p : Int) (h_p : fm_r p) (e0 : 0 ≤ p) (e1 : p < 5) (e2 : ((x 0 13 = 110 ∧ x 0 14 = 115) ∨ (x 0 13 = 115 ∧ x 0 14 = 110))) : CnR YC yX11_orderOf cX11_orderOf 3 (.object "BestWalks$Order") 26 895 (fun G => [vr G 0, vi p]) x (fun z y' => (z = 79 + 2 * p) ∧ (∀ a : Int, (a < 79 ∨ 93 < a) → (a < 110 ∨ 119 < a) → y' a = x a)) := by
  refine cn_R (by decide) (fun _ => Nat.le_of_ble_eq_true rfl) (fun G C h hq => ?_)
  have h : OK YC G C cX11_orderOf RX11 3 (some (.object "BestWalks$Order")) 26 895 := h
  show FW YC G C 3 x 0 [(0, vr G 0), (1, vi p)] []
  obtain ⟨r, hr, er⟩ : ∃ r : Int, isRu r ∧ x 0 13 = r := ⟨x 0 13, by unfold isRu; omega, rfl⟩
  have h_r := Ru_b hr
  obtain ⟨q, hq2, eq⟩ : ∃ q : Int, isRu q ∧ x 0 14 = q := ⟨x 0 14, by unfold isRu; omega, rfl⟩
  have h_q := Ru_b hq2
  refine fr_aload_n h rfl 0 rfl dX11_orderOf_0 ?_
  refine fr_getc (z := 78) (iz := 7) h kX11 fX11_50 at_0 rfl rfl rf_0_7 (by omega) dX11_orderOf_1 ?_
  refine fr_iload_n h rfl 1 rfl dX11_orderOf_4 ?_
  refine fr_aaldc6 h ar_78 (by omega) (by omega) (rx_78 (by omega) (by omega)) (by omega) dX11_orderOf_5 (fun q1 w2 => ?_)
  obtain ⟨n4, i3⟩ := OrN_ex (show isOr q1 by rw [w2]; exact Or_ix78 (by omega) (by omega))
  have h_q1 := OrN_b i3
  refine fr_astore_n (L' := [(0, vr G 0), (1, vi p), (2, vr G q1)]) h rfl dX11_orderOf_6 (by decide) [1, 2, 0] rfl ?_
  refine fr_aload_n h rfl 2 rfl dX11_orderOf_7 ?_
  refine fr_cvI h kX6 (Or_at (OrN_is i3)) wX6_isKnown lX11_369 (c_X6_isKnown x q1 n4 i3) rfl (by decide) (by decide) rfl (Nat.le_of_ble_eq_true rfl) dX11_orderOf_8 (fun z6 x5 w7 p8 => ?_)
  obtain ⟨p9, y10⟩ := p8
  rw [y10]
  clear y10
  refine fr_if_ne (tgt := 39) h dX11_orderOf_11 (by decide) (by omega) (fun c11 => ?_) (fun c11 => ?_)
  ·
    refine fr_aload_n h rfl 2 rfl dX11_orderOf_39 ?_
    exact fr_aret h (Or.inl ⟨_, rfl⟩) hq ⟨(by omega), (fun a _ _ => rfl)⟩ dX11_orderOf_40
  ·
    refine fr_aload_n h rfl 2 rfl dX11_orderOf_14 ?_
    refine fr_cvV h kX6 (Or_at (OrN_is i3)) wX6_clear lX11_372 (c_X6_clear x q1 n4 i3) rfl (by decide) (by decide) rfl (Nat.le_of_ble_eq_true rfl) dX11_orderOf_15 (fun x12 p15 => ?_)
    have f16 := p15
    refine fr_aload_n h rfl 0 rfl dX11_orderOf_18 ?_
    refine fr_getc (z := 89) (iz := 8) h kX11 fX11_57 at_0 rfl rfl rf_0_8 (by omega) dX11_orderOf_19 ?_
    refine fr_iload_n h rfl 1 rfl dX11_orderOf_22 ?_
    refine fr_aload_n h rfl 0 rfl dX11_orderOf_23 ?_
    refine fr_getc (z := 3) (iz := 1) h kX11 fX11_19 at_0 rfl rfl rf_0_1 (by omega) dX11_orderOf_24 ?_
    refine fr_aload_n h rfl 0 rfl dX11_orderOf_27 ?_
    refine fr_getr (z := r) (iz := 13) h kX11 fX11_88 at_0 rfl rfl ((congrFun (f16 0 (by omega)) 13).trans er) (by omega) dX11_orderOf_28 ?_
    refine fr_aload_n h rfl 2 rfl dX11_orderOf_31 ?_
    refine fr_cvV h kX4 at_89 wX4_find lX11_373 (c_X4_find x12 p r hr q1 n4 i3 (by omega)) rfl (by decide) (by decide) rfl (Nat.le_of_ble_eq_true rfl) dX11_orderOf_32 (fun x17 p20 => ?_)
    have f21 := p20
    refine fr_aload_n h rfl 2 rfl dX11_orderOf_35 ?_
    refine fr_cvV h kX6 (Or_at (OrN_is i3)) wX6_sort lX11_377 (c_X6_sort x17 q1 n4 i3) rfl (by decide) (by decide) rfl (Nat.le_of_ble_eq_true rfl) dX11_orderOf_36 (fun x22 p25 => ?_)
    have f26 := p25
    refine fr_aload_n h rfl 2 rfl dX11_orderOf_39 ?_
    exact fr_aret h (Or.inl ⟨_, rfl⟩) hq ⟨(by omega), (fun a k0 k1 => ((f26 a (by omega)).trans ((f21 a (by omega) (by omega) (by omega)).trans (f16 a (by omega)))))⟩ dX11_orderOf_40
set_option maxHeartbeats 200000 in
theorem c_X11_tellOne (x : Mm) (o : Int) (on : Nat) (ho : OrN o on) (p : Int) (h_p : fm_r p) : CnI YC yX11_tellOne cX11_tellOne 7 .int 2 44 (fun G => [vr G 0, vr G o, vi p]) x (fun z y' => (0 ≤ z) ∧ (z ≤ 8) ∧ (∀ a : Int, (a < 107 ∨ 108 < a) → y' a = x a)) := by
  refine cn_I (by decide) (fun _ => Nat.le_of_ble_eq_true rfl) (fun G C h hq => ?_)
  have h : OK YC G C cX11_tellOne RX11 7 (some .int) 2 44 := h
  show FW YC G C 7 x 0 [(0, vr G 0), (1, vr G o), (2, vi p)] []
  have h_o := OrN_b ho
  refine fr_aload_n h rfl 1 rfl dX11_tellOne_0 ?_
  refine fr_iload_n h rfl 2 rfl dX11_tellOne_1 ?_
  refine fr_cvL h kX6 (Or_at (OrN_is ho)) wX6_codeAt lX11_251 (c_X6_codeAt x o on ho p (by omega)) rfl (by decide) (by decide) rfl (Nat.le_of_ble_eq_true rfl) dX11_tellOne_2 (fun z2 x1 w3 p4 => ?_)
  have y5 := p4
  rw [y5]
  clear y5
  refine fr_lstore_n (L' := [(0, vr G 0), (1, vr G o), (2, vi p), (3, vj z2)]) h rfl dX11_tellOne_5 (by decide) [1, 2, 3, 0] rfl ?_
  refine fr_lload_n h rfl 3 rfl dX11_tellOne_6 ?_
  refine fr_csI h wX2_lengthOf lX11_380 (c_X2_lengthOf x z2 (by omega)) rfl (by decide) (by decide) rfl (Nat.le_of_ble_eq_true rfl) dX11_tellOne_7 (fun z7 x6 w8 p9 => ?_)
  obtain ⟨p10, p11, y12⟩ := p9
  rw [y12]
  clear y12
  refine fr_istore (L' := [(0, vr G 0), (1, vr G o), (2, vi p), (3, vj z2), (5, vi z7)]) h dX11_tellOne_10 (by decide) [1, 2, 3, 4, 0] rfl ?_
  refine fr_aload_n h rfl 0 rfl dX11_tellOne_12 ?_
  refine fr_getc (z := 107) (iz := 11) h kX11 fX11_77 at_0 rfl rfl rf_0_11 (by omega) dX11_tellOne_13 ?_
  refine fr_aload_n h rfl 1 rfl dX11_tellOne_16 ?_
  refine fr_iload_n h rfl 2 rfl dX11_tellOne_17 ?_
  refine fr_cvI h kX6 (Or_at (OrN_is ho)) wX6_costAt lX11_220 (c_X6_costAt x o on ho p (by omega)) rfl (by decide) (by decide) rfl (Nat.le_of_ble_eq_true rfl) dX11_tellOne_18 (fun z14 x13 w15 p16 => ?_)
  have y17 := p16
  rw [y17]
  clear y17
  refine fr_i2l h (by omega) dX11_tellOne_21 ?_
  refine fr_cvV h kX10 at_107 wX10_only lX11_192 (c_X10_only x z14 (by omega)) rfl (by decide) (by decide) rfl (Nat.le_of_ble_eq_true rfl) dX11_tellOne_22 (fun x18 p21 => ?_)
  have f22 := p21
  refine fr_iconst h dX11_tellOne_25 ?_
  refine fr_istore (L' := [(0, vr G 0), (1, vr G o), (2, vi p), (3, vj z2), (5, vi z7), (6, vi 0)]) h dX11_tellOne_26 (by decide) [1, 2, 3, 4, 5, 0] rfl ?_
  have HL23 : ∀ (n23 : Nat) (l6_23 : Int) (x_23 : Mm), fm_r l6_23 → 0 ≤ l6_23 → l6_23 ≤ 8 → (∀ a : Int, (a < 107 ∨ 108 < a) → x_23 a = x18 a) → (8 - l6_23) < n23 → FW YC G C 7 x_23 28 [(0, vr G 0), (1, vr G o), (2, vi p), (3, vj z2), (5, vi z7), (6, vi l6_23)] [] := by
    intro n23
    induction n23 with
    | zero =>
      intro l6_23 x_23 g23_0 g23_1 g23_2 g23_3 g23_4
      exfalso; omega
    | succ n23 ih23 =>
      intro l6_23 x_23 g23_0 g23_1 g23_2 g23_3 g23_4
      refine fr_iload h 5 rfl dX11_tellOne_28 ?_
      refine fr_iload h 4 rfl dX11_tellOne_30 ?_
      refine fr_icmp_ge (tgt := 55) h dX11_tellOne_32 (by decide) (by omega) (by omega) (fun c24 => ?_) (fun c24 => ?_)
      ·
        refine fr_iload h 4 rfl dX11_tellOne_55 ?_
        exact fr_iret h hq (by omega) ⟨(by omega), (by omega), (fun a k0 => ((g23_3 a (by omega)).trans (f22 a (by omega))))⟩ dX11_tellOne_57
      ·
        refine fr_aload_n h rfl 0 rfl dX11_tellOne_35 ?_
        refine fr_getc (z := 107) (iz := 11) h kX11 fX11_77 at_0 rfl rfl rf_0_11 (by omega) dX11_tellOne_36 ?_
        refine fr_lload_n h rfl 3 rfl dX11_tellOne_39 ?_
        refine fr_iload h 5 rfl dX11_tellOne_40 ?_
        refine fr_csI h wX2_numberAt lX11_255 (c_X2_numberAt x_23 z2 l6_23 (by omega) (by omega)) rfl (by decide) (by decide) rfl (Nat.le_of_ble_eq_true rfl) dX11_tellOne_42 (fun z26 x25 w27 p28 => ?_)
        obtain ⟨p29, p30, y31⟩ := p28
        rw [y31]
        clear y31
        refine fr_i2l h (by omega) dX11_tellOne_45 ?_
        refine fr_cvV h kX10 at_107 wX10_add lX11_223 (c_X10_add x_23 z26 (by omega)) rfl (by decide) (by decide) rfl (Nat.le_of_ble_eq_true rfl) dX11_tellOne_46 (fun x32 p35 => ?_)
        have f36 := p35
        refine fr_iinc (j := 5) (L' := [(0, vr G 0), (1, vr G o), (2, vi p), (3, vj z2), (5, vi z7), (6, vi (l6_23 + 1))]) h dX11_tellOne_49 rfl (by decide) [1, 2, 3, 4, 5, 0] rfl ?_
        refine fr_goto (tgt := 28) h dX11_tellOne_52 (by decide) ?_
        exact ih23 (l6_23 + 1) x32 (by omega) (by omega) (by omega) (fun a k0 => ((f36 a (by omega)).trans (g23_3 a (by omega)))) (by omega)
  exact HL23 ((8 - 0) + 1 : Int).toNat 0 x18 (by omega) (by omega) (by omega) (fun a _ => rfl) (by omega)
set_option maxHeartbeats 200000 in
theorem c_X11_tellFraction (x : Mm) (u : Int) (v : Int) (h_u : fm_l u) (h_v : fm_l v) : CnV YC yX11_tellFraction cX11_tellFraction 12 2 44 (fun G => [vr G 0, vj u, vj v]) x (fun y' => (∀ a : Int, (a < 107 ∨ 108 < a) → y' a = x a)) := by
  refine cn_V (by decide) (fun _ => Nat.le_of_ble_eq_true rfl) (fun G C h hq => ?_)
  have h : OK YC G C cX11_tellFraction RX11 12 none 2 44 := h
  show FW YC G C 12 x 0 [(0, vr G 0), (1, vj u), (3, vj v)] []
  refine fr_lload_n h rfl 2 rfl dX11_tellFraction_0 ?_
  refine fr_lstore (L' := [(0, vr G 0), (1, vj u), (3, vj v), (5, vj v)]) h dX11_tellFraction_1 (by decide) [1, 2, 3, 0] rfl ?_
  refine fr_lload_n h rfl 1 rfl dX11_tellFraction_3 ?_
  refine fr_lstore (L' := [(0, vr G 0), (1, vj u), (3, vj v), (5, vj v), (7, vj u)]) h dX11_tellFraction_4 (by decide) [1, 2, 3, 4, 0] rfl ?_
  refine fr_iconst h dX11_tellFraction_6 ?_
  refine fr_istore (L' := [(0, vr G 0), (1, vj u), (3, vj v), (5, vj v), (7, vj u), (9, vi 0)]) h dX11_tellFraction_7 (by decide) [1, 2, 3, 4, 5, 0] rfl ?_
  have HL1 : ∀ (n1 : Nat) (l5_1 l7_1 l9_1 : Int), fm_l l5_1 → fm_l l7_1 → fm_r l9_1 → 0 ≤ l9_1 → l9_1 ≤ 100 → (100 - l9_1) < n1 → FW YC G C 12 x 9 [(0, vr G 0), (1, vj u), (3, vj v), (5, vj l5_1), (7, vj l7_1), (9, vi l9_1)] [] := by
    intro n1
    induction n1 with
    | zero =>
      intro l5_1 l7_1 l9_1 g1_0 g1_1 g1_2 g1_3 g1_4 g1_5
      exfalso; omega
    | succ n1 ih1 =>
      intro l5_1 l7_1 l9_1 g1_0 g1_1 g1_2 g1_3 g1_4 g1_5
      refine fr_iload h 5 rfl dX11_tellFraction_9 ?_
      refine fr_bipush h rfl dX11_tellFraction_11 ?_
      refine fr_icmp_ge (tgt := 44) h dX11_tellFraction_13 (by decide) (by omega) (by omega) (fun c2 => ?_) (fun c2 => ?_)
      ·
        refine fr_lload h 3 rfl dX11_tellFraction_44 ?_
        refine fr_lconst (z := 0) h rfl dX11_tellFraction_46 ?_
        refine fr_lcmp h dX11_tellFraction_47 (by omega) (by omega) (fun z3 w4 => ?_)
        refine fr_if_ne (tgt := 55) h dX11_tellFraction_48 (by decide) (by omega) (fun c5 => ?_) (fun c5 => ?_)
        ·
          refine fr_lload h 3 rfl dX11_tellFraction_55 ?_
          refine fr_lstore (L' := [(0, vr G 0), (1, vj u), (3, vj v), (5, vj l5_1), (7, vj l7_1), (9, vj l5_1)]) h dX11_tellFraction_57 (by decide) [1, 2, 3, 4, 5, 0] rfl ?_
          refine fr_aload_n h rfl 0 rfl dX11_tellFraction_59 ?_
          refine fr_getc (z := 107) (iz := 11) h kX11 fX11_77 at_0 rfl rfl rf_0_11 (by omega) dX11_tellFraction_60 ?_
          refine fr_lload_n h rfl 1 rfl dX11_tellFraction_63 ?_
          refine fr_lload h 5 rfl dX11_tellFraction_64 ?_
          refine fr_ldiv h (by omega) (by omega) (by omega) dX11_tellFraction_66 (fun z6 w7 q8 w9 => ?_)
          refine fr_cvV h kX10 at_107 wX10_only lX11_192 (c_X10_only x z6 (by omega)) rfl (by decide) (by decide) rfl (Nat.le_of_ble_eq_true rfl) dX11_tellFraction_67 (fun x10 p13 => ?_)
          have f14 := p13
          refine fr_aload_n h rfl 0 rfl dX11_tellFraction_70 ?_
          refine fr_getc (z := 107) (iz := 11) h kX11 fX11_77 at_0 rfl rfl rf_0_11 (by omega) dX11_tellFraction_71 ?_
          refine fr_lload_n h rfl 2 rfl dX11_tellFraction_74 ?_
          refine fr_lload h 5 rfl dX11_tellFraction_75 ?_
          refine fr_ldiv h (by omega) (by omega) (by omega) dX11_tellFraction_77 (fun z15 w16 q17 w18 => ?_)
          refine fr_cvV h kX10 at_107 wX10_add lX11_223 (c_X10_add x10 z15 (by omega)) rfl (by decide) (by decide) rfl (Nat.le_of_ble_eq_true rfl) dX11_tellFraction_78 (fun x19 p22 => ?_)
          have f23 := p22
          exact fr_vret h hq (fun a k0 => ((f23 a (by omega)).trans (f14 a (by omega)))) dX11_tellFraction_81
        ·
          refine fr_lconst (z := 1) h rfl dX11_tellFraction_51 ?_
          refine fr_goto (tgt := 57) h dX11_tellFraction_52 (by decide) ?_
          refine fr_lstore (L' := [(0, vr G 0), (1, vj u), (3, vj v), (5, vj l5_1), (7, vj l7_1), (9, vj 1)]) h dX11_tellFraction_57 (by decide) [1, 2, 3, 4, 5, 0] rfl ?_
          refine fr_aload_n h rfl 0 rfl dX11_tellFraction_59 ?_
          refine fr_getc (z := 107) (iz := 11) h kX11 fX11_77 at_0 rfl rfl rf_0_11 (by omega) dX11_tellFraction_60 ?_
          refine fr_lload_n h rfl 1 rfl dX11_tellFraction_63 ?_
          refine fr_lload h 5 rfl dX11_tellFraction_64 ?_
          refine fr_ldiv h (by omega) (by omega) (by omega) dX11_tellFraction_66 (fun z24 w25 q26 w27 => ?_)
          refine fr_cvV h kX10 at_107 wX10_only lX11_192 (c_X10_only x z24 (by omega)) rfl (by decide) (by decide) rfl (Nat.le_of_ble_eq_true rfl) dX11_tellFraction_67 (fun x28 p31 => ?_)
          have f32 := p31
          refine fr_aload_n h rfl 0 rfl dX11_tellFraction_70 ?_
          refine fr_getc (z := 107) (iz := 11) h kX11 fX11_77 at_0 rfl rfl rf_0_11 (by omega) dX11_tellFraction_71 ?_
          refine fr_lload_n h rfl 2 rfl dX11_tellFraction_74 ?_
          refine fr_lload h 5 rfl dX11_tellFraction_75 ?_
          refine fr_ldiv h (by omega) (by omega) (by omega) dX11_tellFraction_77 (fun z33 w34 q35 w36 => ?_)
          refine fr_cvV h kX10 at_107 wX10_add lX11_223 (c_X10_add x28 z33 (by omega)) rfl (by decide) (by decide) rfl (Nat.le_of_ble_eq_true rfl) dX11_tellFraction_78 (fun x37 p40 => ?_)
          have f41 := p40
          exact fr_vret h hq (fun a k0 => ((f41 a (by omega)).trans (f32 a (by omega)))) dX11_tellFraction_81
      ·
        refine fr_lload h 4 rfl dX11_tellFraction_16 ?_
        refine fr_lconst (z := 0) h rfl dX11_tellFraction_18 ?_
        refine fr_lcmp h dX11_tellFraction_19 (by omega) (by omega) (fun z42 w43 => ?_)
        refine fr_if_eq (tgt := 44) h dX11_tellFraction_20 (by decide) (by omega) (fun c44 => ?_) (fun c44 => ?_)
        ·
          refine fr_lload h 3 rfl dX11_tellFraction_44 ?_
          refine fr_lconst (z := 0) h rfl dX11_tellFraction_46 ?_
          refine fr_lcmp h dX11_tellFraction_47 (by omega) (by omega) (fun z45 w46 => ?_)
          refine fr_if_ne (tgt := 55) h dX11_tellFraction_48 (by decide) (by omega) (fun c47 => ?_) (fun c47 => ?_)
          ·
            refine fr_lload h 3 rfl dX11_tellFraction_55 ?_
            refine fr_lstore (L' := [(0, vr G 0), (1, vj u), (3, vj v), (5, vj l5_1), (7, vj l7_1), (9, vj l5_1)]) h dX11_tellFraction_57 (by decide) [1, 2, 3, 4, 5, 0] rfl ?_
            refine fr_aload_n h rfl 0 rfl dX11_tellFraction_59 ?_
            refine fr_getc (z := 107) (iz := 11) h kX11 fX11_77 at_0 rfl rfl rf_0_11 (by omega) dX11_tellFraction_60 ?_
            refine fr_lload_n h rfl 1 rfl dX11_tellFraction_63 ?_
            refine fr_lload h 5 rfl dX11_tellFraction_64 ?_
            refine fr_ldiv h (by omega) (by omega) (by omega) dX11_tellFraction_66 (fun z48 w49 q50 w51 => ?_)
            refine fr_cvV h kX10 at_107 wX10_only lX11_192 (c_X10_only x z48 (by omega)) rfl (by decide) (by decide) rfl (Nat.le_of_ble_eq_true rfl) dX11_tellFraction_67 (fun x52 p55 => ?_)
            have f56 := p55
            refine fr_aload_n h rfl 0 rfl dX11_tellFraction_70 ?_
            refine fr_getc (z := 107) (iz := 11) h kX11 fX11_77 at_0 rfl rfl rf_0_11 (by omega) dX11_tellFraction_71 ?_
            refine fr_lload_n h rfl 2 rfl dX11_tellFraction_74 ?_
            refine fr_lload h 5 rfl dX11_tellFraction_75 ?_
            refine fr_ldiv h (by omega) (by omega) (by omega) dX11_tellFraction_77 (fun z57 w58 q59 w60 => ?_)
            refine fr_cvV h kX10 at_107 wX10_add lX11_223 (c_X10_add x52 z57 (by omega)) rfl (by decide) (by decide) rfl (Nat.le_of_ble_eq_true rfl) dX11_tellFraction_78 (fun x61 p64 => ?_)
            have f65 := p64
            exact fr_vret h hq (fun a k0 => ((f65 a (by omega)).trans (f56 a (by omega)))) dX11_tellFraction_81
          ·
            refine fr_lconst (z := 1) h rfl dX11_tellFraction_51 ?_
            refine fr_goto (tgt := 57) h dX11_tellFraction_52 (by decide) ?_
            refine fr_lstore (L' := [(0, vr G 0), (1, vj u), (3, vj v), (5, vj l5_1), (7, vj l7_1), (9, vj 1)]) h dX11_tellFraction_57 (by decide) [1, 2, 3, 4, 5, 0] rfl ?_
            refine fr_aload_n h rfl 0 rfl dX11_tellFraction_59 ?_
            refine fr_getc (z := 107) (iz := 11) h kX11 fX11_77 at_0 rfl rfl rf_0_11 (by omega) dX11_tellFraction_60 ?_
            refine fr_lload_n h rfl 1 rfl dX11_tellFraction_63 ?_
            refine fr_lload h 5 rfl dX11_tellFraction_64 ?_
            refine fr_ldiv h (by omega) (by omega) (by omega) dX11_tellFraction_66 (fun z66 w67 q68 w69 => ?_)
            refine fr_cvV h kX10 at_107 wX10_only lX11_192 (c_X10_only x z66 (by omega)) rfl (by decide) (by decide) rfl (Nat.le_of_ble_eq_true rfl) dX11_tellFraction_67 (fun x70 p73 => ?_)
            have f74 := p73
            refine fr_aload_n h rfl 0 rfl dX11_tellFraction_70 ?_
            refine fr_getc (z := 107) (iz := 11) h kX11 fX11_77 at_0 rfl rfl rf_0_11 (by omega) dX11_tellFraction_71 ?_
            refine fr_lload_n h rfl 2 rfl dX11_tellFraction_74 ?_
            refine fr_lload h 5 rfl dX11_tellFraction_75 ?_
            refine fr_ldiv h (by omega) (by omega) (by omega) dX11_tellFraction_77 (fun z75 w76 q77 w78 => ?_)
            refine fr_cvV h kX10 at_107 wX10_add lX11_223 (c_X10_add x70 z75 (by omega)) rfl (by decide) (by decide) rfl (Nat.le_of_ble_eq_true rfl) dX11_tellFraction_78 (fun x79 p82 => ?_)
            have f83 := p82
            exact fr_vret h hq (fun a k0 => ((f83 a (by omega)).trans (f74 a (by omega)))) dX11_tellFraction_81
        ·
          refine fr_lload h 3 rfl dX11_tellFraction_23 ?_
          refine fr_lload h 4 rfl dX11_tellFraction_25 ?_
          refine fr_lrem h (by omega) (by omega) (by omega) dX11_tellFraction_27 (fun z84 w85 q86 w87 => ?_)
          refine fr_lstore (L' := [(0, vr G 0), (1, vj u), (3, vj v), (5, vj l5_1), (7, vj l7_1), (9, vi l9_1), (10, vj z84)]) h dX11_tellFraction_28 (by decide) [1, 2, 3, 4, 5, 6, 0] rfl ?_
          refine fr_lload h 4 rfl dX11_tellFraction_30 ?_
          refine fr_lstore (L' := [(0, vr G 0), (1, vj u), (3, vj v), (5, vj l7_1), (7, vj l7_1), (9, vi l9_1), (10, vj z84)]) h dX11_tellFraction_32 (by decide) [1, 2, 3, 0, 4, 5, 6] rfl ?_
          refine fr_lload h 6 rfl dX11_tellFraction_34 ?_
          refine fr_lstore (L' := [(0, vr G 0), (1, vj u), (3, vj v), (5, vj l7_1), (7, vj z84), (9, vi l9_1), (10, vj z84)]) h dX11_tellFraction_36 (by decide) [1, 2, 3, 4, 0, 5, 6] rfl ?_
          refine fr_iinc (j := 5) (L' := [(0, vr G 0), (1, vj u), (3, vj v), (5, vj l7_1), (7, vj z84), (9, vi (l9_1 + 1)), (10, vj z84)]) h dX11_tellFraction_38 rfl (by decide) [1, 2, 3, 4, 5, 0, 6] rfl ?_
          refine fr_goto (tgt := 9) h dX11_tellFraction_41 (by decide) ?_
          refine fr_sub (L' := [(0, vr G 0), (1, vj u), (3, vj v), (5, vj l7_1), (7, vj z84), (9, vi (l9_1 + 1))]) [0, 1, 2, 3, 4, 5] rfl ?_
          exact ih1 l7_1 z84 (l9_1 + 1) (by omega) (by omega) (by omega) (by omega) (by omega) (by omega)
  exact HL1 ((100 - 0) + 1 : Int).toNat v u 0 (by omega) (by omega) (by omega) (by omega) (by omega) (by omega)
set_option maxHeartbeats 200000 in
theorem c_X11_lead : ∀ (d : Nat) (x : Mm) (p : Int) (u : Int) (v : Int) (h_p : fm_r p) (h_u : fm_r u) (h_v : fm_r v) (e0 : 0 ≤ u) (e1 : u ≤ v + 1) (e2 : v ≤ 5), (v - u + 1) < d → CnI YC yX11_lead cX11_lead 6 .int (d + 10) (d * 30 + 300) (fun G => [vr G 3, vi p, vi u, vi v]) x (fun z y' => (y' = x)) := by
  intro d
  induction d with
  | zero => intro x p u v h_p h_u h_v e0 e1 e2 hmu; exfalso; omega
  | succ d ih =>
    intro x p u v h_p h_u h_v e0 e1 e2 hmu
    refine cn_I (by decide) (fun _ => Nat.le_of_ble_eq_true rfl) (fun G C h hq => ?_)
    have h : OK YC G C cX11_lead RX11 6 (some .int) (d + 1 + 10) ((d + 1) * 30 + 300) := h
    show FW YC G C 6 x 0 [(0, vr G 3), (1, vi p), (2, vi u), (3, vi v)] []
    refine fr_iload_n h rfl 2 rfl dX11_lead_0 ?_
    refine fr_iload_n h rfl 3 rfl dX11_lead_1 ?_
    refine fr_icmp_le (tgt := 7) h dX11_lead_2 (by decide) (by omega) (by omega) (fun c1 => ?_) (fun c1 => ?_)
    ·
      refine fr_aload_n h rfl 0 rfl dX11_lead_7 ?_
      refine fr_iload_n h rfl 1 rfl dX11_lead_8 ?_
      refine fr_iload_n h rfl 2 rfl dX11_lead_9 ?_
      refine fr_cvI h kX8 (St_at St_3) wX8_numberAt lX11_139 (c_X8_numberAt x 3 St_3 p u (by omega) (by omega)) rfl (by omega) (by omega) rfl (Nat.le_of_ble_eq_true rfl) dX11_lead_10 (fun z3 x2 w4 p5 => ?_)
      obtain ⟨p6, p7, p8, y9⟩ := p5
      rw [y9]
      clear y9
      refine fr_aload_n h rfl 0 rfl dX11_lead_13 ?_
      refine fr_iload_n h rfl 1 rfl dX11_lead_14 ?_
      refine fr_iload_n h rfl 2 rfl dX11_lead_15 ?_
      refine fr_iconst h dX11_lead_16 ?_
      refine fr_iadd h dX11_lead_17 ?_
      refine fr_normi (fun z10 w11 q12 => ?_)
      have w13 : fm_r ((u + 1)) → z10 = (u + 1) := fun q => (iI_inj q w11 q12).symm
      refine fr_iload_n h rfl 3 rfl dX11_lead_18 ?_
      refine fr_csI h wX11_lead lX11_309 (ih x p z10 v (by omega) (by omega) (by omega) (by omega) (by omega) (by omega) (by omega)) rfl (by omega) (by omega) rfl (Nat.le_of_ble_eq_true rfl) dX11_lead_19 (fun z15 x14 w16 p17 => ?_)
      have y18 := p17
      rw [y18]
      clear y18
      refine fr_isub h dX11_lead_22 ?_
      refine fr_normi (fun z19 w20 q21 => ?_)
      have w22 : fm_r ((z3 - z15)) → z19 = (z3 - z15) := fun q => (iI_inj q w20 q21).symm
      refine fr_istore (L' := [(0, vr G 3), (1, vi p), (2, vi u), (3, vi v), (4, vi z19)]) h dX11_lead_23 (by decide) [1, 2, 3, 4, 0] rfl ?_
      refine fr_aload_n h rfl 0 rfl dX11_lead_25 ?_
      refine fr_iload_n h rfl 1 rfl dX11_lead_26 ?_
      refine fr_iload_n h rfl 3 rfl dX11_lead_27 ?_
      refine fr_cvI h kX8 (St_at St_3) wX8_numberAt lX11_139 (c_X8_numberAt x 3 St_3 p v (by omega) (by omega)) rfl (by omega) (by omega) rfl (Nat.le_of_ble_eq_true rfl) dX11_lead_28 (fun z24 x23 w25 p26 => ?_)
      obtain ⟨p27, p28, p29, y30⟩ := p26
      rw [y30]
      clear y30
      refine fr_aload_n h rfl 0 rfl dX11_lead_31 ?_
      refine fr_iload_n h rfl 1 rfl dX11_lead_32 ?_
      refine fr_iload_n h rfl 2 rfl dX11_lead_33 ?_
      refine fr_iload_n h rfl 3 rfl dX11_lead_34 ?_
      refine fr_iconst h dX11_lead_35 ?_
      refine fr_isub h dX11_lead_36 ?_
      refine fr_normi (fun z31 w32 q33 => ?_)
      have w34 : fm_r ((v - 1)) → z31 = (v - 1) := fun q => (iI_inj q w32 q33).symm
      refine fr_csI h wX11_lead lX11_309 (ih x p u z31 (by omega) (by omega) (by omega) (by omega) (by omega) (by omega) (by omega)) rfl (by omega) (by omega) rfl (Nat.le_of_ble_eq_true rfl) dX11_lead_37 (fun z36 x35 w37 p38 => ?_)
      have y39 := p38
      rw [y39]
      clear y39
      refine fr_isub h dX11_lead_40 ?_
      refine fr_normi (fun z40 w41 q42 => ?_)
      have w43 : fm_r ((z24 - z36)) → z40 = (z24 - z36) := fun q => (iI_inj q w41 q42).symm
      refine fr_istore (L' := [(0, vr G 3), (1, vi p), (2, vi u), (3, vi v), (4, vi z19), (5, vi z40)]) h dX11_lead_41 (by decide) [1, 2, 3, 4, 5, 0] rfl ?_
      refine fr_iload h 4 rfl dX11_lead_43 ?_
      refine fr_iload h 5 rfl dX11_lead_45 ?_
      refine fr_mmax h (by omega) (by omega) (tb_5 (i := 45) (by decide +kernel) (by decide +kernel)) w_mmax (by omega) (by omega) (Nat.le_of_ble_eq_true rfl) dX11_lead_47 (fun z44 w45 w46 w47 => ?_)
      exact fr_iret h hq (by omega) rfl dX11_lead_50
    ·
      refine fr_iconst h dX11_lead_5 ?_
      exact fr_iret h hq (by omega) rfl dX11_lead_6
set_option maxHeartbeats 200000 in
theorem c_X11_draw (x : Mm) (n : Int) (h_n : fm_r n) : CnI YC yX11_draw cX11_draw 2 .int 0 0 (fun G => [vr G 0, vi n]) x (fun z y' => (0 ≤ z) ∧ (1 ≤ n → z < n) ∧ (y' 0 13 = x 0 13) ∧ (y' 0 14 = x 0 14) ∧ (∀ a : Int, (a < 0 ∨ 0 < a) → y' a = x a)) := by
  refine cn_I (by decide) (fun _ => Nat.le_of_ble_eq_true rfl) (fun G C h hq => ?_)
  have h : OK YC G C cX11_draw RX11 2 (some .int) 0 0 := h
  show FW YC G C 2 x 0 [(0, vr G 0), (1, vi n)] []
  refine fr_aload_n h rfl 0 rfl dX11_draw_0 ?_
  refine fr_aload_n h rfl 0 rfl dX11_draw_1 ?_
  refine fr_geti (iz := 15) h kX11 fX11_333 at_0 rfl rfl (by decide) (by decide) rf_0_15 dX11_draw_2 (fun z1 w2 w3 q4 => ?_)
  refine fr_ldcw (z := 1103515245) h (by exact tb_5 (i := 70) (by decide +kernel) (by decide +kernel)) rfl dX11_draw_5 ?_
  refine fr_imul h dX11_draw_8 ?_
  refine fr_normi (fun z5 w6 q7 => ?_)
  have w8 : fm_r ((z1 * 1103515245)) → z5 = (z1 * 1103515245) := fun q => (iI_inj q w6 q7).symm
  refine fr_sipush h rfl dX11_draw_9 ?_
  refine fr_iadd h dX11_draw_12 ?_
  refine fr_normi (fun z9 w10 q11 => ?_)
  have w12 : fm_r ((z5 + 12345)) → z9 = (z5 + 12345) := fun q => (iI_inj q w10 q11).symm
  refine fr_puti (iz := 15) h kX11 fX11_333 at_0 rfl rfl (by decide) (by decide) rfl (by decide +kernel) rf_0_15 (by omega) (by omega) dX11_draw_13 ?_
  refine fr_mem (fun x13 m14 => ?_)
  refine fr_iload_n h rfl 1 rfl dX11_draw_16 ?_
  refine fr_iconst h dX11_draw_17 ?_
  refine fr_icmp_ge (tgt := 25) h dX11_draw_18 (by decide) (by omega) (by omega) (fun c15 => ?_) (fun c15 => ?_)
  ·
    refine fr_aload_n h rfl 0 rfl dX11_draw_25 ?_
    refine fr_geti (iz := 15) h kX11 fX11_333 at_0 rfl rfl (by decide) (by decide) rf_0_15 dX11_draw_26 (fun z16 w17 w18 q19 => ?_)
    have r20 := q19.trans (fm_rd_s m14)
    refine fr_bipush h rfl dX11_draw_29 ?_
    refine fr_iushr h dX11_draw_31 (fun z21 w22 q23 w24 => ?_)
    have w25 := w24 rfl
    refine fr_iload_n h rfl 1 rfl dX11_draw_32 ?_
    refine fr_irem h (by omega) (by omega) (by omega) dX11_draw_33 (fun z26 w27 q28 w29 => ?_)
    have w30 : 0 < n → 0 ≤ z21 % n ∧ z21 % n < n := fun q => ⟨Int.emod_nonneg _ (by omega), Int.emod_lt_of_pos _ q⟩
    have w31 := w29
    have r32 := (fm_rd_i (a := 0) (b := 13) m14 (by decide))
    have r33 := (fm_rd_i (a := 0) (b := 14) m14 (by decide))
    exact fr_iret h hq (by omega) ⟨(by omega), (by omega), (by omega), (by omega), (fun a k0 => (fm_up_row m14 (by omega)))⟩ dX11_draw_34
  ·
    refine fr_iconst h dX11_draw_21 ?_
    refine fr_goto (tgt := 34) h dX11_draw_22 (by decide) ?_
    have r34 := (fm_rd_i (a := 0) (b := 13) m14 (by decide))
    have r35 := (fm_rd_i (a := 0) (b := 14) m14 (by decide))
    exact fr_iret h hq (by omega) ⟨(by omega), (by omega), (by omega), (by omega), (fun a k0 => (fm_up_row m14 (by omega)))⟩ dX11_draw_34
set_option maxHeartbeats 200000 in
theorem c_X11_sign (x : Mm) (v : Int) (h_v : fm_r v) : CnI YC yX11_sign cX11_sign 2 .int 1 22 (fun G => [vr G 0, vi v]) x (fun z y' => (x 1 1 ≤ 76 → z = x 1 1 + 4 ∧ y' 1 1 = x 1 1 + 4) ∧ (76 < x 1 1 → z = (-1) ∧ y' 1 1 = x 1 1) ∧ (∀ a : Int, (a < 1 ∨ 2 < a) → y' a = x a)) := by
  refine cn_I (by decide) (fun _ => Nat.le_of_ble_eq_true rfl) (fun G C h hq => ?_)
  have h : OK YC G C cX11_sign RX11 2 (some .int) 1 22 := h
  show FW YC G C 2 x 0 [(0, vr G 0), (1, vi v)] []
  refine fr_aload_n h rfl 0 rfl dX11_sign_0 ?_
  refine fr_getc (z := 1) (iz := 0) h kX11 fX11_10 at_0 rfl rfl rf_0_0 (by omega) dX11_sign_1 ?_
  refine fr_iload_n h rfl 1 rfl dX11_sign_4 ?_
  refine fr_cvI h kX9 at_1 wX9_append lX11_102 (c_X9_append x v (by omega)) rfl (by decide) (by decide) rfl (Nat.le_of_ble_eq_true rfl) dX11_sign_5 (fun z2 x1 w3 p4 => ?_)
  obtain ⟨p5, p6, p7, f8⟩ := p4
  refine fr_if_eq (tgt := 21) h dX11_sign_8 (by decide) (by omega) (fun c9 => ?_) (fun c9 => ?_)
  ·
    refine fr_iconst h dX11_sign_21 ?_
    exact fr_iret h hq (by omega) ⟨(by omega), (by omega), (fun a k0 => (f8 a (by omega)))⟩ dX11_sign_22
  ·
    refine fr_aload_n h rfl 0 rfl dX11_sign_11 ?_
    refine fr_getc (z := 1) (iz := 0) h kX11 fX11_10 at_0 rfl rfl rf_0_0 (by omega) dX11_sign_12 ?_
    refine fr_cvI h kX9 at_1 wX9_length lX11_106 (c_X9_length x1) rfl (by decide) (by decide) rfl (Nat.le_of_ble_eq_true rfl) dX11_sign_15 (fun z11 x10 w12 p13 => ?_)
    obtain ⟨p14, p15, p16, y17⟩ := p13
    rw [y17]
    clear y17
    refine fr_goto (tgt := 22) h dX11_sign_18 (by decide) ?_
    exact fr_iret h hq (by omega) ⟨(by omega), (by omega), (fun a k0 => (f8 a (by omega)))⟩ dX11_sign_22
set_option maxHeartbeats 200000 in
theorem c_X11_end (x : Mm) (n : Int) (h_n : fm_r n) : CnI YC yX11_end cX11_end 2 .boolean 1 21 (fun G => [vr G 0, vi n]) x (fun z y' => (z = 0 ∨ z = 1) ∧ ((z = 1 ↔ 0 ≤ n ∧ n ≤ x 1 1)) ∧ (z = 1 → y' 1 1 = n) ∧ (z = 0 → y' 1 1 = x 1 1) ∧ (∀ a : Int, (a < 1 ∨ 2 < a) → y' a = x a)) := by
  refine cn_I (by decide) (fun _ => Nat.le_of_ble_eq_true rfl) (fun G C h hq => ?_)
  have h : OK YC G C cX11_end RX11 2 (some .boolean) 1 21 := h
  show FW YC G C 2 x 0 [(0, vr G 0), (1, vi n)] []
  refine fr_aload_n h rfl 0 rfl dX11_end_0 ?_
  refine fr_getc (z := 1) (iz := 0) h kX11 fX11_10 at_0 rfl rfl rf_0_0 (by omega) dX11_end_1 ?_
  refine fr_iload_n h rfl 1 rfl dX11_end_4 ?_
  refine fr_cvI h kX9 at_1 wX9_cut lX11_110 (c_X9_cut x n (by omega)) rfl (by decide) (by decide) rfl (Nat.le_of_ble_eq_true rfl) dX11_end_5 (fun z2 x1 w3 p4 => ?_)
  obtain ⟨p5, p6, p7, p8, f9⟩ := p4
  exact fr_zret h (nr_z (by omega) (by omega)) hq (by omega) ⟨(by omega), (by omega), (by omega), (by omega), (fun a k0 => (f9 a (by omega)))⟩ dX11_end_8
set_option maxHeartbeats 200000 in
theorem c_X11_lists (x : Mm) (p : Int) (h_p : fm_r p) : CnI YC yX11_lists cX11_lists 3 .int 4 89 (fun G => [vr G 0, vi p]) x (fun z y' => (y' 1 1 = 0) ∧ (∀ a : Int, (a < 1 ∨ 12 < a) → (a < 14 ∨ 65 < a) → (a < 79 ∨ 88 < a) → (a < 95 ∨ 97 < a) → (a < 109 ∨ 109 < a) → y' a = x a)) := by
  refine cn_I (by decide) (fun _ => Nat.le_of_ble_eq_true rfl) (fun G C h hq => ?_)
  have h : OK YC G C cX11_lists RX11 3 (some .int) 4 89 := h
  show FW YC G C 3 x 0 [(0, vr G 0), (1, vi p)] []
  refine fr_aload_n h rfl 0 rfl dX11_lists_0 ?_
  refine fr_getc (z := 1) (iz := 0) h kX11 fX11_10 at_0 rfl rfl rf_0_0 (by omega) dX11_lists_1 ?_
  refine fr_aload_n h rfl 0 rfl dX11_lists_4 ?_
  refine fr_getc (z := 109) (iz := 12) h kX11 fX11_81 at_0 rfl rfl rf_0_12 (by omega) dX11_lists_5 ?_
  refine fr_cvI h kX9 at_1 wX9_numbersInto lX11_113 (c_X9_numbersInto x) rfl (by decide) (by decide) rfl (Nat.le_of_ble_eq_true rfl) dX11_lists_8 (fun z2 x1 w3 p4 => ?_)
  obtain ⟨p5, p6, f7⟩ := p4
  refine fr_istore_n (L' := [(0, vr G 0), (1, vi p), (2, vi z2)]) h rfl dX11_lists_11 (by decide) [1, 2, 0] rfl ?_
  refine fr_aload_n h rfl 0 rfl dX11_lists_12 ?_
  refine fr_getc (z := 1) (iz := 0) h kX11 fX11_10 at_0 rfl rfl rf_0_0 (by omega) dX11_lists_13 ?_
  refine fr_cvV h kX9 at_1 wX9_clear lX11_117 (c_X9_clear x1) rfl (by decide) (by decide) rfl (Nat.le_of_ble_eq_true rfl) dX11_lists_16 (fun x8 p11 => ?_)
  obtain ⟨p12, f13⟩ := p11
  refine fr_iload_n h rfl 2 rfl dX11_lists_19 ?_
  refine fr_if_ge (tgt := 25) h dX11_lists_20 (by decide) (by omega) (fun c14 => ?_) (fun c14 => ?_)
  ·
    refine fr_aload_n h rfl 0 rfl dX11_lists_25 ?_
    refine fr_getc (z := 8) (iz := 2) h kX11 fX11_23 at_0 rfl rfl rf_0_2 (by omega) dX11_lists_26 ?_
    refine fr_aload_n h rfl 0 rfl dX11_lists_29 ?_
    refine fr_getc (z := 3) (iz := 1) h kX11 fX11_19 at_0 rfl rfl rf_0_1 (by omega) dX11_lists_30 ?_
    refine fr_cvV h kX8 (St_at St_8) wX8_copyFrom lX11_120 (c_X8_copyFrom x8 8 St_8 3 St_3) rfl (by decide) (by decide) rfl (Nat.le_of_ble_eq_true rfl) dX11_lists_33 (fun x15 p18 => ?_)
    have f19 := p18
    refine fr_aload_n h rfl 0 rfl dX11_lists_36 ?_
    refine fr_aload_n h rfl 0 rfl dX11_lists_37 ?_
    refine fr_getc (z := 3) (iz := 1) h kX11 fX11_19 at_0 rfl rfl rf_0_1 (by omega) dX11_lists_38 ?_
    refine fr_iload_n h rfl 1 rfl dX11_lists_41 ?_
    refine fr_aload_n h rfl 0 rfl dX11_lists_42 ?_
    refine fr_getc (z := 109) (iz := 12) h kX11 fX11_81 at_0 rfl rfl rf_0_12 (by omega) dX11_lists_43 ?_
    refine fr_iload_n h rfl 2 rfl dX11_lists_46 ?_
    refine fr_cvI h kX8 (St_at St_3) wX8_setList lX11_124 (c_X8_setList x15 3 St_3 p z2 (by omega) (by omega)) rfl (by decide) (by decide) rfl (Nat.le_of_ble_eq_true rfl) dX11_lists_47 (fun z21 x20 w22 p23 => ?_)
    obtain ⟨p24, f25⟩ := p23
    refine fr_cvI h kX11 at_0 wX11_settled lX11_128 (c_X11_settled x20 z21 (by omega)) rfl (by decide) (by decide) rfl (Nat.le_of_ble_eq_true rfl) dX11_lists_50 (fun z27 x26 w28 p29 => ?_)
    obtain ⟨p30, f31⟩ := p29
    have r32 := (congrFun (f31 1 (by omega) (by omega) (by omega)) 1)
    have r33 := r32.trans (congrFun (f25 1 (by omega)) 1)
    have r34 := r33.trans (congrFun (f19 1 (by omega)) 1)
    have r35 := (congrFun (f7 1 (by omega)) 1)
    exact fr_iret h hq (by omega) ⟨(by omega), (fun a k0 k1 k2 k3 k4 => ((f31 a (by omega) (by omega) (by omega)).trans ((f25 a (by omega)).trans ((f19 a (by omega)).trans ((f13 a (by omega)).trans (f7 a (by omega)))))))⟩ dX11_lists_53
  ·
    refine fr_iload_n h rfl 2 rfl dX11_lists_23 ?_
    have r36 := (congrFun (f7 1 (by omega)) 1)
    exact fr_iret h hq (by omega) ⟨(by omega), (fun a k0 k1 k2 k3 k4 => ((f13 a (by omega)).trans (f7 a (by omega))))⟩ dX11_lists_24
set_option maxHeartbeats 200000 in
theorem c_X11_rule (x : Mm) (e0 : ((x 0 13 = 110 ∧ x 0 14 = 115) ∨ (x 0 13 = 115 ∧ x 0 14 = 110))) : CnI YC yX11_rule cX11_rule 3 .int 5 117 (fun G => [vr G 0]) x (fun z y' => (((y' 0 13 = 110 ∧ y' 0 14 = 115) ∨ (y' 0 13 = 115 ∧ y' 0 14 = 110))) ∧ (y' 1 1 = 0) ∧ (∀ a : Int, (a < 0 ∨ 2 < a) → (a < 79 ∨ 88 < a) → (a < 95 ∨ 97 < a) → (a < 110 ∨ 119 < a) → y' a = x a)) := by
  refine cn_I (by decide) (fun _ => Nat.le_of_ble_eq_true rfl) (fun G C h hq => ?_)
  have h : OK YC G C cX11_rule RX11 3 (some .int) 5 117 := h
  show FW YC G C 3 x 0 [(0, vr G 0)] []
  obtain ⟨r, hr, er⟩ : ∃ r : Int, isRu r ∧ x 0 13 = r := ⟨x 0 13, by unfold isRu; omega, rfl⟩
  have h_r := Ru_b hr
  obtain ⟨q, hq2, eq⟩ : ∃ q : Int, isRu q ∧ x 0 14 = q := ⟨x 0 14, by unfold isRu; omega, rfl⟩
  have h_q := Ru_b hq2
  refine fr_aload_n h rfl 0 rfl dX11_rule_0 ?_
  refine fr_getr (z := q) (iz := 14) h kX11 fX11_92 at_0 rfl rfl eq (by omega) dX11_rule_1 ?_
  refine fr_aload_n h rfl 0 rfl dX11_rule_4 ?_
  refine fr_getc (z := 1) (iz := 0) h kX11 fX11_10 at_0 rfl rfl rf_0_0 (by omega) dX11_rule_5 ?_
  refine fr_cvI h kX7 (Ru_at hq2) wX7_read lX11_132 (c_X7_read x q hq2) rfl (by decide) (by decide) rfl (Nat.le_of_ble_eq_true rfl) dX11_rule_8 (fun z2 x1 w3 p4 => ?_)
  obtain ⟨p5, p6, f7⟩ := p4
  refine fr_istore_n (L' := [(0, vr G 0), (1, vi z2)]) h rfl dX11_rule_11 (by decide) [1, 0] rfl ?_
  refine fr_aload_n h rfl 0 rfl dX11_rule_12 ?_
  refine fr_getc (z := 1) (iz := 0) h kX11 fX11_10 at_0 rfl rfl rf_0_0 (by omega) dX11_rule_13 ?_
  refine fr_cvV h kX9 at_1 wX9_clear lX11_117 (c_X9_clear x1) rfl (by decide) (by decide) rfl (Nat.le_of_ble_eq_true rfl) dX11_rule_16 (fun x8 p11 => ?_)
  obtain ⟨p12, f13⟩ := p11
  refine fr_iload_n h rfl 1 rfl dX11_rule_19 ?_
  refine fr_iconst h dX11_rule_20 ?_
  refine fr_icmp_eq (tgt := 28) h dX11_rule_21 (by decide) (by omega) (by omega) (fun c14 => ?_) (fun c14 => ?_)
  ·
    refine fr_aload_n h rfl 0 rfl dX11_rule_28 ?_
    refine fr_getr (z := r) (iz := 13) h kX11 fX11_88 at_0 rfl rfl ((congrFun (f13 0 (by omega)) 13).trans ((congrFun (f7 0 (by omega)) 13).trans er)) (by omega) dX11_rule_29 ?_
    refine fr_astore_n (L' := [(0, vr G 0), (1, vi z2), (2, vr G r)]) h rfl dX11_rule_32 (by decide) [1, 2, 0] rfl ?_
    refine fr_aload_n h rfl 0 rfl dX11_rule_33 ?_
    refine fr_aload_n h rfl 0 rfl dX11_rule_34 ?_
    refine fr_getr (z := q) (iz := 14) h kX11 fX11_92 at_0 rfl rfl ((congrFun (f13 0 (by omega)) 14).trans ((congrFun (f7 0 (by omega)) 14).trans eq)) (by omega) dX11_rule_35 ?_
    refine fr_putr (tf := (.object "BestWalks$Rule")) (iz := 13) h kX11 fX11_88 at_0 rfl rfl rfl (by decide +kernel) (fun _ => rfl) (fun _ => rfl) rf_0_13 (by omega) (by omega) (by omega) dX11_rule_38 ?_
    refine fr_mem (fun x15 m16 => ?_)
    refine fr_aload_n h rfl 0 rfl dX11_rule_41 ?_
    refine fr_aload_n h rfl 2 rfl dX11_rule_42 ?_
    refine fr_putr (tf := (.object "BestWalks$Rule")) (iz := 14) h kX11 fX11_92 at_0 rfl rfl rfl (by decide +kernel) (fun _ => rfl) (fun _ => rfl) rf_0_14 (by omega) (by omega) (by omega) dX11_rule_43 ?_
    refine fr_mem (fun x17 m18 => ?_)
    refine fr_aload_n h rfl 0 rfl dX11_rule_46 ?_
    refine fr_cvV h kX11 at_0 wX11_changed lX11_136 (c_X11_changed x17) rfl (by decide) (by decide) rfl (Nat.le_of_ble_eq_true rfl) dX11_rule_47 (fun x19 p22 => ?_)
    have f23 := p22
    refine fr_iconst h dX11_rule_50 ?_
    have r24 := (congrFun (f23 0 (by omega) (by omega)) 13)
    have r25 := r24.trans (fm_rd_i (a := 0) (b := 13) m18 (by decide))
    have r26 := r25.trans (fm_rd_s m16)
    have r27 := (congrFun (f23 0 (by omega) (by omega)) 14)
    have r28 := r27.trans (fm_rd_s m18)
    have r29 := (congrFun (f23 0 (by omega) (by omega)) 13)
    have r30 := r29.trans (fm_rd_i (a := 0) (b := 13) m18 (by decide))
    have r31 := r30.trans (fm_rd_s m16)
    have r32 := (congrFun (f23 0 (by omega) (by omega)) 14)
    have r33 := r32.trans (fm_rd_s m18)
    have r34 := (congrFun (f23 1 (by omega) (by omega)) 1)
    have r35 := r34.trans (fm_rd_k (a := 1) (b := 1) m18 (by omega))
    have r36 := r35.trans (fm_rd_k (a := 1) (b := 1) m16 (by omega))
    have r37 := (congrFun (f7 1 (by omega)) 1)
    exact fr_iret h hq (by omega) ⟨(by omega), (by omega), (fun a k0 k1 k2 k3 => ((f23 a (by omega) (by omega)).trans ((fm_up_row m18 (by omega)).trans ((fm_up_row m16 (by omega)).trans ((f13 a (by omega)).trans (f7 a (by omega)))))))⟩ dX11_rule_51
  ·
    refine fr_iconst h dX11_rule_24 ?_
    refine fr_iload_n h rfl 1 rfl dX11_rule_25 ?_
    refine fr_isub h dX11_rule_26 ?_
    have r38 := (congrFun (f13 0 (by omega)) 13)
    have r39 := r38.trans (congrFun (f7 0 (by omega)) 13)
    have r40 := (congrFun (f13 0 (by omega)) 14)
    have r41 := r40.trans (congrFun (f7 0 (by omega)) 14)
    have r42 := (congrFun (f13 0 (by omega)) 13)
    have r43 := r42.trans (congrFun (f7 0 (by omega)) 13)
    have r44 := (congrFun (f13 0 (by omega)) 14)
    have r45 := r44.trans (congrFun (f7 0 (by omega)) 14)
    have r46 := (congrFun (f7 1 (by omega)) 1)
    exact fr_iret h hq (by omega) ⟨(by omega), (by omega), (fun a k0 k1 k2 k3 => ((f13 a (by omega)).trans (f7 a (by omega))))⟩ dX11_rule_27
set_option maxHeartbeats 200000 in
theorem c_X11_sheet (x : Mm) (k : Int) (n : Int) (u : Int) (v : Int) (h_k : fm_r k) (h_n : fm_r n) (h_u : fm_r u) (h_v : fm_r v) : CnI YC yX11_sheet cX11_sheet 6 .int 3 70 (fun G => [vr G 0, vi k, vi n, vi u, vi v]) x (fun z y' => (∀ a : Int, (a < 3 ∨ 7 < a) → (a < 79 ∨ 88 < a) → (a < 95 ∨ 97 < a) → y' a = x a)) := by
  refine cn_I (by decide) (fun _ => Nat.le_of_ble_eq_true rfl) (fun G C h hq => ?_)
  have h : OK YC G C cX11_sheet RX11 6 (some .int) 3 70 := h
  show FW YC G C 6 x 0 [(0, vr G 0), (1, vi k), (2, vi n), (3, vi u), (4, vi v)] []
  refine fr_iload_n h rfl 1 rfl dX11_sheet_0 ?_
  refine fr_if_lt (tgt := 15) h dX11_sheet_1 (by decide) (by omega) (fun c1 => ?_) (fun c1 => ?_)
  ·
    refine fr_iconst h dX11_sheet_15 ?_
    exact fr_iret h hq (by omega) (fun a _ _ _ => rfl) dX11_sheet_16
  ·
    refine fr_iload_n h rfl 1 rfl dX11_sheet_4 ?_
    refine fr_iconst h dX11_sheet_5 ?_
    refine fr_icmp_gt (tgt := 15) h dX11_sheet_6 (by decide) (by omega) (by omega) (fun c2 => ?_) (fun c2 => ?_)
    ·
      refine fr_iconst h dX11_sheet_15 ?_
      exact fr_iret h hq (by omega) (fun a _ _ _ => rfl) dX11_sheet_16
    ·
      refine fr_iload_n h rfl 2 rfl dX11_sheet_9 ?_
      refine fr_bipush h rfl dX11_sheet_10 ?_
      refine fr_icmp_le (tgt := 17) h dX11_sheet_12 (by decide) (by omega) (by omega) (fun c3 => ?_) (fun c3 => ?_)
      ·
        refine fr_iload_n h rfl 1 rfl dX11_sheet_17 ?_
        refine fr_iconst h dX11_sheet_18 ?_
        refine fr_icmp_eq (tgt := 29) h dX11_sheet_19 (by decide) (by omega) (by omega) (fun c4 => ?_) (fun c4 => ?_)
        ·
          refine fr_aload_n h rfl 0 rfl dX11_sheet_29 ?_
          refine fr_getc (z := 3) (iz := 1) h kX11 fX11_19 at_0 rfl rfl rf_0_1 (by omega) dX11_sheet_30 ?_
          refine fr_iload_n h rfl 1 rfl dX11_sheet_33 ?_
          refine fr_iload_n h rfl 1 rfl dX11_sheet_34 ?_
          refine fr_iconst h dX11_sheet_35 ?_
          refine fr_icmp_ne (tgt := 43) h dX11_sheet_36 (by decide) (by omega) (by omega) (fun c5 => by exfalso; omega) (fun c5 => ?_)
          refine fr_iconst h dX11_sheet_39 ?_
          refine fr_goto (tgt := 44) h dX11_sheet_40 (by decide) ?_
          refine fr_iload_n h rfl 3 rfl dX11_sheet_44 ?_
          refine fr_iload h 4 rfl dX11_sheet_45 ?_
          refine fr_cvI h kX8 (St_at St_3) wX8_weigh lX11_158 (c_X8_weigh x 3 St_3 k 0 u v (by omega) (by omega) (by omega) (by omega)) rfl (by decide) (by decide) rfl (Nat.le_of_ble_eq_true rfl) dX11_sheet_47 (fun z7 x6 w8 p9 => ?_)
          have f10 := p9
          refine fr_istore (L' := [(0, vr G 0), (1, vi k), (2, vi n), (3, vi u), (4, vi v), (5, vi z7)]) h dX11_sheet_50 (by decide) [1, 2, 3, 4, 5, 0] rfl ?_
          refine fr_aload_n h rfl 0 rfl dX11_sheet_52 ?_
          refine fr_cvV h kX11 at_0 wX11_changed lX11_136 (c_X11_changed x6) rfl (by decide) (by decide) rfl (Nat.le_of_ble_eq_true rfl) dX11_sheet_53 (fun x11 p14 => ?_)
          have f15 := p14
          refine fr_iload_n h rfl 1 rfl dX11_sheet_56 ?_
          refine fr_iconst h dX11_sheet_57 ?_
          refine fr_icmp_ne (tgt := 66) h dX11_sheet_58 (by decide) (by omega) (by omega) (fun c16 => by exfalso; omega) (fun c16 => ?_)
          refine fr_bipush h rfl dX11_sheet_61 ?_
          refine fr_goto (tgt := 68) h dX11_sheet_63 (by decide) ?_
          exact fr_iret h hq (by omega) (fun a k0 k1 k2 => ((f15 a (by omega) (by omega)).trans (f10 a (by omega)))) dX11_sheet_68
        ·
          refine fr_iload_n h rfl 2 rfl dX11_sheet_22 ?_
          refine fr_if_ge (tgt := 29) h dX11_sheet_23 (by decide) (by omega) (fun c17 => ?_) (fun c17 => ?_)
          ·
            refine fr_aload_n h rfl 0 rfl dX11_sheet_29 ?_
            refine fr_getc (z := 3) (iz := 1) h kX11 fX11_19 at_0 rfl rfl rf_0_1 (by omega) dX11_sheet_30 ?_
            refine fr_iload_n h rfl 1 rfl dX11_sheet_33 ?_
            refine fr_iload_n h rfl 1 rfl dX11_sheet_34 ?_
            refine fr_iconst h dX11_sheet_35 ?_
            refine fr_icmp_ne (tgt := 43) h dX11_sheet_36 (by decide) (by omega) (by omega) (fun c18 => ?_) (fun c18 => by exfalso; omega)
            refine fr_iload_n h rfl 2 rfl dX11_sheet_43 ?_
            refine fr_iload_n h rfl 3 rfl dX11_sheet_44 ?_
            refine fr_iload h 4 rfl dX11_sheet_45 ?_
            refine fr_cvI h kX8 (St_at St_3) wX8_weigh lX11_158 (c_X8_weigh x 3 St_3 k n u v (by omega) (by omega) (by omega) (by omega)) rfl (by decide) (by decide) rfl (Nat.le_of_ble_eq_true rfl) dX11_sheet_47 (fun z20 x19 w21 p22 => ?_)
            have f23 := p22
            refine fr_istore (L' := [(0, vr G 0), (1, vi k), (2, vi n), (3, vi u), (4, vi v), (5, vi z20)]) h dX11_sheet_50 (by decide) [1, 2, 3, 4, 5, 0] rfl ?_
            refine fr_aload_n h rfl 0 rfl dX11_sheet_52 ?_
            refine fr_cvV h kX11 at_0 wX11_changed lX11_136 (c_X11_changed x19) rfl (by decide) (by decide) rfl (Nat.le_of_ble_eq_true rfl) dX11_sheet_53 (fun x24 p27 => ?_)
            have f28 := p27
            refine fr_iload_n h rfl 1 rfl dX11_sheet_56 ?_
            refine fr_iconst h dX11_sheet_57 ?_
            refine fr_icmp_ne (tgt := 66) h dX11_sheet_58 (by decide) (by omega) (by omega) (fun c29 => ?_) (fun c29 => by exfalso; omega)
            refine fr_iload h 5 rfl dX11_sheet_66 ?_
            exact fr_iret h hq (by omega) (fun a k0 k1 k2 => ((f28 a (by omega) (by omega)).trans (f23 a (by omega)))) dX11_sheet_68
          ·
            refine fr_bipush h rfl dX11_sheet_26 ?_
            exact fr_iret h hq (by omega) (fun a _ _ _ => rfl) dX11_sheet_28
      ·
        refine fr_iconst h dX11_sheet_15 ?_
        exact fr_iret h hq (by omega) (fun a _ _ _ => rfl) dX11_sheet_16
set_option maxHeartbeats 200000 in
theorem c_X11_puts (x : Mm) (p : Int) (v : Int) (h_p : fm_r p) (h_v : fm_r v) : CnI YC yX11_puts cX11_puts 3 .int 4 89 (fun G => [vr G 0, vi p, vi v]) x (fun z y' => (∀ a : Int, (a < 3 ∨ 12 < a) → (a < 14 ∨ 65 < a) → (a < 79 ∨ 88 < a) → (a < 95 ∨ 97 < a) → y' a = x a)) := by
  refine cn_I (by decide) (fun _ => Nat.le_of_ble_eq_true rfl) (fun G C h hq => ?_)
  have h : OK YC G C cX11_puts RX11 3 (some .int) 4 89 := h
  show FW YC G C 3 x 0 [(0, vr G 0), (1, vi p), (2, vi v)] []
  refine fr_aload_n h rfl 0 rfl dX11_puts_0 ?_
  refine fr_getc (z := 8) (iz := 2) h kX11 fX11_23 at_0 rfl rfl rf_0_2 (by omega) dX11_puts_1 ?_
  refine fr_aload_n h rfl 0 rfl dX11_puts_4 ?_
  refine fr_getc (z := 3) (iz := 1) h kX11 fX11_19 at_0 rfl rfl rf_0_1 (by omega) dX11_puts_5 ?_
  refine fr_cvV h kX8 (St_at St_8) wX8_copyFrom lX11_120 (c_X8_copyFrom x 8 St_8 3 St_3) rfl (by decide) (by decide) rfl (Nat.le_of_ble_eq_true rfl) dX11_puts_8 (fun x1 p4 => ?_)
  have f5 := p4
  refine fr_aload_n h rfl 0 rfl dX11_puts_11 ?_
  refine fr_aload_n h rfl 0 rfl dX11_puts_12 ?_
  refine fr_getc (z := 3) (iz := 1) h kX11 fX11_19 at_0 rfl rfl rf_0_1 (by omega) dX11_puts_13 ?_
  refine fr_iload_n h rfl 1 rfl dX11_puts_16 ?_
  refine fr_iload_n h rfl 2 rfl dX11_puts_17 ?_
  refine fr_cvI h kX8 (St_at St_3) wX8_putNumber lX11_162 (c_X8_putNumber x1 3 St_3 p v (by omega) (by omega)) rfl (by decide) (by decide) rfl (Nat.le_of_ble_eq_true rfl) dX11_puts_18 (fun z7 x6 w8 p9 => ?_)
  obtain ⟨p10, p11, f12⟩ := p9
  refine fr_cvI h kX11 at_0 wX11_settled lX11_128 (c_X11_settled x6 z7 (by omega)) rfl (by decide) (by decide) rfl (Nat.le_of_ble_eq_true rfl) dX11_puts_21 (fun z14 x13 w15 p16 => ?_)
  obtain ⟨p17, f18⟩ := p16
  exact fr_iret h hq (by omega) (fun a k0 k1 k2 k3 => ((f18 a (by omega) (by omega) (by omega)).trans ((f12 a (by omega)).trans (f5 a (by omega))))) dX11_puts_24
set_option maxHeartbeats 200000 in
theorem c_X11_takes (x : Mm) (p : Int) (v : Int) (h_p : fm_r p) (h_v : fm_r v) : CnI YC yX11_takes cX11_takes 3 .int 4 89 (fun G => [vr G 0, vi p, vi v]) x (fun z y' => (∀ a : Int, (a < 3 ∨ 12 < a) → (a < 14 ∨ 65 < a) → (a < 79 ∨ 88 < a) → (a < 95 ∨ 97 < a) → y' a = x a)) := by
  refine cn_I (by decide) (fun _ => Nat.le_of_ble_eq_true rfl) (fun G C h hq => ?_)
  have h : OK YC G C cX11_takes RX11 3 (some .int) 4 89 := h
  show FW YC G C 3 x 0 [(0, vr G 0), (1, vi p), (2, vi v)] []
  refine fr_aload_n h rfl 0 rfl dX11_takes_0 ?_
  refine fr_getc (z := 8) (iz := 2) h kX11 fX11_23 at_0 rfl rfl rf_0_2 (by omega) dX11_takes_1 ?_
  refine fr_aload_n h rfl 0 rfl dX11_takes_4 ?_
  refine fr_getc (z := 3) (iz := 1) h kX11 fX11_19 at_0 rfl rfl rf_0_1 (by omega) dX11_takes_5 ?_
  refine fr_cvV h kX8 (St_at St_8) wX8_copyFrom lX11_120 (c_X8_copyFrom x 8 St_8 3 St_3) rfl (by decide) (by decide) rfl (Nat.le_of_ble_eq_true rfl) dX11_takes_8 (fun x1 p4 => ?_)
  have f5 := p4
  refine fr_aload_n h rfl 0 rfl dX11_takes_11 ?_
  refine fr_aload_n h rfl 0 rfl dX11_takes_12 ?_
  refine fr_getc (z := 3) (iz := 1) h kX11 fX11_19 at_0 rfl rfl rf_0_1 (by omega) dX11_takes_13 ?_
  refine fr_iload_n h rfl 1 rfl dX11_takes_16 ?_
  refine fr_iload_n h rfl 2 rfl dX11_takes_17 ?_
  refine fr_cvI h kX8 (St_at St_3) wX8_takeNumber lX11_165 (c_X8_takeNumber x1 3 St_3 p v (by omega) (by omega)) rfl (by decide) (by decide) rfl (Nat.le_of_ble_eq_true rfl) dX11_takes_18 (fun z7 x6 w8 p9 => ?_)
  obtain ⟨p10, p11, f12⟩ := p9
  refine fr_cvI h kX11 at_0 wX11_settled lX11_128 (c_X11_settled x6 z7 (by omega)) rfl (by decide) (by decide) rfl (Nat.le_of_ble_eq_true rfl) dX11_takes_21 (fun z14 x13 w15 p16 => ?_)
  obtain ⟨p17, f18⟩ := p16
  exact fr_iret h hq (by omega) (fun a k0 k1 k2 k3 => ((f18 a (by omega) (by omega) (by omega)).trans ((f12 a (by omega)).trans (f5 a (by omega))))) dX11_takes_24
set_option maxHeartbeats 200000 in
theorem c_X11_joins (x : Mm) (p : Int) (u : Int) (v : Int) (h_p : fm_r p) (h_u : fm_r u) (h_v : fm_r v) : CnI YC yX11_joins cX11_joins 4 .int 4 89 (fun G => [vr G 0, vi p, vi u, vi v]) x (fun z y' => (∀ a : Int, (a < 3 ∨ 12 < a) → (a < 14 ∨ 65 < a) → (a < 79 ∨ 88 < a) → (a < 95 ∨ 97 < a) → y' a = x a)) := by
  refine cn_I (by decide) (fun _ => Nat.le_of_ble_eq_true rfl) (fun G C h hq => ?_)
  have h : OK YC G C cX11_joins RX11 4 (some .int) 4 89 := h
  show FW YC G C 4 x 0 [(0, vr G 0), (1, vi p), (2, vi u), (3, vi v)] []
  refine fr_aload_n h rfl 0 rfl dX11_joins_0 ?_
  refine fr_getc (z := 8) (iz := 2) h kX11 fX11_23 at_0 rfl rfl rf_0_2 (by omega) dX11_joins_1 ?_
  refine fr_aload_n h rfl 0 rfl dX11_joins_4 ?_
  refine fr_getc (z := 3) (iz := 1) h kX11 fX11_19 at_0 rfl rfl rf_0_1 (by omega) dX11_joins_5 ?_
  refine fr_cvV h kX8 (St_at St_8) wX8_copyFrom lX11_120 (c_X8_copyFrom x 8 St_8 3 St_3) rfl (by decide) (by decide) rfl (Nat.le_of_ble_eq_true rfl) dX11_joins_8 (fun x1 p4 => ?_)
  have f5 := p4
  refine fr_aload_n h rfl 0 rfl dX11_joins_11 ?_
  refine fr_aload_n h rfl 0 rfl dX11_joins_12 ?_
  refine fr_getc (z := 3) (iz := 1) h kX11 fX11_19 at_0 rfl rfl rf_0_1 (by omega) dX11_joins_13 ?_
  refine fr_iload_n h rfl 1 rfl dX11_joins_16 ?_
  refine fr_iload_n h rfl 2 rfl dX11_joins_17 ?_
  refine fr_iload_n h rfl 3 rfl dX11_joins_18 ?_
  refine fr_cvI h kX8 (St_at St_3) wX8_joinNodes lX11_168 (c_X8_joinNodes x1 3 St_3 p u v (by omega) (by omega) (by omega)) rfl (by decide) (by decide) rfl (Nat.le_of_ble_eq_true rfl) dX11_joins_19 (fun z7 x6 w8 p9 => ?_)
  obtain ⟨p10, p11, f12⟩ := p9
  refine fr_cvI h kX11 at_0 wX11_settled lX11_128 (c_X11_settled x6 z7 (by omega)) rfl (by decide) (by decide) rfl (Nat.le_of_ble_eq_true rfl) dX11_joins_22 (fun z14 x13 w15 p16 => ?_)
  obtain ⟨p17, f18⟩ := p16
  exact fr_iret h hq (by omega) (fun a k0 k1 k2 k3 => ((f18 a (by omega) (by omega) (by omega)).trans ((f12 a (by omega)).trans (f5 a (by omega))))) dX11_joins_25
set_option maxHeartbeats 200000 in
theorem c_X11_costs (x : Mm) (p : Int) (u : Int) (v : Int) (h_p : fm_r p) (h_u : fm_r u) (h_v : fm_r v) : CnI YC yX11_costs cX11_costs 4 .int 4 89 (fun G => [vr G 0, vi p, vi u, vi v]) x (fun z y' => (∀ a : Int, (a < 3 ∨ 12 < a) → (a < 14 ∨ 65 < a) → (a < 79 ∨ 88 < a) → (a < 95 ∨ 97 < a) → y' a = x a)) := by
  refine cn_I (by decide) (fun _ => Nat.le_of_ble_eq_true rfl) (fun G C h hq => ?_)
  have h : OK YC G C cX11_costs RX11 4 (some .int) 4 89 := h
  show FW YC G C 4 x 0 [(0, vr G 0), (1, vi p), (2, vi u), (3, vi v)] []
  refine fr_aload_n h rfl 0 rfl dX11_costs_0 ?_
  refine fr_getc (z := 8) (iz := 2) h kX11 fX11_23 at_0 rfl rfl rf_0_2 (by omega) dX11_costs_1 ?_
  refine fr_aload_n h rfl 0 rfl dX11_costs_4 ?_
  refine fr_getc (z := 3) (iz := 1) h kX11 fX11_19 at_0 rfl rfl rf_0_1 (by omega) dX11_costs_5 ?_
  refine fr_cvV h kX8 (St_at St_8) wX8_copyFrom lX11_120 (c_X8_copyFrom x 8 St_8 3 St_3) rfl (by decide) (by decide) rfl (Nat.le_of_ble_eq_true rfl) dX11_costs_8 (fun x1 p4 => ?_)
  have f5 := p4
  refine fr_aload_n h rfl 0 rfl dX11_costs_11 ?_
  refine fr_aload_n h rfl 0 rfl dX11_costs_12 ?_
  refine fr_getc (z := 3) (iz := 1) h kX11 fX11_19 at_0 rfl rfl rf_0_1 (by omega) dX11_costs_13 ?_
  refine fr_iload_n h rfl 1 rfl dX11_costs_16 ?_
  refine fr_iload_n h rfl 2 rfl dX11_costs_17 ?_
  refine fr_iload_n h rfl 3 rfl dX11_costs_18 ?_
  refine fr_cvI h kX8 (St_at St_3) wX8_setCost lX11_172 (c_X8_setCost x1 3 St_3 p u v (by omega) (by omega) (by omega)) rfl (by decide) (by decide) rfl (Nat.le_of_ble_eq_true rfl) dX11_costs_19 (fun z7 x6 w8 p9 => ?_)
  obtain ⟨p10, p11, f12⟩ := p9
  refine fr_cvI h kX11 at_0 wX11_settled lX11_128 (c_X11_settled x6 z7 (by omega)) rfl (by decide) (by decide) rfl (Nat.le_of_ble_eq_true rfl) dX11_costs_22 (fun z14 x13 w15 p16 => ?_)
  obtain ⟨p17, f18⟩ := p16
  exact fr_iret h hq (by omega) (fun a k0 k1 k2 k3 => ((f18 a (by omega) (by omega) (by omega)).trans ((f12 a (by omega)).trans (f5 a (by omega))))) dX11_costs_25
set_option maxHeartbeats 200000 in
theorem c_X11_sets (x : Mm) (p : Int) (v : Int) (h_p : fm_r p) (h_v : fm_r v) : CnI YC yX11_sets cX11_sets 3 .int 4 89 (fun G => [vr G 0, vi p, vi v]) x (fun z y' => (∀ a : Int, (a < 3 ∨ 12 < a) → (a < 14 ∨ 65 < a) → (a < 79 ∨ 88 < a) → (a < 95 ∨ 97 < a) → y' a = x a)) := by
  refine cn_I (by decide) (fun _ => Nat.le_of_ble_eq_true rfl) (fun G C h hq => ?_)
  have h : OK YC G C cX11_sets RX11 3 (some .int) 4 89 := h
  show FW YC G C 3 x 0 [(0, vr G 0), (1, vi p), (2, vi v)] []
  refine fr_aload_n h rfl 0 rfl dX11_sets_0 ?_
  refine fr_getc (z := 8) (iz := 2) h kX11 fX11_23 at_0 rfl rfl rf_0_2 (by omega) dX11_sets_1 ?_
  refine fr_aload_n h rfl 0 rfl dX11_sets_4 ?_
  refine fr_getc (z := 3) (iz := 1) h kX11 fX11_19 at_0 rfl rfl rf_0_1 (by omega) dX11_sets_5 ?_
  refine fr_cvV h kX8 (St_at St_8) wX8_copyFrom lX11_120 (c_X8_copyFrom x 8 St_8 3 St_3) rfl (by decide) (by decide) rfl (Nat.le_of_ble_eq_true rfl) dX11_sets_8 (fun x1 p4 => ?_)
  have f5 := p4
  refine fr_aload_n h rfl 0 rfl dX11_sets_11 ?_
  refine fr_aload_n h rfl 0 rfl dX11_sets_12 ?_
  refine fr_getc (z := 3) (iz := 1) h kX11 fX11_19 at_0 rfl rfl rf_0_1 (by omega) dX11_sets_13 ?_
  refine fr_iload_n h rfl 1 rfl dX11_sets_16 ?_
  refine fr_iload_n h rfl 2 rfl dX11_sets_17 ?_
  refine fr_cvI h kX8 (St_at St_3) wX8_setWhat lX11_175 (c_X8_setWhat x1 3 St_3 p v (by omega) (by omega)) rfl (by decide) (by decide) rfl (Nat.le_of_ble_eq_true rfl) dX11_sets_18 (fun z7 x6 w8 p9 => ?_)
  obtain ⟨p10, p11, f12⟩ := p9
  refine fr_cvI h kX11 at_0 wX11_settled lX11_128 (c_X11_settled x6 z7 (by omega)) rfl (by decide) (by decide) rfl (Nat.le_of_ble_eq_true rfl) dX11_sets_21 (fun z14 x13 w15 p16 => ?_)
  obtain ⟨p17, f18⟩ := p16
  exact fr_iret h hq (by omega) (fun a k0 k1 k2 k3 => ((f18 a (by omega) (by omega) (by omega)).trans ((f12 a (by omega)).trans (f5 a (by omega))))) dX11_sets_24
set_option maxHeartbeats 200000 in
theorem c_X11_ends (x : Mm) (p : Int) (v : Int) (h_p : fm_r p) (h_v : fm_r v) : CnI YC yX11_ends cX11_ends 3 .int 4 89 (fun G => [vr G 0, vi p, vi v]) x (fun z y' => (∀ a : Int, (a < 3 ∨ 12 < a) → (a < 14 ∨ 65 < a) → (a < 79 ∨ 88 < a) → (a < 95 ∨ 97 < a) → y' a = x a)) := by
  refine cn_I (by decide) (fun _ => Nat.le_of_ble_eq_true rfl) (fun G C h hq => ?_)
  have h : OK YC G C cX11_ends RX11 3 (some .int) 4 89 := h
  show FW YC G C 3 x 0 [(0, vr G 0), (1, vi p), (2, vi v)] []
  refine fr_aload_n h rfl 0 rfl dX11_ends_0 ?_
  refine fr_getc (z := 8) (iz := 2) h kX11 fX11_23 at_0 rfl rfl rf_0_2 (by omega) dX11_ends_1 ?_
  refine fr_aload_n h rfl 0 rfl dX11_ends_4 ?_
  refine fr_getc (z := 3) (iz := 1) h kX11 fX11_19 at_0 rfl rfl rf_0_1 (by omega) dX11_ends_5 ?_
  refine fr_cvV h kX8 (St_at St_8) wX8_copyFrom lX11_120 (c_X8_copyFrom x 8 St_8 3 St_3) rfl (by decide) (by decide) rfl (Nat.le_of_ble_eq_true rfl) dX11_ends_8 (fun x1 p4 => ?_)
  have f5 := p4
  refine fr_aload_n h rfl 0 rfl dX11_ends_11 ?_
  refine fr_aload_n h rfl 0 rfl dX11_ends_12 ?_
  refine fr_getc (z := 3) (iz := 1) h kX11 fX11_19 at_0 rfl rfl rf_0_1 (by omega) dX11_ends_13 ?_
  refine fr_iload_n h rfl 1 rfl dX11_ends_16 ?_
  refine fr_iload_n h rfl 2 rfl dX11_ends_17 ?_
  refine fr_cvI h kX8 (St_at St_3) wX8_setEnds lX11_178 (c_X8_setEnds x1 3 St_3 p v (by omega) (by omega)) rfl (by decide) (by decide) rfl (Nat.le_of_ble_eq_true rfl) dX11_ends_18 (fun z7 x6 w8 p9 => ?_)
  obtain ⟨p10, p11, f12⟩ := p9
  refine fr_cvI h kX11 at_0 wX11_settled lX11_128 (c_X11_settled x6 z7 (by omega)) rfl (by decide) (by decide) rfl (Nat.le_of_ble_eq_true rfl) dX11_ends_21 (fun z14 x13 w15 p16 => ?_)
  obtain ⟨p17, f18⟩ := p16
  exact fr_iret h hq (by omega) (fun a k0 k1 k2 k3 => ((f18 a (by omega) (by omega) (by omega)).trans ((f12 a (by omega)).trans (f5 a (by omega))))) dX11_ends_24
set_option maxHeartbeats 200000 in
theorem c_X11_undo (x : Mm) : CnI YC yX11_undo cX11_undo 1 .int 3 68 (fun G => [vr G 0]) x (fun z y' => (∀ a : Int, (a < 3 ∨ 12 < a) → (a < 14 ∨ 65 < a) → (a < 79 ∨ 88 < a) → (a < 95 ∨ 97 < a) → y' a = x a)) := by
  refine cn_I (by decide) (fun _ => Nat.le_of_ble_eq_true rfl) (fun G C h hq => ?_)
  have h : OK YC G C cX11_undo RX11 1 (some .int) 3 68 := h
  show FW YC G C 1 x 0 [(0, vr G 0)] []
  refine fr_aload_n h rfl 0 rfl dX11_undo_0 ?_
  refine fr_getc (z := 14) (iz := 4) h kX11 fX11_36 at_0 rfl rfl rf_0_4 (by omega) dX11_undo_1 ?_
  refine fr_aload_n h rfl 0 rfl dX11_undo_4 ?_
  refine fr_getc (z := 3) (iz := 1) h kX11 fX11_19 at_0 rfl rfl rf_0_1 (by omega) dX11_undo_5 ?_
  refine fr_cvI h kX5 at_14 wX5_takeLatest lX11_196 (c_X5_takeLatest x 3 St_3) rfl (by decide) (by decide) rfl (Nat.le_of_ble_eq_true rfl) dX11_undo_8 (fun z2 x1 w3 p4 => ?_)
  obtain ⟨p5, f6⟩ := p4
  refine fr_if_ne (tgt := 16) h dX11_undo_11 (by decide) (by omega) (fun c7 => ?_) (fun c7 => ?_)
  ·
    refine fr_aload_n h rfl 0 rfl dX11_undo_16 ?_
    refine fr_cvV h kX11 at_0 wX11_changed lX11_136 (c_X11_changed x1) rfl (by decide) (by decide) rfl (Nat.le_of_ble_eq_true rfl) dX11_undo_17 (fun x8 p11 => ?_)
    have f12 := p11
    refine fr_aload_n h rfl 0 rfl dX11_undo_20 ?_
    refine fr_getc (z := 14) (iz := 4) h kX11 fX11_36 at_0 rfl rfl rf_0_4 (by omega) dX11_undo_21 ?_
    refine fr_cvI h kX5 at_14 wX5_size lX11_200 (c_X5_size x8) rfl (by decide) (by decide) rfl (Nat.le_of_ble_eq_true rfl) dX11_undo_24 (fun z14 x13 w15 p16 => ?_)
    obtain ⟨p17, p18, p19, y20⟩ := p16
    rw [y20]
    clear y20
    exact fr_iret h hq (by omega) (fun a k0 k1 k2 k3 => ((f12 a (by omega) (by omega)).trans (f6 a (by omega) (by omega)))) dX11_undo_27
  ·
    refine fr_iconst h dX11_undo_14 ?_
    exact fr_iret h hq (by omega) (fun a k0 k1 k2 k3 => (f6 a (by omega) (by omega))) dX11_undo_15
