set_option maxHeartbeats 200000 in
theorem f_J6_bitCount_0f7a4 (x : Mm) (p : Int) (h_p : fm_r p) : CnI YC yJ6_bitCount_0f7a4 cJ6_bitCount_0f7a4 1 .int 0 0 (fun G => [vi p]) x (fun z y' => (p = 0 → z = 0) ∧ (y' = x)) := by
  refine cn_I (by decide) (fun _ => Nat.le_of_ble_eq_true rfl) (fun G C h hq => ?_)
  have h : OK YC G C cJ6_bitCount_0f7a4 RJ6 1 (some .int) 0 0 := h
  show FW YC G C 1 x 0 [(0, vi p)] []
  by_cases hp : p = 0
  ·
    refine fr_iload_n h rfl 0 rfl dJ6_bitCount_0f7a4_0 ?_
    refine fr_iload_n h rfl 0 rfl dJ6_bitCount_0f7a4_1 ?_
    refine fr_iconst h dJ6_bitCount_0f7a4_2 ?_
    refine fr_iushr h dJ6_bitCount_0f7a4_3 (fun z1 w2 q3 w4 => ?_)
    have w5 := z_iushr w2 q3 (by omega)
    refine fr_ldcw (z := 1431655765) h (by exact tb_4 (i := 0) (by decide +kernel) (by decide +kernel)) rfl dJ6_bitCount_0f7a4_4 ?_
    refine fr_iand h dJ6_bitCount_0f7a4_7 (fun z6 w7 q8 w9 => ?_)
    have w10 := w9 (by omega) (by omega)
    have w11 := z_iand w7 q8 (by omega)
    refine fr_isub h dJ6_bitCount_0f7a4_8 ?_
    refine fr_normi (fun z12 w13 q14 => ?_)
    have w15 : z12 = (p - z6) := (iI_inj (show fm_r ((p - z6)) by omega) w13 q14).symm
    refine fr_istore_n (L' := [(0, vi z12)]) h rfl dJ6_bitCount_0f7a4_9 (by decide) [0] rfl ?_
    refine fr_iload_n h rfl 0 rfl dJ6_bitCount_0f7a4_10 ?_
    refine fr_ldcw (z := 858993459) h (by exact tb_4 (i := 1) (by decide +kernel) (by decide +kernel)) rfl dJ6_bitCount_0f7a4_11 ?_
    refine fr_iand h dJ6_bitCount_0f7a4_14 (fun z16 w17 q18 w19 => ?_)
    have w20 := w19 (by omega) (by omega)
    have w21 := z_iand w17 q18 (by omega)
    refine fr_iload_n h rfl 0 rfl dJ6_bitCount_0f7a4_15 ?_
    refine fr_iconst h dJ6_bitCount_0f7a4_16 ?_
    refine fr_iushr h dJ6_bitCount_0f7a4_17 (fun z22 w23 q24 w25 => ?_)
    have w26 := z_iushr w23 q24 (by omega)
    refine fr_ldcw (z := 858993459) h (by exact tb_4 (i := 1) (by decide +kernel) (by decide +kernel)) rfl dJ6_bitCount_0f7a4_18 ?_
    refine fr_iand h dJ6_bitCount_0f7a4_21 (fun z27 w28 q29 w30 => ?_)
    have w31 := w30 (by omega) (by omega)
    have w32 := z_iand w28 q29 (by omega)
    refine fr_iadd h dJ6_bitCount_0f7a4_22 ?_
    refine fr_istore_n (L' := [(0, vi (z16 + z27))]) h rfl dJ6_bitCount_0f7a4_23 (by decide) [0] rfl ?_
    refine fr_iload_n h rfl 0 rfl dJ6_bitCount_0f7a4_24 ?_
    refine fr_iload_n h rfl 0 rfl dJ6_bitCount_0f7a4_25 ?_
    refine fr_iconst h dJ6_bitCount_0f7a4_26 ?_
    refine fr_iushr h dJ6_bitCount_0f7a4_27 (fun z33 w34 q35 w36 => ?_)
    have w37 := z_iushr w34 q35 (by omega)
    refine fr_iadd h dJ6_bitCount_0f7a4_28 ?_
    refine fr_normi (fun z38 w39 q40 => ?_)
    have w41 : z38 = ((z16 + z27) + z33) := (iI_inj (show fm_r (((z16 + z27) + z33)) by omega) w39 q40).symm
    refine fr_ldcw (z := 252645135) h (by exact tb_4 (i := 2) (by decide +kernel) (by decide +kernel)) rfl dJ6_bitCount_0f7a4_29 ?_
    refine fr_iand h dJ6_bitCount_0f7a4_32 (fun z42 w43 q44 w45 => ?_)
    have w46 := w45 (by omega) (by omega)
    have w47 := z_iand w43 q44 (by omega)
    refine fr_istore_n (L' := [(0, vi z42)]) h rfl dJ6_bitCount_0f7a4_33 (by decide) [0] rfl ?_
    refine fr_iload_n h rfl 0 rfl dJ6_bitCount_0f7a4_34 ?_
    refine fr_iload_n h rfl 0 rfl dJ6_bitCount_0f7a4_35 ?_
    refine fr_bipush h rfl dJ6_bitCount_0f7a4_36 ?_
    refine fr_iushr h dJ6_bitCount_0f7a4_38 (fun z48 w49 q50 w51 => ?_)
    have w52 := z_iushr w49 q50 (by omega)
    refine fr_iadd h dJ6_bitCount_0f7a4_39 ?_
    refine fr_normi (fun z53 w54 q55 => ?_)
    have w56 : z53 = (z42 + z48) := (iI_inj (show fm_r ((z42 + z48)) by omega) w54 q55).symm
    refine fr_istore_n (L' := [(0, vi z53)]) h rfl dJ6_bitCount_0f7a4_40 (by decide) [0] rfl ?_
    refine fr_iload_n h rfl 0 rfl dJ6_bitCount_0f7a4_41 ?_
    refine fr_iload_n h rfl 0 rfl dJ6_bitCount_0f7a4_42 ?_
    refine fr_bipush h rfl dJ6_bitCount_0f7a4_43 ?_
    refine fr_iushr h dJ6_bitCount_0f7a4_45 (fun z57 w58 q59 w60 => ?_)
    have w61 := w60 rfl
    have w62 := z_iushr w58 q59 (by omega)
    refine fr_iadd h dJ6_bitCount_0f7a4_46 ?_
    refine fr_normi (fun z63 w64 q65 => ?_)
    have w66 : z63 = (z53 + z57) := (iI_inj (show fm_r ((z53 + z57)) by omega) w64 q65).symm
    refine fr_istore_n (L' := [(0, vi z63)]) h rfl dJ6_bitCount_0f7a4_47 (by decide) [0] rfl ?_
    refine fr_iload_n h rfl 0 rfl dJ6_bitCount_0f7a4_48 ?_
    refine fr_bipush h rfl dJ6_bitCount_0f7a4_49 ?_
    refine fr_iand h dJ6_bitCount_0f7a4_51 (fun z67 w68 q69 w70 => ?_)
    have w71 := w70 (by omega) (by omega)
    have w72 := z_iand w68 q69 (by omega)
    exact fr_iret h hq (by omega) ⟨(by omega), rfl⟩ dJ6_bitCount_0f7a4_52
  ·
    refine fr_iload_n h rfl 0 rfl dJ6_bitCount_0f7a4_0 ?_
    refine fr_iload_n h rfl 0 rfl dJ6_bitCount_0f7a4_1 ?_
    refine fr_iconst h dJ6_bitCount_0f7a4_2 ?_
    refine fr_iushr h dJ6_bitCount_0f7a4_3 (fun z73 w74 q75 w76 => ?_)
    refine fr_ldcw (z := 1431655765) h (by exact tb_4 (i := 0) (by decide +kernel) (by decide +kernel)) rfl dJ6_bitCount_0f7a4_4 ?_
    refine fr_iand h dJ6_bitCount_0f7a4_7 (fun z77 w78 q79 w80 => ?_)
    have w81 := w80 (by omega) (by omega)
    refine fr_isub h dJ6_bitCount_0f7a4_8 ?_
    refine fr_normi (fun z82 w83 q84 => ?_)
    have w85 : fm_r ((p - z77)) → z82 = (p - z77) := fun q => (iI_inj q w83 q84).symm
    refine fr_istore_n (L' := [(0, vi z82)]) h rfl dJ6_bitCount_0f7a4_9 (by decide) [0] rfl ?_
    refine fr_iload_n h rfl 0 rfl dJ6_bitCount_0f7a4_10 ?_
    refine fr_ldcw (z := 858993459) h (by exact tb_4 (i := 1) (by decide +kernel) (by decide +kernel)) rfl dJ6_bitCount_0f7a4_11 ?_
    refine fr_iand h dJ6_bitCount_0f7a4_14 (fun z86 w87 q88 w89 => ?_)
    have w90 := w89 (by omega) (by omega)
    refine fr_iload_n h rfl 0 rfl dJ6_bitCount_0f7a4_15 ?_
    refine fr_iconst h dJ6_bitCount_0f7a4_16 ?_
    refine fr_iushr h dJ6_bitCount_0f7a4_17 (fun z91 w92 q93 w94 => ?_)
    refine fr_ldcw (z := 858993459) h (by exact tb_4 (i := 1) (by decide +kernel) (by decide +kernel)) rfl dJ6_bitCount_0f7a4_18 ?_
    refine fr_iand h dJ6_bitCount_0f7a4_21 (fun z95 w96 q97 w98 => ?_)
    have w99 := w98 (by omega) (by omega)
    refine fr_iadd h dJ6_bitCount_0f7a4_22 ?_
    refine fr_istore_n (L' := [(0, vi (z86 + z95))]) h rfl dJ6_bitCount_0f7a4_23 (by decide) [0] rfl ?_
    refine fr_iload_n h rfl 0 rfl dJ6_bitCount_0f7a4_24 ?_
    refine fr_iload_n h rfl 0 rfl dJ6_bitCount_0f7a4_25 ?_
    refine fr_iconst h dJ6_bitCount_0f7a4_26 ?_
    refine fr_iushr h dJ6_bitCount_0f7a4_27 (fun z100 w101 q102 w103 => ?_)
    refine fr_iadd h dJ6_bitCount_0f7a4_28 ?_
    refine fr_normi (fun z104 w105 q106 => ?_)
    have w107 : fm_r (((z86 + z95) + z100)) → z104 = ((z86 + z95) + z100) := fun q => (iI_inj q w105 q106).symm
    refine fr_ldcw (z := 252645135) h (by exact tb_4 (i := 2) (by decide +kernel) (by decide +kernel)) rfl dJ6_bitCount_0f7a4_29 ?_
    refine fr_iand h dJ6_bitCount_0f7a4_32 (fun z108 w109 q110 w111 => ?_)
    have w112 := w111 (by omega) (by omega)
    refine fr_istore_n (L' := [(0, vi z108)]) h rfl dJ6_bitCount_0f7a4_33 (by decide) [0] rfl ?_
    refine fr_iload_n h rfl 0 rfl dJ6_bitCount_0f7a4_34 ?_
    refine fr_iload_n h rfl 0 rfl dJ6_bitCount_0f7a4_35 ?_
    refine fr_bipush h rfl dJ6_bitCount_0f7a4_36 ?_
    refine fr_iushr h dJ6_bitCount_0f7a4_38 (fun z113 w114 q115 w116 => ?_)
    refine fr_iadd h dJ6_bitCount_0f7a4_39 ?_
    refine fr_normi (fun z117 w118 q119 => ?_)
    have w120 : fm_r ((z108 + z113)) → z117 = (z108 + z113) := fun q => (iI_inj q w118 q119).symm
    refine fr_istore_n (L' := [(0, vi z117)]) h rfl dJ6_bitCount_0f7a4_40 (by decide) [0] rfl ?_
    refine fr_iload_n h rfl 0 rfl dJ6_bitCount_0f7a4_41 ?_
    refine fr_iload_n h rfl 0 rfl dJ6_bitCount_0f7a4_42 ?_
    refine fr_bipush h rfl dJ6_bitCount_0f7a4_43 ?_
    refine fr_iushr h dJ6_bitCount_0f7a4_45 (fun z121 w122 q123 w124 => ?_)
    have w125 := w124 rfl
    refine fr_iadd h dJ6_bitCount_0f7a4_46 ?_
    refine fr_normi (fun z126 w127 q128 => ?_)
    have w129 : fm_r ((z117 + z121)) → z126 = (z117 + z121) := fun q => (iI_inj q w127 q128).symm
    refine fr_istore_n (L' := [(0, vi z126)]) h rfl dJ6_bitCount_0f7a4_47 (by decide) [0] rfl ?_
    refine fr_iload_n h rfl 0 rfl dJ6_bitCount_0f7a4_48 ?_
    refine fr_bipush h rfl dJ6_bitCount_0f7a4_49 ?_
    refine fr_iand h dJ6_bitCount_0f7a4_51 (fun z130 w131 q132 w133 => ?_)
    have w134 := w133 (by omega) (by omega)
    exact fr_iret h hq (by omega) ⟨(fun q => absurd q hp), rfl⟩ dJ6_bitCount_0f7a4_52
set_option maxHeartbeats 200000 in
theorem f_X4_findChoices : ∀ (d : Nat) (x : Mm) (r : Int) (hr : isRu r) (o : Int) (on : Nat) (ho : OrN o on) (p : Int) (n : Int) (v : Int) (h_p : fm_r p) (h_n : fm_r n) (h_v : fm_l v) (e0 : x 89 6 = 3) (e1 : x 89 7 = r) (e2 : x 89 8 = o) (e3 : 0 ≤ p) (e4 : p ≤ 4) (e5 : n = 0) (e6 : v = 0) (e7 : ∀ j : Int, 0 ≤ j → j < 4 → x (3 + 1) j = 0) (e8 : x o 1 = 0) (e9 : x r 4 = 1) (e10 : x (r + 1) 0 = 1115), (4 - p) < d → CnV YC yX4_findChoices cX4_findChoices 7 (d + 10) (d * 30 + 300) (fun G => [vr G 89, vi p, vi n, vj v]) x (fun y' => (y' 89 6 = x 89 6) ∧ (y' 89 7 = x 89 7) ∧ (y' 89 8 = x 89 8) ∧ (y' o 1 = 1) ∧ (y' (o + 1) 0 = 0) ∧ (∀ a : Int, (a < 89 ∨ 93 < a) → (a < o ∨ o + 1 < a) → (a < r ∨ r + 4 < a) → y' a = x a)) := by
  intro d
  induction d with
  | zero => intro x r hr o on ho p n v h_p h_n h_v e0 e1 e2 e3 e4 e5 e6 e7 e8 e9 e10 hmu; exfalso; omega
  | succ d ih =>
    intro x r hr o on ho p n v h_p h_n h_v e0 e1 e2 e3 e4 e5 e6 e7 e8 e9 e10 hmu
    refine cn_V (by decide) (fun _ => Nat.le_of_ble_eq_true rfl) (fun G C h hq => ?_)
    have h : OK YC G C cX4_findChoices RX4 7 none (d + 1 + 10) ((d + 1) * 30 + 300) := h
    show FW YC G C 7 x 0 [(0, vr G 89), (1, vi p), (2, vi n), (3, vj v)] []
    have h_r := Ru_b hr
    have h_o := OrN_b ho
    refine fr_iload_n h rfl 1 rfl dX4_findChoices_0 ?_
    refine fr_iconst h dX4_findChoices_1 ?_
    refine fr_icmp_lt (tgt := 26) h dX4_findChoices_2 (by decide) (by omega) (by omega) (fun c1 => ?_) (fun c1 => ?_)
    ·
      refine fr_aload_n h rfl 0 rfl dX4_findChoices_26 ?_
      refine fr_getr (z := 3) (iz := 6) h kX4 fX4_24 at_89 rfl rfl e0 (by omega) dX4_findChoices_27 ?_
      refine fr_iload_n h rfl 1 rfl dX4_findChoices_30 ?_
      refine fr_cvI h kX8 (St_at St_3) wX8_sizeOf lX4_61 (f_X8_sizeOf x p (by omega) (fun j a b => e7 j a b)) rfl (by omega) (by omega) rfl (Nat.le_of_ble_eq_true rfl) dX4_findChoices_31 (fun z3 x2 w4 p5 => ?_)
      obtain ⟨p6, y7⟩ := p5
      rw [y7]
      clear y7
      refine fr_istore (L' := [(0, vr G 89), (1, vi p), (2, vi n), (3, vj v), (5, vi z3)]) h dX4_findChoices_34 (by decide) [1, 2, 3, 4, 0] rfl ?_
      refine fr_iload h 4 rfl dX4_findChoices_36 ?_
      refine fr_if_ne (tgt := 50) h dX4_findChoices_38 (by decide) (by omega) (fun c8 => ?_) (fun c8 => ?_)
      ·
        exfalso; omega
      ·
        refine fr_aload_n h rfl 0 rfl dX4_findChoices_41 ?_
        refine fr_iload_n h rfl 1 rfl dX4_findChoices_42 ?_
        refine fr_iconst h dX4_findChoices_43 ?_
        refine fr_iadd h dX4_findChoices_44 ?_
        refine fr_iload_n h rfl 2 rfl dX4_findChoices_45 ?_
        refine fr_lload_n h rfl 3 rfl dX4_findChoices_46 ?_
        refine fr_cvV h kX4 at_89 wX4_findChoices lX4_36 (ih x r hr o on ho (p + 1) n v (by omega) (by omega) (by omega) (by omega) (by omega) (by omega) (by omega) (by omega) (by omega) (by omega) (fun j a b => e7 j a b) (by omega) (by omega) (by omega) (by omega)) rfl (by omega) (by omega) rfl (Nat.le_of_ble_eq_true rfl) dX4_findChoices_47 (fun x9 p12 => ?_)
        obtain ⟨p13, p14, p15, p16, p17, f18⟩ := p12
        refine fr_iconst h dX4_findChoices_50 ?_
        refine fr_istore (L' := [(0, vr G 89), (1, vi p), (2, vi n), (3, vj v), (5, vi z3), (6, vi 0)]) h dX4_findChoices_51 (by decide) [1, 2, 3, 4, 5, 0] rfl ?_
        refine fr_iload h 5 rfl dX4_findChoices_53 ?_
        refine fr_iload h 4 rfl dX4_findChoices_55 ?_
        refine fr_icmp_ge (tgt := 104) h dX4_findChoices_57 (by decide) (by omega) (by omega) (fun c19 => ?_) (fun c19 => by exfalso; omega)
        exact fr_vret h hq ⟨(by omega), (by omega), (by omega), (by omega), (by omega), (fun a k0 k1 k2 => (f18 a (by omega) (by omega) (by omega)))⟩ dX4_findChoices_104
    ·
      refine fr_aload_n h rfl 0 rfl dX4_findChoices_5 ?_
      refine fr_getr (z := o) (iz := 8) h kX4 fX4_32 at_89 rfl rfl e2 (by omega) dX4_findChoices_6 ?_
      refine fr_aload_n h rfl 0 rfl dX4_findChoices_9 ?_
      refine fr_getr (z := r) (iz := 7) h kX4 fX4_28 at_89 rfl rfl e1 (by omega) dX4_findChoices_10 ?_
      refine fr_aload_n h rfl 0 rfl dX4_findChoices_13 ?_
      refine fr_getc (z := 90) (iz := 0) h kX4 fX4_9 at_89 rfl rfl rf_89_0 (by omega) dX4_findChoices_14 ?_
      refine fr_iload_n h rfl 2 rfl dX4_findChoices_17 ?_
      refine fr_cvI h kX7 (Ru_at hr) wX7_costOf lX4_74 (f_X7_costOf x r hr n (by omega) (by omega) (by omega) (by omega)) rfl (by omega) (by omega) rfl (Nat.le_of_ble_eq_true rfl) dX4_findChoices_18 (fun z21 x20 w22 p23 => ?_)
      obtain ⟨p24, f25⟩ := p23
      refine fr_lload_n h rfl 3 rfl dX4_findChoices_21 ?_
      have r26 := (congrFun (f25 o (by omega) (by omega)) 1)
      skip
      refine fr_cvV h kX6 (Or_at (OrN_is ho)) wX6_add lX4_80 (f_X6_add x20 o on ho z21 v (by omega) (by omega)) rfl (by omega) (by omega) rfl (Nat.le_of_ble_eq_true rfl) dX4_findChoices_22 (fun x27 p30 => ?_)
      obtain ⟨p31, p32, p33, f34⟩ := p30
      have ko : x27 (o + 1) (x20 o 1) = x27 (o + 1) 0 := by rw [show x20 o 1 = 0 by omega]
      have r35 := (congrFun (f34 89 (by omega)) 6)
      have r36 := r35.trans (congrFun (f25 89 (by omega) (by omega)) 6)
      have r37 := (congrFun (f34 89 (by omega)) 7)
      have r38 := r37.trans (congrFun (f25 89 (by omega) (by omega)) 7)
      have r39 := (congrFun (f34 89 (by omega)) 8)
      have r40 := r39.trans (congrFun (f25 89 (by omega) (by omega)) 8)
      have r41 := (congrFun (f25 o (by omega) (by omega)) 1)
      have r42 := (congrFun (f25 (o + 1) (by omega) (by omega)) 0)
      exact fr_vret h hq ⟨(by omega), (by omega), (by omega), (by omega), (by omega), (fun a k0 k1 k2 => ((f34 a (by omega)).trans (f25 a (by omega) (by omega))))⟩ dX4_findChoices_25
set_option maxHeartbeats 200000 in
theorem f_X4_growTree (x : Mm) (r : Int) (hr : isRu r) (o : Int) (on : Nat) (ho : OrN o on) (p : Int) (n : Int) (u : Int) (v : Int) (w : Int) (h_p : fm_r p) (h_n : fm_r n) (h_u : fm_r u) (h_v : fm_l v) (h_w : fm_r w) (e0 : x 89 6 = 3) (e1 : x 89 7 = r) (e2 : x 89 8 = o) (e3 : n = 0) (e4 : u = 0) (e5 : v = 0) (e6 : x 89 5 = 0) (e7 : x o 1 = 0) : CnV YC yX4_growTree cX4_growTree 9 2 45 (fun G => [vr G 89, vi p, vi n, vi u, vj v, vi w]) x (fun y' => (y' 89 6 = x 89 6) ∧ (y' 89 7 = x 89 7) ∧ (y' 89 8 = x 89 8) ∧ (y' o 1 = 1) ∧ (y' (o + 1) 0 = 0) ∧ (∀ a : Int, (a < 89 ∨ 93 < a) → (a < o ∨ o + 1 < a) → (a < r ∨ r + 4 < a) → y' a = x a)) := by
  refine cn_V (by decide) (fun _ => Nat.le_of_ble_eq_true rfl) (fun G C h hq => ?_)
  have h : OK YC G C cX4_growTree RX4 9 none 2 45 := h
  show FW YC G C 9 x 0 [(0, vr G 89), (1, vi p), (2, vi n), (3, vi u), (4, vj v), (6, vi w)] []
  have h_r := Ru_b hr
  have h_o := OrN_b ho
  refine fr_iload_n h rfl 2 rfl dX4_growTree_0 ?_
  refine fr_aload_n h rfl 0 rfl dX4_growTree_1 ?_
  refine fr_geti (iz := 5) h kX4 fX4_109 at_89 rfl rfl (by decide) (by decide) rf_89_5 dX4_growTree_2 (fun z1 w2 w3 q4 => ?_)
  refine fr_icmp_ne (tgt := 19) h dX4_growTree_5 (by decide) (by omega) (by omega) (fun c5 => ?_) (fun c5 => ?_)
  ·
    exfalso; omega
  ·
    refine fr_aload_n h rfl 0 rfl dX4_growTree_8 ?_
    refine fr_getr (z := o) (iz := 8) h kX4 fX4_32 at_89 rfl rfl e2 (by omega) dX4_growTree_9 ?_
    refine fr_iload_n h rfl 3 rfl dX4_growTree_12 ?_
    refine fr_lload h 4 rfl dX4_growTree_13 ?_
    refine fr_cvV h kX6 (Or_at (OrN_is ho)) wX6_add lX4_80 (f_X6_add x o on ho u v (by omega) (by omega)) rfl (by decide) (by decide) rfl (Nat.le_of_ble_eq_true rfl) dX4_growTree_15 (fun x6 p9 => ?_)
    obtain ⟨p10, p11, p12, f13⟩ := p9
    have ko : x6 (o + 1) (x o 1) = x6 (o + 1) 0 := by rw [show x o 1 = 0 by omega]
    have r14 := (congrFun (f13 89 (by omega)) 6)
    have r15 := (congrFun (f13 89 (by omega)) 7)
    have r16 := (congrFun (f13 89 (by omega)) 8)
    exact fr_vret h hq ⟨(by omega), (by omega), (by omega), (by omega), (by omega), (fun a k0 k1 k2 => (f13 a (by omega)))⟩ dX4_growTree_18
set_option maxHeartbeats 200000 in
theorem f_X4_findTrees (x : Mm) (r : Int) (hr : isRu r) (o : Int) (on : Nat) (ho : OrN o on) (e0 : x 89 6 = 3) (e1 : x 89 7 = r) (e2 : x 89 8 = o) (e3 : ∀ j : Int, 0 ≤ j → j < 49 → x (3 + 3) j = 0) (e4 : x o 1 = 0) : CnV YC yX4_findTrees cX4_findTrees 4 3 73 (fun G => [vr G 89]) x (fun y' => (y' 89 6 = x 89 6) ∧ (y' 89 7 = x 89 7) ∧ (y' 89 8 = x 89 8) ∧ (y' o 1 = 1) ∧ (y' (o + 1) 0 = 0) ∧ (∀ a : Int, (a < 89 ∨ 93 < a) → (a < o ∨ o + 1 < a) → (a < r ∨ r + 4 < a) → y' a = x a)) := by
  refine cn_V (by decide) (fun _ => Nat.le_of_ble_eq_true rfl) (fun G C h hq => ?_)
  have h : OK YC G C cX4_findTrees RX4 4 none 3 73 := h
  show FW YC G C 4 x 0 [(0, vr G 89)] []
  have h_r := Ru_b hr
  have h_o := OrN_b ho
  refine fr_aload_n h rfl 0 rfl dX4_findTrees_0 ?_
  refine fr_iconst h dX4_findTrees_1 ?_
  refine fr_puti (iz := 4) h kX4 fX4_90 at_89 rfl rfl (by decide) (by decide) rfl (by decide +kernel) rf_89_4 (by omega) (by omega) dX4_findTrees_2 ?_
  refine fr_mem (fun x1 m2 => ?_)
  refine fr_iconst h dX4_findTrees_5 ?_
  refine fr_istore_n (L' := [(0, vr G 89), (1, vi 0)]) h rfl dX4_findTrees_6 (by decide) [1, 0] rfl ?_
  have HL3 : ∀ (n3 : Nat) (l1_3 : Int), fm_r l1_3 → 0 ≤ l1_3 → l1_3 ≤ 7 → (7 - l1_3) < n3 → FW YC G C 4 x1 7 [(0, vr G 89), (1, vi l1_3)] [] := by
    intro n3
    induction n3 with
    | zero =>
      intro l1_3 g3_0 g3_1 g3_2 g3_3
      exfalso; omega
    | succ n3 ih3 =>
      intro l1_3 g3_0 g3_1 g3_2 g3_3
      refine fr_iload_n h rfl 1 rfl dX4_findTrees_7 ?_
      refine fr_bipush h rfl dX4_findTrees_8 ?_
      refine fr_icmp_ge (tgt := 98) h dX4_findTrees_10 (by decide) (by omega) (by omega) (fun c4 => ?_) (fun c4 => ?_)
      ·
        refine fr_aload_n h rfl 0 rfl dX4_findTrees_98 ?_
        refine fr_iconst h dX4_findTrees_99 ?_
        refine fr_aload_n h rfl 0 rfl dX4_findTrees_100 ?_
        refine fr_getr (z := 3) (iz := 6) h kX4 fX4_24 at_89 rfl rfl ((fm_rd_i (a := 89) (b := 6) m2 (by decide)).trans e0) (by omega) dX4_findTrees_101 ?_
        refine fr_cvI h kX8 (St_at St_3) wX8_joinedNodes lX4_96 (f_X8_joinedNodes x1 (fun j a b => (congrFun (fm_up_row m2 (by omega)) j).trans (e3 j a b))) rfl (by decide) (by decide) rfl (Nat.le_of_ble_eq_true rfl) dX4_findTrees_104 (fun z6 x5 w7 p8 => ?_)
        obtain ⟨p9, y10⟩ := p8
        rw [y10]
        clear y10
        refine fr_csI h wJ6_bitCount_0f7a4 lX4_99 (f_J6_bitCount_0f7a4 x1 z6 (by omega)) rfl (by decide) (by decide) rfl (Nat.le_of_ble_eq_true rfl) dX4_findTrees_107 (fun z12 x11 w13 p14 => ?_)
        obtain ⟨p15, y16⟩ := p14
        rw [y16]
        clear y16
        refine fr_iconst h dX4_findTrees_110 ?_
        refine fr_isub h dX4_findTrees_111 ?_
        refine fr_normi (fun z17 w18 q19 => ?_)
        have w20 : fm_r ((z12 - 1)) → z17 = (z12 - 1) := fun q => (iI_inj q w18 q19).symm
        refine fr_mmax h (by omega) (by omega) (tb_4 (i := 3) (by decide +kernel) (by decide +kernel)) w_mmax (by decide) (by decide) (Nat.le_of_ble_eq_true rfl) dX4_findTrees_112 (fun z21 w22 w23 w24 => ?_)
        refine fr_puti (iz := 5) h kX4 fX4_109 at_89 rfl rfl (by decide) (by decide) rfl (by decide +kernel) rf_89_5 (by omega) (by omega) dX4_findTrees_115 ?_
        refine fr_mem (fun x25 m26 => ?_)
        refine fr_iconst h dX4_findTrees_118 ?_
        refine fr_istore_n (L' := [(0, vr G 89), (1, vi 0)]) h rfl dX4_findTrees_119 (by decide) [1, 0] rfl ?_
        refine fr_iconst h dX4_findTrees_120 ?_
        refine fr_istore_n (L' := [(0, vr G 89), (1, vi 0), (2, vi 0)]) h rfl dX4_findTrees_121 (by decide) [1, 2, 0] rfl ?_
        have HL27 : ∀ (n27 : Nat) (l1_27 l2_27 : Int), fm_r l1_27 → fm_r l2_27 → 0 ≤ l2_27 → l2_27 ≤ 7 → (7 - l2_27) < n27 → FW YC G C 4 x25 122 [(0, vr G 89), (1, vi l1_27), (2, vi l2_27)] [] := by
          intro n27
          induction n27 with
          | zero =>
            intro l1_27 l2_27 g27_0 g27_1 g27_2 g27_3 g27_4
            exfalso; omega
          | succ n27 ih27 =>
            intro l1_27 l2_27 g27_0 g27_1 g27_2 g27_3 g27_4
            refine fr_iload_n h rfl 2 rfl dX4_findTrees_122 ?_
            refine fr_bipush h rfl dX4_findTrees_123 ?_
            refine fr_icmp_ge (tgt := 141) h dX4_findTrees_125 (by decide) (by omega) (by omega) (fun c28 => ?_) (fun c28 => ?_)
            ·
              refine fr_aload_n h rfl 0 rfl dX4_findTrees_141 ?_
              refine fr_iconst h dX4_findTrees_142 ?_
              refine fr_iconst h dX4_findTrees_143 ?_
              refine fr_iconst h dX4_findTrees_144 ?_
              refine fr_lconst (z := 0) h rfl dX4_findTrees_145 ?_
              refine fr_iload_n h rfl 1 rfl dX4_findTrees_146 ?_
              have r29 := (fm_rd_i (a := 89) (b := 6) m26 (by decide))
              have r30 := r29.trans (fm_rd_i (a := 89) (b := 6) m2 (by decide))
              have r31 := (fm_rd_i (a := 89) (b := 7) m26 (by decide))
              have r32 := r31.trans (fm_rd_i (a := 89) (b := 7) m2 (by decide))
              have r33 := (fm_rd_i (a := 89) (b := 8) m26 (by decide))
              have r34 := r33.trans (fm_rd_i (a := 89) (b := 8) m2 (by decide))
              have r35 := (fm_rd_s m26)
              have r36 := (fm_rd_k (a := o) (b := 1) m26 (by omega))
              have r37 := r36.trans (fm_rd_k (a := o) (b := 1) m2 (by omega))
              refine fr_cvV h kX4 at_89 wX4_growTree lX4_116 (f_X4_growTree x25 r hr o on ho 0 0 0 0 l1_27 (by omega) (by omega) (by omega) (by omega) (by omega) (by omega) (by omega) (by omega) (by omega) (by omega) (by omega) (by omega) (by omega)) rfl (by decide) (by decide) rfl (Nat.le_of_ble_eq_true rfl) dX4_findTrees_147 (fun x38 p41 => ?_)
              obtain ⟨p42, p43, p44, p45, p46, f47⟩ := p41
              have r48 := (fm_rd_i (a := 89) (b := 6) m26 (by decide))
              have r49 := r48.trans (fm_rd_i (a := 89) (b := 6) m2 (by decide))
              have r50 := (fm_rd_i (a := 89) (b := 7) m26 (by decide))
              have r51 := r50.trans (fm_rd_i (a := 89) (b := 7) m2 (by decide))
              have r52 := (fm_rd_i (a := 89) (b := 8) m26 (by decide))
              have r53 := r52.trans (fm_rd_i (a := 89) (b := 8) m2 (by decide))
              have r54 := (fm_rd_k (a := o) (b := 1) m26 (by omega))
              have r55 := r54.trans (fm_rd_k (a := o) (b := 1) m2 (by omega))
              have r56 := (fm_rd_k (a := (o + 1)) (b := 0) m26 (by omega))
              have r57 := r56.trans (fm_rd_k (a := (o + 1)) (b := 0) m2 (by omega))
              exact fr_vret h hq ⟨(by omega), (by omega), (by omega), (by omega), (by omega), (fun a k0 k1 k2 => ((f47 a (by omega) (by omega) (by omega)).trans ((fm_up_row m26 (by omega)).trans (fm_up_row m2 (by omega)))))⟩ dX4_findTrees_150
            ·
              refine fr_iload_n h rfl 1 rfl dX4_findTrees_128 ?_
              refine fr_iload_n h rfl 2 rfl dX4_findTrees_129 ?_
              refine fr_iload_n h rfl 2 rfl dX4_findTrees_130 ?_
              refine fr_csI h wX4_regrouped lX4_112 (c_X4_regrouped x25 l1_27 l2_27 l2_27 (by omega) (by omega) (by omega)) rfl (by decide) (by decide) rfl (Nat.le_of_ble_eq_true rfl) dX4_findTrees_131 (fun z59 x58 w60 p61 => ?_)
              have y62 := p61
              rw [y62]
              clear y62
              refine fr_istore_n (L' := [(0, vr G 89), (1, vi z59), (2, vi l2_27)]) h rfl dX4_findTrees_134 (by decide) [1, 0, 2] rfl ?_
              refine fr_iinc (j := 2) (L' := [(0, vr G 89), (1, vi z59), (2, vi (l2_27 + 1))]) h dX4_findTrees_135 rfl (by decide) [1, 2, 0] rfl ?_
              refine fr_goto (tgt := 122) h dX4_findTrees_138 (by decide) ?_
              exact ih27 z59 (l2_27 + 1) (by omega) (by omega) (by omega) (by omega) (by omega)
        exact HL27 ((7 - 0) + 1 : Int).toNat 0 0 (by omega) (by omega) (by omega) (by omega) (by omega)
      ·
        refine fr_iload_n h rfl 1 rfl dX4_findTrees_13 ?_
        refine fr_iconst h dX4_findTrees_14 ?_
        refine fr_iadd h dX4_findTrees_15 ?_
        refine fr_istore_n (L' := [(0, vr G 89), (1, vi l1_3), (2, vi (l1_3 + 1))]) h rfl dX4_findTrees_16 (by decide) [1, 2, 0] rfl ?_
        have HL63 : ∀ (n63 : Nat) (l2_63 : Int), fm_r l2_63 → 1 ≤ l2_63 → l2_63 ≤ 7 → (7 - l2_63) < n63 → FW YC G C 4 x1 17 [(0, vr G 89), (1, vi l1_3), (2, vi l2_63)] [] := by
          intro n63
          induction n63 with
          | zero =>
            intro l2_63 g63_0 g63_1 g63_2 g63_3
            exfalso; omega
          | succ n63 ih63 =>
            intro l2_63 g63_0 g63_1 g63_2 g63_3
            refine fr_iload_n h rfl 2 rfl dX4_findTrees_17 ?_
            refine fr_bipush h rfl dX4_findTrees_18 ?_
            refine fr_icmp_ge (tgt := 92) h dX4_findTrees_20 (by decide) (by omega) (by omega) (fun c64 => ?_) (fun c64 => ?_)
            ·
              refine fr_iinc (j := 1) (L' := [(0, vr G 89), (1, vi (l1_3 + 1)), (2, vi l2_63)]) h dX4_findTrees_92 rfl (by decide) [1, 0, 2] rfl ?_
              refine fr_goto (tgt := 7) h dX4_findTrees_95 (by decide) ?_
              refine fr_sub (L' := [(0, vr G 89), (1, vi (l1_3 + 1))]) [0, 1] rfl ?_
              exact ih3 (l1_3 + 1) (by omega) (by omega) (by omega) (by omega)
            ·
              refine fr_aload_n h rfl 0 rfl dX4_findTrees_23 ?_
              refine fr_getr (z := 3) (iz := 6) h kX4 fX4_24 at_89 rfl rfl ((fm_rd_i (a := 89) (b := 6) m2 (by decide)).trans e0) (by omega) dX4_findTrees_24 ?_
              refine fr_iload_n h rfl 1 rfl dX4_findTrees_27 ?_
              refine fr_iload_n h rfl 2 rfl dX4_findTrees_28 ?_
              refine fr_cvI h kX8 (St_at St_3) wX8_weight lX4_94 (f_X8_weight x1 l1_3 l2_63 (by omega) (by omega) (fun j a b => (congrFun (fm_up_row m2 (by omega)) j).trans (e3 j a b))) rfl (by decide) (by decide) rfl (Nat.le_of_ble_eq_true rfl) dX4_findTrees_29 (fun z66 x65 w67 p68 => ?_)
              obtain ⟨p69, y70⟩ := p68
              rw [y70]
              clear y70
              refine fr_istore_n (L' := [(0, vr G 89), (1, vi l1_3), (2, vi l2_63), (3, vi z66)]) h rfl dX4_findTrees_32 (by decide) [1, 2, 3, 0] rfl ?_
              refine fr_iload_n h rfl 3 rfl dX4_findTrees_33 ?_
              refine fr_if_le (tgt := 86) h dX4_findTrees_34 (by decide) (by omega) (fun c71 => ?_) (fun c71 => ?_)
              ·
                refine fr_iinc (j := 2) (L' := [(0, vr G 89), (1, vi l1_3), (2, vi (l2_63 + 1)), (3, vi z66)]) h dX4_findTrees_86 rfl (by decide) [1, 2, 0, 3] rfl ?_
                refine fr_goto (tgt := 17) h dX4_findTrees_89 (by decide) ?_
                refine fr_sub (L' := [(0, vr G 89), (1, vi l1_3), (2, vi (l2_63 + 1))]) [0, 1, 2] rfl ?_
                exact ih63 (l2_63 + 1) (by omega) (by omega) (by omega) (by omega)
              ·
                exfalso; omega
        exact HL63 ((7 - (l1_3 + 1)) + 1 : Int).toNat (l1_3 + 1) (by omega) (by omega) (by omega) (by omega)
  exact HL3 ((7 - 0) + 1 : Int).toNat 0 (by omega) (by omega) (by omega) (by omega)
set_option maxHeartbeats 200000 in
theorem f_X4_findPairings (x : Mm) (r : Int) (hr : isRu r) (o : Int) (on : Nat) (ho : OrN o on) (p : Int) (u : Int) (v : Int) (w : Int) (h_p : fm_r p) (h_u : fm_r u) (h_v : fm_l v) (h_w : fm_r w) (e0 : x 89 6 = 3) (e1 : x 89 7 = r) (e2 : x 89 8 = o) (e3 : p = 0) (e4 : u = 0) (e5 : v = 0) (e6 : x 3 4 = 0) (e7 : x o 1 = 0) : CnV YC yX4_findPairings cX4_findPairings 7 2 45 (fun G => [vr G 89, vi p, vi u, vj v, vi w]) x (fun y' => (y' 89 6 = x 89 6) ∧ (y' 89 7 = x 89 7) ∧ (y' 89 8 = x 89 8) ∧ (y' o 1 = 1) ∧ (y' (o + 1) 0 = 0) ∧ (∀ a : Int, (a < 89 ∨ 93 < a) → (a < o ∨ o + 1 < a) → (a < r ∨ r + 4 < a) → y' a = x a)) := by
  refine cn_V (by decide) (fun _ => Nat.le_of_ble_eq_true rfl) (fun G C h hq => ?_)
  have h : OK YC G C cX4_findPairings RX4 7 none 2 45 := h
  show FW YC G C 7 x 0 [(0, vr G 89), (1, vi p), (2, vi u), (3, vj v), (5, vi w)] []
  have h_r := Ru_b hr
  have h_o := OrN_b ho
  refine fr_iload_n h rfl 1 rfl dX4_findPairings_0 ?_
  refine fr_aload_n h rfl 0 rfl dX4_findPairings_1 ?_
  refine fr_getr (z := 3) (iz := 6) h kX4 fX4_24 at_89 rfl rfl e0 (by omega) dX4_findPairings_2 ?_
  refine fr_cvI h kX8 (St_at St_3) wX8_size lX4_125 (c_X8_size x 3 St_3) rfl (by decide) (by decide) rfl (Nat.le_of_ble_eq_true rfl) dX4_findPairings_5 (fun z2 x1 w3 p4 => ?_)
  obtain ⟨p5, p6, p7, y8⟩ := p4
  rw [y8]
  clear y8
  refine fr_icmp_lt (tgt := 21) h dX4_findPairings_8 (by decide) (by omega) (by omega) (fun c9 => ?_) (fun c9 => ?_)
  ·
    exfalso; omega
  ·
    refine fr_aload_n h rfl 0 rfl dX4_findPairings_11 ?_
    refine fr_getr (z := o) (iz := 8) h kX4 fX4_32 at_89 rfl rfl e2 (by omega) dX4_findPairings_12 ?_
    refine fr_iload_n h rfl 2 rfl dX4_findPairings_15 ?_
    refine fr_lload_n h rfl 3 rfl dX4_findPairings_16 ?_
    refine fr_cvV h kX6 (Or_at (OrN_is ho)) wX6_add lX4_80 (f_X6_add x o on ho u v (by omega) (by omega)) rfl (by decide) (by decide) rfl (Nat.le_of_ble_eq_true rfl) dX4_findPairings_17 (fun x10 p13 => ?_)
    obtain ⟨p14, p15, p16, f17⟩ := p13
    have ko : x10 (o + 1) (x o 1) = x10 (o + 1) 0 := by rw [show x o 1 = 0 by omega]
    have r18 := (congrFun (f17 89 (by omega)) 6)
    have r19 := (congrFun (f17 89 (by omega)) 7)
    have r20 := (congrFun (f17 89 (by omega)) 8)
    exact fr_vret h hq ⟨(by omega), (by omega), (by omega), (by omega), (by omega), (fun a k0 k1 k2 => (f17 a (by omega)))⟩ dX4_findPairings_20
set_option maxHeartbeats 200000 in
theorem f_X4_findSubsets (x : Mm) (r : Int) (hr : isRu r) (o : Int) (on : Nat) (ho : OrN o on) (p : Int) (n : Int) (u : Int) (v : Int) (h_p : fm_r p) (h_n : fm_r n) (h_u : fm_r u) (h_v : fm_l v) (e0 : x 89 6 = 3) (e1 : x 89 7 = r) (e2 : x 89 8 = o) (e3 : p = 0) (e4 : n = 0) (e5 : u = 0) (e6 : v = 0) (e7 : ∀ j : Int, 0 ≤ j → j < 4 → x (3 + 1) j = 0) (e8 : x o 1 = 0) : CnV YC yX4_findSubsets cX4_findSubsets 8 2 45 (fun G => [vr G 89, vi p, vi n, vi u, vj v]) x (fun y' => (y' 89 6 = x 89 6) ∧ (y' 89 7 = x 89 7) ∧ (y' 89 8 = x 89 8) ∧ (y' o 1 = 1) ∧ (y' (o + 1) 0 = 0) ∧ (∀ a : Int, (a < 89 ∨ 93 < a) → (a < o ∨ o + 1 < a) → (a < r ∨ r + 4 < a) → y' a = x a)) := by
  refine cn_V (by decide) (fun _ => Nat.le_of_ble_eq_true rfl) (fun G C h hq => ?_)
  have h : OK YC G C cX4_findSubsets RX4 8 none 2 45 := h
  show FW YC G C 8 x 0 [(0, vr G 89), (1, vi p), (2, vi n), (3, vi u), (4, vj v)] []
  have h_r := Ru_b hr
  have h_o := OrN_b ho
  refine fr_aload_n h rfl 0 rfl dX4_findSubsets_0 ?_
  refine fr_getr (z := o) (iz := 8) h kX4 fX4_32 at_89 rfl rfl e2 (by omega) dX4_findSubsets_1 ?_
  refine fr_iload_n h rfl 3 rfl dX4_findSubsets_4 ?_
  refine fr_lload h 4 rfl dX4_findSubsets_5 ?_
  refine fr_cvV h kX6 (Or_at (OrN_is ho)) wX6_add lX4_80 (f_X6_add x o on ho u v (by omega) (by omega)) rfl (by decide) (by decide) rfl (Nat.le_of_ble_eq_true rfl) dX4_findSubsets_7 (fun x1 p4 => ?_)
  obtain ⟨p5, p6, p7, f8⟩ := p4
  have ko : x1 (o + 1) (x o 1) = x1 (o + 1) 0 := by rw [show x o 1 = 0 by omega]
  refine fr_aload_n h rfl 0 rfl dX4_findSubsets_10 ?_
  refine fr_getr (z := 3) (iz := 6) h kX4 fX4_24 at_89 rfl rfl ((congrFun (f8 89 (by omega)) 6).trans e0) (by omega) dX4_findSubsets_11 ?_
  refine fr_cvI h kX8 (St_at St_3) wX8_picked lX4_131 (c_X8_picked x1 3 St_3) rfl (by decide) (by decide) rfl (Nat.le_of_ble_eq_true rfl) dX4_findSubsets_14 (fun z10 x9 w11 p12 => ?_)
  obtain ⟨p13, p14, p15, y16⟩ := p12
  rw [y16]
  clear y16
  refine fr_istore (L' := [(0, vr G 89), (1, vi p), (2, vi n), (3, vi u), (4, vj v), (6, vi z10)]) h dX4_findSubsets_17 (by decide) [1, 2, 3, 4, 5, 0] rfl ?_
  refine fr_iload_n h rfl 1 rfl dX4_findSubsets_19 ?_
  refine fr_istore (L' := [(0, vr G 89), (1, vi p), (2, vi n), (3, vi u), (4, vj v), (6, vi z10), (7, vi p)]) h dX4_findSubsets_20 (by decide) [1, 2, 3, 4, 5, 6, 0] rfl ?_
  refine fr_iload h 6 rfl dX4_findSubsets_22 ?_
  refine fr_aload_n h rfl 0 rfl dX4_findSubsets_24 ?_
  refine fr_getr (z := 3) (iz := 6) h kX4 fX4_24 at_89 rfl rfl ((congrFun (f8 89 (by omega)) 6).trans e0) (by omega) dX4_findSubsets_25 ?_
  refine fr_iload h 5 rfl dX4_findSubsets_28 ?_
  refine fr_cvI h kX8 (St_at St_3) wX8_sizeOf lX4_61 (f_X8_sizeOf x1 z10 (by omega) (fun j a b => (congrFun (f8 (3 + 1) (by omega)) j).trans (e7 j a b))) rfl (by decide) (by decide) rfl (Nat.le_of_ble_eq_true rfl) dX4_findSubsets_30 (fun z18 x17 w19 p20 => ?_)
  obtain ⟨p21, y22⟩ := p20
  rw [y22]
  clear y22
  refine fr_icmp_ge (tgt := 74) h dX4_findSubsets_33 (by decide) (by omega) (by omega) (fun c23 => ?_) (fun c23 => ?_)
  ·
    have r24 := (congrFun (f8 89 (by omega)) 6)
    have r25 := (congrFun (f8 89 (by omega)) 7)
    have r26 := (congrFun (f8 89 (by omega)) 8)
    exact fr_vret h hq ⟨(by omega), (by omega), (by omega), (by omega), (by omega), (fun a k0 k1 k2 => (f8 a (by omega)))⟩ dX4_findSubsets_74
  ·
    exfalso; omega
set_option maxHeartbeats 200000 in
theorem f_X4_findRoutes (x : Mm) (r : Int) (hr : isRu r) (o : Int) (on : Nat) (ho : OrN o on) (p : Int) (n : Int) (u : Int) (v : Int) (w : Int) (h_p : fm_r p) (h_n : fm_r n) (h_u : fm_r u) (h_v : fm_l v) (h_w : fm_r w) (e0 : x 89 6 = 3) (e1 : x 89 7 = r) (e2 : x 89 8 = o) (e3 : p = 0) (e4 : n = 0) (e5 : x 3 7 = 1) (e6 : ∀ j : Int, 0 ≤ j → j < 49 → x (3 + 3) j = 0) : CnV YC yX4_findRoutes cX4_findRoutes 12 3 64 (fun G => [vr G 89, vi p, vi n, vi u, vj v, vi w]) x (fun y' => (y' = x)) := by
  refine cn_V (by decide) (fun _ => Nat.le_of_ble_eq_true rfl) (fun G C h hq => ?_)
  have h : OK YC G C cX4_findRoutes RX4 12 none 3 64 := h
  show FW YC G C 12 x 0 [(0, vr G 89), (1, vi p), (2, vi n), (3, vi u), (4, vj v), (6, vi w)] []
  have h_r := Ru_b hr
  have h_o := OrN_b ho
  refine fr_lload h 4 rfl dX4_findRoutes_0 ?_
  refine fr_iload_n h rfl 2 rfl dX4_findRoutes_2 ?_
  refine fr_iload_n h rfl 1 rfl dX4_findRoutes_3 ?_
  refine fr_csL h wX2_with lX4_86 (c_X2_with x v n p (by omega) (by omega) (by omega)) rfl (by decide) (by decide) rfl (Nat.le_of_ble_eq_true rfl) dX4_findRoutes_4 (fun z2 x1 w3 p4 => ?_)
  have y5 := p4
  rw [y5]
  clear y5
  refine fr_lstore (L' := [(0, vr G 89), (1, vi p), (2, vi n), (3, vi u), (4, vj v), (6, vi w), (7, vj z2)]) h dX4_findRoutes_7 (by decide) [1, 2, 3, 4, 5, 6, 0] rfl ?_
  refine fr_iload_n h rfl 1 rfl dX4_findRoutes_9 ?_
  refine fr_aload_n h rfl 0 rfl dX4_findRoutes_10 ?_
  refine fr_getr (z := 3) (iz := 6) h kX4 fX4_24 at_89 rfl rfl e0 (by omega) dX4_findRoutes_11 ?_
  refine fr_cvI h kX8 (St_at St_3) wX8_secondEnd lX4_134 (c_X8_secondEnd x 3 St_3) rfl (by decide) (by decide) rfl (Nat.le_of_ble_eq_true rfl) dX4_findRoutes_14 (fun z7 x6 w8 p9 => ?_)
  obtain ⟨p10, p11, p12, y13⟩ := p9
  rw [y13]
  clear y13
  refine fr_icmp_ne (tgt := 31) h dX4_findRoutes_17 (by decide) (by omega) (by omega) (fun c14 => ?_) (fun c14 => ?_)
  ·
    refine fr_iload h 5 rfl dX4_findRoutes_31 ?_
    refine fr_iconst h dX4_findRoutes_33 ?_
    refine fr_iload_n h rfl 1 rfl dX4_findRoutes_34 ?_
    refine fr_ishl h dX4_findRoutes_35 (fun z15 w16 q17 w18 => ?_)
    refine fr_ior h dX4_findRoutes_36 (fun z19 w20 q21 w22 => ?_)
    refine fr_istore (L' := [(0, vr G 89), (1, vi p), (2, vi n), (3, vi u), (4, vj v), (6, vi w), (7, vj z2), (9, vi z19)]) h dX4_findRoutes_37 (by decide) [1, 2, 3, 4, 5, 6, 7, 0] rfl ?_
    refine fr_iconst h dX4_findRoutes_39 ?_
    refine fr_istore (L' := [(0, vr G 89), (1, vi p), (2, vi n), (3, vi u), (4, vj v), (6, vi w), (7, vj z2), (9, vi z19), (10, vi 0)]) h dX4_findRoutes_40 (by decide) [1, 2, 3, 4, 5, 6, 7, 8, 0] rfl ?_
    have HL23 : ∀ (n23 : Nat) (l10_23 : Int), fm_r l10_23 → 0 ≤ l10_23 → l10_23 ≤ 7 → (7 - l10_23) < n23 → FW YC G C 12 x 42 [(0, vr G 89), (1, vi p), (2, vi n), (3, vi u), (4, vj v), (6, vi w), (7, vj z2), (9, vi z19), (10, vi l10_23)] [] := by
      intro n23
      induction n23 with
      | zero =>
        intro l10_23 g23_0 g23_1 g23_2 g23_3
        exfalso; omega
      | succ n23 ih23 =>
        intro l10_23 g23_0 g23_1 g23_2 g23_3
        refine fr_iload h 8 rfl dX4_findRoutes_42 ?_
        refine fr_bipush h rfl dX4_findRoutes_44 ?_
        refine fr_icmp_ge (tgt := 107) h dX4_findRoutes_46 (by decide) (by omega) (by omega) (fun c24 => ?_) (fun c24 => ?_)
        ·
          exact fr_vret h hq rfl dX4_findRoutes_107
        ·
          refine fr_iload_n h rfl 2 rfl dX4_findRoutes_49 ?_
          refine fr_iconst h dX4_findRoutes_50 ?_
          refine fr_iadd h dX4_findRoutes_51 ?_
          refine fr_normi (fun z25 w26 q27 => ?_)
          have w28 : fm_r ((n + 1)) → z25 = (n + 1) := fun q => (iI_inj q w26 q27).symm
          refine fr_bipush h rfl dX4_findRoutes_52 ?_
          refine fr_icmp_ge (tgt := 107) h dX4_findRoutes_54 (by decide) (by omega) (by omega) (fun c29 => ?_) (fun c29 => ?_)
          ·
            exact fr_vret h hq rfl dX4_findRoutes_107
          ·
            refine fr_aload_n h rfl 0 rfl dX4_findRoutes_57 ?_
            refine fr_getr (z := 3) (iz := 6) h kX4 fX4_24 at_89 rfl rfl e0 (by omega) dX4_findRoutes_58 ?_
            refine fr_iload_n h rfl 1 rfl dX4_findRoutes_61 ?_
            refine fr_iload h 8 rfl dX4_findRoutes_62 ?_
            refine fr_cvI h kX8 (St_at St_3) wX8_weight lX4_94 (f_X8_weight x p l10_23 (by omega) (by omega) (fun j a b => e6 j a b)) rfl (by decide) (by decide) rfl (Nat.le_of_ble_eq_true rfl) dX4_findRoutes_64 (fun z31 x30 w32 p33 => ?_)
            obtain ⟨p34, y35⟩ := p33
            rw [y35]
            clear y35
            refine fr_istore (L' := [(0, vr G 89), (1, vi p), (2, vi n), (3, vi u), (4, vj v), (6, vi w), (7, vj z2), (9, vi z19), (10, vi l10_23), (11, vi z31)]) h dX4_findRoutes_67 (by decide) [1, 2, 3, 4, 5, 6, 7, 8, 9, 0] rfl ?_
            refine fr_iload h 9 rfl dX4_findRoutes_69 ?_
            refine fr_if_le (tgt := 101) h dX4_findRoutes_71 (by decide) (by omega) (fun c36 => ?_) (fun c36 => ?_)
            ·
              refine fr_iinc (j := 8) (L' := [(0, vr G 89), (1, vi p), (2, vi n), (3, vi u), (4, vj v), (6, vi w), (7, vj z2), (9, vi z19), (10, vi (l10_23 + 1)), (11, vi z31)]) h dX4_findRoutes_101 rfl (by decide) [1, 2, 3, 4, 5, 6, 7, 8, 0, 9] rfl ?_
              refine fr_goto (tgt := 42) h dX4_findRoutes_104 (by decide) ?_
              refine fr_sub (L' := [(0, vr G 89), (1, vi p), (2, vi n), (3, vi u), (4, vj v), (6, vi w), (7, vj z2), (9, vi z19), (10, vi (l10_23 + 1))]) [0, 1, 2, 3, 4, 5, 6, 7, 8] rfl ?_
              exact ih23 (l10_23 + 1) (by omega) (by omega) (by omega) (by omega)
            ·
              exfalso; omega
    exact HL23 ((7 - 0) + 1 : Int).toNat 0 (by omega) (by omega) (by omega) (by omega)
  ·
    exfalso; omega
set_option maxHeartbeats 200000 in
theorem f_X4_find (x : Mm) (k : Int) (r : Int) (hr : isRu r) (o : Int) (on : Nat) (ho : OrN o on) (h_k : fm_r k) (e0 : 0 ≤ k) (e1 : k ≤ 4) (e2 : ∀ j : Int, 0 ≤ j → j < 4 → x (3 + 1) j = 0) (e3 : ∀ j : Int, 0 ≤ j → j < 49 → x (3 + 3) j = 0) (e4 : x 3 4 = 0) (e5 : x 3 6 = 0) (e6 : x 3 7 = 1) (e7 : x o 1 = 0) (e8 : x r 4 = 1) (e9 : x (r + 1) 0 = 1115) : CnV YC yX4_find cX4_find 5 16 476 (fun G => [vr G 89, vi k, vr G 3, vr G r, vr G o]) x (fun y' => (k ≠ 4 → y' o 1 = 1 ∧ y' (o + 1) 0 = 0) ∧ (k = 4 → y' o 1 = 0 ∧ y' (o + 1) 0 = x (o + 1) 0) ∧ (∀ a : Int, (a < 89 ∨ 93 < a) → (a < o ∨ o + 1 < a) → (a < r ∨ r + 4 < a) → y' a = x a)) := by
  refine cn_V (by decide) (fun _ => Nat.le_of_ble_eq_true rfl) (fun G C h hq => ?_)
  have h : OK YC G C cX4_find RX4 5 none 16 476 := h
  show FW YC G C 5 x 0 [(0, vr G 89), (1, vi k), (2, vr G 3), (3, vr G r), (4, vr G o)] []
  have h_r := Ru_b hr
  have h_o := OrN_b ho
  refine fr_aload_n h rfl 0 rfl dX4_find_0 ?_
  refine fr_aload_n h rfl 2 rfl dX4_find_1 ?_
  refine fr_putr (tf := (.object "BestWalks$State")) (iz := 6) h kX4 fX4_24 at_89 rfl rfl rfl (by decide +kernel) (fun _ => rfl) (fun _ => rfl) rf_89_6 (by omega) (by omega) (by omega) dX4_find_2 ?_
  refine fr_mem (fun x1 m2 => ?_)
  refine fr_aload_n h rfl 0 rfl dX4_find_5 ?_
  refine fr_aload_n h rfl 3 rfl dX4_find_6 ?_
  refine fr_putr (tf := (.object "BestWalks$Rule")) (iz := 7) h kX4 fX4_28 at_89 rfl rfl rfl (by decide +kernel) (fun _ => rfl) (fun _ => rfl) rf_89_7 (by omega) (by omega) (by omega) dX4_find_7 ?_
  refine fr_mem (fun x3 m4 => ?_)
  refine fr_aload_n h rfl 0 rfl dX4_find_10 ?_
  refine fr_aload h 4 rfl dX4_find_11 ?_
  refine fr_putr (tf := (.object "BestWalks$Order")) (iz := 8) h kX4 fX4_32 at_89 rfl rfl rfl (by decide +kernel) (fun _ => rfl) (fun _ => rfl) rf_89_8 (by omega) (by omega) (by omega) dX4_find_13 ?_
  refine fr_mem (fun x5 m6 => ?_)
  refine fr_iload_n h rfl 1 rfl dX4_find_16 ?_
  by_cases c8 : k = 0
  ·
    refine fr_tab_in (off := 31) (tgt := 48) h dX4_find_17 (by omega) (by omega) (by omega) (by rw [c8]; rfl) (by decide) ?_
    refine fr_aload_n h rfl 0 rfl dX4_find_48 ?_
    refine fr_iconst h dX4_find_49 ?_
    refine fr_iconst h dX4_find_50 ?_
    refine fr_lconst (z := 0) h rfl dX4_find_51 ?_
    have r9 := (fm_rd_i (a := 89) (b := 6) m6 (by decide))
    have r10 := r9.trans (fm_rd_i (a := 89) (b := 6) m4 (by decide))
    have r11 := r10.trans (fm_rd_s m2)
    have r12 := (fm_rd_i (a := 89) (b := 7) m6 (by decide))
    have r13 := r12.trans (fm_rd_s m4)
    have r14 := (fm_rd_s m6)
    have r15 := (fm_rd_k (a := o) (b := 1) m6 (by omega))
    have r16 := r15.trans (fm_rd_k (a := o) (b := 1) m4 (by omega))
    have r17 := r16.trans (fm_rd_k (a := o) (b := 1) m2 (by omega))
    have r18 := (fm_rd_k (a := r) (b := 4) m6 (by omega))
    have r19 := r18.trans (fm_rd_k (a := r) (b := 4) m4 (by omega))
    have r20 := r19.trans (fm_rd_k (a := r) (b := 4) m2 (by omega))
    have r21 := (fm_rd_k (a := (r + 1)) (b := 0) m6 (by omega))
    have r22 := r21.trans (fm_rd_k (a := (r + 1)) (b := 0) m4 (by omega))
    have r23 := r22.trans (fm_rd_k (a := (r + 1)) (b := 0) m2 (by omega))
    refine fr_cvV h kX4 at_89 wX4_findChoices lX4_36 (f_X4_findChoices 5 x5 r hr o on ho 0 0 0 (by omega) (by omega) (by omega) (by omega) (by omega) (by omega) (by omega) (by omega) (by omega) (by omega) (fun j a b => (congrFun ((fm_up_row m6 (by omega)).trans ((fm_up_row m4 (by omega)).trans (fm_up_row m2 (by omega)))) j).trans (e2 j a b)) (by omega) (by omega) (by omega) (by omega)) rfl (by decide) (by decide) rfl (Nat.le_of_ble_eq_true rfl) dX4_find_52 (fun x24 p27 => ?_)
    obtain ⟨p28, p29, p30, p31, p32, f33⟩ := p27
    refine fr_goto (tgt := 99) h dX4_find_55 (by decide) ?_
    have r34 := (fm_rd_k (a := o) (b := 1) m6 (by omega))
    have r35 := r34.trans (fm_rd_k (a := o) (b := 1) m4 (by omega))
    have r36 := r35.trans (fm_rd_k (a := o) (b := 1) m2 (by omega))
    have r37 := (fm_rd_k (a := (o + 1)) (b := 0) m6 (by omega))
    have r38 := r37.trans (fm_rd_k (a := (o + 1)) (b := 0) m4 (by omega))
    have r39 := r38.trans (fm_rd_k (a := (o + 1)) (b := 0) m2 (by omega))
    exact fr_vret h hq ⟨(by omega), (by omega), (fun a k0 k1 k2 => ((f33 a (by omega) (by omega) (by omega)).trans ((fm_up_row m6 (by omega)).trans ((fm_up_row m4 (by omega)).trans (fm_up_row m2 (by omega))))))⟩ dX4_find_99
  ·
    by_cases c40 : k = 1
    ·
      refine fr_tab_in (off := 41) (tgt := 58) h dX4_find_17 (by omega) (by omega) (by omega) (by rw [c40]; rfl) (by decide) ?_
      refine fr_aload_n h rfl 0 rfl dX4_find_58 ?_
      have r41 := (fm_rd_i (a := 89) (b := 6) m6 (by decide))
      have r42 := r41.trans (fm_rd_i (a := 89) (b := 6) m4 (by decide))
      have r43 := r42.trans (fm_rd_s m2)
      have r44 := (fm_rd_i (a := 89) (b := 7) m6 (by decide))
      have r45 := r44.trans (fm_rd_s m4)
      have r46 := (fm_rd_s m6)
      have r47 := (fm_rd_k (a := o) (b := 1) m6 (by omega))
      have r48 := r47.trans (fm_rd_k (a := o) (b := 1) m4 (by omega))
      have r49 := r48.trans (fm_rd_k (a := o) (b := 1) m2 (by omega))
      refine fr_cvV h kX4 at_89 wX4_findTrees lX4_40 (f_X4_findTrees x5 r hr o on ho (by omega) (by omega) (by omega) (fun j a b => (congrFun ((fm_up_row m6 (by omega)).trans ((fm_up_row m4 (by omega)).trans (fm_up_row m2 (by omega)))) j).trans (e3 j a b)) (by omega)) rfl (by decide) (by decide) rfl (Nat.le_of_ble_eq_true rfl) dX4_find_59 (fun x50 p53 => ?_)
      obtain ⟨p54, p55, p56, p57, p58, f59⟩ := p53
      refine fr_goto (tgt := 99) h dX4_find_62 (by decide) ?_
      have r60 := (fm_rd_k (a := o) (b := 1) m6 (by omega))
      have r61 := r60.trans (fm_rd_k (a := o) (b := 1) m4 (by omega))
      have r62 := r61.trans (fm_rd_k (a := o) (b := 1) m2 (by omega))
      have r63 := (fm_rd_k (a := (o + 1)) (b := 0) m6 (by omega))
      have r64 := r63.trans (fm_rd_k (a := (o + 1)) (b := 0) m4 (by omega))
      have r65 := r64.trans (fm_rd_k (a := (o + 1)) (b := 0) m2 (by omega))
      exact fr_vret h hq ⟨(by omega), (by omega), (fun a k0 k1 k2 => ((f59 a (by omega) (by omega) (by omega)).trans ((fm_up_row m6 (by omega)).trans ((fm_up_row m4 (by omega)).trans (fm_up_row m2 (by omega))))))⟩ dX4_find_99
    ·
      by_cases c66 : k = 2
      ·
        refine fr_tab_in (off := 48) (tgt := 65) h dX4_find_17 (by omega) (by omega) (by omega) (by rw [c66]; rfl) (by decide) ?_
        refine fr_aload_n h rfl 0 rfl dX4_find_65 ?_
        refine fr_iconst h dX4_find_66 ?_
        refine fr_iconst h dX4_find_67 ?_
        refine fr_lconst (z := 0) h rfl dX4_find_68 ?_
        refine fr_iconst h dX4_find_69 ?_
        have r67 := (fm_rd_i (a := 89) (b := 6) m6 (by decide))
        have r68 := r67.trans (fm_rd_i (a := 89) (b := 6) m4 (by decide))
        have r69 := r68.trans (fm_rd_s m2)
        have r70 := (fm_rd_i (a := 89) (b := 7) m6 (by decide))
        have r71 := r70.trans (fm_rd_s m4)
        have r72 := (fm_rd_s m6)
        have r73 := (fm_rd_k (a := 3) (b := 4) m6 (by omega))
        have r74 := r73.trans (fm_rd_k (a := 3) (b := 4) m4 (by omega))
        have r75 := r74.trans (fm_rd_k (a := 3) (b := 4) m2 (by omega))
        have r76 := (fm_rd_k (a := o) (b := 1) m6 (by omega))
        have r77 := r76.trans (fm_rd_k (a := o) (b := 1) m4 (by omega))
        have r78 := r77.trans (fm_rd_k (a := o) (b := 1) m2 (by omega))
        refine fr_cvV h kX4 at_89 wX4_findPairings lX4_43 (f_X4_findPairings x5 r hr o on ho 0 0 0 0 (by omega) (by omega) (by omega) (by omega) (by omega) (by omega) (by omega) (by omega) (by omega) (by omega) (by omega) (by omega)) rfl (by decide) (by decide) rfl (Nat.le_of_ble_eq_true rfl) dX4_find_70 (fun x79 p82 => ?_)
        obtain ⟨p83, p84, p85, p86, p87, f88⟩ := p82
        refine fr_goto (tgt := 99) h dX4_find_73 (by decide) ?_
        have r89 := (fm_rd_k (a := o) (b := 1) m6 (by omega))
        have r90 := r89.trans (fm_rd_k (a := o) (b := 1) m4 (by omega))
        have r91 := r90.trans (fm_rd_k (a := o) (b := 1) m2 (by omega))
        have r92 := (fm_rd_k (a := (o + 1)) (b := 0) m6 (by omega))
        have r93 := r92.trans (fm_rd_k (a := (o + 1)) (b := 0) m4 (by omega))
        have r94 := r93.trans (fm_rd_k (a := (o + 1)) (b := 0) m2 (by omega))
        exact fr_vret h hq ⟨(by omega), (by omega), (fun a k0 k1 k2 => ((f88 a (by omega) (by omega) (by omega)).trans ((fm_up_row m6 (by omega)).trans ((fm_up_row m4 (by omega)).trans (fm_up_row m2 (by omega))))))⟩ dX4_find_99
      ·
        by_cases c95 : k = 3
        ·
          refine fr_tab_in (off := 59) (tgt := 76) h dX4_find_17 (by omega) (by omega) (by omega) (by rw [c95]; rfl) (by decide) ?_
          refine fr_aload_n h rfl 0 rfl dX4_find_76 ?_
          refine fr_iconst h dX4_find_77 ?_
          refine fr_iconst h dX4_find_78 ?_
          refine fr_iconst h dX4_find_79 ?_
          refine fr_lconst (z := 0) h rfl dX4_find_80 ?_
          have r96 := (fm_rd_i (a := 89) (b := 6) m6 (by decide))
          have r97 := r96.trans (fm_rd_i (a := 89) (b := 6) m4 (by decide))
          have r98 := r97.trans (fm_rd_s m2)
          have r99 := (fm_rd_i (a := 89) (b := 7) m6 (by decide))
          have r100 := r99.trans (fm_rd_s m4)
          have r101 := (fm_rd_s m6)
          have r102 := (fm_rd_k (a := o) (b := 1) m6 (by omega))
          have r103 := r102.trans (fm_rd_k (a := o) (b := 1) m4 (by omega))
          have r104 := r103.trans (fm_rd_k (a := o) (b := 1) m2 (by omega))
          refine fr_cvV h kX4 at_89 wX4_findSubsets lX4_47 (f_X4_findSubsets x5 r hr o on ho 0 0 0 0 (by omega) (by omega) (by omega) (by omega) (by omega) (by omega) (by omega) (by omega) (by omega) (by omega) (by omega) (fun j a b => (congrFun ((fm_up_row m6 (by omega)).trans ((fm_up_row m4 (by omega)).trans (fm_up_row m2 (by omega)))) j).trans (e2 j a b)) (by omega)) rfl (by decide) (by decide) rfl (Nat.le_of_ble_eq_true rfl) dX4_find_81 (fun x105 p108 => ?_)
          obtain ⟨p109, p110, p111, p112, p113, f114⟩ := p108
          refine fr_goto (tgt := 99) h dX4_find_84 (by decide) ?_
          have r115 := (fm_rd_k (a := o) (b := 1) m6 (by omega))
          have r116 := r115.trans (fm_rd_k (a := o) (b := 1) m4 (by omega))
          have r117 := r116.trans (fm_rd_k (a := o) (b := 1) m2 (by omega))
          have r118 := (fm_rd_k (a := (o + 1)) (b := 0) m6 (by omega))
          have r119 := r118.trans (fm_rd_k (a := (o + 1)) (b := 0) m4 (by omega))
          have r120 := r119.trans (fm_rd_k (a := (o + 1)) (b := 0) m2 (by omega))
          exact fr_vret h hq ⟨(by omega), (by omega), (fun a k0 k1 k2 => ((f114 a (by omega) (by omega) (by omega)).trans ((fm_up_row m6 (by omega)).trans ((fm_up_row m4 (by omega)).trans (fm_up_row m2 (by omega))))))⟩ dX4_find_99
        ·
          refine fr_tab_out (tgt := 87) h dX4_find_17 (by omega) (by omega) (by decide) ?_
          refine fr_aload_n h rfl 0 rfl dX4_find_87 ?_
          refine fr_aload_n h rfl 2 rfl dX4_find_88 ?_
          refine fr_cvI h kX8 (St_at St_3) wX8_firstEnd lX4_51 (c_X8_firstEnd x5 3 St_3) rfl (by decide) (by decide) rfl (Nat.le_of_ble_eq_true rfl) dX4_find_89 (fun z122 x121 w123 p124 => ?_)
          obtain ⟨p125, p126, p127, y128⟩ := p124
          rw [y128]
          clear y128
          have r129 := (fm_rd_k (a := 3) (b := 6) m6 (by omega))
          have r130 := r129.trans (fm_rd_k (a := 3) (b := 6) m4 (by omega))
          have r131 := r130.trans (fm_rd_k (a := 3) (b := 6) m2 (by omega))
          skip
          refine fr_iconst h dX4_find_92 ?_
          refine fr_iconst h dX4_find_93 ?_
          refine fr_lconst (z := 0) h rfl dX4_find_94 ?_
          refine fr_iconst h dX4_find_95 ?_
          have r132 := (fm_rd_i (a := 89) (b := 6) m6 (by decide))
          have r133 := r132.trans (fm_rd_i (a := 89) (b := 6) m4 (by decide))
          have r134 := r133.trans (fm_rd_s m2)
          have r135 := (fm_rd_i (a := 89) (b := 7) m6 (by decide))
          have r136 := r135.trans (fm_rd_s m4)
          have r137 := (fm_rd_s m6)
          have r138 := (fm_rd_k (a := 3) (b := 7) m6 (by omega))
          have r139 := r138.trans (fm_rd_k (a := 3) (b := 7) m4 (by omega))
          have r140 := r139.trans (fm_rd_k (a := 3) (b := 7) m2 (by omega))
          refine fr_cvV h kX4 at_89 wX4_findRoutes lX4_57 (f_X4_findRoutes x5 r hr o on ho z122 0 0 0 0 (by omega) (by omega) (by omega) (by omega) (by omega) (by omega) (by omega) (by omega) (by omega) (by omega) (by omega) (fun j a b => (congrFun ((fm_up_row m6 (by omega)).trans ((fm_up_row m4 (by omega)).trans (fm_up_row m2 (by omega)))) j).trans (e3 j a b))) rfl (by decide) (by decide) rfl (Nat.le_of_ble_eq_true rfl) dX4_find_96 (fun x141 p144 => ?_)
          have y145 := p144
          rw [y145]
          clear y145
          have r146 := (fm_rd_k (a := o) (b := 1) m6 (by omega))
          have r147 := r146.trans (fm_rd_k (a := o) (b := 1) m4 (by omega))
          have r148 := r147.trans (fm_rd_k (a := o) (b := 1) m2 (by omega))
          have r149 := (fm_rd_k (a := (o + 1)) (b := 0) m6 (by omega))
          have r150 := r149.trans (fm_rd_k (a := (o + 1)) (b := 0) m4 (by omega))
          have r151 := r150.trans (fm_rd_k (a := (o + 1)) (b := 0) m2 (by omega))
          exact fr_vret h hq ⟨(by omega), (by omega), (fun a k0 k1 k2 => ((fm_up_row m6 (by omega)).trans ((fm_up_row m4 (by omega)).trans (fm_up_row m2 (by omega)))))⟩ dX4_find_99
set_option maxHeartbeats 1000000 in
theorem f_X11_orderOf (x : Mm) (p : Int) (h_p : fm_r p) (e0 : 0 ≤ p) (e1 : p < 5) (e2 : ∀ k : Int, 0 ≤ k → k < 5 → x (79 + 2 * k) 2 = 0) (e3 : ∀ k : Int, 0 ≤ k → k < 5 → x (79 + 2 * k + 1) 0 = 0) (e4 : ∀ j : Int, 0 ≤ j → j < 4 → x (3 + 1) j = 0) (e5 : ∀ j : Int, 0 ≤ j → j < 49 → x (3 + 3) j = 0) (e6 : x 3 4 = 0) (e7 : x 3 6 = 0) (e8 : x 3 7 = 1) (e9 : x 0 13 = 110) (e10 : x 110 4 = 1) (e11 : x (110 + 1) 0 = 1115) : CnR YC yX11_orderOf cX11_orderOf 3 (.object "BestWalks$Order") 17 500 (fun G => [vr G 0, vi p]) x (fun z y' => (z = 79 + 2 * p) ∧ (p = 4 → y' z 1 = 0) ∧ (p ≠ 4 → y' z 1 = 1) ∧ (y' (z + 1) 0 = 0) ∧ (y' z 1 ≤ 1) ∧ (∀ a : Int, (a < 79 ∨ 93 < a) → (a < 110 ∨ 114 < a) → y' a = x a)) := by
  refine cn_R (by decide) (fun _ => Nat.le_of_ble_eq_true rfl) (fun G C h hq => ?_)
  have h : OK YC G C cX11_orderOf RX11 3 (some (.object "BestWalks$Order")) 17 500 := h
  show FW YC G C 3 x 0 [(0, vr G 0), (1, vi p)] []
  have hru : isRu 110 := Or.inl rfl
  have h_110 := Ru_b hru
  refine fr_aload_n h rfl 0 rfl dX11_orderOf_0 ?_
  refine fr_getc (z := 78) (iz := 7) h kX11 fX11_50 at_0 rfl rfl rf_0_7 (by omega) dX11_orderOf_1 ?_
  refine fr_iload_n h rfl 1 rfl dX11_orderOf_4 ?_
  refine fr_aaldc6 h ar_78 (by omega) (by omega) (rx_78 (by omega) (by omega)) (by omega) dX11_orderOf_5 (fun q1 w2 => ?_)
  obtain ⟨n4, i3⟩ := OrN_ex (show isOr q1 by rw [w2]; exact Or_ix78 (by omega) (by omega))
  have h_q1 := OrN_b i3
  have hkn : x q1 2 = 0 := by rw [show q1 = 79 + 2 * p by omega]; exact e2 p (by omega) (by omega)
  have hke : x (q1 + 1) 0 = 0 := by rw [show q1 = 79 + 2 * p by omega]; exact e3 p (by omega) (by omega)
  refine fr_astore_n (L' := [(0, vr G 0), (1, vi p), (2, vr G q1)]) h rfl dX11_orderOf_6 (by decide) [1, 2, 0] rfl ?_
  refine fr_aload_n h rfl 2 rfl dX11_orderOf_7 ?_
  refine fr_cvI h kX6 (Or_at (OrN_is i3)) wX6_isKnown lX11_369 (f_X6_isKnown x q1 n4 i3) rfl (by decide) (by decide) rfl (Nat.le_of_ble_eq_true rfl) dX11_orderOf_8 (fun z6 x5 w7 p8 => ?_)
  obtain ⟨p9, p10, y11⟩ := p8
  rw [y11]
  clear y11
  refine fr_if_ne (tgt := 39) h dX11_orderOf_11 (by decide) (by omega) (fun c12 => ?_) (fun c12 => ?_)
  ·
    exfalso; omega
  ·
    refine fr_aload_n h rfl 2 rfl dX11_orderOf_14 ?_
    refine fr_cvV h kX6 (Or_at (OrN_is i3)) wX6_clear lX11_372 (f_X6_clear x q1 n4 i3) rfl (by decide) (by decide) rfl (Nat.le_of_ble_eq_true rfl) dX11_orderOf_15 (fun x13 p16 => ?_)
    obtain ⟨p17, p18, f19⟩ := p16
    refine fr_aload_n h rfl 0 rfl dX11_orderOf_18 ?_
    refine fr_getc (z := 89) (iz := 8) h kX11 fX11_57 at_0 rfl rfl rf_0_8 (by omega) dX11_orderOf_19 ?_
    refine fr_iload_n h rfl 1 rfl dX11_orderOf_22 ?_
    refine fr_aload_n h rfl 0 rfl dX11_orderOf_23 ?_
    refine fr_getc (z := 3) (iz := 1) h kX11 fX11_19 at_0 rfl rfl rf_0_1 (by omega) dX11_orderOf_24 ?_
    refine fr_aload_n h rfl 0 rfl dX11_orderOf_27 ?_
    refine fr_getr (z := 110) (iz := 13) h kX11 fX11_88 at_0 rfl rfl ((congrFun (f19 0 (by omega)) 13).trans e9) (by omega) dX11_orderOf_28 ?_
    refine fr_aload_n h rfl 2 rfl dX11_orderOf_31 ?_
    have r20 := (congrFun (f19 3 (by omega)) 4)
    have r21 := (congrFun (f19 3 (by omega)) 6)
    have r22 := (congrFun (f19 3 (by omega)) 7)
    have r23 := (congrFun (f19 110 (by omega)) 4)
    have r24 := (congrFun (f19 (110 + 1) (by omega)) 0)
    refine fr_cvV h kX4 at_89 wX4_find lX11_373 (f_X4_find x13 p 110 hru q1 n4 i3 (by omega) (by omega) (by omega) (fun j a b => (congrFun (f19 (3 + 1) (by omega)) j).trans (e4 j a b)) (fun j a b => (congrFun (f19 (3 + 3) (by omega)) j).trans (e5 j a b)) (by omega) (by omega) (by omega) (by omega) (by omega) (by omega)) rfl (by decide) (by decide) rfl (Nat.le_of_ble_eq_true rfl) dX11_orderOf_32 (fun x25 p28 => ?_)
    obtain ⟨p29, p30, f31⟩ := p28
    refine fr_aload_n h rfl 2 rfl dX11_orderOf_35 ?_
    refine fr_cvV h kX6 (Or_at (OrN_is i3)) wX6_sort lX11_377 (f_X6_sort x25 q1 n4 i3 (by omega)) rfl (by decide) (by decide) rfl (Nat.le_of_ble_eq_true rfl) dX11_orderOf_36 (fun x32 p35 => ?_)
    obtain ⟨p36, f37⟩ := p35
    refine fr_aload_n h rfl 2 rfl dX11_orderOf_39 ?_
    have r38 := (congrFun (f37 (q1 + 1) (by omega)) 0)
    have r39 := (congrFun (f19 (q1 + 1) (by omega)) 0)
    exact fr_aret h (Or.inl ⟨_, rfl⟩) hq ⟨(by omega), (by omega), (by omega), (by omega), (by omega), (fun a k0 k1 => ((f37 a (by omega)).trans ((f31 a (by omega) (by omega) (by omega)).trans (f19 a (by omega)))))⟩ dX11_orderOf_40
set_option maxHeartbeats 200000 in
theorem f_X11_tellOne (x : Mm) (o : Int) (on : Nat) (ho : OrN o on) (p : Int) (h_p : fm_r p) (e0 : x o 1 ≤ 1) (e1 : x (o + 1) 0 = 0) : CnI YC yX11_tellOne cX11_tellOne 7 .int 2 44 (fun G => [vr G 0, vr G o, vi p]) x (fun z y' => (z = 0) ∧ (∀ a : Int, (a < 107 ∨ 108 < a) → y' a = x a)) := by
  refine cn_I (by decide) (fun _ => Nat.le_of_ble_eq_true rfl) (fun G C h hq => ?_)
  have h : OK YC G C cX11_tellOne RX11 7 (some .int) 2 44 := h
  show FW YC G C 7 x 0 [(0, vr G 0), (1, vr G o), (2, vi p)] []
  have h_o := OrN_b ho
  refine fr_aload_n h rfl 1 rfl dX11_tellOne_0 ?_
  refine fr_iload_n h rfl 2 rfl dX11_tellOne_1 ?_
  refine fr_cvL h kX6 (Or_at (OrN_is ho)) wX6_codeAt lX11_251 (f_X6_codeAt x o on ho p (by omega) (by omega) (by omega)) rfl (by decide) (by decide) rfl (Nat.le_of_ble_eq_true rfl) dX11_tellOne_2 (fun z2 x1 w3 p4 => ?_)
  obtain ⟨p5, y6⟩ := p4
  rw [y6]
  clear y6
  refine fr_lstore_n (L' := [(0, vr G 0), (1, vr G o), (2, vi p), (3, vj z2)]) h rfl dX11_tellOne_5 (by decide) [1, 2, 3, 0] rfl ?_
  refine fr_lload_n h rfl 3 rfl dX11_tellOne_6 ?_
  refine fr_csI h wX2_lengthOf lX11_380 (f_X2_lengthOf x z2 (by omega)) rfl (by decide) (by decide) rfl (Nat.le_of_ble_eq_true rfl) dX11_tellOne_7 (fun z8 x7 w9 p10 => ?_)
  obtain ⟨p11, p12, p13, y14⟩ := p10
  rw [y14]
  clear y14
  refine fr_istore (L' := [(0, vr G 0), (1, vr G o), (2, vi p), (3, vj z2), (5, vi z8)]) h dX11_tellOne_10 (by decide) [1, 2, 3, 4, 0] rfl ?_
  refine fr_aload_n h rfl 0 rfl dX11_tellOne_12 ?_
  refine fr_getc (z := 107) (iz := 11) h kX11 fX11_77 at_0 rfl rfl rf_0_11 (by omega) dX11_tellOne_13 ?_
  refine fr_aload_n h rfl 1 rfl dX11_tellOne_16 ?_
  refine fr_iload_n h rfl 2 rfl dX11_tellOne_17 ?_
  refine fr_cvI h kX6 (Or_at (OrN_is ho)) wX6_costAt lX11_220 (f_X6_costAt x o on ho p (by omega) (by omega) (by omega)) rfl (by decide) (by decide) rfl (Nat.le_of_ble_eq_true rfl) dX11_tellOne_18 (fun z16 x15 w17 p18 => ?_)
  obtain ⟨p19, y20⟩ := p18
  rw [y20]
  clear y20
  refine fr_i2l h (by omega) dX11_tellOne_21 ?_
  refine fr_cvV h kX10 at_107 wX10_only lX11_192 (c_X10_only x z16 (by omega)) rfl (by decide) (by decide) rfl (Nat.le_of_ble_eq_true rfl) dX11_tellOne_22 (fun x21 p24 => ?_)
  have f25 := p24
  refine fr_iconst h dX11_tellOne_25 ?_
  refine fr_istore (L' := [(0, vr G 0), (1, vr G o), (2, vi p), (3, vj z2), (5, vi z8), (6, vi 0)]) h dX11_tellOne_26 (by decide) [1, 2, 3, 4, 5, 0] rfl ?_
  refine fr_iload h 5 rfl dX11_tellOne_28 ?_
  refine fr_iload h 4 rfl dX11_tellOne_30 ?_
  refine fr_icmp_ge (tgt := 55) h dX11_tellOne_32 (by decide) (by omega) (by omega) (fun c26 => ?_) (fun c26 => ?_)
  ·
    refine fr_iload h 4 rfl dX11_tellOne_55 ?_
    exact fr_iret h hq (by omega) ⟨(by omega), (fun a k0 => (f25 a (by omega)))⟩ dX11_tellOne_57
  ·
    exfalso; omega
