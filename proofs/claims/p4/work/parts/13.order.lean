set_option maxHeartbeats 200000 in
theorem c_X6_keyOf (x : Mm) (p : Int) (v : Int) (h_p : fm_r p) (h_v : fm_l v) : CnL YC yX6_keyOf cX6_keyOf 3 0 0 (fun G => [vi p, vj v]) x (fun z y' => (y' = x)) := by
  refine cn_L (by decide) (fun _ => Nat.le_of_ble_eq_true rfl) (fun G C h hq => ?_)
  have h : OK YC G C cX6_keyOf RX6 3 (some .long) 0 0 := h
  show FW YC G C 3 x 0 [(0, vi p), (1, vj v)] []
  refine fr_iload_n h rfl 0 rfl dX6_keyOf_0 ?_
  refine fr_i2l h (by omega) dX6_keyOf_1 ?_
  refine fr_bipush h rfl dX6_keyOf_2 ?_
  refine fr_lshl h dX6_keyOf_4 (fun z1 w2 q3 w4 => ?_)
  refine fr_lload_n h rfl 1 rfl dX6_keyOf_5 ?_
  refine fr_lor h dX6_keyOf_6 (fun z5 w6 q7 w8 => ?_)
  exact fr_lret h hq (by omega) rfl dX6_keyOf_7
set_option maxHeartbeats 200000 in
theorem c_X6_costOf (x : Mm) (v : Int) (h_v : fm_l v) : CnI YC yX6_costOf cX6_costOf 2 .int 0 0 (fun G => [vj v]) x (fun z y' => (y' = x)) := by
  refine cn_I (by decide) (fun _ => Nat.le_of_ble_eq_true rfl) (fun G C h hq => ?_)
  have h : OK YC G C cX6_costOf RX6 2 (some .int) 0 0 := h
  show FW YC G C 2 x 0 [(0, vj v)] []
  refine fr_lload_n h rfl 0 rfl dX6_costOf_0 ?_
  refine fr_bipush h rfl dX6_costOf_1 ?_
  refine fr_lshr h dX6_costOf_3 (fun z1 w2 q3 w4 => ?_)
  refine fr_l2i h dX6_costOf_4 (fun z5 w6 q7 w8 => ?_)
  exact fr_iret h hq (by omega) rfl dX6_costOf_5
set_option maxHeartbeats 200000 in
theorem c_X6_isKnown (x : Mm) (o : Int) (on : Nat) (ho : OrN o on) : CnI YC yX6_isKnown cX6_isKnown 1 .boolean 0 0 (fun G => [vr G o]) x (fun z y' => (z = 0 ∨ z = 1) ∧ (y' = x)) := by
  refine cn_I (by decide) (fun _ => Nat.le_of_ble_eq_true rfl) (fun G C h hq => ?_)
  have h : OK YC G C cX6_isKnown RX6 1 (some .boolean) 0 0 := h
  show FW YC G C 1 x 0 [(0, vr G o)] []
  have h_o := OrN_b ho
  refine fr_aload_n h rfl 0 rfl dX6_isKnown_0 ?_
  refine fr_geti (iz := 2) h kX6 fX6_19 (Or_at (OrN_is ho)) rfl rfl (by decide) (by decide) (Or_f2 (OrN_is ho)) dX6_isKnown_1 (fun z1 w2 w3 q4 => ?_)
  exact fr_zret h (nr_z (by omega) (by omega)) hq (by omega) ⟨(by omega), rfl⟩ dX6_isKnown_4
set_option maxHeartbeats 200000 in
theorem c_X6_outdate (x : Mm) (o : Int) (on : Nat) (ho : OrN o on) : CnV YC yX6_outdate cX6_outdate 1 0 0 (fun G => [vr G o]) x (fun y' => (∀ a : Int, (a < o ∨ o + 1 < a) → y' a = x a)) := by
  refine cn_V (by decide) (fun _ => Nat.le_of_ble_eq_true rfl) (fun G C h hq => ?_)
  have h : OK YC G C cX6_outdate RX6 1 none 0 0 := h
  show FW YC G C 1 x 0 [(0, vr G o)] []
  have h_o := OrN_b ho
  refine fr_aload_n h rfl 0 rfl dX6_outdate_0 ?_
  refine fr_iconst h dX6_outdate_1 ?_
  refine fr_putz (iz := 2) h kX6 fX6_19 (Or_at (OrN_is ho)) rfl rfl (by decide) (by decide) rfl (by decide +kernel) (Or_f2 (OrN_is ho)) (by omega) (by omega) (by omega) dX6_outdate_2 ?_
  refine fr_mem (fun x1 m2 => ?_)
  exact fr_vret h hq (fun a k0 => (fm_up_row m2 (by omega))) dX6_outdate_5
set_option maxHeartbeats 200000 in
theorem c_X6_clear (x : Mm) (o : Int) (on : Nat) (ho : OrN o on) : CnV YC yX6_clear cX6_clear 1 0 0 (fun G => [vr G o]) x (fun y' => (∀ a : Int, (a < o ∨ o + 1 < a) → y' a = x a)) := by
  refine cn_V (by decide) (fun _ => Nat.le_of_ble_eq_true rfl) (fun G C h hq => ?_)
  have h : OK YC G C cX6_clear RX6 1 none 0 0 := h
  show FW YC G C 1 x 0 [(0, vr G o)] []
  have h_o := OrN_b ho
  refine fr_aload_n h rfl 0 rfl dX6_clear_0 ?_
  refine fr_iconst h dX6_clear_1 ?_
  refine fr_puti (iz := 1) h kX6 fX6_23 (Or_at (OrN_is ho)) rfl rfl (by decide) (by decide) rfl (by decide +kernel) (OrN_f1 ho) (by omega) (by omega) dX6_clear_2 ?_
  refine fr_mem (fun x1 m2 => ?_)
  exact fr_vret h hq (fun a k0 => (fm_up_row m2 (by omega))) dX6_clear_5
set_option maxHeartbeats 200000 in
theorem c_X6_size (x : Mm) (o : Int) (on : Nat) (ho : OrN o on) : CnI YC yX6_size cX6_size 1 .int 0 0 (fun G => [vr G o]) x (fun z y' => (0 ≤ z) ∧ (z ≤ 1296) ∧ (z ≤ on) ∧ (z = x o 1) ∧ (y' = x)) := by
  refine cn_I (by decide) (fun _ => Nat.le_of_ble_eq_true rfl) (fun G C h hq => ?_)
  have h : OK YC G C cX6_size RX6 1 (some .int) 0 0 := h
  show FW YC G C 1 x 0 [(0, vr G o)] []
  have h_o := OrN_b ho
  refine fr_aload_n h rfl 0 rfl dX6_size_0 ?_
  refine fr_geti (iz := 1) h kX6 fX6_23 (Or_at (OrN_is ho)) rfl rfl (by decide) (by decide) (OrN_f1 ho) dX6_size_1 (fun z1 w2 w3 q4 => ?_)
  exact fr_iret h hq (by omega) ⟨(by omega), (by omega), (by omega), (by omega), rfl⟩ dX6_size_4
set_option maxHeartbeats 200000 in
theorem c_X6_add (x : Mm) (o : Int) (on : Nat) (ho : OrN o on) (p : Int) (v : Int) (h_p : fm_r p) (h_v : fm_l v) : CnV YC yX6_add cX6_add 4 1 22 (fun G => [vr G o, vi p, vj v]) x (fun y' => (∀ a : Int, (a < o ∨ o + 1 < a) → y' a = x a)) := by
  refine cn_V (by decide) (fun _ => Nat.le_of_ble_eq_true rfl) (fun G C h hq => ?_)
  have h : OK YC G C cX6_add RX6 4 none 1 22 := h
  show FW YC G C 4 x 0 [(0, vr G o), (1, vi p), (2, vj v)] []
  have h_o := OrN_b ho
  refine fr_aload_n h rfl 0 rfl dX6_add_0 ?_
  refine fr_geti (iz := 1) h kX6 fX6_23 (Or_at (OrN_is ho)) rfl rfl (by decide) (by decide) (OrN_f1 ho) dX6_add_1 (fun z1 w2 w3 q4 => ?_)
  refine fr_aload_n h rfl 0 rfl dX6_add_4 ?_
  refine fr_getc (z := (o + 1)) (iz := 0) h kX6 fX6_13 (Or_at (OrN_is ho)) rfl rfl (Or_f0 (OrN_is ho)) (by omega) dX6_add_5 ?_
  refine fr_alenl h (OrN_a1 ho) dX6_add_8 ?_
  refine fr_icmp_ge (tgt := 36) h dX6_add_9 (by decide) (by omega) (by omega) (fun c5 => ?_) (fun c5 => ?_)
  ·
    exact fr_vret h hq (fun a _ => rfl) dX6_add_36
  ·
    refine fr_aload_n h rfl 0 rfl dX6_add_12 ?_
    refine fr_getc (z := (o + 1)) (iz := 0) h kX6 fX6_13 (Or_at (OrN_is ho)) rfl rfl (Or_f0 (OrN_is ho)) (by omega) dX6_add_13 ?_
    refine fr_aload_n h rfl 0 rfl dX6_add_16 ?_
    refine fr_geti (iz := 1) h kX6 fX6_23 (Or_at (OrN_is ho)) rfl rfl (by decide) (by decide) (OrN_f1 ho) dX6_add_17 (fun z6 w7 w8 q9 => ?_)
    refine fr_iload_n h rfl 1 rfl dX6_add_20 ?_
    refine fr_lload_n h rfl 2 rfl dX6_add_21 ?_
    refine fr_csL h wX6_keyOf lX6_27 (c_X6_keyOf x p v (by omega) (by omega)) rfl (by decide) (by decide) rfl (Nat.le_of_ble_eq_true rfl) dX6_add_22 (fun z11 x10 w12 p13 => ?_)
    have y14 := p13
    rw [y14]
    clear y14
    refine fr_last h (OrN_a1 ho) (by omega) (by omega) (OrN_r1 ho z6) (by omega) (by omega) dX6_add_25 ?_
    refine fr_mem (fun x15 m16 => ?_)
    refine fr_aload_n h rfl 0 rfl dX6_add_26 ?_
    refine fr_dup h rfl dX6_add_27 ?_
    refine fr_geti (iz := 1) h kX6 fX6_23 (Or_at (OrN_is ho)) rfl rfl (by decide) (by decide) (OrN_f1 ho) dX6_add_28 (fun z17 w18 w19 q20 => ?_)
    have r21 := q20.trans (fm_rd_k (a := o) (b := 1) m16 (by omega))
    refine fr_iconst h dX6_add_31 ?_
    refine fr_iadd h dX6_add_32 ?_
    refine fr_puti (iz := 1) h kX6 fX6_23 (Or_at (OrN_is ho)) rfl rfl (by decide) (by decide) rfl (by decide +kernel) (OrN_f1 ho) (by omega) (by omega) dX6_add_33 ?_
    refine fr_mem (fun x22 m23 => ?_)
    exact fr_vret h hq (fun a k0 => ((fm_up_row m23 (by omega)).trans (fm_up_row m16 (by omega)))) dX6_add_36
set_option maxHeartbeats 200000 in
theorem c_X6_sort (x : Mm) (o : Int) (on : Nat) (ho : OrN o on) : CnV YC yX6_sort cX6_sort 7 0 0 (fun G => [vr G o]) x (fun y' => (∀ a : Int, (a < o ∨ o + 1 < a) → y' a = x a)) := by
  refine cn_V (by decide) (fun _ => Nat.le_of_ble_eq_true rfl) (fun G C h hq => ?_)
  have h : OK YC G C cX6_sort RX6 7 none 0 0 := h
  show FW YC G C 7 x 0 [(0, vr G o)] []
  have h_o := OrN_b ho
  refine fr_iconst h dX6_sort_0 ?_
  refine fr_istore_n (L' := [(0, vr G o), (1, vi 0)]) h rfl dX6_sort_1 (by decide) [1, 0] rfl ?_
  have HL1 : ∀ (n1 : Nat) (l1_1 : Int) (x_1 : Mm), fm_r l1_1 → 0 ≤ l1_1 → l1_1 ≤ 8 → (∀ a : Int, (a < o ∨ o + 1 < a) → x_1 a = x a) → (8 - l1_1) < n1 → FW YC G C 7 x_1 2 [(0, vr G o), (1, vi l1_1)] [] := by
    intro n1
    induction n1 with
    | zero =>
      intro l1_1 x_1 g1_0 g1_1 g1_2 g1_3 g1_4
      exfalso; omega
    | succ n1 ih1 =>
      intro l1_1 x_1 g1_0 g1_1 g1_2 g1_3 g1_4
      refine fr_iload_n h rfl 1 rfl dX6_sort_2 ?_
      refine fr_gst1 h dX6_sort_3 (fun t2 s3 => ?_)
      refine fr_slen h s3 dX6_sort_6 ?_
      show FW YC G C 7 x_1 7 [(0, vr G o), (1, vi l1_1)] [vi 8, vi l1_1]
      refine fr_icmp_ge (tgt := 104) h dX6_sort_7 (by decide) (by omega) (by omega) (fun c4 => ?_) (fun c4 => ?_)
      ·
        refine fr_aload_n h rfl 0 rfl dX6_sort_104 ?_
        refine fr_iconst h dX6_sort_105 ?_
        refine fr_putz (iz := 2) h kX6 fX6_19 (Or_at (OrN_is ho)) rfl rfl (by decide) (by decide) rfl (by decide +kernel) (Or_f2 (OrN_is ho)) (by omega) (by omega) (by omega) dX6_sort_106 ?_
        refine fr_mem (fun x5 m6 => ?_)
        exact fr_vret h hq (fun a k0 => ((fm_up_row m6 (by omega)).trans (g1_3 a (by omega)))) dX6_sort_109
      ·
        refine fr_gst1 h dX6_sort_10 (fun t7 s8 => ?_)
        refine fr_iload_n h rfl 1 rfl dX6_sort_13 ?_
        refine fr_sld h s8 (by decide) (by omega) (by omega) dX6_sort_14 (fun z9 q10 => ?_)
        have w11 := zt_1_v (by omega) (by omega) q10
        refine fr_istore_n (L' := [(0, vr G o), (1, vi l1_1), (2, vi z9)]) h rfl dX6_sort_15 (by decide) [1, 2, 0] rfl ?_
        refine fr_iload_n h rfl 2 rfl dX6_sort_16 ?_
        refine fr_istore_n (L' := [(0, vr G o), (1, vi l1_1), (2, vi z9), (3, vi z9)]) h rfl dX6_sort_17 (by decide) [1, 2, 3, 0] rfl ?_
        have HL12 : ∀ (n12 : Nat) (l3_12 : Int) (x_12 : Mm), fm_r l3_12 → 1 ≤ l3_12 → l3_12 ≤ 1296 → 1 ≤ l3_12 → (∀ a : Int, (a < o ∨ o + 1 < a) → x_12 a = x_1 a) → (1296 - l3_12) < n12 → FW YC G C 7 x_12 18 [(0, vr G o), (1, vi l1_1), (2, vi z9), (3, vi l3_12)] [] := by
          intro n12
          induction n12 with
          | zero =>
            intro l3_12 x_12 g12_0 g12_1 g12_2 g12_3 g12_4 g12_5
            exfalso; omega
          | succ n12 ih12 =>
            intro l3_12 x_12 g12_0 g12_1 g12_2 g12_3 g12_4 g12_5
            refine fr_iload_n h rfl 3 rfl dX6_sort_18 ?_
            refine fr_aload_n h rfl 0 rfl dX6_sort_19 ?_
            refine fr_geti (iz := 1) h kX6 fX6_23 (Or_at (OrN_is ho)) rfl rfl (by decide) (by decide) (OrN_f1 ho) dX6_sort_20 (fun z13 w14 w15 q16 => ?_)
            refine fr_icmp_ge (tgt := 98) h dX6_sort_23 (by decide) (by omega) (by omega) (fun c17 => ?_) (fun c17 => ?_)
            ·
              refine fr_iinc (j := 1) (L' := [(0, vr G o), (1, vi (l1_1 + 1)), (2, vi z9), (3, vi l3_12)]) h dX6_sort_98 rfl (by decide) [1, 0, 2, 3] rfl ?_
              refine fr_goto (tgt := 2) h dX6_sort_101 (by decide) ?_
              refine fr_sub (L' := [(0, vr G o), (1, vi (l1_1 + 1))]) [0, 1] rfl ?_
              exact ih1 (l1_1 + 1) x_12 (by omega) (by omega) (by omega) (fun a k0 => ((g12_4 a (by omega)).trans (g1_3 a (by omega)))) (by omega)
            ·
              refine fr_aload_n h rfl 0 rfl dX6_sort_26 ?_
              refine fr_getc (z := (o + 1)) (iz := 0) h kX6 fX6_13 (Or_at (OrN_is ho)) rfl rfl (Or_f0 (OrN_is ho)) (by omega) dX6_sort_27 ?_
              refine fr_iload_n h rfl 3 rfl dX6_sort_30 ?_
              refine fr_lald h (OrN_a1 ho) (by omega) (by omega) (OrN_r1 ho l3_12) dX6_sort_31 (fun z18 w19 w20 q21 => ?_)
              refine fr_lstore (L' := [(0, vr G o), (1, vi l1_1), (2, vi z9), (3, vi l3_12), (4, vj z18)]) h dX6_sort_32 (by decide) [1, 2, 3, 4, 0] rfl ?_
              refine fr_iload_n h rfl 3 rfl dX6_sort_34 ?_
              refine fr_istore (L' := [(0, vr G o), (1, vi l1_1), (2, vi z9), (3, vi l3_12), (4, vj z18), (6, vi l3_12)]) h dX6_sort_35 (by decide) [1, 2, 3, 4, 5, 0] rfl ?_
              have HL22 : ∀ (n22 : Nat) (l6_22 : Int) (x_22 : Mm), fm_r l6_22 → 0 ≤ l6_22 → l6_22 ≤ 1296 → l6_22 ≤ l3_12 → (∀ a : Int, (a < o ∨ o + 1 < a) → x_22 a = x_12 a) → l6_22 < n22 → FW YC G C 7 x_22 37 [(0, vr G o), (1, vi l1_1), (2, vi z9), (3, vi l3_12), (4, vj z18), (6, vi l6_22)] [] := by
                intro n22
                induction n22 with
                | zero =>
                  intro l6_22 x_22 g22_0 g22_1 g22_2 g22_3 g22_4 g22_5
                  exfalso; omega
                | succ n22 ih22 =>
                  intro l6_22 x_22 g22_0 g22_1 g22_2 g22_3 g22_4 g22_5
                  refine fr_iload h 5 rfl dX6_sort_37 ?_
                  refine fr_iload_n h rfl 2 rfl dX6_sort_39 ?_
                  refine fr_icmp_lt (tgt := 83) h dX6_sort_40 (by decide) (by omega) (by omega) (fun c23 => ?_) (fun c23 => ?_)
                  ·
                    refine fr_aload_n h rfl 0 rfl dX6_sort_83 ?_
                    refine fr_getc (z := (o + 1)) (iz := 0) h kX6 fX6_13 (Or_at (OrN_is ho)) rfl rfl (Or_f0 (OrN_is ho)) (by omega) dX6_sort_84 ?_
                    refine fr_iload h 5 rfl dX6_sort_87 ?_
                    refine fr_lload h 4 rfl dX6_sort_89 ?_
                    refine fr_last h (OrN_a1 ho) (by omega) (by omega) (OrN_r1 ho l6_22) (by omega) (by omega) dX6_sort_91 ?_
                    refine fr_mem (fun x24 m25 => ?_)
                    refine fr_iinc (j := 3) (L' := [(0, vr G o), (1, vi l1_1), (2, vi z9), (3, vi (l3_12 + 1)), (4, vj z18), (6, vi l6_22)]) h dX6_sort_92 rfl (by decide) [1, 2, 3, 0, 4, 5] rfl ?_
                    refine fr_goto (tgt := 18) h dX6_sort_95 (by decide) ?_
                    refine fr_sub (L' := [(0, vr G o), (1, vi l1_1), (2, vi z9), (3, vi (l3_12 + 1))]) [0, 1, 2, 3] rfl ?_
                    exact ih12 (l3_12 + 1) x24 (by omega) (by omega) (by omega) (by omega) (fun a k0 => ((fm_up_row m25 (by omega)).trans ((g22_4 a (by omega)).trans (g12_4 a (by omega))))) (by omega)
                  ·
                    refine fr_aload_n h rfl 0 rfl dX6_sort_43 ?_
                    refine fr_getc (z := (o + 1)) (iz := 0) h kX6 fX6_13 (Or_at (OrN_is ho)) rfl rfl (Or_f0 (OrN_is ho)) (by omega) dX6_sort_44 ?_
                    refine fr_iload h 5 rfl dX6_sort_47 ?_
                    refine fr_iload_n h rfl 2 rfl dX6_sort_49 ?_
                    refine fr_isub h dX6_sort_50 ?_
                    refine fr_lald h (OrN_a1 ho) (by omega) (by omega) (OrN_r1 ho (l6_22 - z9)) dX6_sort_51 (fun z26 w27 w28 q29 => ?_)
                    refine fr_lload h 4 rfl dX6_sort_52 ?_
                    refine fr_lcmp h dX6_sort_54 (by omega) (by omega) (fun z30 w31 => ?_)
                    refine fr_if_le (tgt := 83) h dX6_sort_55 (by decide) (by omega) (fun c32 => ?_) (fun c32 => ?_)
                    ·
                      refine fr_aload_n h rfl 0 rfl dX6_sort_83 ?_
                      refine fr_getc (z := (o + 1)) (iz := 0) h kX6 fX6_13 (Or_at (OrN_is ho)) rfl rfl (Or_f0 (OrN_is ho)) (by omega) dX6_sort_84 ?_
                      refine fr_iload h 5 rfl dX6_sort_87 ?_
                      refine fr_lload h 4 rfl dX6_sort_89 ?_
                      refine fr_last h (OrN_a1 ho) (by omega) (by omega) (OrN_r1 ho l6_22) (by omega) (by omega) dX6_sort_91 ?_
                      refine fr_mem (fun x33 m34 => ?_)
                      refine fr_iinc (j := 3) (L' := [(0, vr G o), (1, vi l1_1), (2, vi z9), (3, vi (l3_12 + 1)), (4, vj z18), (6, vi l6_22)]) h dX6_sort_92 rfl (by decide) [1, 2, 3, 0, 4, 5] rfl ?_
                      refine fr_goto (tgt := 18) h dX6_sort_95 (by decide) ?_
                      refine fr_sub (L' := [(0, vr G o), (1, vi l1_1), (2, vi z9), (3, vi (l3_12 + 1))]) [0, 1, 2, 3] rfl ?_
                      exact ih12 (l3_12 + 1) x33 (by omega) (by omega) (by omega) (by omega) (fun a k0 => ((fm_up_row m34 (by omega)).trans ((g22_4 a (by omega)).trans (g12_4 a (by omega))))) (by omega)
                    ·
                      refine fr_aload_n h rfl 0 rfl dX6_sort_58 ?_
                      refine fr_getc (z := (o + 1)) (iz := 0) h kX6 fX6_13 (Or_at (OrN_is ho)) rfl rfl (Or_f0 (OrN_is ho)) (by omega) dX6_sort_59 ?_
                      refine fr_iload h 5 rfl dX6_sort_62 ?_
                      refine fr_aload_n h rfl 0 rfl dX6_sort_64 ?_
                      refine fr_getc (z := (o + 1)) (iz := 0) h kX6 fX6_13 (Or_at (OrN_is ho)) rfl rfl (Or_f0 (OrN_is ho)) (by omega) dX6_sort_65 ?_
                      refine fr_iload h 5 rfl dX6_sort_68 ?_
                      refine fr_iload_n h rfl 2 rfl dX6_sort_70 ?_
                      refine fr_isub h dX6_sort_71 ?_
                      refine fr_lald h (OrN_a1 ho) (by omega) (by omega) (OrN_r1 ho (l6_22 - z9)) dX6_sort_72 (fun z35 w36 w37 q38 => ?_)
                      refine fr_last h (OrN_a1 ho) (by omega) (by omega) (OrN_r1 ho l6_22) (by omega) (by omega) dX6_sort_73 ?_
                      refine fr_mem (fun x39 m40 => ?_)
                      refine fr_iload h 5 rfl dX6_sort_74 ?_
                      refine fr_iload_n h rfl 2 rfl dX6_sort_76 ?_
                      refine fr_isub h dX6_sort_77 ?_
                      refine fr_istore (L' := [(0, vr G o), (1, vi l1_1), (2, vi z9), (3, vi l3_12), (4, vj z18), (6, vi (l6_22 - z9))]) h dX6_sort_78 (by decide) [1, 2, 3, 4, 5, 0] rfl ?_
                      refine fr_goto (tgt := 37) h dX6_sort_80 (by decide) ?_
                      exact ih22 (l6_22 - z9) x39 (by omega) (by omega) (by omega) (by omega) (fun a k0 => ((fm_up_row m40 (by omega)).trans (g22_4 a (by omega)))) (by omega)
              exact HL22 (l3_12 + 1 : Int).toNat l3_12 x_12 (by omega) (by omega) (by omega) (by omega) (fun a _ => rfl) (by omega)
        exact HL12 ((1296 - z9) + 1 : Int).toNat z9 x_1 (by omega) (by omega) (by omega) (by omega) (fun a _ => rfl) (by omega)
  exact HL1 ((8 - 0) + 1 : Int).toNat 0 x (by omega) (by omega) (by omega) (fun a _ => rfl) (by omega)
set_option maxHeartbeats 200000 in
theorem c_X6_keyAt (x : Mm) (o : Int) (on : Nat) (ho : OrN o on) (p : Int) (h_p : fm_r p) : CnL YC yX6_keyAt cX6_keyAt 2 0 0 (fun G => [vr G o, vi p]) x (fun z y' => (y' = x)) := by
  refine cn_L (by decide) (fun _ => Nat.le_of_ble_eq_true rfl) (fun G C h hq => ?_)
  have h : OK YC G C cX6_keyAt RX6 2 (some .long) 0 0 := h
  show FW YC G C 2 x 0 [(0, vr G o), (1, vi p)] []
  have h_o := OrN_b ho
  refine fr_iload_n h rfl 1 rfl dX6_keyAt_0 ?_
  refine fr_iconst h dX6_keyAt_1 ?_
  refine fr_icmp_lt (tgt := 24) h dX6_keyAt_2 (by decide) (by omega) (by omega) (fun c1 => ?_) (fun c1 => ?_)
  ·
    refine fr_lconst (z := 0) h rfl dX6_keyAt_24 ?_
    exact fr_lret h hq (by omega) rfl dX6_keyAt_25
  ·
    refine fr_iload_n h rfl 1 rfl dX6_keyAt_5 ?_
    refine fr_aload_n h rfl 0 rfl dX6_keyAt_6 ?_
    refine fr_geti (iz := 1) h kX6 fX6_23 (Or_at (OrN_is ho)) rfl rfl (by decide) (by decide) (OrN_f1 ho) dX6_keyAt_7 (fun z2 w3 w4 q5 => ?_)
    refine fr_icmp_gt (tgt := 24) h dX6_keyAt_10 (by decide) (by omega) (by omega) (fun c6 => ?_) (fun c6 => ?_)
    ·
      refine fr_lconst (z := 0) h rfl dX6_keyAt_24 ?_
      exact fr_lret h hq (by omega) rfl dX6_keyAt_25
    ·
      refine fr_aload_n h rfl 0 rfl dX6_keyAt_13 ?_
      refine fr_getc (z := (o + 1)) (iz := 0) h kX6 fX6_13 (Or_at (OrN_is ho)) rfl rfl (Or_f0 (OrN_is ho)) (by omega) dX6_keyAt_14 ?_
      refine fr_iload_n h rfl 1 rfl dX6_keyAt_17 ?_
      refine fr_iconst h dX6_keyAt_18 ?_
      refine fr_isub h dX6_keyAt_19 ?_
      refine fr_lald h (OrN_a1 ho) (by omega) (by omega) (OrN_r1 ho (p - 1)) dX6_keyAt_20 (fun z7 w8 w9 q10 => ?_)
      refine fr_goto (tgt := 25) h dX6_keyAt_21 (by decide) ?_
      exact fr_lret h hq (by omega) rfl dX6_keyAt_25
set_option maxHeartbeats 200000 in
theorem c_X6_costAt (x : Mm) (o : Int) (on : Nat) (ho : OrN o on) (p : Int) (h_p : fm_r p) : CnI YC yX6_costAt cX6_costAt 2 .int 1 21 (fun G => [vr G o, vi p]) x (fun z y' => (y' = x)) := by
  refine cn_I (by decide) (fun _ => Nat.le_of_ble_eq_true rfl) (fun G C h hq => ?_)
  have h : OK YC G C cX6_costAt RX6 2 (some .int) 1 21 := h
  show FW YC G C 2 x 0 [(0, vr G o), (1, vi p)] []
  have h_o := OrN_b ho
  refine fr_aload_n h rfl 0 rfl dX6_costAt_0 ?_
  refine fr_iload_n h rfl 1 rfl dX6_costAt_1 ?_
  refine fr_cvL h kX6 (Or_at (OrN_is ho)) wX6_keyAt lX6_37 (c_X6_keyAt x o on ho p (by omega)) rfl (by decide) (by decide) rfl (Nat.le_of_ble_eq_true rfl) dX6_costAt_2 (fun z2 x1 w3 p4 => ?_)
  have y5 := p4
  rw [y5]
  clear y5
  refine fr_csI h wX6_costOf lX6_41 (c_X6_costOf x z2 (by omega)) rfl (by decide) (by decide) rfl (Nat.le_of_ble_eq_true rfl) dX6_costAt_5 (fun z7 x6 w8 p9 => ?_)
  have y10 := p9
  rw [y10]
  clear y10
  exact fr_iret h hq (by omega) rfl dX6_costAt_8
set_option maxHeartbeats 200000 in
theorem c_X6_codeAt (x : Mm) (o : Int) (on : Nat) (ho : OrN o on) (p : Int) (h_p : fm_r p) : CnL YC yX6_codeAt cX6_codeAt 2 1 21 (fun G => [vr G o, vi p]) x (fun z y' => (y' = x)) := by
  refine cn_L (by decide) (fun _ => Nat.le_of_ble_eq_true rfl) (fun G C h hq => ?_)
  have h : OK YC G C cX6_codeAt RX6 2 (some .long) 1 21 := h
  show FW YC G C 2 x 0 [(0, vr G o), (1, vi p)] []
  have h_o := OrN_b ho
  refine fr_aload_n h rfl 0 rfl dX6_codeAt_0 ?_
  refine fr_iload_n h rfl 1 rfl dX6_codeAt_1 ?_
  refine fr_cvL h kX6 (Or_at (OrN_is ho)) wX6_keyAt lX6_37 (c_X6_keyAt x o on ho p (by omega)) rfl (by decide) (by decide) rfl (Nat.le_of_ble_eq_true rfl) dX6_codeAt_2 (fun z2 x1 w3 p4 => ?_)
  have y5 := p4
  rw [y5]
  clear y5
  refine fr_ldc2 (z := 4294967295) h (by exact tb_4 (i := 71) (by decide +kernel) (by decide +kernel)) rfl dX6_codeAt_5 ?_
  refine fr_land h dX6_codeAt_8 (fun z6 w7 q8 w9 => ?_)
  have w10 : (0 : Int) ≤ 4294967295 → (4294967295 : Int) ≤ 9223372036854775807 → 0 ≤ z6 ∧ z6 ≤ 4294967295 := w9
  exact fr_lret h hq (by omega) rfl dX6_codeAt_9
set_option maxHeartbeats 200000 in
theorem c_X6_upTo (x : Mm) (o : Int) (on : Nat) (ho : OrN o on) (p : Int) (h_p : fm_r p) : CnI YC yX6_upTo cX6_upTo 3 .int 1 21 (fun G => [vr G o, vi p]) x (fun z y' => (0 ≤ z) ∧ (z ≤ 1296) ∧ (z ≤ x o 1) ∧ (y' = x)) := by
  refine cn_I (by decide) (fun _ => Nat.le_of_ble_eq_true rfl) (fun G C h hq => ?_)
  have h : OK YC G C cX6_upTo RX6 3 (some .int) 1 21 := h
  show FW YC G C 3 x 0 [(0, vr G o), (1, vi p)] []
  have h_o := OrN_b ho
  refine fr_rng (fun hR => ?_)
  have hs : 0 ≤ x o 1 ∧ x o 1 ≤ (on : Int) := by have q := hR o 1; rw [OrN_f1 ho] at q; exact q
  refine fr_iconst h dX6_upTo_0 ?_
  refine fr_istore_n (L' := [(0, vr G o), (1, vi p), (2, vi 0)]) h rfl dX6_upTo_1 (by decide) [1, 2, 0] rfl ?_
  have HL1 : ∀ (n1 : Nat) (l2_1 : Int), fm_r l2_1 → 0 ≤ l2_1 → l2_1 ≤ 1296 → l2_1 ≤ x o 1 → (1296 - l2_1) < n1 → FW YC G C 3 x 2 [(0, vr G o), (1, vi p), (2, vi l2_1)] [] := by
    intro n1
    induction n1 with
    | zero =>
      intro l2_1 g1_0 g1_1 g1_2 g1_3 g1_4
      exfalso; omega
    | succ n1 ih1 =>
      intro l2_1 g1_0 g1_1 g1_2 g1_3 g1_4
      refine fr_iload_n h rfl 2 rfl dX6_upTo_2 ?_
      refine fr_aload_n h rfl 0 rfl dX6_upTo_3 ?_
      refine fr_geti (iz := 1) h kX6 fX6_23 (Or_at (OrN_is ho)) rfl rfl (by decide) (by decide) (OrN_f1 ho) dX6_upTo_4 (fun z2 w3 w4 q5 => ?_)
      refine fr_icmp_ge (tgt := 29) h dX6_upTo_7 (by decide) (by omega) (by omega) (fun c6 => ?_) (fun c6 => ?_)
      ·
        refine fr_iload_n h rfl 2 rfl dX6_upTo_29 ?_
        exact fr_iret h hq (by omega) ⟨(by omega), (by omega), (by omega), rfl⟩ dX6_upTo_30
      ·
        refine fr_aload_n h rfl 0 rfl dX6_upTo_10 ?_
        refine fr_getc (z := (o + 1)) (iz := 0) h kX6 fX6_13 (Or_at (OrN_is ho)) rfl rfl (Or_f0 (OrN_is ho)) (by omega) dX6_upTo_11 ?_
        refine fr_iload_n h rfl 2 rfl dX6_upTo_14 ?_
        refine fr_lald h (OrN_a1 ho) (by omega) (by omega) (OrN_r1 ho l2_1) dX6_upTo_15 (fun z7 w8 w9 q10 => ?_)
        refine fr_csI h wX6_costOf lX6_41 (c_X6_costOf x z7 (by omega)) rfl (by decide) (by decide) rfl (Nat.le_of_ble_eq_true rfl) dX6_upTo_16 (fun z12 x11 w13 p14 => ?_)
        have y15 := p14
        rw [y15]
        clear y15
        refine fr_iload_n h rfl 1 rfl dX6_upTo_19 ?_
        refine fr_icmp_gt (tgt := 29) h dX6_upTo_20 (by decide) (by omega) (by omega) (fun c16 => ?_) (fun c16 => ?_)
        ·
          refine fr_iload_n h rfl 2 rfl dX6_upTo_29 ?_
          exact fr_iret h hq (by omega) ⟨(by omega), (by omega), (by omega), rfl⟩ dX6_upTo_30
        ·
          refine fr_iinc (j := 2) (L' := [(0, vr G o), (1, vi p), (2, vi (l2_1 + 1))]) h dX6_upTo_23 rfl (by decide) [1, 2, 0] rfl ?_
          refine fr_goto (tgt := 2) h dX6_upTo_26 (by decide) ?_
          exact ih1 (l2_1 + 1) (by omega) (by omega) (by omega) (by omega) (by omega)
  exact HL1 ((1296 - 0) + 1 : Int).toNat 0 (by omega) (by omega) (by omega) (by omega) (by omega)
set_option maxHeartbeats 200000 in
theorem c_X6_firstAlike (x : Mm) (o : Int) (on : Nat) (ho : OrN o on) (p : Int) (h_p : fm_r p) (e0 : 0 ≤ p) : CnI YC yX6_firstAlike cX6_firstAlike 3 .int 2 42 (fun G => [vr G o, vi p]) x (fun z y' => (z ≤ p) ∧ (0 ≤ z) ∧ (y' = x)) := by
  refine cn_I (by decide) (fun _ => Nat.le_of_ble_eq_true rfl) (fun G C h hq => ?_)
  have h : OK YC G C cX6_firstAlike RX6 3 (some .int) 2 42 := h
  show FW YC G C 3 x 0 [(0, vr G o), (1, vi p)] []
  have h_o := OrN_b ho
  refine fr_iload_n h rfl 1 rfl dX6_firstAlike_0 ?_
  refine fr_istore_n (L' := [(0, vr G o), (1, vi p), (2, vi p)]) h rfl dX6_firstAlike_1 (by decide) [1, 2, 0] rfl ?_
  have HL1 : ∀ (n1 : Nat) (l2_1 : Int), fm_r l2_1 → l2_1 ≤ p → 0 ≤ l2_1 → l2_1 < n1 → FW YC G C 3 x 2 [(0, vr G o), (1, vi p), (2, vi l2_1)] [] := by
    intro n1
    induction n1 with
    | zero =>
      intro l2_1 g1_0 g1_1 g1_2 g1_3
      exfalso; omega
    | succ n1 ih1 =>
      intro l2_1 g1_0 g1_1 g1_2 g1_3
      refine fr_iload_n h rfl 2 rfl dX6_firstAlike_2 ?_
      refine fr_iconst h dX6_firstAlike_3 ?_
      refine fr_icmp_le (tgt := 28) h dX6_firstAlike_4 (by decide) (by omega) (by omega) (fun c2 => ?_) (fun c2 => ?_)
      ·
        refine fr_iload_n h rfl 2 rfl dX6_firstAlike_28 ?_
        exact fr_iret h hq (by omega) ⟨(by omega), (by omega), rfl⟩ dX6_firstAlike_29
      ·
        refine fr_aload_n h rfl 0 rfl dX6_firstAlike_7 ?_
        refine fr_iload_n h rfl 2 rfl dX6_firstAlike_8 ?_
        refine fr_iconst h dX6_firstAlike_9 ?_
        refine fr_isub h dX6_firstAlike_10 ?_
        refine fr_cvI h kX6 (Or_at (OrN_is ho)) wX6_costAt lX6_47 (c_X6_costAt x o on ho (l2_1 - 1) (by omega)) rfl (by decide) (by decide) rfl (Nat.le_of_ble_eq_true rfl) dX6_firstAlike_11 (fun z4 x3 w5 p6 => ?_)
        have y7 := p6
        rw [y7]
        clear y7
        refine fr_aload_n h rfl 0 rfl dX6_firstAlike_14 ?_
        refine fr_iload_n h rfl 1 rfl dX6_firstAlike_15 ?_
        refine fr_cvI h kX6 (Or_at (OrN_is ho)) wX6_costAt lX6_47 (c_X6_costAt x o on ho p (by omega)) rfl (by decide) (by decide) rfl (Nat.le_of_ble_eq_true rfl) dX6_firstAlike_16 (fun z9 x8 w10 p11 => ?_)
        have y12 := p11
        rw [y12]
        clear y12
        refine fr_icmp_ne (tgt := 28) h dX6_firstAlike_19 (by decide) (by omega) (by omega) (fun c13 => ?_) (fun c13 => ?_)
        ·
          refine fr_iload_n h rfl 2 rfl dX6_firstAlike_28 ?_
          exact fr_iret h hq (by omega) ⟨(by omega), (by omega), rfl⟩ dX6_firstAlike_29
        ·
          refine fr_iinc (j := 2) (L' := [(0, vr G o), (1, vi p), (2, vi (l2_1 + (-1)))]) h dX6_firstAlike_22 rfl (by decide) [1, 2, 0] rfl ?_
          refine fr_goto (tgt := 2) h dX6_firstAlike_25 (by decide) ?_
          exact ih1 (l2_1 + (-1)) (by omega) (by omega) (by omega) (by omega)
  exact HL1 (p + 1 : Int).toNat p (by omega) (by omega) (by omega) (by omega)
set_option maxHeartbeats 200000 in
theorem c_X6_placeOf (x : Mm) (o : Int) (on : Nat) (ho : OrN o on) (v : Int) (h_v : fm_l v) : CnI YC yX6_placeOf cX6_placeOf 4 .int 2 42 (fun G => [vr G o, vj v]) x (fun z y' => (0 ≤ z) ∧ (z ≤ 1296) ∧ (z ≤ x o 1) ∧ (y' = x)) := by
  refine cn_I (by decide) (fun _ => Nat.le_of_ble_eq_true rfl) (fun G C h hq => ?_)
  have h : OK YC G C cX6_placeOf RX6 4 (some .int) 2 42 := h
  show FW YC G C 4 x 0 [(0, vr G o), (1, vj v)] []
  have h_o := OrN_b ho
  refine fr_rng (fun hR => ?_)
  have hs : 0 ≤ x o 1 ∧ x o 1 ≤ (on : Int) := by have q := hR o 1; rw [OrN_f1 ho] at q; exact q
  refine fr_iconst h dX6_placeOf_0 ?_
  refine fr_istore_n (L' := [(0, vr G o), (1, vj v), (3, vi 1)]) h rfl dX6_placeOf_1 (by decide) [1, 2, 0] rfl ?_
  have HL1 : ∀ (n1 : Nat) (l3_1 : Int), fm_r l3_1 → 1 ≤ l3_1 → l3_1 ≤ 1297 → 1 ≤ l3_1 → (1297 - l3_1) < n1 → FW YC G C 4 x 2 [(0, vr G o), (1, vj v), (3, vi l3_1)] [] := by
    intro n1
    induction n1 with
    | zero =>
      intro l3_1 g1_0 g1_1 g1_2 g1_3 g1_4
      exfalso; omega
    | succ n1 ih1 =>
      intro l3_1 g1_0 g1_1 g1_2 g1_3 g1_4
      refine fr_iload_n h rfl 2 rfl dX6_placeOf_2 ?_
      refine fr_aload_n h rfl 0 rfl dX6_placeOf_3 ?_
      refine fr_geti (iz := 1) h kX6 fX6_23 (Or_at (OrN_is ho)) rfl rfl (by decide) (by decide) (OrN_f1 ho) dX6_placeOf_4 (fun z2 w3 w4 q5 => ?_)
      refine fr_icmp_gt (tgt := 28) h dX6_placeOf_7 (by decide) (by omega) (by omega) (fun c6 => ?_) (fun c6 => ?_)
      ·
        refine fr_iconst h dX6_placeOf_28 ?_
        exact fr_iret h hq (by omega) ⟨(by omega), (by omega), (by omega), rfl⟩ dX6_placeOf_29
      ·
        refine fr_aload_n h rfl 0 rfl dX6_placeOf_10 ?_
        refine fr_iload_n h rfl 2 rfl dX6_placeOf_11 ?_
        refine fr_cvL h kX6 (Or_at (OrN_is ho)) wX6_codeAt lX6_51 (c_X6_codeAt x o on ho l3_1 (by omega)) rfl (by decide) (by decide) rfl (Nat.le_of_ble_eq_true rfl) dX6_placeOf_12 (fun z8 x7 w9 p10 => ?_)
        have y11 := p10
        rw [y11]
        clear y11
        refine fr_lload_n h rfl 1 rfl dX6_placeOf_15 ?_
        refine fr_lcmp h dX6_placeOf_16 (by omega) (by omega) (fun z12 w13 => ?_)
        refine fr_if_ne (tgt := 22) h dX6_placeOf_17 (by decide) (by omega) (fun c14 => ?_) (fun c14 => ?_)
        ·
          refine fr_iinc (j := 2) (L' := [(0, vr G o), (1, vj v), (3, vi (l3_1 + 1))]) h dX6_placeOf_22 rfl (by decide) [1, 2, 0] rfl ?_
          refine fr_goto (tgt := 2) h dX6_placeOf_25 (by decide) ?_
          exact ih1 (l3_1 + 1) (by omega) (by omega) (by omega) (by omega) (by omega)
        ·
          refine fr_iload_n h rfl 2 rfl dX6_placeOf_20 ?_
          exact fr_iret h hq (by omega) ⟨(by omega), (by omega), (by omega), rfl⟩ dX6_placeOf_21
  exact HL1 ((1297 - 1) + 1 : Int).toNat 1 (by omega) (by omega) (by omega) (by omega) (by omega)
set_option maxHeartbeats 200000 in
theorem c_X6_sharedPlaces (x : Mm) (o : Int) (on : Nat) (ho : OrN o on) (p : Int) (h_p : fm_r p) (e0 : p ≤ 1296) : CnI YC yX6_sharedPlaces cX6_sharedPlaces 6 .int 2 47 (fun G => [vr G o, vi p]) x (fun z y' => (y' = x)) := by
  refine cn_I (by decide) (fun _ => Nat.le_of_ble_eq_true rfl) (fun G C h hq => ?_)
  have h : OK YC G C cX6_sharedPlaces RX6 6 (some .int) 2 47 := h
  show FW YC G C 6 x 0 [(0, vr G o), (1, vi p)] []
  have h_o := OrN_b ho
  refine fr_aload_n h rfl 0 rfl dX6_sharedPlaces_0 ?_
  refine fr_iconst h dX6_sharedPlaces_1 ?_
  refine fr_cvL h kX6 (Or_at (OrN_is ho)) wX6_codeAt lX6_51 (c_X6_codeAt x o on ho 1 (by omega)) rfl (by decide) (by decide) rfl (Nat.le_of_ble_eq_true rfl) dX6_sharedPlaces_2 (fun z2 x1 w3 p4 => ?_)
  have y5 := p4
  rw [y5]
  clear y5
  refine fr_lstore_n (L' := [(0, vr G o), (1, vi p), (2, vj z2)]) h rfl dX6_sharedPlaces_5 (by decide) [1, 2, 0] rfl ?_
  refine fr_iconst h dX6_sharedPlaces_6 ?_
  refine fr_lload_n h rfl 2 rfl dX6_sharedPlaces_7 ?_
  refine fr_csI h wX2_lengthOf lX6_54 (c_X2_lengthOf x z2 (by omega)) rfl (by decide) (by decide) rfl (Nat.le_of_ble_eq_true rfl) dX6_sharedPlaces_8 (fun z7 x6 w8 p9 => ?_)
  obtain ⟨p10, p11, y12⟩ := p9
  rw [y12]
  clear y12
  refine fr_ishl h dX6_sharedPlaces_11 (fun z13 w14 q15 w16 => ?_)
  refine fr_iconst h dX6_sharedPlaces_12 ?_
  refine fr_isub h dX6_sharedPlaces_13 ?_
  refine fr_normi (fun z17 w18 q19 => ?_)
  have w20 : fm_r ((z13 - 1)) → z17 = (z13 - 1) := fun q => (iI_inj q w18 q19).symm
  refine fr_istore (L' := [(0, vr G o), (1, vi p), (2, vj z2), (4, vi z17)]) h dX6_sharedPlaces_14 (by decide) [1, 2, 3, 0] rfl ?_
  refine fr_iconst h dX6_sharedPlaces_16 ?_
  refine fr_istore (L' := [(0, vr G o), (1, vi p), (2, vj z2), (4, vi z17), (5, vi 2)]) h dX6_sharedPlaces_17 (by decide) [1, 2, 3, 4, 0] rfl ?_
  have HL21 : ∀ (n21 : Nat) (l4_21 l5_21 : Int), fm_r l4_21 → fm_r l5_21 → 2 ≤ l5_21 → l5_21 ≤ 1297 → 2 ≤ l5_21 → (1297 - l5_21) < n21 → FW YC G C 6 x 19 [(0, vr G o), (1, vi p), (2, vj z2), (4, vi l4_21), (5, vi l5_21)] [] := by
    intro n21
    induction n21 with
    | zero =>
      intro l4_21 l5_21 g21_0 g21_1 g21_2 g21_3 g21_4 g21_5
      exfalso; omega
    | succ n21 ih21 =>
      intro l4_21 l5_21 g21_0 g21_1 g21_2 g21_3 g21_4 g21_5
      refine fr_iload h 4 rfl dX6_sharedPlaces_19 ?_
      refine fr_iload_n h rfl 1 rfl dX6_sharedPlaces_21 ?_
      refine fr_icmp_gt (tgt := 48) h dX6_sharedPlaces_22 (by decide) (by omega) (by omega) (fun c22 => ?_) (fun c22 => ?_)
      ·
        refine fr_iload h 3 rfl dX6_sharedPlaces_48 ?_
        exact fr_iret h hq (by omega) rfl dX6_sharedPlaces_50
      ·
        refine fr_iload h 3 rfl dX6_sharedPlaces_25 ?_
        refine fr_lload_n h rfl 2 rfl dX6_sharedPlaces_27 ?_
        refine fr_aload_n h rfl 0 rfl dX6_sharedPlaces_28 ?_
        refine fr_iload h 4 rfl dX6_sharedPlaces_29 ?_
        refine fr_cvL h kX6 (Or_at (OrN_is ho)) wX6_codeAt lX6_51 (c_X6_codeAt x o on ho l5_21 (by omega)) rfl (by decide) (by decide) rfl (Nat.le_of_ble_eq_true rfl) dX6_sharedPlaces_31 (fun z24 x23 w25 p26 => ?_)
        have y27 := p26
        rw [y27]
        clear y27
        refine fr_csI h wX2_differences lX6_59 (c_X2_differences x z2 z24 (by omega) (by omega)) rfl (by decide) (by decide) rfl (Nat.le_of_ble_eq_true rfl) dX6_sharedPlaces_34 (fun z29 x28 w30 p31 => ?_)
        have y32 := p31
        rw [y32]
        clear y32
        refine fr_iconst h dX6_sharedPlaces_37 ?_
        refine fr_ixor h dX6_sharedPlaces_38 (fun z33 w34 q35 w36 => ?_)
        refine fr_iand h dX6_sharedPlaces_39 (fun z37 w38 q39 w40 => ?_)
        refine fr_istore (L' := [(0, vr G o), (1, vi p), (2, vj z2), (4, vi z37), (5, vi l5_21)]) h dX6_sharedPlaces_40 (by decide) [1, 2, 3, 0, 4] rfl ?_
        refine fr_iinc (j := 4) (L' := [(0, vr G o), (1, vi p), (2, vj z2), (4, vi z37), (5, vi (l5_21 + 1))]) h dX6_sharedPlaces_42 rfl (by decide) [1, 2, 3, 4, 0] rfl ?_
        refine fr_goto (tgt := 19) h dX6_sharedPlaces_45 (by decide) ?_
        exact ih21 z37 (l5_21 + 1) (by omega) (by omega) (by omega) (by omega) (by omega) (by omega)
  exact HL21 ((1297 - 2) + 1 : Int).toNat z17 2 (by omega) (by omega) (by omega) (by omega) (by omega) (by omega)
