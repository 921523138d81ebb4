set_option maxHeartbeats 200000 in
theorem f_bitCountM (x : Mm) (p : Int) (h_p : fm_r p) : CnI YM yJ6_bitCount_0f7a4 cJ6_bitCount_0f7a4 1 .int 0 0 (fun G => [vi p]) x (fun z y' => (p = 0 → z = 0) ∧ (y' = x)) := by
  refine cn_I (by decide) (fun _ => Nat.le_of_ble_eq_true rfl) (fun G C h hq => ?_)
  have h : OK YM G C cJ6_bitCount_0f7a4 RJ6 1 (some .int) 0 0 := h
  show FW YM G C 1 x 0 [(0, vi p)] []
  by_cases hp : p = 0
  ·
    refine fr_iload_n h rfl 0 rfl dJ6_bitCount_0f7a4_0 ?_
    refine fr_iload_n h rfl 0 rfl dJ6_bitCount_0f7a4_1 ?_
    refine fr_iconst h dJ6_bitCount_0f7a4_2 ?_
    refine fr_iushr h dJ6_bitCount_0f7a4_3 (fun z1 w2 q3 w4 => ?_)
    have w5 := z_iushr w2 q3 (by omega)
    refine fr_ldcw (z := 1431655765) h (by exact tb_4 (i := 0) (by decide +kernel) (by decide +kernel)) rfl dJ6_bitCount_0f7a4_4 ?_
    refine fr_iand h dJ6_bitCount_0f7a4_7 (fun z6 w7 q8 w9 => ?_)
    have w10 := w9 (by omega) (by omega)
    have w11 := z_iand w7 q8 (by omega)
    refine fr_isub h dJ6_bitCount_0f7a4_8 ?_
    refine fr_normi (fun z12 w13 q14 => ?_)
    have w15 : z12 = (p - z6) := (iI_inj (show fm_r ((p - z6)) by omega) w13 q14).symm
    refine fr_istore_n (L' := [(0, vi z12)]) h rfl dJ6_bitCount_0f7a4_9 (by decide) [0] rfl ?_
    refine fr_iload_n h rfl 0 rfl dJ6_bitCount_0f7a4_10 ?_
    refine fr_ldcw (z := 858993459) h (by exact tb_4 (i := 1) (by decide +kernel) (by decide +kernel)) rfl dJ6_bitCount_0f7a4_11 ?_
    refine fr_iand h dJ6_bitCount_0f7a4_14 (fun z16 w17 q18 w19 => ?_)
    have w20 := w19 (by omega) (by omega)
    have w21 := z_iand w17 q18 (by omega)
    refine fr_iload_n h rfl 0 rfl dJ6_bitCount_0f7a4_15 ?_
    refine fr_iconst h dJ6_bitCount_0f7a4_16 ?_
    refine fr_iushr h dJ6_bitCount_0f7a4_17 (fun z22 w23 q24 w25 => ?_)
    have w26 := z_iushr w23 q24 (by omega)
    refine fr_ldcw (z := 858993459) h (by exact tb_4 (i := 1) (by decide +kernel) (by decide +kernel)) rfl dJ6_bitCount_0f7a4_18 ?_
    refine fr_iand h dJ6_bitCount_0f7a4_21 (fun z27 w28 q29 w30 => ?_)
    have w31 := w30 (by omega) (by omega)
    have w32 := z_iand w28 q29 (by omega)
    refine fr_iadd h dJ6_bitCount_0f7a4_22 ?_
    refine fr_istore_n (L' := [(0, vi (z16 + z27))]) h rfl dJ6_bitCount_0f7a4_23 (by decide) [0] rfl ?_
    refine fr_iload_n h rfl 0 rfl dJ6_bitCount_0f7a4_24 ?_
    refine fr_iload_n h rfl 0 rfl dJ6_bitCount_0f7a4_25 ?_
    refine fr_iconst h dJ6_bitCount_0f7a4_26 ?_
    refine fr_iushr h dJ6_bitCount_0f7a4_27 (fun z33 w34 q35 w36 => ?_)
    have w37 := z_iushr w34 q35 (by omega)
    refine fr_iadd h dJ6_bitCount_0f7a4_28 ?_
    refine fr_normi (fun z38 w39 q40 => ?_)
    have w41 : z38 = ((z16 + z27) + z33) := (iI_inj (show fm_r (((z16 + z27) + z33)) by omega) w39 q40).symm
    refine fr_ldcw (z := 252645135) h (by exact tb_4 (i := 2) (by decide +kernel) (by decide +kernel)) rfl dJ6_bitCount_0f7a4_29 ?_
    refine fr_iand h dJ6_bitCount_0f7a4_32 (fun z42 w43 q44 w45 => ?_)
    have w46 := w45 (by omega) (by omega)
    have w47 := z_iand w43 q44 (by omega)
    refine fr_istore_n (L' := [(0, vi z42)]) h rfl dJ6_bitCount_0f7a4_33 (by decide) [0] rfl ?_
    refine fr_iload_n h rfl 0 rfl dJ6_bitCount_0f7a4_34 ?_
    refine fr_iload_n h rfl 0 rfl dJ6_bitCount_0f7a4_35 ?_
    refine fr_bipush h rfl dJ6_bitCount_0f7a4_36 ?_
    refine fr_iushr h dJ6_bitCount_0f7a4_38 (fun z48 w49 q50 w51 => ?_)
    have w52 := z_iushr w49 q50 (by omega)
    refine fr_iadd h dJ6_bitCount_0f7a4_39 ?_
    refine fr_normi (fun z53 w54 q55 => ?_)
    have w56 : z53 = (z42 + z48) := (iI_inj (show fm_r ((z42 + z48)) by omega) w54 q55).symm
    refine fr_istore_n (L' := [(0, vi z53)]) h rfl dJ6_bitCount_0f7a4_40 (by decide) [0] rfl ?_
    refine fr_iload_n h rfl 0 rfl dJ6_bitCount_0f7a4_41 ?_
    refine fr_iload_n h rfl 0 rfl dJ6_bitCount_0f7a4_42 ?_
    refine fr_bipush h rfl dJ6_bitCount_0f7a4_43 ?_
    refine fr_iushr h dJ6_bitCount_0f7a4_45 (fun z57 w58 q59 w60 => ?_)
    have w61 := w60 rfl
    have w62 := z_iushr w58 q59 (by omega)
    refine fr_iadd h dJ6_bitCount_0f7a4_46 ?_
    refine fr_normi (fun z63 w64 q65 => ?_)
    have w66 : z63 = (z53 + z57) := (iI_inj (show fm_r ((z53 + z57)) by omega) w64 q65).symm
    refine fr_istore_n (L' := [(0, vi z63)]) h rfl dJ6_bitCount_0f7a4_47 (by decide) [0] rfl ?_
    refine fr_iload_n h rfl 0 rfl dJ6_bitCount_0f7a4_48 ?_
    refine fr_bipush h rfl dJ6_bitCount_0f7a4_49 ?_
    refine fr_iand h dJ6_bitCount_0f7a4_51 (fun z67 w68 q69 w70 => ?_)
    have w71 := w70 (by omega) (by omega)
    have w72 := z_iand w68 q69 (by omega)
    exact fr_iret h hq (by omega) ⟨(by omega), rfl⟩ dJ6_bitCount_0f7a4_52
  ·
    refine fr_iload_n h rfl 0 rfl dJ6_bitCount_0f7a4_0 ?_
    refine fr_iload_n h rfl 0 rfl dJ6_bitCount_0f7a4_1 ?_
    refine fr_iconst h dJ6_bitCount_0f7a4_2 ?_
    refine fr_iushr h dJ6_bitCount_0f7a4_3 (fun z73 w74 q75 w76 => ?_)
    refine fr_ldcw (z := 1431655765) h (by exact tb_4 (i := 0) (by decide +kernel) (by decide +kernel)) rfl dJ6_bitCount_0f7a4_4 ?_
    refine fr_iand h dJ6_bitCount_0f7a4_7 (fun z77 w78 q79 w80 => ?_)
    have w81 := w80 (by omega) (by omega)
    refine fr_isub h dJ6_bitCount_0f7a4_8 ?_
    refine fr_normi (fun z82 w83 q84 => ?_)
    have w85 : fm_r ((p - z77)) → z82 = (p - z77) := fun q => (iI_inj q w83 q84).symm
    refine fr_istore_n (L' := [(0, vi z82)]) h rfl dJ6_bitCount_0f7a4_9 (by decide) [0] rfl ?_
    refine fr_iload_n h rfl 0 rfl dJ6_bitCount_0f7a4_10 ?_
    refine fr_ldcw (z := 858993459) h (by exact tb_4 (i := 1) (by decide +kernel) (by decide +kernel)) rfl dJ6_bitCount_0f7a4_11 ?_
    refine fr_iand h dJ6_bitCount_0f7a4_14 (fun z86 w87 q88 w89 => ?_)
    have w90 := w89 (by omega) (by omega)
    refine fr_iload_n h rfl 0 rfl dJ6_bitCount_0f7a4_15 ?_
    refine fr_iconst h dJ6_bitCount_0f7a4_16 ?_
    refine fr_iushr h dJ6_bitCount_0f7a4_17 (fun z91 w92 q93 w94 => ?_)
    refine fr_ldcw (z := 858993459) h (by exact tb_4 (i := 1) (by decide +kernel) (by decide +kernel)) rfl dJ6_bitCount_0f7a4_18 ?_
    refine fr_iand h dJ6_bitCount_0f7a4_21 (fun z95 w96 q97 w98 => ?_)
    have w99 := w98 (by omega) (by omega)
    refine fr_iadd h dJ6_bitCount_0f7a4_22 ?_
    refine fr_istore_n (L' := [(0, vi (z86 + z95))]) h rfl dJ6_bitCount_0f7a4_23 (by decide) [0] rfl ?_
    refine fr_iload_n h rfl 0 rfl dJ6_bitCount_0f7a4_24 ?_
    refine fr_iload_n h rfl 0 rfl dJ6_bitCount_0f7a4_25 ?_
    refine fr_iconst h dJ6_bitCount_0f7a4_26 ?_
    refine fr_iushr h dJ6_bitCount_0f7a4_27 (fun z100 w101 q102 w103 => ?_)
    refine fr_iadd h dJ6_bitCount_0f7a4_28 ?_
    refine fr_normi (fun z104 w105 q106 => ?_)
    have w107 : fm_r (((z86 + z95) + z100)) → z104 = ((z86 + z95) + z100) := fun q => (iI_inj q w105 q106).symm
    refine fr_ldcw (z := 252645135) h (by exact tb_4 (i := 2) (by decide +kernel) (by decide +kernel)) rfl dJ6_bitCount_0f7a4_29 ?_
    refine fr_iand h dJ6_bitCount_0f7a4_32 (fun z108 w109 q110 w111 => ?_)
    have w112 := w111 (by omega) (by omega)
    refine fr_istore_n (L' := [(0, vi z108)]) h rfl dJ6_bitCount_0f7a4_33 (by decide) [0] rfl ?_
    refine fr_iload_n h rfl 0 rfl dJ6_bitCount_0f7a4_34 ?_
    refine fr_iload_n h rfl 0 rfl dJ6_bitCount_0f7a4_35 ?_
    refine fr_bipush h rfl dJ6_bitCount_0f7a4_36 ?_
    refine fr_iushr h dJ6_bitCount_0f7a4_38 (fun z113 w114 q115 w116 => ?_)
    refine fr_iadd h dJ6_bitCount_0f7a4_39 ?_
    refine fr_normi (fun z117 w118 q119 => ?_)
    have w120 : fm_r ((z108 + z113)) → z117 = (z108 + z113) := fun q => (iI_inj q w118 q119).symm
    refine fr_istore_n (L' := [(0, vi z117)]) h rfl dJ6_bitCount_0f7a4_40 (by decide) [0] rfl ?_
    refine fr_iload_n h rfl 0 rfl dJ6_bitCount_0f7a4_41 ?_
    refine fr_iload_n h rfl 0 rfl dJ6_bitCount_0f7a4_42 ?_
    refine fr_bipush h rfl dJ6_bitCount_0f7a4_43 ?_
    refine fr_iushr h dJ6_bitCount_0f7a4_45 (fun z121 w122 q123 w124 => ?_)
    have w125 := w124 rfl
    refine fr_iadd h dJ6_bitCount_0f7a4_46 ?_
    refine fr_normi (fun z126 w127 q128 => ?_)
    have w129 : fm_r ((z117 + z121)) → z126 = (z117 + z121) := fun q => (iI_inj q w127 q128).symm
    refine fr_istore_n (L' := [(0, vi z126)]) h rfl dJ6_bitCount_0f7a4_47 (by decide) [0] rfl ?_
    refine fr_iload_n h rfl 0 rfl dJ6_bitCount_0f7a4_48 ?_
    refine fr_bipush h rfl dJ6_bitCount_0f7a4_49 ?_
    refine fr_iand h dJ6_bitCount_0f7a4_51 (fun z130 w131 q132 w133 => ?_)
    have w134 := w133 (by omega) (by omega)
    exact fr_iret h hq (by omega) ⟨(fun q => absurd q hp), rfl⟩ dJ6_bitCount_0f7a4_52
set_option maxHeartbeats 200000 in
theorem f_X12_edgesOf (x : Mm) (b : Int) (hb : isSA b) (u : Int) (v : Int) (e0 : ∀ i j : Int, 0 ≤ i → i < j → j < 7 → ¬ (i = u ∧ j = v) → x b (28 + 7 * i + j) = 0) (e1 : u = 7 ∨ (0 ≤ u ∧ u < v ∧ v < 7 ∧ 0 < x b (28 + 7 * u + v))) : CnI YM yX12_edgesOf cX12_edgesOf 4 .int 1 22 (fun G => [vr G b]) x (fun z y' => (u = 7 → z = 0) ∧ (u < 7 → z = 1) ∧ (y' = x)) := by
  refine cn_I (by decide) (fun _ => Nat.le_of_ble_eq_true rfl) (fun G C h hq => ?_)
  have h : OK YM G C cX12_edgesOf RX12 4 (some .int) 1 22 := h
  show FW YM G C 4 x 0 [(0, vr G b)] []
  have h_b := SA_b hb
  have hs_b : b = 1 ∨ b = 9 ∨ b = 10 := hb
  refine fr_iconst h dX12_edgesOf_0 ?_
  refine fr_istore_n (L' := [(0, vr G b), (1, vi 0)]) h rfl dX12_edgesOf_1 (by decide) [1, 0] rfl ?_
  refine fr_iconst h dX12_edgesOf_2 ?_
  refine fr_istore_n (L' := [(0, vr G b), (1, vi 0), (2, vi 0)]) h rfl dX12_edgesOf_3 (by decide) [1, 2, 0] rfl ?_
  have HL1 : ∀ (n1 : Nat) (l1_1 l2_1 : Int), fm_r l1_1 → 0 ≤ l1_1 → l1_1 ≤ 49 → fm_r l2_1 → 0 ≤ l2_1 → l2_1 ≤ 7 → ((l2_1 ≤ u ∧ l1_1 = 0) ∨ (u < l2_1 ∧ l1_1 = 1)) → (7 - l2_1) < n1 → FW YM G C 4 x 4 [(0, vr G b), (1, vi l1_1), (2, vi l2_1)] [] := by
    intro n1
    induction n1 with
    | zero =>
      intro l1_1 l2_1 g1_0 g1_1 g1_2 g1_3 g1_4 g1_5 g1_6 g1_7
      exfalso; omega
    | succ n1 ih1 =>
      intro l1_1 l2_1 g1_0 g1_1 g1_2 g1_3 g1_4 g1_5 g1_6 g1_7
      refine fr_iload_n h rfl 2 rfl dX12_edgesOf_4 ?_
      refine fr_bipush h rfl dX12_edgesOf_5 ?_
      refine fr_icmp_ge (tgt := 49) h dX12_edgesOf_7 (by decide) (by omega) (by omega) (fun c2 => ?_) (fun c2 => ?_)
      ·
        refine fr_iload_n h rfl 1 rfl dX12_edgesOf_49 ?_
        exact fr_iret h hq (by omega) ⟨(by omega), (by omega), rfl⟩ dX12_edgesOf_50
      ·
        refine fr_iload_n h rfl 2 rfl dX12_edgesOf_10 ?_
        refine fr_iconst h dX12_edgesOf_11 ?_
        refine fr_iadd h dX12_edgesOf_12 ?_
        refine fr_istore_n (L' := [(0, vr G b), (1, vi l1_1), (2, vi l2_1), (3, vi (l2_1 + 1))]) h rfl dX12_edgesOf_13 (by decide) [1, 2, 3, 0] rfl ?_
        have HL3 : ∀ (n3 : Nat) (l1_3 l3_3 : Int), fm_r l1_3 → 0 ≤ l1_3 → l1_3 ≤ 49 → fm_r l3_3 → 1 ≤ l3_3 → l3_3 ≤ 7 → ((l2_1 < u ∧ l1_3 = 0) ∨ (l2_1 = u ∧ l3_3 ≤ v ∧ l1_3 = 0) ∨ (l2_1 = u ∧ v < l3_3 ∧ l1_3 = 1) ∨ (u < l2_1 ∧ l1_3 = 1)) → l2_1 < l3_3 → (7 - l3_3) < n3 → FW YM G C 4 x 14 [(0, vr G b), (1, vi l1_3), (2, vi l2_1), (3, vi l3_3)] [] := by
          intro n3
          induction n3 with
          | zero =>
            intro l1_3 l3_3 g3_0 g3_1 g3_2 g3_3 g3_4 g3_5 g3_6 g3_7 g3_8
            exfalso; omega
          | succ n3 ih3 =>
            intro l1_3 l3_3 g3_0 g3_1 g3_2 g3_3 g3_4 g3_5 g3_6 g3_7 g3_8
            refine fr_iload_n h rfl 3 rfl dX12_edgesOf_14 ?_
            refine fr_bipush h rfl dX12_edgesOf_15 ?_
            refine fr_icmp_ge (tgt := 43) h dX12_edgesOf_17 (by decide) (by omega) (by omega) (fun c4 => ?_) (fun c4 => ?_)
            ·
              refine fr_iinc (j := 2) (L' := [(0, vr G b), (1, vi l1_3), (2, vi (l2_1 + 1)), (3, vi l3_3)]) h dX12_edgesOf_43 rfl (by decide) [1, 2, 0, 3] rfl ?_
              refine fr_goto (tgt := 4) h dX12_edgesOf_46 (by decide) ?_
              refine fr_sub (L' := [(0, vr G b), (1, vi l1_3), (2, vi (l2_1 + 1))]) [0, 1, 2] rfl ?_
              exact ih1 l1_3 (l2_1 + 1) (by omega) (by omega) (by omega) (by omega) (by omega) (by omega) (by omega) (by omega)
            ·
              refine fr_iload_n h rfl 1 rfl dX12_edgesOf_20 ?_
              refine fr_aload_n h rfl 0 rfl dX12_edgesOf_21 ?_
              refine fr_iload_n h rfl 2 rfl dX12_edgesOf_22 ?_
              refine fr_iload_n h rfl 3 rfl dX12_edgesOf_23 ?_
              refine fr_csI h wX12_weightOf lX12_105 (c_X12_weightOf x b hb l2_1 l3_3 (by omega) (by omega) (by omega) (by omega) (by omega) (by omega)) rfl (by decide) (by decide) rfl (Nat.le_of_ble_eq_true rfl) dX12_edgesOf_24 (fun z6 x5 w7 p8 => ?_)
              obtain ⟨p9, p10, p11, y12⟩ := p8
              rw [y12]
              clear y12
              have hz : ¬ (l2_1 = u ∧ l3_3 = v) → x b (28 + 7 * l2_1 + l3_3) = 0 := fun k => e0 l2_1 l3_3 (by omega) (by omega) (by omega) k
              have hq9 : l2_1 = u ∧ l3_3 = v → 0 < x b (28 + 7 * l2_1 + l3_3) := by rintro ⟨k, k2⟩; rw [k, k2]; omega
              refine fr_if_le (tgt := 34) h dX12_edgesOf_27 (by decide) (by omega) (fun c13 => ?_) (fun c13 => ?_)
              ·
                refine fr_iconst h dX12_edgesOf_34 ?_
                refine fr_iadd h dX12_edgesOf_35 ?_
                refine fr_istore_n (L' := [(0, vr G b), (1, vi (l1_3 + 0)), (2, vi l2_1), (3, vi l3_3)]) h rfl dX12_edgesOf_36 (by decide) [1, 0, 2, 3] rfl ?_
                refine fr_iinc (j := 3) (L' := [(0, vr G b), (1, vi (l1_3 + 0)), (2, vi l2_1), (3, vi (l3_3 + 1))]) h dX12_edgesOf_37 rfl (by decide) [1, 2, 3, 0] rfl ?_
                refine fr_goto (tgt := 14) h dX12_edgesOf_40 (by decide) ?_
                exact ih3 (l1_3 + 0) (l3_3 + 1) (by omega) (by omega) (by omega) (by omega) (by omega) (by omega) (by omega) (by omega) (by omega)
              ·
                refine fr_iconst h dX12_edgesOf_30 ?_
                refine fr_goto (tgt := 35) h dX12_edgesOf_31 (by decide) ?_
                refine fr_iadd h dX12_edgesOf_35 ?_
                refine fr_istore_n (L' := [(0, vr G b), (1, vi (l1_3 + 1)), (2, vi l2_1), (3, vi l3_3)]) h rfl dX12_edgesOf_36 (by decide) [1, 0, 2, 3] rfl ?_
                refine fr_iinc (j := 3) (L' := [(0, vr G b), (1, vi (l1_3 + 1)), (2, vi l2_1), (3, vi (l3_3 + 1))]) h dX12_edgesOf_37 rfl (by decide) [1, 2, 3, 0] rfl ?_
                refine fr_goto (tgt := 14) h dX12_edgesOf_40 (by decide) ?_
                exact ih3 (l1_3 + 1) (l3_3 + 1) (by omega) (by omega) (by omega) (by omega) (by omega) (by omega) (by omega) (by omega) (by omega)
        exact HL3 ((7 - (l2_1 + 1)) + 1 : Int).toNat l1_1 (l2_1 + 1) (by omega) (by omega) (by omega) (by omega) (by omega) (by omega) (by omega) (by omega) (by omega)
  exact HL1 ((7 - 0) + 1 : Int).toNat 0 0 (by omega) (by omega) (by omega) (by omega) (by omega) (by omega) (by omega) (by omega)
set_option maxHeartbeats 200000 in
theorem f_X12_joinedOf (x : Mm) (b : Int) (hb : isSA b) (e0 : ∀ j : Int, 24 ≤ j → j ≤ 102 → x b j = 0) : CnI YM yX12_joinedOf cX12_joinedOf 4 .int 1 22 (fun G => [vr G b]) x (fun z y' => (z = 0) ∧ (y' = x)) := by
  refine cn_I (by decide) (fun _ => Nat.le_of_ble_eq_true rfl) (fun G C h hq => ?_)
  have h : OK YM G C cX12_joinedOf RX12 4 (some .int) 1 22 := h
  show FW YM G C 4 x 0 [(0, vr G b)] []
  have h_b := SA_b hb
  have hs_b : b = 1 ∨ b = 9 ∨ b = 10 := hb
  refine fr_iconst h dX12_joinedOf_0 ?_
  refine fr_istore_n (L' := [(0, vr G b), (1, vi 0)]) h rfl dX12_joinedOf_1 (by decide) [1, 0] rfl ?_
  refine fr_iconst h dX12_joinedOf_2 ?_
  refine fr_istore_n (L' := [(0, vr G b), (1, vi 0), (2, vi 0)]) h rfl dX12_joinedOf_3 (by decide) [1, 2, 0] rfl ?_
  have HL1 : ∀ (n1 : Nat) (l1_1 l2_1 : Int), fm_r l1_1 → 0 ≤ l1_1 → l1_1 ≤ 127 → fm_r l2_1 → 0 ≤ l2_1 → l2_1 ≤ 7 → l1_1 = 0 → (7 - l2_1) < n1 → FW YM G C 4 x 4 [(0, vr G b), (1, vi l1_1), (2, vi l2_1)] [] := by
    intro n1
    induction n1 with
    | zero =>
      intro l1_1 l2_1 g1_0 g1_1 g1_2 g1_3 g1_4 g1_5 g1_6 g1_7
      exfalso; omega
    | succ n1 ih1 =>
      intro l1_1 l2_1 g1_0 g1_1 g1_2 g1_3 g1_4 g1_5 g1_6 g1_7
      refine fr_iload_n h rfl 2 rfl dX12_joinedOf_4 ?_
      refine fr_bipush h rfl dX12_joinedOf_5 ?_
      refine fr_icmp_ge (tgt := 49) h dX12_joinedOf_7 (by decide) (by omega) (by omega) (fun c2 => ?_) (fun c2 => ?_)
      ·
        refine fr_iload_n h rfl 1 rfl dX12_joinedOf_49 ?_
        exact fr_iret h hq (by omega) ⟨(by omega), rfl⟩ dX12_joinedOf_50
      ·
        refine fr_iconst h dX12_joinedOf_10 ?_
        refine fr_istore_n (L' := [(0, vr G b), (1, vi l1_1), (2, vi l2_1), (3, vi 0)]) h rfl dX12_joinedOf_11 (by decide) [1, 2, 3, 0] rfl ?_
        have HL3 : ∀ (n3 : Nat) (l1_3 l3_3 : Int), fm_r l1_3 → 0 ≤ l1_3 → l1_3 ≤ 127 → fm_r l3_3 → 0 ≤ l3_3 → l3_3 ≤ 7 → l1_3 = 0 → (7 - l3_3) < n3 → FW YM G C 4 x 12 [(0, vr G b), (1, vi l1_3), (2, vi l2_1), (3, vi l3_3)] [] := by
          intro n3
          induction n3 with
          | zero =>
            intro l1_3 l3_3 g3_0 g3_1 g3_2 g3_3 g3_4 g3_5 g3_6 g3_7
            exfalso; omega
          | succ n3 ih3 =>
            intro l1_3 l3_3 g3_0 g3_1 g3_2 g3_3 g3_4 g3_5 g3_6 g3_7
            refine fr_iload_n h rfl 3 rfl dX12_joinedOf_12 ?_
            refine fr_bipush h rfl dX12_joinedOf_13 ?_
            refine fr_icmp_ge (tgt := 43) h dX12_joinedOf_15 (by decide) (by omega) (by omega) (fun c4 => ?_) (fun c4 => ?_)
            ·
              refine fr_iinc (j := 2) (L' := [(0, vr G b), (1, vi l1_3), (2, vi (l2_1 + 1)), (3, vi l3_3)]) h dX12_joinedOf_43 rfl (by decide) [1, 2, 0, 3] rfl ?_
              refine fr_goto (tgt := 4) h dX12_joinedOf_46 (by decide) ?_
              refine fr_sub (L' := [(0, vr G b), (1, vi l1_3), (2, vi (l2_1 + 1))]) [0, 1, 2] rfl ?_
              exact ih1 l1_3 (l2_1 + 1) (by omega) (by omega) (by omega) (by omega) (by omega) (by omega) (by omega) (by omega)
            ·
              refine fr_iload_n h rfl 1 rfl dX12_joinedOf_18 ?_
              refine fr_aload_n h rfl 0 rfl dX12_joinedOf_19 ?_
              refine fr_iload_n h rfl 2 rfl dX12_joinedOf_20 ?_
              refine fr_iload_n h rfl 3 rfl dX12_joinedOf_21 ?_
              refine fr_csI h wX12_weightOf lX12_105 (c_X12_weightOf x b hb l2_1 l3_3 (by omega) (by omega) (by omega) (by omega) (by omega) (by omega)) rfl (by decide) (by decide) rfl (Nat.le_of_ble_eq_true rfl) dX12_joinedOf_22 (fun z6 x5 w7 p8 => ?_)
              obtain ⟨p9, p10, p11, y12⟩ := p8
              rw [y12]
              clear y12
              have hz := e0 (28 + 7 * l2_1 + l3_3) (by omega) (by omega)
              refine fr_if_le (tgt := 34) h dX12_joinedOf_25 (by decide) (by omega) (fun c13 => ?_) (fun c13 => ?_)
              ·
                refine fr_iconst h dX12_joinedOf_34 ?_
                refine fr_ior h dX12_joinedOf_35 (fun z14 w15 q16 w17 => ?_)
                have w18 := or0 w15 (by omega) q16
                refine fr_istore_n (L' := [(0, vr G b), (1, vi z14), (2, vi l2_1), (3, vi l3_3)]) h rfl dX12_joinedOf_36 (by decide) [1, 0, 2, 3] rfl ?_
                refine fr_iinc (j := 3) (L' := [(0, vr G b), (1, vi z14), (2, vi l2_1), (3, vi (l3_3 + 1))]) h dX12_joinedOf_37 rfl (by decide) [1, 2, 3, 0] rfl ?_
                refine fr_goto (tgt := 12) h dX12_joinedOf_40 (by decide) ?_
                exact ih3 z14 (l3_3 + 1) (by omega) (by omega) (by omega) (by omega) (by omega) (by omega) (by omega) (by omega)
              ·
                exfalso; omega
        exact HL3 ((7 - 0) + 1 : Int).toNat l1_1 0 (by omega) (by omega) (by omega) (by omega) (by omega) (by omega) (by omega) (by omega)
  exact HL1 ((7 - 0) + 1 : Int).toNat 0 0 (by omega) (by omega) (by omega) (by omega) (by omega) (by omega) (by omega) (by omega)
set_option maxHeartbeats 200000 in
theorem f_X12_refusesPut (x : Mm) (b : Int) (hb : isSA b) (p : Int) (v : Int) (h_p : fm_r p) (h_v : fm_r v) (e0 : ∀ j : Int, 24 ≤ j → j ≤ 102 → x b j = 0) : CnI YM yX12_refusesPut cX12_refusesPut 3 .int 2 42 (fun G => [vr G b, vi p, vi v]) x (fun z y' => ((0 ≤ p ∧ p < 4 ∧ 0 ≤ v ∧ v ≤ 99) → z = 0) ∧ (¬ (0 ≤ p ∧ p < 4 ∧ 0 ≤ v ∧ v ≤ 99) → z = (-1)) ∧ (y' = x)) := by
  refine cn_I (by decide) (fun _ => Nat.le_of_ble_eq_true rfl) (fun G C h hq => ?_)
  have h : OK YM G C cX12_refusesPut RX12 3 (some .int) 2 42 := h
  show FW YM G C 3 x 0 [(0, vr G b), (1, vi p), (2, vi v)] []
  have h_b := SA_b hb
  have hs_b : b = 1 ∨ b = 9 ∨ b = 10 := hb
  refine fr_iload_n h rfl 1 rfl dX12_refusesPut_0 ?_
  refine fr_csI h wX12_isList lX12_161 (c_X12_isList x p (by omega)) rfl (by decide) (by decide) rfl (Nat.le_of_ble_eq_true rfl) dX12_refusesPut_1 (fun z2 x1 w3 p4 => ?_)
  obtain ⟨p5, p6, y7⟩ := p4
  rw [y7]
  clear y7
  refine fr_if_eq (tgt := 17) h dX12_refusesPut_4 (by decide) (by omega) (fun c8 => ?_) (fun c8 => ?_)
  ·
    refine fr_iconst h dX12_refusesPut_17 ?_
    exact fr_iret h hq (by omega) ⟨(by omega), (by omega), rfl⟩ dX12_refusesPut_18
  ·
    refine fr_iload_n h rfl 2 rfl dX12_refusesPut_7 ?_
    refine fr_iconst h dX12_refusesPut_8 ?_
    refine fr_bipush h rfl dX12_refusesPut_9 ?_
    refine fr_csI h wX12_in lX12_101 (c_X12_in x v 0 99 (by omega) (by omega) (by omega)) rfl (by decide) (by decide) rfl (Nat.le_of_ble_eq_true rfl) dX12_refusesPut_11 (fun z10 x9 w11 p12 => ?_)
    obtain ⟨p13, p14, y15⟩ := p12
    rw [y15]
    clear y15
    refine fr_if_ne (tgt := 19) h dX12_refusesPut_14 (by decide) (by omega) (fun c16 => ?_) (fun c16 => ?_)
    ·
      refine fr_aload_n h rfl 0 rfl dX12_refusesPut_19 ?_
      refine fr_bipush h rfl dX12_refusesPut_20 ?_
      refine fr_iload_n h rfl 1 rfl dX12_refusesPut_22 ?_
      refine fr_iadd h dX12_refusesPut_23 ?_
      have hz := e0 (24 + p) (by omega) (by omega)
      refine fr_iald h (SA_a hb) (by omega) (by omega) ((SA_r hb (24 + p)).trans (sg_len (by omega) (by omega))) dX12_refusesPut_24 (fun z17 w18 w19 q20 => ?_)
      refine fr_bipush h rfl dX12_refusesPut_25 ?_
      refine fr_icmp_ne (tgt := 35) h dX12_refusesPut_27 (by decide) (by omega) (by omega) (fun c21 => ?_) (fun c21 => ?_)
      ·
        refine fr_iconst h dX12_refusesPut_35 ?_
        exact fr_iret h hq (by omega) ⟨(by omega), (by omega), rfl⟩ dX12_refusesPut_36
      ·
        exfalso; omega
    ·
      refine fr_iconst h dX12_refusesPut_17 ?_
      exact fr_iret h hq (by omega) ⟨(by omega), (by omega), rfl⟩ dX12_refusesPut_18
set_option maxHeartbeats 200000 in
theorem f_X12_goPut (x : Mm) (b : Int) (hb : isSA b) (p : Int) (v : Int) (h_p : fm_r p) (h_v : fm_r v) (e0 : 0 ≤ p) (e1 : p ≤ 3) (e2 : 0 ≤ v) (e3 : v ≤ 99) (e4 : x b (24 + p) = 0) : CnI YM yX12_goPut cX12_goPut 4 .int 0 0 (fun G => [vr G b, vi p, vi v]) x (fun z y' => (z = 0) ∧ (∀ a : Int, (a < b ∨ b < a) → y' a = x a)) := by
  refine cn_I (by decide) (fun _ => Nat.le_of_ble_eq_true rfl) (fun G C h hq => ?_)
  have h : OK YM G C cX12_goPut RX12 4 (some .int) 0 0 := h
  show FW YM G C 4 x 0 [(0, vr G b), (1, vi p), (2, vi v)] []
  have h_b := SA_b hb
  have hs_b : b = 1 ∨ b = 9 ∨ b = 10 := hb
  refine fr_aload_n h rfl 0 rfl dX12_goPut_0 ?_
  refine fr_bipush h rfl dX12_goPut_1 ?_
  refine fr_iload_n h rfl 1 rfl dX12_goPut_3 ?_
  refine fr_iadd h dX12_goPut_4 ?_
  refine fr_iald h (SA_a hb) (by omega) (by omega) ((SA_r hb (24 + p)).trans (sg_len (by omega) (by omega))) dX12_goPut_5 (fun z1 w2 w3 q4 => ?_)
  refine fr_istore_n (L' := [(0, vr G b), (1, vi p), (2, vi v), (3, vi z1)]) h rfl dX12_goPut_6 (by decide) [1, 2, 3, 0] rfl ?_
  refine fr_iload_n h rfl 3 rfl dX12_goPut_7 ?_
  refine fr_if_le (tgt := 49) h dX12_goPut_8 (by decide) (by omega) (fun c5 => ?_) (fun c5 => ?_)
  ·
    refine fr_aload_n h rfl 0 rfl dX12_goPut_49 ?_
    refine fr_bipush h rfl dX12_goPut_50 ?_
    refine fr_iload_n h rfl 1 rfl dX12_goPut_52 ?_
    refine fr_imul h dX12_goPut_53 ?_
    refine fr_iload_n h rfl 3 rfl dX12_goPut_54 ?_
    refine fr_iadd h dX12_goPut_55 ?_
    refine fr_iload_n h rfl 2 rfl dX12_goPut_56 ?_
    refine fr_iast h (SA_a hb) (by omega) (by omega) ((SA_r hb ((6 * p) + z1)).trans (sg_num (by omega) (by omega))) (by omega) (by omega) dX12_goPut_57 ?_
    refine fr_mem (fun x6 m7 => ?_)
    refine fr_aload_n h rfl 0 rfl dX12_goPut_58 ?_
    refine fr_bipush h rfl dX12_goPut_59 ?_
    refine fr_iload_n h rfl 1 rfl dX12_goPut_61 ?_
    refine fr_iadd h dX12_goPut_62 ?_
    refine fr_dup2_11 h rfl rfl dX12_goPut_63 ?_
    refine fr_iald h (SA_a hb) (by omega) (by omega) ((SA_r hb (24 + p)).trans (sg_len (by omega) (by omega))) dX12_goPut_64 (fun z8 w9 w10 q11 => ?_)
    have r12 := fm_rd_b (b := (24 + p)) m7
    refine fr_iconst h dX12_goPut_65 ?_
    refine fr_iadd h dX12_goPut_66 ?_
    refine fr_iast h (SA_a hb) (by omega) (by omega) ((SA_r hb (24 + p)).trans (sg_len (by omega) (by omega))) (by omega) (by omega) dX12_goPut_67 ?_
    refine fr_mem (fun x13 m14 => ?_)
    refine fr_iload_n h rfl 3 rfl dX12_goPut_68 ?_
    exact fr_iret h hq (by omega) ⟨(by omega), (fun a k0 => ((fm_up_row m14 (by omega)).trans (fm_up_row m7 (by omega))))⟩ dX12_goPut_69
  ·
    exfalso; omega
set_option maxHeartbeats 200000 in
theorem f_X12_canTake (x : Mm) (b : Int) (hb : isSA b) (p : Int) (w : Int) (h_p : fm_r p) (h_w : fm_r w) (e0 : ∀ j : Int, 24 ≤ j → j ≤ 102 → x b j = 0) : CnI YM yX12_canTake cX12_canTake 3 .boolean 2 42 (fun G => [vr G b, vi p, vi w]) x (fun z y' => (z = 0) ∧ (y' = x)) := by
  refine cn_I (by decide) (fun _ => Nat.le_of_ble_eq_true rfl) (fun G C h hq => ?_)
  have h : OK YM G C cX12_canTake RX12 3 (some .boolean) 2 42 := h
  show FW YM G C 3 x 0 [(0, vr G b), (1, vi p), (2, vi w)] []
  have h_b := SA_b hb
  have hs_b : b = 1 ∨ b = 9 ∨ b = 10 := hb
  refine fr_iload_n h rfl 1 rfl dX12_canTake_0 ?_
  refine fr_csI h wX12_isList lX12_161 (c_X12_isList x p (by omega)) rfl (by decide) (by decide) rfl (Nat.le_of_ble_eq_true rfl) dX12_canTake_1 (fun z2 x1 w3 p4 => ?_)
  obtain ⟨p5, p6, y7⟩ := p4
  rw [y7]
  clear y7
  refine fr_if_eq (tgt := 27) h dX12_canTake_4 (by decide) (by omega) (fun c8 => ?_) (fun c8 => ?_)
  ·
    refine fr_iconst h dX12_canTake_27 ?_
    exact fr_zret h rfl hq (by omega) ⟨(by omega), rfl⟩ dX12_canTake_28
  ·
    refine fr_iload_n h rfl 2 rfl dX12_canTake_7 ?_
    refine fr_iconst h dX12_canTake_8 ?_
    refine fr_aload_n h rfl 0 rfl dX12_canTake_9 ?_
    refine fr_bipush h rfl dX12_canTake_10 ?_
    refine fr_iload_n h rfl 1 rfl dX12_canTake_12 ?_
    refine fr_iadd h dX12_canTake_13 ?_
    have hz := e0 (24 + p) (by omega) (by omega)
    refine fr_iald h (SA_a hb) (by omega) (by omega) ((SA_r hb (24 + p)).trans (sg_len (by omega) (by omega))) dX12_canTake_14 (fun z9 w10 w11 q12 => ?_)
    refine fr_iconst h dX12_canTake_15 ?_
    refine fr_isub h dX12_canTake_16 ?_
    refine fr_csI h wX12_in lX12_101 (c_X12_in x w 0 (z9 - 1) (by omega) (by omega) (by omega)) rfl (by decide) (by decide) rfl (Nat.le_of_ble_eq_true rfl) dX12_canTake_17 (fun z14 x13 w15 p16 => ?_)
    obtain ⟨p17, p18, y19⟩ := p16
    rw [y19]
    clear y19
    refine fr_if_eq (tgt := 27) h dX12_canTake_20 (by decide) (by omega) (fun c20 => ?_) (fun c20 => ?_)
    ·
      refine fr_iconst h dX12_canTake_27 ?_
      exact fr_zret h rfl hq (by omega) ⟨(by omega), rfl⟩ dX12_canTake_28
    ·
      exfalso; omega
set_option maxHeartbeats 200000 in
theorem f_X12_refusesJoin (x : Mm) (b : Int) (hb : isSA b) (p : Int) (w : Int) (v : Int) (h_p : fm_r p) (h_w : fm_r w) (h_v : fm_r v) (e0 : ∀ j : Int, 24 ≤ j → j ≤ 102 → x b j = 0) : CnI YM yX12_refusesJoin cX12_refusesJoin 4 .int 2 45 (fun G => [vr G b, vi p, vi w, vi v]) x (fun z y' => (¬ (0 ≤ p ∧ p < 7 ∧ 0 ≤ w ∧ w < 7 ∧ p ≠ w ∧ 0 ≤ v ∧ v ≤ 99) → z = (-1)) ∧ ((0 ≤ p ∧ p < 7 ∧ 0 ≤ w ∧ w < 7 ∧ p ≠ w ∧ 0 ≤ v ∧ v ≤ 99) → v = 0 → z = (-2)) ∧ ((0 ≤ p ∧ p < 7 ∧ 0 ≤ w ∧ w < 7 ∧ p ≠ w ∧ 0 ≤ v ∧ v ≤ 99) → 1 ≤ v → z = 0) ∧ (y' = x)) := by
  refine cn_I (by decide) (fun _ => Nat.le_of_ble_eq_true rfl) (fun G C h hq => ?_)
  have h : OK YM G C cX12_refusesJoin RX12 4 (some .int) 2 45 := h
  show FW YM G C 4 x 0 [(0, vr G b), (1, vi p), (2, vi w), (3, vi v)] []
  have h_b := SA_b hb
  have hs_b : b = 1 ∨ b = 9 ∨ b = 10 := hb
  refine fr_iload_n h rfl 1 rfl dX12_refusesJoin_0 ?_
  refine fr_iconst h dX12_refusesJoin_1 ?_
  refine fr_bipush h rfl dX12_refusesJoin_2 ?_
  refine fr_csI h wX12_in lX12_101 (c_X12_in x p 0 6 (by omega) (by omega) (by omega)) rfl (by decide) (by decide) rfl (Nat.le_of_ble_eq_true rfl) dX12_refusesJoin_4 (fun z2 x1 w3 p4 => ?_)
  obtain ⟨p5, p6, y7⟩ := p4
  rw [y7]
  clear y7
  refine fr_if_eq (tgt := 35) h dX12_refusesJoin_7 (by decide) (by omega) (fun c8 => ?_) (fun c8 => ?_)
  ·
    refine fr_iconst h dX12_refusesJoin_35 ?_
    exact fr_iret h hq (by omega) ⟨(by omega), (by omega), (by omega), rfl⟩ dX12_refusesJoin_36
  ·
    refine fr_iload_n h rfl 2 rfl dX12_refusesJoin_10 ?_
    refine fr_iconst h dX12_refusesJoin_11 ?_
    refine fr_bipush h rfl dX12_refusesJoin_12 ?_
    refine fr_csI h wX12_in lX12_101 (c_X12_in x w 0 6 (by omega) (by omega) (by omega)) rfl (by decide) (by decide) rfl (Nat.le_of_ble_eq_true rfl) dX12_refusesJoin_14 (fun z10 x9 w11 p12 => ?_)
    obtain ⟨p13, p14, y15⟩ := p12
    rw [y15]
    clear y15
    refine fr_if_eq (tgt := 35) h dX12_refusesJoin_17 (by decide) (by omega) (fun c16 => ?_) (fun c16 => ?_)
    ·
      refine fr_iconst h dX12_refusesJoin_35 ?_
      exact fr_iret h hq (by omega) ⟨(by omega), (by omega), (by omega), rfl⟩ dX12_refusesJoin_36
    ·
      refine fr_iload_n h rfl 1 rfl dX12_refusesJoin_20 ?_
      refine fr_iload_n h rfl 2 rfl dX12_refusesJoin_21 ?_
      refine fr_icmp_eq (tgt := 35) h dX12_refusesJoin_22 (by decide) (by omega) (by omega) (fun c17 => ?_) (fun c17 => ?_)
      ·
        refine fr_iconst h dX12_refusesJoin_35 ?_
        exact fr_iret h hq (by omega) ⟨(by omega), (by omega), (by omega), rfl⟩ dX12_refusesJoin_36
      ·
        refine fr_iload_n h rfl 3 rfl dX12_refusesJoin_25 ?_
        refine fr_iconst h dX12_refusesJoin_26 ?_
        refine fr_bipush h rfl dX12_refusesJoin_27 ?_
        refine fr_csI h wX12_in lX12_101 (c_X12_in x v 0 99 (by omega) (by omega) (by omega)) rfl (by decide) (by decide) rfl (Nat.le_of_ble_eq_true rfl) dX12_refusesJoin_29 (fun z19 x18 w20 p21 => ?_)
        obtain ⟨p22, p23, y24⟩ := p21
        rw [y24]
        clear y24
        refine fr_if_ne (tgt := 37) h dX12_refusesJoin_32 (by decide) (by omega) (fun c25 => ?_) (fun c25 => ?_)
        ·
          refine fr_aload_n h rfl 0 rfl dX12_refusesJoin_37 ?_
          refine fr_iload_n h rfl 1 rfl dX12_refusesJoin_38 ?_
          refine fr_iload_n h rfl 2 rfl dX12_refusesJoin_39 ?_
          refine fr_csI h wX12_weightOf lX12_105 (c_X12_weightOf x b hb p w (by omega) (by omega) (by omega) (by omega) (by omega) (by omega)) rfl (by decide) (by decide) rfl (Nat.le_of_ble_eq_true rfl) dX12_refusesJoin_40 (fun z27 x26 w28 p29 => ?_)
          obtain ⟨p30, p31, p32, y33⟩ := p29
          rw [y33]
          clear y33
          have hz := e0 (28 + 7 * p + w) (by omega) (by omega)
          refine fr_if_le (tgt := 48) h dX12_refusesJoin_43 (by decide) (by omega) (fun c34 => ?_) (fun c34 => ?_)
          ·
            refine fr_iload_n h rfl 3 rfl dX12_refusesJoin_48 ?_
            refine fr_if_ne (tgt := 57) h dX12_refusesJoin_49 (by decide) (by omega) (fun c35 => ?_) (fun c35 => ?_)
            ·
              refine fr_aload_n h rfl 0 rfl dX12_refusesJoin_57 ?_
              refine fr_csI h wX12_edgesOf lX12_216 (f_X12_edgesOf x b hb 7 0 (fun i j a c d _ => e0 (28 + 7 * i + j) (by omega) (by omega)) (Or.inl rfl)) rfl (by decide) (by decide) rfl (Nat.le_of_ble_eq_true rfl) dX12_refusesJoin_58 (fun z37 x36 w38 p39 => ?_)
              obtain ⟨p40, p41, y42⟩ := p39
              rw [y42]
              clear y42
              refine fr_bipush h rfl dX12_refusesJoin_61 ?_
              refine fr_icmp_ne (tgt := 71) h dX12_refusesJoin_63 (by decide) (by omega) (by omega) (fun c43 => ?_) (fun c43 => ?_)
              ·
                refine fr_iconst h dX12_refusesJoin_71 ?_
                exact fr_iret h hq (by omega) ⟨(by omega), (by omega), (by omega), rfl⟩ dX12_refusesJoin_72
              ·
                exfalso; omega
            ·
              refine fr_bipush h rfl dX12_refusesJoin_52 ?_
              refine fr_goto (tgt := 72) h dX12_refusesJoin_54 (by decide) ?_
              exact fr_iret h hq (by omega) ⟨(by omega), (by omega), (by omega), rfl⟩ dX12_refusesJoin_72
          ·
            exfalso; omega
        ·
          refine fr_iconst h dX12_refusesJoin_35 ?_
          exact fr_iret h hq (by omega) ⟨(by omega), (by omega), (by omega), rfl⟩ dX12_refusesJoin_36
set_option maxHeartbeats 200000 in
theorem f_X12_refusesSet (x : Mm) (b : Int) (hb : isSA b) (p : Int) (v : Int) (h_p : fm_r p) (h_v : fm_r v) (e0 : x b 102 = 0) (e1 : x b 105 = 0) : CnI YM yX12_refusesSet cX12_refusesSet 3 .int 1 22 (fun G => [vr G b, vi p, vi v]) x (fun z y' => (¬ ((p = 0 ∧ 0 ≤ v ∧ v ≤ 5) ∨ (p = 1 ∧ 0 ≤ v ∧ v ≤ 3)) → z = (-1)) ∧ (((p = 0 ∧ 0 ≤ v ∧ v ≤ 5) ∨ (p = 1 ∧ 0 ≤ v ∧ v ≤ 3)) → v = 0 → z = (-2)) ∧ (((p = 0 ∧ 0 ≤ v ∧ v ≤ 5) ∨ (p = 1 ∧ 0 ≤ v ∧ v ≤ 3)) → v ≠ 0 → z = 0) ∧ (y' = x)) := by
  refine cn_I (by decide) (fun _ => Nat.le_of_ble_eq_true rfl) (fun G C h hq => ?_)
  have h : OK YM G C cX12_refusesSet RX12 3 (some .int) 1 22 := h
  show FW YM G C 3 x 0 [(0, vr G b), (1, vi p), (2, vi v)] []
  have h_b := SA_b hb
  have hs_b : b = 1 ∨ b = 9 ∨ b = 10 := hb
  refine fr_iload_n h rfl 1 rfl dX12_refusesSet_0 ?_
  refine fr_iconst h dX12_refusesSet_1 ?_
  refine fr_iconst h dX12_refusesSet_2 ?_
  refine fr_csI h wX12_in lX12_101 (c_X12_in x p 0 1 (by omega) (by omega) (by omega)) rfl (by decide) (by decide) rfl (Nat.le_of_ble_eq_true rfl) dX12_refusesSet_3 (fun z2 x1 w3 p4 => ?_)
  obtain ⟨p5, p6, y7⟩ := p4
  rw [y7]
  clear y7
  refine fr_if_eq (tgt := 26) h dX12_refusesSet_6 (by decide) (by omega) (fun c8 => ?_) (fun c8 => ?_)
  ·
    refine fr_iconst h dX12_refusesSet_26 ?_
    exact fr_iret h hq (by omega) ⟨(by omega), (by omega), (by omega), rfl⟩ dX12_refusesSet_27
  ·
    refine fr_iload_n h rfl 2 rfl dX12_refusesSet_9 ?_
    refine fr_iconst h dX12_refusesSet_10 ?_
    refine fr_iload_n h rfl 1 rfl dX12_refusesSet_11 ?_
    refine fr_if_ne (tgt := 19) h dX12_refusesSet_12 (by decide) (by omega) (fun c9 => ?_) (fun c9 => ?_)
    ·
      refine fr_iconst h dX12_refusesSet_19 ?_
      refine fr_csI h wX12_in lX12_101 (c_X12_in x v 0 3 (by omega) (by omega) (by omega)) rfl (by decide) (by decide) rfl (Nat.le_of_ble_eq_true rfl) dX12_refusesSet_20 (fun z11 x10 w12 p13 => ?_)
      obtain ⟨p14, p15, y16⟩ := p13
      rw [y16]
      clear y16
      refine fr_if_ne (tgt := 28) h dX12_refusesSet_23 (by decide) (by omega) (fun c17 => ?_) (fun c17 => ?_)
      ·
        refine fr_aload_n h rfl 0 rfl dX12_refusesSet_28 ?_
        refine fr_iload_n h rfl 1 rfl dX12_refusesSet_29 ?_
        refine fr_if_ne (tgt := 38) h dX12_refusesSet_30 (by decide) (by omega) (fun c18 => ?_) (fun c18 => ?_)
        ·
          refine fr_bipush h rfl dX12_refusesSet_38 ?_
          refine fr_iald h (SA_a hb) (by omega) (by omega) ((SA_r hb 105).trans sg_pick) dX12_refusesSet_40 (fun z19 w20 w21 q22 => ?_)
          refine fr_iload_n h rfl 2 rfl dX12_refusesSet_41 ?_
          refine fr_icmp_ne (tgt := 50) h dX12_refusesSet_42 (by decide) (by omega) (by omega) (fun c23 => ?_) (fun c23 => ?_)
          ·
            refine fr_iconst h dX12_refusesSet_50 ?_
            exact fr_iret h hq (by omega) ⟨(by omega), (by omega), (by omega), rfl⟩ dX12_refusesSet_51
          ·
            refine fr_bipush h rfl dX12_refusesSet_45 ?_
            refine fr_goto (tgt := 51) h dX12_refusesSet_47 (by decide) ?_
            exact fr_iret h hq (by omega) ⟨(by omega), (by omega), (by omega), rfl⟩ dX12_refusesSet_51
        ·
          refine fr_bipush h rfl dX12_refusesSet_33 ?_
          refine fr_goto (tgt := 40) h dX12_refusesSet_35 (by decide) ?_
          refine fr_iald h (SA_a hb) (by omega) (by omega) ((SA_r hb 102).trans sg_size) dX12_refusesSet_40 (fun z24 w25 w26 q27 => ?_)
          refine fr_iload_n h rfl 2 rfl dX12_refusesSet_41 ?_
          refine fr_icmp_ne (tgt := 50) h dX12_refusesSet_42 (by decide) (by omega) (by omega) (fun c28 => ?_) (fun c28 => ?_)
          ·
            refine fr_iconst h dX12_refusesSet_50 ?_
            exact fr_iret h hq (by omega) ⟨(by omega), (by omega), (by omega), rfl⟩ dX12_refusesSet_51
          ·
            refine fr_bipush h rfl dX12_refusesSet_45 ?_
            refine fr_goto (tgt := 51) h dX12_refusesSet_47 (by decide) ?_
            exact fr_iret h hq (by omega) ⟨(by omega), (by omega), (by omega), rfl⟩ dX12_refusesSet_51
      ·
        refine fr_iconst h dX12_refusesSet_26 ?_
        exact fr_iret h hq (by omega) ⟨(by omega), (by omega), (by omega), rfl⟩ dX12_refusesSet_27
    ·
      refine fr_iconst h dX12_refusesSet_15 ?_
      refine fr_goto (tgt := 20) h dX12_refusesSet_16 (by decide) ?_
      refine fr_csI h wX12_in lX12_101 (c_X12_in x v 0 5 (by omega) (by omega) (by omega)) rfl (by decide) (by decide) rfl (Nat.le_of_ble_eq_true rfl) dX12_refusesSet_20 (fun z30 x29 w31 p32 => ?_)
      obtain ⟨p33, p34, y35⟩ := p32
      rw [y35]
      clear y35
      refine fr_if_ne (tgt := 28) h dX12_refusesSet_23 (by decide) (by omega) (fun c36 => ?_) (fun c36 => ?_)
      ·
        refine fr_aload_n h rfl 0 rfl dX12_refusesSet_28 ?_
        refine fr_iload_n h rfl 1 rfl dX12_refusesSet_29 ?_
        refine fr_if_ne (tgt := 38) h dX12_refusesSet_30 (by decide) (by omega) (fun c37 => by exfalso; omega) (fun c37 => ?_)
        refine fr_bipush h rfl dX12_refusesSet_33 ?_
        refine fr_goto (tgt := 40) h dX12_refusesSet_35 (by decide) ?_
        refine fr_iald h (SA_a hb) (by omega) (by omega) ((SA_r hb 102).trans sg_size) dX12_refusesSet_40 (fun z38 w39 w40 q41 => ?_)
        refine fr_iload_n h rfl 2 rfl dX12_refusesSet_41 ?_
        refine fr_icmp_ne (tgt := 50) h dX12_refusesSet_42 (by decide) (by omega) (by omega) (fun c42 => ?_) (fun c42 => ?_)
        ·
          refine fr_iconst h dX12_refusesSet_50 ?_
          exact fr_iret h hq (by omega) ⟨(by omega), (by omega), (by omega), rfl⟩ dX12_refusesSet_51
        ·
          refine fr_bipush h rfl dX12_refusesSet_45 ?_
          refine fr_goto (tgt := 51) h dX12_refusesSet_47 (by decide) ?_
          exact fr_iret h hq (by omega) ⟨(by omega), (by omega), (by omega), rfl⟩ dX12_refusesSet_51
      ·
        refine fr_iconst h dX12_refusesSet_26 ?_
        exact fr_iret h hq (by omega) ⟨(by omega), (by omega), (by omega), rfl⟩ dX12_refusesSet_27
set_option maxHeartbeats 200000 in
theorem f_X12_endsOf (x : Mm) (b : Int) (hb : isSA b) (e0 : x b 103 = 0) (e1 : x b 104 = 1) : CnI YM yX12_endsOf cX12_endsOf 1 .int 0 0 (fun G => [vr G b]) x (fun z y' => (z = 1) ∧ (y' = x)) := by
  refine cn_I (by decide) (fun _ => Nat.le_of_ble_eq_true rfl) (fun G C h hq => ?_)
  have h : OK YM G C cX12_endsOf RX12 1 (some .int) 0 0 := h
  show FW YM G C 1 x 0 [(0, vr G b)] []
  have h_b := SA_b hb
  have hs_b : b = 1 ∨ b = 9 ∨ b = 10 := hb
  refine fr_bipush h rfl dX12_endsOf_0 ?_
  refine fr_aload_n h rfl 0 rfl dX12_endsOf_2 ?_
  refine fr_bipush h rfl dX12_endsOf_3 ?_
  refine fr_iald h (SA_a hb) (by omega) (by omega) ((SA_r hb 103).trans sg_e1) dX12_endsOf_5 (fun z1 w2 w3 q4 => ?_)
  refine fr_imul h dX12_endsOf_6 ?_
  refine fr_aload_n h rfl 0 rfl dX12_endsOf_7 ?_
  refine fr_bipush h rfl dX12_endsOf_8 ?_
  refine fr_iald h (SA_a hb) (by omega) (by omega) ((SA_r hb 104).trans sg_e2) dX12_endsOf_10 (fun z5 w6 w7 q8 => ?_)
  refine fr_iadd h dX12_endsOf_11 ?_
  exact fr_iret h hq (by omega) ⟨(by omega), rfl⟩ dX12_endsOf_12
set_option maxHeartbeats 200000 in
theorem f_X12_emit (x : Mm) (p : Int) (v : Int) (h_p : fm_r p) (h_v : fm_r v) (e0 : x 0 26 = 0) (e1 : p = 0) (e2 : v = 0) : CnV YM yX12_emit cX12_emit 4 0 0 (fun G => [vr G 0, vi p, vi v]) x (fun y' => (y' 0 26 = 1) ∧ (y' 13 0 = 0) ∧ (y' 14 0 = 0) ∧ (∀ a : Int, (a < 0 ∨ 0 < a) → (a < 12 ∨ 14 < a) → y' a = x a) ∧ (∀ i : Int, i ≠ 26 → y' 0 i = x 0 i)) := by
  refine cn_V (by decide) (fun _ => Nat.le_of_ble_eq_true rfl) (fun G C h hq => ?_)
  have h : OK YM G C cX12_emit RX12 4 none 0 0 := h
  show FW YM G C 4 x 0 [(0, vr G 0), (1, vi p), (2, vi v)] []
  refine fr_iconst h dX12_emit_0 ?_
  refine fr_istore_n (L' := [(0, vr G 0), (1, vi p), (2, vi v), (3, vi 0)]) h rfl dX12_emit_1 (by decide) [1, 2, 3, 0] rfl ?_
  refine fr_iload_n h rfl 3 rfl dX12_emit_2 ?_
  refine fr_iload_n h rfl 1 rfl dX12_emit_3 ?_
  refine fr_icmp_ge (tgt := 33) h dX12_emit_4 (by decide) (by omega) (by omega) (fun c1 => ?_) (fun c1 => ?_)
  ·
    refine fr_aload_n h rfl 0 rfl dX12_emit_33 ?_
    refine fr_getc (z := 13) (iz := 24) h kX12 fX12_48 at_0M rfl rfl rfM_24 (by omega) dX12_emit_34 ?_
    refine fr_aload_n h rfl 0 rfl dX12_emit_37 ?_
    skip
    refine fr_geti (iz := 26) h kX12 fX12_276 at_0M rfl rfl (by decide) (by decide) rfM_26 dX12_emit_38 (fun z2 w3 w4 q5 => ?_)
    refine fr_iload_n h rfl 1 rfl dX12_emit_41 ?_
    refine fr_iast h arM_13 (by omega) (by omega) (rrM_13 z2) (by omega) (by omega) dX12_emit_42 ?_
    refine fr_mem (fun x6 m7 => ?_)
    refine fr_aload_n h rfl 0 rfl dX12_emit_43 ?_
    refine fr_getc (z := 14) (iz := 25) h kX12 fX12_51 at_0M rfl rfl rfM_25 (by omega) dX12_emit_44 ?_
    refine fr_aload_n h rfl 0 rfl dX12_emit_47 ?_
    refine fr_geti (iz := 26) h kX12 fX12_276 at_0M rfl rfl (by decide) (by decide) rfM_26 dX12_emit_48 (fun z8 w9 w10 q11 => ?_)
    have r12 := q11.trans (fm_rd_k (a := 0) (b := 26) m7 (by omega))
    refine fr_iload_n h rfl 2 rfl dX12_emit_51 ?_
    refine fr_iast h arM_14 (by omega) (by omega) (rrM_14 z8) (by omega) (by omega) dX12_emit_52 ?_
    refine fr_mem (fun x13 m14 => ?_)
    refine fr_aload_n h rfl 0 rfl dX12_emit_53 ?_
    refine fr_dup h rfl dX12_emit_54 ?_
    refine fr_geti (iz := 26) h kX12 fX12_276 at_0M rfl rfl (by decide) (by decide) rfM_26 dX12_emit_55 (fun z15 w16 w17 q18 => ?_)
    have r19 := q18.trans (fm_rd_k (a := 0) (b := 26) m14 (by omega))
    have r20 := r19.trans (fm_rd_k (a := 0) (b := 26) m7 (by omega))
    refine fr_iconst h dX12_emit_58 ?_
    refine fr_iadd h dX12_emit_59 ?_
    refine fr_puti (iz := 26) h kX12 fX12_276 at_0M rfl rfl (by decide) (by decide) rfl (by decide +kernel) rfM_26 (by omega) (by omega) dX12_emit_60 ?_
    refine fr_mem (fun x21 m22 => ?_)
    have r23 := (fm_rd_s m22)
    skip
    have r24 := (fm_rd_k (a := 13) (b := 0) m22 (by omega))
    have r25 := r24.trans (fm_rd_k (a := 13) (b := 0) m14 (by omega))
    have r26 := fm_rd_b (b := 0) m7
    have r27 := (fm_rd_k (a := 14) (b := 0) m22 (by omega))
    have r28 := fm_rd_b (b := 0) m14
    exact fr_vret h hq ⟨(by omega), (by omega), (by omega), (fun a k0 k1 => ((fm_up_row m22 (by omega)).trans ((fm_up_row m14 (by omega)).trans (fm_up_row m7 (by omega))))), (fun i k0 => ((fm_rd_i (a := 0) (b := i) m22 (by omega)).trans ((fm_rd_k (a := 0) (b := i) m14 (by omega)).trans (fm_rd_k (a := 0) (b := i) m7 (by omega)))))⟩ dX12_emit_63
  ·
    exfalso; omega
set_option maxHeartbeats 1000000 in
theorem f_X12_ruleOf (x : Mm) (b : Int) (hb : isSA b) (k : Int) (h_k : fm_r k) (e0 : ∀ j : Int, 24 ≤ j → j ≤ 102 → x b j = 0) (e1 : x 0 14 = 0) : CnI YM yX12_ruleOf cX12_ruleOf 6 .int 0 0 (fun G => [vr G 0, vr G b, vi k]) x (fun z y' => (z = 0) ∧ (∀ a : Int, (a < 0 ∨ 0 < a) → (a < 7 ∨ 7 < a) → y' a = x a) ∧ (∀ i : Int, i ≠ 6 → i ≠ 7 → i ≠ 8 → i ≠ 9 → i ≠ 10 → i ≠ 15 → y' 0 i = x 0 i)) := by
  refine cn_I (by decide) (fun _ => Nat.le_of_ble_eq_true rfl) (fun G C h hq => ?_)
  have h : OK YM G C cX12_ruleOf RX12 6 (some .int) 0 0 := h
  show FW YM G C 6 x 0 [(0, vr G 0), (1, vr G b), (2, vi k)] []
  have h_b := SA_b hb
  have hs_b : b = 1 ∨ b = 9 ∨ b = 10 := hb
  refine fr_iconst h dX12_ruleOf_0 ?_
  refine fr_istore_n (L' := [(0, vr G 0), (1, vr G b), (2, vi k), (3, vi 0)]) h rfl dX12_ruleOf_1 (by decide) [1, 2, 3, 0] rfl ?_
  have HL1 : ∀ (n1 : Nat) (l3_1 : Int) (x_1 : Mm), fm_r l3_1 → 0 ≤ l3_1 → l3_1 ≤ 7 → (1 ≤ l3_1 → x_1 7 0 = 0) → (∀ a : Int, (a < 7 ∨ 7 < a) → x_1 a = x a) → (7 - l3_1) < n1 → FW YM G C 6 x_1 2 [(0, vr G 0), (1, vr G b), (2, vi k), (3, vi l3_1)] [] := by
    intro n1
    induction n1 with
    | zero =>
      intro l3_1 x_1 g1_0 g1_1 g1_2 g1_3 g1_4 g1_5
      exfalso; omega
    | succ n1 ih1 =>
      intro l3_1 x_1 g1_0 g1_1 g1_2 g1_3 g1_4 g1_5
      refine fr_iload_n h rfl 3 rfl dX12_ruleOf_2 ?_
      refine fr_bipush h rfl dX12_ruleOf_3 ?_
      refine fr_icmp_ge (tgt := 30) h dX12_ruleOf_5 (by decide) (by omega) (by omega) (fun c2 => ?_) (fun c2 => ?_)
      ·
        refine fr_iconst h dX12_ruleOf_30 ?_
        refine fr_istore_n (L' := [(0, vr G 0), (1, vr G b), (2, vi k), (3, vi 0)]) h rfl dX12_ruleOf_31 (by decide) [1, 2, 3, 0] rfl ?_
        refine fr_iconst h dX12_ruleOf_32 ?_
        refine fr_istore (L' := [(0, vr G 0), (1, vr G b), (2, vi k), (3, vi 0), (4, vi 0)]) h dX12_ruleOf_33 (by decide) [1, 2, 3, 4, 0] rfl ?_
        have HL3 : ∀ (n3 : Nat) (l3_3 l4_3 : Int), fm_r l3_3 → 0 ≤ l3_3 → l3_3 ≤ 4 → fm_r l4_3 → 0 ≤ l4_3 → l4_3 ≤ 4 → (4 - l4_3) < n3 → FW YM G C 6 x_1 35 [(0, vr G 0), (1, vr G b), (2, vi k), (3, vi l3_3), (4, vi l4_3)] [] := by
          intro n3
          induction n3 with
          | zero =>
            intro l3_3 l4_3 g3_0 g3_1 g3_2 g3_3 g3_4 g3_5 g3_6
            exfalso; omega
          | succ n3 ih3 =>
            intro l3_3 l4_3 g3_0 g3_1 g3_2 g3_3 g3_4 g3_5 g3_6
            refine fr_iload h 4 rfl dX12_ruleOf_35 ?_
            refine fr_iconst h dX12_ruleOf_37 ?_
            refine fr_icmp_ge (tgt := 187) h dX12_ruleOf_38 (by decide) (by omega) (by omega) (fun c4 => ?_) (fun c4 => ?_)
            ·
              refine fr_aload_n h rfl 0 rfl dX12_ruleOf_187 ?_
              refine fr_getc (z := 7) (iz := 16) h kX12 fX12_30 at_0M rfl rfl rfM_16 (by omega) dX12_ruleOf_188 ?_
              refine fr_bipush h rfl dX12_ruleOf_191 ?_
              refine fr_iload_n h rfl 3 rfl dX12_ruleOf_193 ?_
              refine fr_iast h arM_7 (by omega) (by omega) (rrM_7 6) (by omega) (by omega) dX12_ruleOf_194 ?_
              refine fr_mem (fun x5 m6 => ?_)
              refine fr_aload_n h rfl 0 rfl dX12_ruleOf_195 ?_
              refine fr_geti (iz := 14) h kX12 fX12_198 at_0M rfl rfl (by decide) (by decide) rfM_14 dX12_ruleOf_196 (fun z7 w8 w9 q10 => ?_)
              have r11 := q10.trans (fm_rd_k (a := 0) (b := 14) m6 (by omega))
              have r12 := r11.trans (congrFun (g1_4 0 (by omega)) 14)
              refine fr_if_ne (tgt := 209) h dX12_ruleOf_199 (by decide) (by omega) (fun c13 => ?_) (fun c13 => ?_)
              ·
                exfalso; omega
              ·
                refine fr_aload_n h rfl 0 rfl dX12_ruleOf_202 ?_
                refine fr_getc (z := 7) (iz := 16) h kX12 fX12_30 at_0M rfl rfl rfM_16 (by omega) dX12_ruleOf_203 ?_
                refine fr_iconst h dX12_ruleOf_206 ?_
                refine fr_iald h arM_7 (by omega) (by omega) (rrM_7 0) dX12_ruleOf_207 (fun z14 w15 w16 q17 => ?_)
                have r18 := q17.trans (fm_rd_i (a := 7) (b := 0) m6 (by decide))
                exact fr_iret h hq (by omega) ⟨(by omega), (fun a k0 k1 => ((fm_up_row m6 (by omega)).trans (g1_4 a (by omega)))), (fun i k0 k1 k2 k3 k4 k5 => ((fm_rd_k (a := 0) (b := i) m6 (by omega)).trans (congrFun (g1_4 0 (by omega)) i)))⟩ dX12_ruleOf_208
            ·
              refine fr_aload_n h rfl 1 rfl dX12_ruleOf_41 ?_
              refine fr_bipush h rfl dX12_ruleOf_42 ?_
              refine fr_iload h 4 rfl dX12_ruleOf_44 ?_
              refine fr_iadd h dX12_ruleOf_46 ?_
              have hz := (congrFun (g1_4 b (by omega)) (24 + l4_3)).trans (e0 (24 + l4_3) (by omega) (by omega))
              refine fr_iald h (SA_a hb) (by omega) (by omega) ((SA_r hb (24 + l4_3)).trans (sg_len (by omega) (by omega))) dX12_ruleOf_47 (fun z19 w20 w21 q22 => ?_)
              have r23 := q22.trans (congrFun (g1_4 b (by omega)) (24 + l4_3))
              refine fr_if_ne (tgt := 54) h dX12_ruleOf_48 (by decide) (by omega) (fun c24 => ?_) (fun c24 => ?_)
              ·
                exfalso; omega
              ·
                refine fr_goto (tgt := 181) h dX12_ruleOf_51 (by decide) ?_
                refine fr_iinc (j := 4) (L' := [(0, vr G 0), (1, vr G b), (2, vi k), (3, vi l3_3), (4, vi (l4_3 + 1))]) h dX12_ruleOf_181 rfl (by decide) [1, 2, 3, 4, 0] rfl ?_
                refine fr_goto (tgt := 35) h dX12_ruleOf_184 (by decide) ?_
                exact ih3 l3_3 (l4_3 + 1) (by omega) (by omega) (by omega) (by omega) (by omega) (by omega) (by omega)
        exact HL3 ((4 - 0) + 1 : Int).toNat 0 0 (by omega) (by omega) (by omega) (by omega) (by omega) (by omega) (by omega)
      ·
        refine fr_aload_n h rfl 0 rfl dX12_ruleOf_8 ?_
        refine fr_getc (z := 7) (iz := 16) h kX12 fX12_30 at_0M rfl rfl rfM_16 (by omega) dX12_ruleOf_9 ?_
        refine fr_iload_n h rfl 3 rfl dX12_ruleOf_12 ?_
        refine fr_iload_n h rfl 3 rfl dX12_ruleOf_13 ?_
        refine fr_iconst h dX12_ruleOf_14 ?_
        refine fr_icmp_ne (tgt := 22) h dX12_ruleOf_15 (by decide) (by omega) (by omega) (fun c25 => ?_) (fun c25 => ?_)
        ·
          refine fr_iconst h dX12_ruleOf_22 ?_
          refine fr_iast h arM_7 (by omega) (by omega) (rrM_7 l3_1) (by omega) (by omega) dX12_ruleOf_23 ?_
          refine fr_mem (fun x26 m27 => ?_)
          refine fr_iinc (j := 3) (L' := [(0, vr G 0), (1, vr G b), (2, vi k), (3, vi (l3_1 + 1))]) h dX12_ruleOf_24 rfl (by decide) [1, 2, 3, 0] rfl ?_
          refine fr_goto (tgt := 2) h dX12_ruleOf_27 (by decide) ?_
          have r28 := fm_rd_b (b := 0) m27
          exact ih1 (l3_1 + 1) x26 (by omega) (by omega) (by omega) (by omega) (fun a k0 => ((fm_up_row m27 (by omega)).trans (g1_4 a (by omega)))) (by omega)
        ·
          refine fr_iconst h dX12_ruleOf_18 ?_
          refine fr_goto (tgt := 23) h dX12_ruleOf_19 (by decide) ?_
          refine fr_iast h arM_7 (by omega) (by omega) (rrM_7 l3_1) (by omega) (by omega) dX12_ruleOf_23 ?_
          refine fr_mem (fun x29 m30 => ?_)
          refine fr_iinc (j := 3) (L' := [(0, vr G 0), (1, vr G b), (2, vi k), (3, vi (l3_1 + 1))]) h dX12_ruleOf_24 rfl (by decide) [1, 2, 3, 0] rfl ?_
          refine fr_goto (tgt := 2) h dX12_ruleOf_27 (by decide) ?_
          have r31 := fm_rd_b (b := 0) m30
          exact ih1 (l3_1 + 1) x29 (by omega) (by omega) (by omega) (by omega) (fun a k0 => ((fm_up_row m30 (by omega)).trans (g1_4 a (by omega)))) (by omega)
  exact HL1 ((7 - 0) + 1 : Int).toNat 0 x (by omega) (by omega) (by omega) (by omega) (fun a _ => rfl) (by omega)
set_option maxHeartbeats 1000000 in
theorem f_X12_layChoices : ∀ (d : Nat) (x : Mm) (b : Int) (hb : isSA b) (p : Int) (w : Int) (h_p : fm_r p) (h_w : fm_r w) (e0 : ∀ j : Int, 24 ≤ j → j ≤ 102 → x b j = 0) (e1 : 0 ≤ p) (e2 : p ≤ 4) (e3 : w = 0) (e4 : x 0 26 = 0) (e5 : x 0 14 = 0), (4 - p) < d → CnV YM yX12_layChoices cX12_layChoices 5 (d + 200) (d * 40 + 6000) (fun G => [vr G 0, vr G b, vi p, vi w]) x (fun y' => (y' 0 26 = 1) ∧ (y' 13 0 = 0) ∧ (y' 14 0 = 0) ∧ (∀ a : Int, (a < 0 ∨ 0 < a) → (a < 7 ∨ 7 < a) → (a < 12 ∨ 14 < a) → (a < 17 ∨ 17 < a) → y' a = x a) ∧ (∀ i : Int, i ≠ 6 → i ≠ 7 → i ≠ 8 → i ≠ 9 → i ≠ 10 → i ≠ 15 → i ≠ 26 → y' 0 i = x 0 i)) := by
  intro d
  induction d with
  | zero => intro x b hb p w h_p h_w e0 e1 e2 e3 e4 e5 hmu; exfalso; omega
  | succ d ih =>
    intro x b hb p w h_p h_w e0 e1 e2 e3 e4 e5 hmu
    refine cn_V (by decide) (fun _ => Nat.le_of_ble_eq_true rfl) (fun G C h hq => ?_)
    have h : OK YM G C cX12_layChoices RX12 5 none (d + 1 + 200) ((d + 1) * 40 + 6000) := h
    show FW YM G C 5 x 0 [(0, vr G 0), (1, vr G b), (2, vi p), (3, vi w)] []
    have h_b := SA_b hb
    have hs_b : b = 1 ∨ b = 9 ∨ b = 10 := hb
    refine fr_iload_n h rfl 2 rfl dX12_layChoices_0 ?_
    refine fr_iconst h dX12_layChoices_1 ?_
    refine fr_icmp_ne (tgt := 34) h dX12_layChoices_2 (by decide) (by omega) (by omega) (fun c1 => ?_) (fun c1 => ?_)
    ·
      refine fr_aload_n h rfl 1 rfl dX12_layChoices_34 ?_
      refine fr_bipush h rfl dX12_layChoices_35 ?_
      refine fr_iload_n h rfl 2 rfl dX12_layChoices_37 ?_
      refine fr_iadd h dX12_layChoices_38 ?_
      have hz := e0 (24 + p) (by omega) (by omega)
      refine fr_iald h (SA_a hb) (by omega) (by omega) ((SA_r hb (24 + p)).trans (sg_len (by omega) (by omega))) dX12_layChoices_39 (fun z2 w3 w4 q5 => ?_)
      refine fr_if_ne (tgt := 53) h dX12_layChoices_40 (by decide) (by omega) (fun c6 => ?_) (fun c6 => ?_)
      ·
        exfalso; omega
      ·
        refine fr_aload_n h rfl 0 rfl dX12_layChoices_43 ?_
        refine fr_aload_n h rfl 1 rfl dX12_layChoices_44 ?_
        refine fr_iload_n h rfl 2 rfl dX12_layChoices_45 ?_
        refine fr_iconst h dX12_layChoices_46 ?_
        refine fr_iadd h dX12_layChoices_47 ?_
        refine fr_iload_n h rfl 3 rfl dX12_layChoices_48 ?_
        refine fr_cvV h kX12 at_0M wX12_layChoices lX12_286 (ih x b hb (p + 1) w (by omega) (by omega) e0 (by omega) (by omega) (by omega) (by omega) (by omega) (by omega)) rfl (by omega) (by omega) rfl (Nat.le_of_ble_eq_true rfl) dX12_layChoices_49 (fun x7 p10 => ?_)
        obtain ⟨p11, p12, p13, f14, f15⟩ := p10
        exact fr_vret h hq ⟨(by omega), (by omega), (by omega), (fun a k0 k1 k2 k3 => (f14 a (by omega) (by omega) (by omega) (by omega))), (fun i k0 k1 k2 k3 k4 k5 k6 => (f15 i (by omega) (by omega) (by omega) (by omega) (by omega) (by omega) (by omega)))⟩ dX12_layChoices_52
    ·
      refine fr_aload_n h rfl 0 rfl dX12_layChoices_5 ?_
      refine fr_iload_n h rfl 3 rfl dX12_layChoices_6 ?_
      refine fr_iconst h dX12_layChoices_7 ?_
      refine fr_cvV h kX12 at_0M wX12_emit lX12_279 (f_X12_emit x w 0 (by omega) (by omega) (by omega) (by omega) (by omega)) rfl (by omega) (by omega) rfl (Nat.le_of_ble_eq_true rfl) dX12_layChoices_8 (fun x16 p19 => ?_)
      obtain ⟨p20, p21, p22, f23, f24⟩ := p19
      refine fr_aload_n h rfl 0 rfl dX12_layChoices_11 ?_
      refine fr_getc (z := 14) (iz := 25) h kX12 fX12_51 at_0M rfl rfl rfM_25 (by omega) dX12_layChoices_12 ?_
      refine fr_aload_n h rfl 0 rfl dX12_layChoices_15 ?_
      refine fr_geti (iz := 26) h kX12 fX12_276 at_0M rfl rfl (by decide) (by decide) rfM_26 dX12_layChoices_16 (fun z25 w26 w27 q28 => ?_)
      refine fr_iconst h dX12_layChoices_19 ?_
      refine fr_isub h dX12_layChoices_20 ?_
      refine fr_aload_n h rfl 0 rfl dX12_layChoices_21 ?_
      refine fr_aload_n h rfl 1 rfl dX12_layChoices_22 ?_
      refine fr_aload_n h rfl 0 rfl dX12_layChoices_23 ?_
      refine fr_geti (iz := 26) h kX12 fX12_276 at_0M rfl rfl (by decide) (by decide) rfM_26 dX12_layChoices_24 (fun z29 w30 w31 q32 => ?_)
      refine fr_iconst h dX12_layChoices_27 ?_
      refine fr_isub h dX12_layChoices_28 ?_
      have r33 := (f24 14 (by decide))
      refine fr_cvI h kX12 at_0M wX12_ruleOf lX12_283 (f_X12_ruleOf x16 b hb (z29 - 1) (by omega) (fun j a c => (congrFun (f23 b (by omega) (by omega)) j).trans (e0 j a c)) (by omega)) rfl (by omega) (by omega) rfl (Nat.le_of_ble_eq_true rfl) dX12_layChoices_29 (fun z35 x34 w36 p37 => ?_)
      obtain ⟨p38, f39, f40⟩ := p37
      refine fr_iast h arM_14 (by omega) (by omega) (rrM_14 (z25 - 1)) (by omega) (by omega) dX12_layChoices_32 ?_
      refine fr_mem (fun x41 m42 => ?_)
      have r43 := (fm_rd_k (a := 0) (b := 26) m42 (by omega))
      have r44 := r43.trans (f40 26 (by decide) (by decide) (by decide) (by decide) (by decide) (by decide))
      have r45 := (fm_rd_k (a := 13) (b := 0) m42 (by omega))
      have r46 := r45.trans (congrFun (f39 13 (by omega) (by omega)) 0)
      have r47 := fm_rd_b (b := 0) m42
      exact fr_vret h hq ⟨(by omega), (by omega), (by omega), (fun a k0 k1 k2 k3 => ((fm_up_row m42 (by omega)).trans ((f39 a (by omega) (by omega)).trans (f23 a (by omega) (by omega))))), (fun i k0 k1 k2 k3 k4 k5 k6 => ((fm_rd_k (a := 0) (b := i) m42 (by omega)).trans ((f40 i (by omega) (by omega) (by omega) (by omega) (by omega) (by omega)).trans (f24 i (by omega)))))⟩ dX12_layChoices_33
set_option maxHeartbeats 200000 in
theorem f_X12_treeOf (x : Mm) (b : Int) (hb : isSA b) (n : Int) (h_n : fm_r n) (e0 : n = 0) : CnI YM yX12_treeOf cX12_treeOf 8 .int 0 0 (fun G => [vr G 0, vr G b, vi n]) x (fun z y' => (z = 0) ∧ (∀ a : Int, (a < 18 ∨ 18 < a) → y' a = x a)) := by
  refine cn_I (by decide) (fun _ => Nat.le_of_ble_eq_true rfl) (fun G C h hq => ?_)
  have h : OK YM G C cX12_treeOf RX12 8 (some .int) 0 0 := h
  show FW YM G C 8 x 0 [(0, vr G 0), (1, vr G b), (2, vi n)] []
  have h_b := SA_b hb
  have hs_b : b = 1 ∨ b = 9 ∨ b = 10 := hb
  refine fr_iconst h dX12_treeOf_0 ?_
  refine fr_istore_n (L' := [(0, vr G 0), (1, vr G b), (2, vi n), (3, vi 0)]) h rfl dX12_treeOf_1 (by decide) [1, 2, 3, 0] rfl ?_
  have HL1 : ∀ (n1 : Nat) (l3_1 : Int) (x_1 : Mm), fm_r l3_1 → 0 ≤ l3_1 → l3_1 ≤ 7 → (∀ a : Int, (a < 18 ∨ 18 < a) → x_1 a = x a) → (7 - l3_1) < n1 → FW YM G C 8 x_1 2 [(0, vr G 0), (1, vr G b), (2, vi n), (3, vi l3_1)] [] := by
    intro n1
    induction n1 with
    | zero =>
      intro l3_1 x_1 g1_0 g1_1 g1_2 g1_3 g1_4
      exfalso; omega
    | succ n1 ih1 =>
      intro l3_1 x_1 g1_0 g1_1 g1_2 g1_3 g1_4
      refine fr_iload_n h rfl 3 rfl dX12_treeOf_2 ?_
      refine fr_bipush h rfl dX12_treeOf_3 ?_
      refine fr_icmp_ge (tgt := 21) h dX12_treeOf_5 (by decide) (by omega) (by omega) (fun c2 => ?_) (fun c2 => ?_)
      ·
        refine fr_iconst h dX12_treeOf_21 ?_
        refine fr_istore_n (L' := [(0, vr G 0), (1, vr G b), (2, vi n), (3, vi 0)]) h rfl dX12_treeOf_22 (by decide) [1, 2, 3, 0] rfl ?_
        refine fr_iconst h dX12_treeOf_23 ?_
        refine fr_istore (L' := [(0, vr G 0), (1, vr G b), (2, vi n), (3, vi 0), (4, vi 0)]) h dX12_treeOf_24 (by decide) [1, 2, 3, 4, 0] rfl ?_
        refine fr_iload h 4 rfl dX12_treeOf_26 ?_
        refine fr_iload_n h rfl 2 rfl dX12_treeOf_28 ?_
        refine fr_icmp_ge (tgt := 101) h dX12_treeOf_29 (by decide) (by omega) (by omega) (fun c3 => ?_) (fun c3 => ?_)
        ·
          refine fr_iload_n h rfl 3 rfl dX12_treeOf_101 ?_
          exact fr_iret h hq (by omega) ⟨(by omega), (fun a k0 => (g1_3 a (by omega)))⟩ dX12_treeOf_102
        ·
          exfalso; omega
      ·
        refine fr_aload_n h rfl 0 rfl dX12_treeOf_8 ?_
        refine fr_getc (z := 18) (iz := 30) h kX12 fX12_63 at_0M rfl rfl rfM_30 (by omega) dX12_treeOf_9 ?_
        refine fr_iload_n h rfl 3 rfl dX12_treeOf_12 ?_
        refine fr_iload_n h rfl 3 rfl dX12_treeOf_13 ?_
        refine fr_iast h arM_18 (by omega) (by omega) (rrM_18 l3_1) (by omega) (by omega) dX12_treeOf_14 ?_
        refine fr_mem (fun x4 m5 => ?_)
        refine fr_iinc (j := 3) (L' := [(0, vr G 0), (1, vr G b), (2, vi n), (3, vi (l3_1 + 1))]) h dX12_treeOf_15 rfl (by decide) [1, 2, 3, 0] rfl ?_
        refine fr_goto (tgt := 2) h dX12_treeOf_18 (by decide) ?_
        exact ih1 (l3_1 + 1) x4 (by omega) (by omega) (by omega) (fun a k0 => ((fm_up_row m5 (by omega)).trans (g1_3 a (by omega)))) (by omega)
  exact HL1 ((7 - 0) + 1 : Int).toNat 0 x (by omega) (by omega) (by omega) (fun a _ => rfl) (by omega)
set_option maxHeartbeats 200000 in
theorem f_X12_layTrees (x : Mm) (b : Int) (hb : isSA b) (p : Int) (n : Int) (w : Int) (v : Int) (h_p : fm_r p) (h_n : fm_r n) (h_w : fm_r w) (h_v : fm_r v) (e0 : n = 0) (e1 : w = 0) (e2 : x 0 26 = 0) : CnV YM yX12_layTrees cX12_layTrees 8 1 27 (fun G => [vr G 0, vr G b, vi p, vi n, vi w, vi v]) x (fun y' => (y' 0 26 = 1) ∧ (y' 13 0 = 0) ∧ (y' 14 0 = 0) ∧ (∀ a : Int, (a < 0 ∨ 0 < a) → (a < 12 ∨ 14 < a) → (a < 17 ∨ 18 < a) → y' a = x a) ∧ (∀ i : Int, i ≠ 26 → y' 0 i = x 0 i)) := by
  refine cn_V (by decide) (fun _ => Nat.le_of_ble_eq_true rfl) (fun G C h hq => ?_)
  have h : OK YM G C cX12_layTrees RX12 8 none 1 27 := h
  show FW YM G C 8 x 0 [(0, vr G 0), (1, vr G b), (2, vi p), (3, vi n), (4, vi w), (5, vi v)] []
  have h_b := SA_b hb
  have hs_b : b = 1 ∨ b = 9 ∨ b = 10 := hb
  refine fr_aload_n h rfl 0 rfl dX12_layTrees_0 ?_
  refine fr_aload_n h rfl 1 rfl dX12_layTrees_1 ?_
  refine fr_iload_n h rfl 3 rfl dX12_layTrees_2 ?_
  refine fr_cvI h kX12 at_0M wX12_treeOf lX12_293 (f_X12_treeOf x b hb n (by omega) (by omega)) rfl (by decide) (by decide) rfl (Nat.le_of_ble_eq_true rfl) dX12_layTrees_3 (fun z2 x1 w3 p4 => ?_)
  obtain ⟨p5, f6⟩ := p4
  refine fr_istore (L' := [(0, vr G 0), (1, vr G b), (2, vi p), (3, vi n), (4, vi w), (5, vi v), (6, vi z2)]) h dX12_layTrees_6 (by decide) [1, 2, 3, 4, 5, 6, 0] rfl ?_
  refine fr_iload h 6 rfl dX12_layTrees_8 ?_
  refine fr_iconst h dX12_layTrees_10 ?_
  refine fr_icmp_ne (tgt := 15) h dX12_layTrees_11 (by decide) (by omega) (by omega) (fun c7 => ?_) (fun c7 => ?_)
  ·
    refine fr_iload_n h rfl 3 rfl dX12_layTrees_15 ?_
    refine fr_iload h 4 rfl dX12_layTrees_16 ?_
    refine fr_icmp_ne (tgt := 29) h dX12_layTrees_18 (by decide) (by omega) (by omega) (fun c8 => ?_) (fun c8 => ?_)
    ·
      exfalso; omega
    ·
      refine fr_aload_n h rfl 0 rfl dX12_layTrees_21 ?_
      refine fr_iload_n h rfl 3 rfl dX12_layTrees_22 ?_
      refine fr_iload h 6 rfl dX12_layTrees_23 ?_
      have r9 := (congrFun (f6 0 (by omega)) 26)
      refine fr_cvV h kX12 at_0M wX12_emit lX12_279 (f_X12_emit x1 n z2 (by omega) (by omega) (by omega) (by omega) (by omega)) rfl (by decide) (by decide) rfl (Nat.le_of_ble_eq_true rfl) dX12_layTrees_25 (fun x10 p13 => ?_)
      obtain ⟨p14, p15, p16, f17, f18⟩ := p13
      have r19 := (congrFun (f6 0 (by omega)) 26)
      have r20 := (congrFun (f6 13 (by omega)) 0)
      have r21 := (congrFun (f6 14 (by omega)) 0)
      exact fr_vret h hq ⟨(by omega), (by omega), (by omega), (fun a k0 k1 k2 => ((f17 a (by omega) (by omega)).trans (f6 a (by omega)))), (fun i k0 => ((f18 i (by omega)).trans (congrFun (f6 0 (by omega)) i)))⟩ dX12_layTrees_28
  ·
    exfalso; omega
set_option maxHeartbeats 200000 in
theorem f_X12_layPairings (x : Mm) (b : Int) (hb : isSA b) (p : Int) (k : Int) (v : Int) (h_p : fm_r p) (h_k : fm_r k) (h_v : fm_r v) (e0 : p = 0) (e1 : v = 0) (e2 : x b 102 = 0) (e3 : x 0 26 = 0) : CnV YM yX12_layPairings cX12_layPairings 6 1 23 (fun G => [vr G 0, vr G b, vi p, vi k, vi v]) x (fun y' => (y' 0 26 = 1) ∧ (y' 13 0 = 0) ∧ (y' 14 0 = 0) ∧ (∀ a : Int, (a < 0 ∨ 0 < a) → (a < 12 ∨ 14 < a) → (a < 17 ∨ 17 < a) → y' a = x a) ∧ (∀ i : Int, i ≠ 26 → y' 0 i = x 0 i)) := by
  refine cn_V (by decide) (fun _ => Nat.le_of_ble_eq_true rfl) (fun G C h hq => ?_)
  have h : OK YM G C cX12_layPairings RX12 6 none 1 23 := h
  show FW YM G C 6 x 0 [(0, vr G 0), (1, vr G b), (2, vi p), (3, vi k), (4, vi v)] []
  have h_b := SA_b hb
  have hs_b : b = 1 ∨ b = 9 ∨ b = 10 := hb
  refine fr_iload_n h rfl 2 rfl dX12_layPairings_0 ?_
  refine fr_aload_n h rfl 1 rfl dX12_layPairings_1 ?_
  refine fr_bipush h rfl dX12_layPairings_2 ?_
  refine fr_iald h (SA_a hb) (by omega) (by omega) ((SA_r hb 102).trans sg_size) dX12_layPairings_4 (fun z1 w2 w3 q4 => ?_)
  refine fr_icmp_ne (tgt := 16) h dX12_layPairings_5 (by decide) (by omega) (by omega) (fun c5 => ?_) (fun c5 => ?_)
  ·
    exfalso; omega
  ·
    refine fr_aload_n h rfl 0 rfl dX12_layPairings_8 ?_
    refine fr_iload_n h rfl 2 rfl dX12_layPairings_9 ?_
    refine fr_iload h 4 rfl dX12_layPairings_10 ?_
    refine fr_cvV h kX12 at_0M wX12_emit lX12_279 (f_X12_emit x p v (by omega) (by omega) (by omega) (by omega) (by omega)) rfl (by decide) (by decide) rfl (Nat.le_of_ble_eq_true rfl) dX12_layPairings_12 (fun x6 p9 => ?_)
    obtain ⟨p10, p11, p12, f13, f14⟩ := p9
    exact fr_vret h hq ⟨(by omega), (by omega), (by omega), (fun a k0 k1 k2 => (f13 a (by omega) (by omega))), (fun i k0 => (f14 i (by omega)))⟩ dX12_layPairings_15
set_option maxHeartbeats 200000 in
theorem f_X12_laySubsets (x : Mm) (b : Int) (hb : isSA b) (p : Int) (n : Int) (v : Int) (h_p : fm_r p) (h_n : fm_r n) (h_v : fm_r v) (e0 : ∀ j : Int, 24 ≤ j → j ≤ 102 → x b j = 0) (e1 : p = 0) (e2 : n = 0) (e3 : v = 0) (e4 : x b 105 = 0) (e5 : x 0 26 = 0) : CnV YM yX12_laySubsets cX12_laySubsets 7 1 23 (fun G => [vr G 0, vr G b, vi p, vi n, vi v]) x (fun y' => (y' 0 26 = 1) ∧ (y' 13 0 = 0) ∧ (y' 14 0 = 0) ∧ (∀ a : Int, (a < 0 ∨ 0 < a) → (a < 12 ∨ 14 < a) → (a < 17 ∨ 17 < a) → y' a = x a) ∧ (∀ i : Int, i ≠ 26 → y' 0 i = x 0 i)) := by
  refine cn_V (by decide) (fun _ => Nat.le_of_ble_eq_true rfl) (fun G C h hq => ?_)
  have h : OK YM G C cX12_laySubsets RX12 7 none 1 23 := h
  show FW YM G C 7 x 0 [(0, vr G 0), (1, vr G b), (2, vi p), (3, vi n), (4, vi v)] []
  have h_b := SA_b hb
  have hs_b : b = 1 ∨ b = 9 ∨ b = 10 := hb
  refine fr_aload_n h rfl 0 rfl dX12_laySubsets_0 ?_
  refine fr_iload_n h rfl 3 rfl dX12_laySubsets_1 ?_
  refine fr_iload h 4 rfl dX12_laySubsets_2 ?_
  refine fr_cvV h kX12 at_0M wX12_emit lX12_279 (f_X12_emit x n v (by omega) (by omega) (by omega) (by omega) (by omega)) rfl (by decide) (by decide) rfl (Nat.le_of_ble_eq_true rfl) dX12_laySubsets_4 (fun x1 p4 => ?_)
  obtain ⟨p5, p6, p7, f8, f9⟩ := p4
  refine fr_aload_n h rfl 1 rfl dX12_laySubsets_7 ?_
  refine fr_bipush h rfl dX12_laySubsets_8 ?_
  refine fr_iald h (SA_a hb) (by omega) (by omega) ((SA_r hb 105).trans sg_pick) dX12_laySubsets_10 (fun z10 w11 w12 q13 => ?_)
  have r14 := q13.trans (congrFun (f8 b (by omega) (by omega)) 105)
  refine fr_istore (L' := [(0, vr G 0), (1, vr G b), (2, vi p), (3, vi n), (4, vi v), (5, vi z10)]) h dX12_laySubsets_11 (by decide) [1, 2, 3, 4, 5, 0] rfl ?_
  refine fr_iload_n h rfl 2 rfl dX12_laySubsets_13 ?_
  refine fr_istore (L' := [(0, vr G 0), (1, vr G b), (2, vi p), (3, vi n), (4, vi v), (5, vi z10), (6, vi p)]) h dX12_laySubsets_14 (by decide) [1, 2, 3, 4, 5, 6, 0] rfl ?_
  refine fr_iload h 6 rfl dX12_laySubsets_16 ?_
  refine fr_aload_n h rfl 1 rfl dX12_laySubsets_18 ?_
  refine fr_bipush h rfl dX12_laySubsets_19 ?_
  refine fr_iload h 5 rfl dX12_laySubsets_21 ?_
  refine fr_iadd h dX12_laySubsets_23 ?_
  have hz := (congrFun (f8 b (by omega) (by omega)) (24 + z10)).trans (e0 (24 + z10) (by omega) (by omega))
  refine fr_iald h (SA_a hb) (by omega) (by omega) ((SA_r hb (24 + z10)).trans (sg_len (by omega) (by omega))) dX12_laySubsets_24 (fun z15 w16 w17 q18 => ?_)
  have r19 := q18.trans (congrFun (f8 b (by omega) (by omega)) (24 + z10))
  refine fr_icmp_ge (tgt := 67) h dX12_laySubsets_25 (by decide) (by omega) (by omega) (fun c20 => ?_) (fun c20 => ?_)
  ·
    exact fr_vret h hq ⟨(by omega), (by omega), (by omega), (fun a k0 k1 k2 => (f8 a (by omega) (by omega))), (fun i k0 => (f9 i (by omega)))⟩ dX12_laySubsets_67
  ·
    exfalso; omega
set_option maxHeartbeats 200000 in
theorem f_X12_layRoutes (x : Mm) (b : Int) (hb : isSA b) (p : Int) (n : Int) (k : Int) (v : Int) (h_p : fm_r p) (h_n : fm_r n) (h_k : fm_r k) (h_v : fm_r v) (e0 : ∀ j : Int, 24 ≤ j → j ≤ 102 → x b j = 0) (e1 : p = 0) (e2 : n = 0) (e3 : x b 104 = 1) (e4 : x 0 26 = 0) : CnV YM yX12_layRoutes cX12_layRoutes 8 1 22 (fun G => [vr G 0, vr G b, vi p, vi n, vi k, vi v]) x (fun y' => (∀ a : Int, (a < 17 ∨ 17 < a) → y' a = x a)) := by
  refine cn_V (by decide) (fun _ => Nat.le_of_ble_eq_true rfl) (fun G C h hq => ?_)
  have h : OK YM G C cX12_layRoutes RX12 8 none 1 22 := h
  show FW YM G C 8 x 0 [(0, vr G 0), (1, vr G b), (2, vi p), (3, vi n), (4, vi k), (5, vi v)] []
  have h_b := SA_b hb
  have hs_b : b = 1 ∨ b = 9 ∨ b = 10 := hb
  refine fr_aload_n h rfl 0 rfl dX12_layRoutes_0 ?_
  refine fr_getc (z := 17) (iz := 29) h kX12 fX12_60 at_0M rfl rfl rfM_29 (by omega) dX12_layRoutes_1 ?_
  refine fr_iload_n h rfl 3 rfl dX12_layRoutes_4 ?_
  refine fr_iload_n h rfl 2 rfl dX12_layRoutes_5 ?_
  refine fr_iast h arM_17 (by omega) (by omega) (rrM_17 n) (by omega) (by omega) dX12_layRoutes_6 ?_
  refine fr_mem (fun x1 m2 => ?_)
  refine fr_iload_n h rfl 2 rfl dX12_layRoutes_7 ?_
  refine fr_aload_n h rfl 1 rfl dX12_layRoutes_8 ?_
  refine fr_bipush h rfl dX12_layRoutes_9 ?_
  refine fr_iald h (SA_a hb) (by omega) (by omega) ((SA_r hb 104).trans sg_e2) dX12_layRoutes_11 (fun z3 w4 w5 q6 => ?_)
  have r7 := q6.trans (fm_rd_k (a := b) (b := 104) m2 (by omega))
  refine fr_icmp_ne (tgt := 25) h dX12_layRoutes_12 (by decide) (by omega) (by omega) (fun c8 => ?_) (fun c8 => ?_)
  ·
    refine fr_iconst h dX12_layRoutes_25 ?_
    refine fr_istore (L' := [(0, vr G 0), (1, vr G b), (2, vi p), (3, vi n), (4, vi k), (5, vi v), (6, vi 0)]) h dX12_layRoutes_26 (by decide) [1, 2, 3, 4, 5, 6, 0] rfl ?_
    have HL9 : ∀ (n9 : Nat) (l6_9 : Int), fm_r l6_9 → 0 ≤ l6_9 → l6_9 ≤ 7 → (7 - l6_9) < n9 → FW YM G C 8 x1 28 [(0, vr G 0), (1, vr G b), (2, vi p), (3, vi n), (4, vi k), (5, vi v), (6, vi l6_9)] [] := by
      intro n9
      induction n9 with
      | zero =>
        intro l6_9 g9_0 g9_1 g9_2 g9_3
        exfalso; omega
      | succ n9 ih9 =>
        intro l6_9 g9_0 g9_1 g9_2 g9_3
        refine fr_iload h 6 rfl dX12_layRoutes_28 ?_
        refine fr_bipush h rfl dX12_layRoutes_30 ?_
        refine fr_icmp_ge (tgt := 87) h dX12_layRoutes_32 (by decide) (by omega) (by omega) (fun c10 => ?_) (fun c10 => ?_)
        ·
          exact fr_vret h hq (fun a k0 => (fm_up_row m2 (by omega))) dX12_layRoutes_87
        ·
          refine fr_aload_n h rfl 1 rfl dX12_layRoutes_35 ?_
          refine fr_iload_n h rfl 2 rfl dX12_layRoutes_36 ?_
          refine fr_iload h 6 rfl dX12_layRoutes_37 ?_
          refine fr_csI h wX12_weightOf lX12_105 (c_X12_weightOf x1 b hb p l6_9 (by omega) (by omega) (by omega) (by omega) (by omega) (by omega)) rfl (by decide) (by decide) rfl (Nat.le_of_ble_eq_true rfl) dX12_layRoutes_39 (fun z12 x11 w13 p14 => ?_)
          obtain ⟨p15, p16, p17, y18⟩ := p14
          rw [y18]
          clear y18
          refine fr_istore (L' := [(0, vr G 0), (1, vr G b), (2, vi p), (3, vi n), (4, vi k), (5, vi v), (6, vi l6_9), (7, vi z12)]) h dX12_layRoutes_42 (by decide) [1, 2, 3, 4, 5, 6, 7, 0] rfl ?_
          refine fr_iload h 7 rfl dX12_layRoutes_44 ?_
          have hz := (congrFun (fm_up_row m2 (by omega)) _).trans (e0 (28 + 7 * p + l6_9) (by omega) (by omega))
          refine fr_if_le (tgt := 81) h dX12_layRoutes_46 (by decide) (by omega) (fun c19 => ?_) (fun c19 => ?_)
          ·
            refine fr_iinc (j := 6) (L' := [(0, vr G 0), (1, vr G b), (2, vi p), (3, vi n), (4, vi k), (5, vi v), (6, vi (l6_9 + 1)), (7, vi z12)]) h dX12_layRoutes_81 rfl (by decide) [1, 2, 3, 4, 5, 6, 0, 7] rfl ?_
            refine fr_goto (tgt := 28) h dX12_layRoutes_84 (by decide) ?_
            refine fr_sub (L' := [(0, vr G 0), (1, vr G b), (2, vi p), (3, vi n), (4, vi k), (5, vi v), (6, vi (l6_9 + 1))]) [0, 1, 2, 3, 4, 5, 6] rfl ?_
            exact ih9 (l6_9 + 1) (by omega) (by omega) (by omega) (by omega)
          ·
            exfalso; omega
    exact HL9 ((7 - 0) + 1 : Int).toNat 0 (by omega) (by omega) (by omega) (by omega)
  ·
    exfalso; omega
set_option maxHeartbeats 4000000 in
theorem f_X12_layAll (x : Mm) (b : Int) (hb : isSA b) (k : Int) (h_k : fm_r k) (e0 : ∀ j : Int, 24 ≤ j → j ≤ 102 → x b j = 0) (e1 : x b 102 = 0) (e2 : x b 103 = 0) (e3 : x b 104 = 1) (e4 : x b 105 = 0) (e5 : x 0 14 = 0) (e6 : 0 ≤ k) (e7 : k ≤ 4) (e8 : x 15 0 = 0) (e9 : x 13 0 = 0) (e10 : x 14 0 = 0) : CnI YM yX12_layAll cX12_layAll 5 .int 206 6224 (fun G => [vr G 0, vr G b, vi k]) x (fun z y' => (0 ≤ z) ∧ (z ≤ 1300) ∧ (y' 0 26 = z) ∧ (k = 4 → z = 0) ∧ (k ≠ 4 → z = 1) ∧ (y' 15 0 = 0) ∧ (y' 13 0 = 0) ∧ (y' 14 0 = 0) ∧ (∀ a : Int, (a < 0 ∨ 0 < a) → (a < 7 ∨ 7 < a) → (a < 12 ∨ 18 < a) → y' a = x a) ∧ (∀ i : Int, i ≠ 6 → i ≠ 7 → i ≠ 8 → i ≠ 9 → i ≠ 10 → i ≠ 15 → i ≠ 26 → y' 0 i = x 0 i)) := by
  refine cn_I (by decide) (fun _ => Nat.le_of_ble_eq_true rfl) (fun G C h hq => ?_)
  have h : OK YM G C cX12_layAll RX12 5 (some .int) 206 6224 := h
  show FW YM G C 5 x 0 [(0, vr G 0), (1, vr G b), (2, vi k)] []
  have h_b := SA_b hb
  have hs_b : b = 1 ∨ b = 9 ∨ b = 10 := hb
  refine fr_aload_n h rfl 0 rfl dX12_layAll_0 ?_
  refine fr_iconst h dX12_layAll_1 ?_
  refine fr_puti (iz := 26) h kX12 fX12_276 at_0M rfl rfl (by decide) (by decide) rfl (by decide +kernel) rfM_26 (by omega) (by omega) dX12_layAll_2 ?_
  refine fr_mem (fun x1 m2 => ?_)
  refine fr_iload_n h rfl 2 rfl dX12_layAll_5 ?_
  by_cases c4 : k = 0
  ·
    refine fr_tab_in (off := 30) (tgt := 36) h dX12_layAll_6 (by omega) (by omega) (by omega) (by rw [c4]; rfl) (by decide) ?_
    skip
    refine fr_aload_n h rfl 0 rfl dX12_layAll_36 ?_
    refine fr_aload_n h rfl 1 rfl dX12_layAll_37 ?_
    refine fr_iconst h dX12_layAll_38 ?_
    refine fr_iconst h dX12_layAll_39 ?_
    have r5 := (fm_rd_s m2)
    have r6 := (fm_rd_i (a := 0) (b := 14) m2 (by decide))
    refine fr_cvV h kX12 at_0M wX12_layChoices lX12_286 (f_X12_layChoices 5 x1 b hb 0 0 (by omega) (by omega) (fun j a c => (congrFun (fm_up_row m2 (by omega)) j).trans (e0 j a c)) (by omega) (by omega) (by omega) (by omega) (by omega) (by omega)) rfl (by decide) (by decide) rfl (Nat.le_of_ble_eq_true rfl) dX12_layAll_40 (fun x7 p10 => ?_)
    obtain ⟨p11, p12, p13, f14, f15⟩ := p10
    refine fr_goto (tgt := 114) h dX12_layAll_43 (by decide) ?_
    refine fr_iconst h dX12_layAll_114 ?_
    refine fr_istore_n (L' := [(0, vr G 0), (1, vr G b), (2, vi k), (3, vi 0)]) h rfl dX12_layAll_115 (by decide) [1, 2, 3, 0] rfl ?_
    refine fr_iload_n h rfl 3 rfl dX12_layAll_116 ?_
    refine fr_aload_n h rfl 0 rfl dX12_layAll_117 ?_
    refine fr_geti (iz := 26) h kX12 fX12_276 at_0M rfl rfl (by decide) (by decide) rfM_26 dX12_layAll_118 (fun z16 w17 w18 q19 => ?_)
    have r20 := (fm_rd_s m2)
    refine fr_icmp_ge (tgt := 137) h dX12_layAll_121 (by decide) (by omega) (by omega) (fun c21 => ?_) (fun c21 => ?_)
    ·
      exfalso; omega
    ·
      refine fr_aload_n h rfl 0 rfl dX12_layAll_124 ?_
      refine fr_getc (z := 15) (iz := 27) h kX12 fX12_54 at_0M rfl rfl rfM_27 (by omega) dX12_layAll_125 ?_
      refine fr_iload_n h rfl 3 rfl dX12_layAll_128 ?_
      refine fr_iload_n h rfl 3 rfl dX12_layAll_129 ?_
      refine fr_iast h arM_15 (by omega) (by omega) (rrM_15 0) (by omega) (by omega) dX12_layAll_130 ?_
      refine fr_mem (fun x22 m23 => ?_)
      refine fr_iinc (j := 3) (L' := [(0, vr G 0), (1, vr G b), (2, vi k), (3, vi (0 + 1))]) h dX12_layAll_131 rfl (by decide) [1, 2, 3, 0] rfl ?_
      refine fr_goto (tgt := 116) h dX12_layAll_134 (by decide) ?_
      refine fr_iload_n h rfl 3 rfl dX12_layAll_116 ?_
      refine fr_aload_n h rfl 0 rfl dX12_layAll_117 ?_
      refine fr_geti (iz := 26) h kX12 fX12_276 at_0M rfl rfl (by decide) (by decide) rfM_26 dX12_layAll_118 (fun z24 w25 w26 q27 => ?_)
      have r28 := q27.trans (fm_rd_k (a := 0) (b := 26) m23 (by omega))
      have r29 := (fm_rd_s m2)
      refine fr_icmp_ge (tgt := 137) h dX12_layAll_121 (by decide) (by omega) (by omega) (fun c30 => ?_) (fun c30 => ?_)
      ·
        refine fr_iconst h dX12_layAll_137 ?_
        refine fr_istore_n (L' := [(0, vr G 0), (1, vr G b), (2, vi k), (3, vi 1)]) h rfl dX12_layAll_138 (by decide) [1, 2, 3, 0] rfl ?_
        refine fr_iload_n h rfl 3 rfl dX12_layAll_139 ?_
        refine fr_aload_n h rfl 0 rfl dX12_layAll_140 ?_
        refine fr_geti (iz := 26) h kX12 fX12_276 at_0M rfl rfl (by decide) (by decide) rfM_26 dX12_layAll_141 (fun z31 w32 w33 q34 => ?_)
        have r35 := q34.trans (fm_rd_k (a := 0) (b := 26) m23 (by omega))
        have r36 := (fm_rd_s m2)
        refine fr_icmp_ge (tgt := 207) h dX12_layAll_144 (by decide) (by omega) (by omega) (fun c37 => ?_) (fun c37 => ?_)
        ·
          refine fr_aload_n h rfl 0 rfl dX12_layAll_207 ?_
          refine fr_geti (iz := 26) h kX12 fX12_276 at_0M rfl rfl (by decide) (by decide) rfM_26 dX12_layAll_208 (fun z38 w39 w40 q41 => ?_)
          have r42 := q41.trans (fm_rd_k (a := 0) (b := 26) m23 (by omega))
          have r43 := (fm_rd_s m2)
          have r44 := (fm_rd_k (a := 0) (b := 26) m23 (by omega))
          have r45 := (fm_rd_s m2)
          have r46 := (fm_rd_s m23)
          have r47 := (fm_rd_k (a := 13) (b := 0) m23 (by omega))
          have r48 := (fm_rd_k (a := 13) (b := 0) m2 (by omega))
          have r49 := (fm_rd_k (a := 14) (b := 0) m23 (by omega))
          have r50 := (fm_rd_k (a := 14) (b := 0) m2 (by omega))
          exact fr_iret h hq (by omega) ⟨(by omega), (by omega), (by omega), (by omega), (by omega), (by omega), (by omega), (by omega), (fun a k0 k1 k2 => ((fm_up_row m23 (by omega)).trans ((f14 a (by omega) (by omega) (by omega) (by omega)).trans (fm_up_row m2 (by omega))))), (fun i k0 k1 k2 k3 k4 k5 k6 => ((fm_rd_k (a := 0) (b := i) m23 (by omega)).trans ((f15 i (by omega) (by omega) (by omega) (by omega) (by omega) (by omega) (by omega)).trans (fm_rd_i (a := 0) (b := i) m2 (by omega)))))⟩ dX12_layAll_211
        ·
          exfalso; omega
      ·
        exfalso; omega
  ·
    by_cases c51 : k = 1
    ·
      refine fr_tab_in (off := 40) (tgt := 46) h dX12_layAll_6 (by omega) (by omega) (by omega) (by rw [c51]; rfl) (by decide) ?_
      skip
      refine fr_aload_n h rfl 1 rfl dX12_layAll_46 ?_
      refine fr_csI h wX12_joinedOf lX12_312 (f_X12_joinedOf x1 b hb (fun j a c => (congrFun (fm_up_row m2 (by omega)) j).trans (e0 j a c))) rfl (by decide) (by decide) rfl (Nat.le_of_ble_eq_true rfl) dX12_layAll_47 (fun z53 x52 w54 p55 => ?_)
      obtain ⟨p56, y57⟩ := p55
      rw [y57]
      clear y57
      refine fr_csI h wJ6_bitCount_0f7a4 lX12_315 (f_bitCountM x1 z53 (by omega)) rfl (by decide) (by decide) rfl (Nat.le_of_ble_eq_true rfl) dX12_layAll_50 (fun z59 x58 w60 p61 => ?_)
      obtain ⟨p62, y63⟩ := p61
      rw [y63]
      clear y63
      refine fr_istore_n (L' := [(0, vr G 0), (1, vr G b), (2, vi k), (3, vi z59)]) h rfl dX12_layAll_53 (by decide) [1, 2, 3, 0] rfl ?_
      refine fr_aload_n h rfl 0 rfl dX12_layAll_54 ?_
      refine fr_aload_n h rfl 1 rfl dX12_layAll_55 ?_
      refine fr_iconst h dX12_layAll_56 ?_
      refine fr_iconst h dX12_layAll_57 ?_
      refine fr_iconst h dX12_layAll_58 ?_
      refine fr_iload_n h rfl 3 rfl dX12_layAll_59 ?_
      refine fr_iconst h dX12_layAll_60 ?_
      refine fr_isub h dX12_layAll_61 ?_
      refine fr_normi (fun z64 w65 q66 => ?_)
      have w67 : fm_r ((z59 - 1)) → z64 = (z59 - 1) := fun q => (iI_inj q w65 q66).symm
      refine fr_mmax h (by omega) (by omega) (tb_6 (i := 220) (by decide +kernel) (by decide +kernel)) w_mmax (by decide) (by decide) (Nat.le_of_ble_eq_true rfl) dX12_layAll_62 (fun z68 w69 w70 w71 => ?_)
      refine fr_aload_n h rfl 1 rfl dX12_layAll_65 ?_
      refine fr_csI h wX12_edgesOf lX12_216 (f_X12_edgesOf x1 b hb 7 0 (fun i j a c d _ => (congrFun (fm_up_row m2 (by omega)) _).trans (e0 (28 + 7 * i + j) (by omega) (by omega))) (Or.inl rfl)) rfl (by decide) (by decide) rfl (Nat.le_of_ble_eq_true rfl) dX12_layAll_66 (fun z73 x72 w74 p75 => ?_)
      obtain ⟨p76, p77, y78⟩ := p75
      rw [y78]
      clear y78
      have r79 := (fm_rd_s m2)
      refine fr_cvV h kX12 at_0M wX12_layTrees lX12_296 (f_X12_layTrees x1 b hb 0 0 z68 z73 (by omega) (by omega) (by omega) (by omega) (by omega) (by omega) (by omega)) rfl (by decide) (by decide) rfl (Nat.le_of_ble_eq_true rfl) dX12_layAll_69 (fun x80 p83 => ?_)
      obtain ⟨p84, p85, p86, f87, f88⟩ := p83
      refine fr_goto (tgt := 114) h dX12_layAll_72 (by decide) ?_
      refine fr_iconst h dX12_layAll_114 ?_
      refine fr_istore_n (L' := [(0, vr G 0), (1, vr G b), (2, vi k), (3, vi 0)]) h rfl dX12_layAll_115 (by decide) [1, 2, 3, 0] rfl ?_
      refine fr_iload_n h rfl 3 rfl dX12_layAll_116 ?_
      refine fr_aload_n h rfl 0 rfl dX12_layAll_117 ?_
      refine fr_geti (iz := 26) h kX12 fX12_276 at_0M rfl rfl (by decide) (by decide) rfM_26 dX12_layAll_118 (fun z89 w90 w91 q92 => ?_)
      have r93 := (fm_rd_s m2)
      refine fr_icmp_ge (tgt := 137) h dX12_layAll_121 (by decide) (by omega) (by omega) (fun c94 => ?_) (fun c94 => ?_)
      ·
        exfalso; omega
      ·
        refine fr_aload_n h rfl 0 rfl dX12_layAll_124 ?_
        refine fr_getc (z := 15) (iz := 27) h kX12 fX12_54 at_0M rfl rfl rfM_27 (by omega) dX12_layAll_125 ?_
        refine fr_iload_n h rfl 3 rfl dX12_layAll_128 ?_
        refine fr_iload_n h rfl 3 rfl dX12_layAll_129 ?_
        refine fr_iast h arM_15 (by omega) (by omega) (rrM_15 0) (by omega) (by omega) dX12_layAll_130 ?_
        refine fr_mem (fun x95 m96 => ?_)
        refine fr_iinc (j := 3) (L' := [(0, vr G 0), (1, vr G b), (2, vi k), (3, vi (0 + 1))]) h dX12_layAll_131 rfl (by decide) [1, 2, 3, 0] rfl ?_
        refine fr_goto (tgt := 116) h dX12_layAll_134 (by decide) ?_
        refine fr_iload_n h rfl 3 rfl dX12_layAll_116 ?_
        refine fr_aload_n h rfl 0 rfl dX12_layAll_117 ?_
        refine fr_geti (iz := 26) h kX12 fX12_276 at_0M rfl rfl (by decide) (by decide) rfM_26 dX12_layAll_118 (fun z97 w98 w99 q100 => ?_)
        have r101 := q100.trans (fm_rd_k (a := 0) (b := 26) m96 (by omega))
        have r102 := (fm_rd_s m2)
        refine fr_icmp_ge (tgt := 137) h dX12_layAll_121 (by decide) (by omega) (by omega) (fun c103 => ?_) (fun c103 => ?_)
        ·
          refine fr_iconst h dX12_layAll_137 ?_
          refine fr_istore_n (L' := [(0, vr G 0), (1, vr G b), (2, vi k), (3, vi 1)]) h rfl dX12_layAll_138 (by decide) [1, 2, 3, 0] rfl ?_
          refine fr_iload_n h rfl 3 rfl dX12_layAll_139 ?_
          refine fr_aload_n h rfl 0 rfl dX12_layAll_140 ?_
          refine fr_geti (iz := 26) h kX12 fX12_276 at_0M rfl rfl (by decide) (by decide) rfM_26 dX12_layAll_141 (fun z104 w105 w106 q107 => ?_)
          have r108 := q107.trans (fm_rd_k (a := 0) (b := 26) m96 (by omega))
          have r109 := (fm_rd_s m2)
          refine fr_icmp_ge (tgt := 207) h dX12_layAll_144 (by decide) (by omega) (by omega) (fun c110 => ?_) (fun c110 => ?_)
          ·
            refine fr_aload_n h rfl 0 rfl dX12_layAll_207 ?_
            refine fr_geti (iz := 26) h kX12 fX12_276 at_0M rfl rfl (by decide) (by decide) rfM_26 dX12_layAll_208 (fun z111 w112 w113 q114 => ?_)
            have r115 := q114.trans (fm_rd_k (a := 0) (b := 26) m96 (by omega))
            have r116 := (fm_rd_s m2)
            have r117 := (fm_rd_k (a := 0) (b := 26) m96 (by omega))
            have r118 := (fm_rd_s m2)
            have r119 := (fm_rd_s m96)
            have r120 := (fm_rd_k (a := 13) (b := 0) m96 (by omega))
            have r121 := (fm_rd_k (a := 13) (b := 0) m2 (by omega))
            have r122 := (fm_rd_k (a := 14) (b := 0) m96 (by omega))
            have r123 := (fm_rd_k (a := 14) (b := 0) m2 (by omega))
            exact fr_iret h hq (by omega) ⟨(by omega), (by omega), (by omega), (by omega), (by omega), (by omega), (by omega), (by omega), (fun a k0 k1 k2 => ((fm_up_row m96 (by omega)).trans ((f87 a (by omega) (by omega) (by omega)).trans (fm_up_row m2 (by omega))))), (fun i k0 k1 k2 k3 k4 k5 k6 => ((fm_rd_k (a := 0) (b := i) m96 (by omega)).trans ((f88 i (by omega)).trans (fm_rd_i (a := 0) (b := i) m2 (by omega)))))⟩ dX12_layAll_211
          ·
            exfalso; omega
        ·
          exfalso; omega
    ·
      by_cases c124 : k = 2
      ·
        refine fr_tab_in (off := 69) (tgt := 75) h dX12_layAll_6 (by omega) (by omega) (by omega) (by rw [c124]; rfl) (by decide) ?_
        skip
        refine fr_aload_n h rfl 0 rfl dX12_layAll_75 ?_
        refine fr_aload_n h rfl 1 rfl dX12_layAll_76 ?_
        refine fr_iconst h dX12_layAll_77 ?_
        refine fr_iconst h dX12_layAll_78 ?_
        refine fr_iconst h dX12_layAll_79 ?_
        have r125 := (fm_rd_k (a := b) (b := 102) m2 (by omega))
        have r126 := (fm_rd_s m2)
        refine fr_cvV h kX12 at_0M wX12_layPairings lX12_303 (f_X12_layPairings x1 b hb 0 0 0 (by omega) (by omega) (by omega) (by omega) (by omega) (by omega) (by omega)) rfl (by decide) (by decide) rfl (Nat.le_of_ble_eq_true rfl) dX12_layAll_80 (fun x127 p130 => ?_)
        obtain ⟨p131, p132, p133, f134, f135⟩ := p130
        refine fr_goto (tgt := 114) h dX12_layAll_83 (by decide) ?_
        refine fr_iconst h dX12_layAll_114 ?_
        refine fr_istore_n (L' := [(0, vr G 0), (1, vr G b), (2, vi k), (3, vi 0)]) h rfl dX12_layAll_115 (by decide) [1, 2, 3, 0] rfl ?_
        refine fr_iload_n h rfl 3 rfl dX12_layAll_116 ?_
        refine fr_aload_n h rfl 0 rfl dX12_layAll_117 ?_
        refine fr_geti (iz := 26) h kX12 fX12_276 at_0M rfl rfl (by decide) (by decide) rfM_26 dX12_layAll_118 (fun z136 w137 w138 q139 => ?_)
        have r140 := (fm_rd_s m2)
        refine fr_icmp_ge (tgt := 137) h dX12_layAll_121 (by decide) (by omega) (by omega) (fun c141 => ?_) (fun c141 => ?_)
        ·
          exfalso; omega
        ·
          refine fr_aload_n h rfl 0 rfl dX12_layAll_124 ?_
          refine fr_getc (z := 15) (iz := 27) h kX12 fX12_54 at_0M rfl rfl rfM_27 (by omega) dX12_layAll_125 ?_
          refine fr_iload_n h rfl 3 rfl dX12_layAll_128 ?_
          refine fr_iload_n h rfl 3 rfl dX12_layAll_129 ?_
          refine fr_iast h arM_15 (by omega) (by omega) (rrM_15 0) (by omega) (by omega) dX12_layAll_130 ?_
          refine fr_mem (fun x142 m143 => ?_)
          refine fr_iinc (j := 3) (L' := [(0, vr G 0), (1, vr G b), (2, vi k), (3, vi (0 + 1))]) h dX12_layAll_131 rfl (by decide) [1, 2, 3, 0] rfl ?_
          refine fr_goto (tgt := 116) h dX12_layAll_134 (by decide) ?_
          refine fr_iload_n h rfl 3 rfl dX12_layAll_116 ?_
          refine fr_aload_n h rfl 0 rfl dX12_layAll_117 ?_
          refine fr_geti (iz := 26) h kX12 fX12_276 at_0M rfl rfl (by decide) (by decide) rfM_26 dX12_layAll_118 (fun z144 w145 w146 q147 => ?_)
          have r148 := q147.trans (fm_rd_k (a := 0) (b := 26) m143 (by omega))
          have r149 := (fm_rd_s m2)
          refine fr_icmp_ge (tgt := 137) h dX12_layAll_121 (by decide) (by omega) (by omega) (fun c150 => ?_) (fun c150 => ?_)
          ·
            refine fr_iconst h dX12_layAll_137 ?_
            refine fr_istore_n (L' := [(0, vr G 0), (1, vr G b), (2, vi k), (3, vi 1)]) h rfl dX12_layAll_138 (by decide) [1, 2, 3, 0] rfl ?_
            refine fr_iload_n h rfl 3 rfl dX12_layAll_139 ?_
            refine fr_aload_n h rfl 0 rfl dX12_layAll_140 ?_
            refine fr_geti (iz := 26) h kX12 fX12_276 at_0M rfl rfl (by decide) (by decide) rfM_26 dX12_layAll_141 (fun z151 w152 w153 q154 => ?_)
            have r155 := q154.trans (fm_rd_k (a := 0) (b := 26) m143 (by omega))
            have r156 := (fm_rd_s m2)
            refine fr_icmp_ge (tgt := 207) h dX12_layAll_144 (by decide) (by omega) (by omega) (fun c157 => ?_) (fun c157 => ?_)
            ·
              refine fr_aload_n h rfl 0 rfl dX12_layAll_207 ?_
              refine fr_geti (iz := 26) h kX12 fX12_276 at_0M rfl rfl (by decide) (by decide) rfM_26 dX12_layAll_208 (fun z158 w159 w160 q161 => ?_)
              have r162 := q161.trans (fm_rd_k (a := 0) (b := 26) m143 (by omega))
              have r163 := (fm_rd_s m2)
              have r164 := (fm_rd_k (a := 0) (b := 26) m143 (by omega))
              have r165 := (fm_rd_s m2)
              have r166 := (fm_rd_s m143)
              have r167 := (fm_rd_k (a := 13) (b := 0) m143 (by omega))
              have r168 := (fm_rd_k (a := 13) (b := 0) m2 (by omega))
              have r169 := (fm_rd_k (a := 14) (b := 0) m143 (by omega))
              have r170 := (fm_rd_k (a := 14) (b := 0) m2 (by omega))
              exact fr_iret h hq (by omega) ⟨(by omega), (by omega), (by omega), (by omega), (by omega), (by omega), (by omega), (by omega), (fun a k0 k1 k2 => ((fm_up_row m143 (by omega)).trans ((f134 a (by omega) (by omega) (by omega)).trans (fm_up_row m2 (by omega))))), (fun i k0 k1 k2 k3 k4 k5 k6 => ((fm_rd_k (a := 0) (b := i) m143 (by omega)).trans ((f135 i (by omega)).trans (fm_rd_i (a := 0) (b := i) m2 (by omega)))))⟩ dX12_layAll_211
            ·
              exfalso; omega
          ·
            exfalso; omega
      ·
        by_cases c171 : k = 3
        ·
          refine fr_tab_in (off := 80) (tgt := 86) h dX12_layAll_6 (by omega) (by omega) (by omega) (by rw [c171]; rfl) (by decide) ?_
          skip
          refine fr_aload_n h rfl 0 rfl dX12_layAll_86 ?_
          refine fr_aload_n h rfl 1 rfl dX12_layAll_87 ?_
          refine fr_iconst h dX12_layAll_88 ?_
          refine fr_iconst h dX12_layAll_89 ?_
          refine fr_iconst h dX12_layAll_90 ?_
          have r172 := (fm_rd_k (a := b) (b := 105) m2 (by omega))
          have r173 := (fm_rd_s m2)
          refine fr_cvV h kX12 at_0M wX12_laySubsets lX12_306 (f_X12_laySubsets x1 b hb 0 0 0 (by omega) (by omega) (by omega) (fun j a c => (congrFun (fm_up_row m2 (by omega)) j).trans (e0 j a c)) (by omega) (by omega) (by omega) (by omega) (by omega)) rfl (by decide) (by decide) rfl (Nat.le_of_ble_eq_true rfl) dX12_layAll_91 (fun x174 p177 => ?_)
          obtain ⟨p178, p179, p180, f181, f182⟩ := p177
          refine fr_goto (tgt := 114) h dX12_layAll_94 (by decide) ?_
          refine fr_iconst h dX12_layAll_114 ?_
          refine fr_istore_n (L' := [(0, vr G 0), (1, vr G b), (2, vi k), (3, vi 0)]) h rfl dX12_layAll_115 (by decide) [1, 2, 3, 0] rfl ?_
          refine fr_iload_n h rfl 3 rfl dX12_layAll_116 ?_
          refine fr_aload_n h rfl 0 rfl dX12_layAll_117 ?_
          refine fr_geti (iz := 26) h kX12 fX12_276 at_0M rfl rfl (by decide) (by decide) rfM_26 dX12_layAll_118 (fun z183 w184 w185 q186 => ?_)
          have r187 := (fm_rd_s m2)
          refine fr_icmp_ge (tgt := 137) h dX12_layAll_121 (by decide) (by omega) (by omega) (fun c188 => ?_) (fun c188 => ?_)
          ·
            exfalso; omega
          ·
            refine fr_aload_n h rfl 0 rfl dX12_layAll_124 ?_
            refine fr_getc (z := 15) (iz := 27) h kX12 fX12_54 at_0M rfl rfl rfM_27 (by omega) dX12_layAll_125 ?_
            refine fr_iload_n h rfl 3 rfl dX12_layAll_128 ?_
            refine fr_iload_n h rfl 3 rfl dX12_layAll_129 ?_
            refine fr_iast h arM_15 (by omega) (by omega) (rrM_15 0) (by omega) (by omega) dX12_layAll_130 ?_
            refine fr_mem (fun x189 m190 => ?_)
            refine fr_iinc (j := 3) (L' := [(0, vr G 0), (1, vr G b), (2, vi k), (3, vi (0 + 1))]) h dX12_layAll_131 rfl (by decide) [1, 2, 3, 0] rfl ?_
            refine fr_goto (tgt := 116) h dX12_layAll_134 (by decide) ?_
            refine fr_iload_n h rfl 3 rfl dX12_layAll_116 ?_
            refine fr_aload_n h rfl 0 rfl dX12_layAll_117 ?_
            refine fr_geti (iz := 26) h kX12 fX12_276 at_0M rfl rfl (by decide) (by decide) rfM_26 dX12_layAll_118 (fun z191 w192 w193 q194 => ?_)
            have r195 := q194.trans (fm_rd_k (a := 0) (b := 26) m190 (by omega))
            have r196 := (fm_rd_s m2)
            refine fr_icmp_ge (tgt := 137) h dX12_layAll_121 (by decide) (by omega) (by omega) (fun c197 => ?_) (fun c197 => ?_)
            ·
              refine fr_iconst h dX12_layAll_137 ?_
              refine fr_istore_n (L' := [(0, vr G 0), (1, vr G b), (2, vi k), (3, vi 1)]) h rfl dX12_layAll_138 (by decide) [1, 2, 3, 0] rfl ?_
              refine fr_iload_n h rfl 3 rfl dX12_layAll_139 ?_
              refine fr_aload_n h rfl 0 rfl dX12_layAll_140 ?_
              refine fr_geti (iz := 26) h kX12 fX12_276 at_0M rfl rfl (by decide) (by decide) rfM_26 dX12_layAll_141 (fun z198 w199 w200 q201 => ?_)
              have r202 := q201.trans (fm_rd_k (a := 0) (b := 26) m190 (by omega))
              have r203 := (fm_rd_s m2)
              refine fr_icmp_ge (tgt := 207) h dX12_layAll_144 (by decide) (by omega) (by omega) (fun c204 => ?_) (fun c204 => ?_)
              ·
                refine fr_aload_n h rfl 0 rfl dX12_layAll_207 ?_
                refine fr_geti (iz := 26) h kX12 fX12_276 at_0M rfl rfl (by decide) (by decide) rfM_26 dX12_layAll_208 (fun z205 w206 w207 q208 => ?_)
                have r209 := q208.trans (fm_rd_k (a := 0) (b := 26) m190 (by omega))
                have r210 := (fm_rd_s m2)
                have r211 := (fm_rd_k (a := 0) (b := 26) m190 (by omega))
                have r212 := (fm_rd_s m2)
                have r213 := (fm_rd_s m190)
                have r214 := (fm_rd_k (a := 13) (b := 0) m190 (by omega))
                have r215 := (fm_rd_k (a := 13) (b := 0) m2 (by omega))
                have r216 := (fm_rd_k (a := 14) (b := 0) m190 (by omega))
                have r217 := (fm_rd_k (a := 14) (b := 0) m2 (by omega))
                exact fr_iret h hq (by omega) ⟨(by omega), (by omega), (by omega), (by omega), (by omega), (by omega), (by omega), (by omega), (fun a k0 k1 k2 => ((fm_up_row m190 (by omega)).trans ((f181 a (by omega) (by omega) (by omega)).trans (fm_up_row m2 (by omega))))), (fun i k0 k1 k2 k3 k4 k5 k6 => ((fm_rd_k (a := 0) (b := i) m190 (by omega)).trans ((f182 i (by omega)).trans (fm_rd_i (a := 0) (b := i) m2 (by omega)))))⟩ dX12_layAll_211
              ·
                exfalso; omega
            ·
              exfalso; omega
        ·
          refine fr_tab_out (tgt := 97) h dX12_layAll_6 (by omega) (by omega) (by decide) ?_
          skip
          refine fr_aload_n h rfl 0 rfl dX12_layAll_97 ?_
          refine fr_aload_n h rfl 1 rfl dX12_layAll_98 ?_
          refine fr_aload_n h rfl 1 rfl dX12_layAll_99 ?_
          refine fr_bipush h rfl dX12_layAll_100 ?_
          refine fr_iald h (SA_a hb) (by omega) (by omega) ((SA_r hb 103).trans sg_e1) dX12_layAll_102 (fun z218 w219 w220 q221 => ?_)
          have r222 := q221.trans (fm_rd_k (a := b) (b := 103) m2 (by omega))
          refine fr_iconst h dX12_layAll_103 ?_
          refine fr_iconst h dX12_layAll_104 ?_
          refine fr_aload_n h rfl 1 rfl dX12_layAll_105 ?_
          refine fr_bipush h rfl dX12_layAll_106 ?_
          refine fr_iald h (SA_a hb) (by omega) (by omega) ((SA_r hb 103).trans sg_e1) dX12_layAll_108 (fun z223 w224 w225 q226 => ?_)
          have r227 := q226.trans (fm_rd_k (a := b) (b := 103) m2 (by omega))
          refine fr_ishl h dX12_layAll_109 (fun z228 w229 q230 w231 => ?_)
          refine fr_iconst h dX12_layAll_110 ?_
          have r232 := (fm_rd_k (a := b) (b := 104) m2 (by omega))
          have r233 := (fm_rd_s m2)
          refine fr_cvV h kX12 at_0M wX12_layRoutes lX12_309 (f_X12_layRoutes x1 b hb z218 0 z228 0 (by omega) (by omega) (by omega) (by omega) (fun j a c => (congrFun (fm_up_row m2 (by omega)) j).trans (e0 j a c)) (by omega) (by omega) (by omega) (by omega)) rfl (by decide) (by decide) rfl (Nat.le_of_ble_eq_true rfl) dX12_layAll_111 (fun x234 p237 => ?_)
          have f238 := p237
          refine fr_iconst h dX12_layAll_114 ?_
          refine fr_istore_n (L' := [(0, vr G 0), (1, vr G b), (2, vi k), (3, vi 0)]) h rfl dX12_layAll_115 (by decide) [1, 2, 3, 0] rfl ?_
          refine fr_iload_n h rfl 3 rfl dX12_layAll_116 ?_
          refine fr_aload_n h rfl 0 rfl dX12_layAll_117 ?_
          refine fr_geti (iz := 26) h kX12 fX12_276 at_0M rfl rfl (by decide) (by decide) rfM_26 dX12_layAll_118 (fun z239 w240 w241 q242 => ?_)
          have r243 := q242.trans (congrFun (f238 0 (by omega)) 26)
          have r244 := r243.trans (fm_rd_s m2)
          refine fr_icmp_ge (tgt := 137) h dX12_layAll_121 (by decide) (by omega) (by omega) (fun c245 => ?_) (fun c245 => ?_)
          ·
            refine fr_iconst h dX12_layAll_137 ?_
            refine fr_istore_n (L' := [(0, vr G 0), (1, vr G b), (2, vi k), (3, vi 1)]) h rfl dX12_layAll_138 (by decide) [1, 2, 3, 0] rfl ?_
            refine fr_iload_n h rfl 3 rfl dX12_layAll_139 ?_
            refine fr_aload_n h rfl 0 rfl dX12_layAll_140 ?_
            refine fr_geti (iz := 26) h kX12 fX12_276 at_0M rfl rfl (by decide) (by decide) rfM_26 dX12_layAll_141 (fun z246 w247 w248 q249 => ?_)
            have r250 := q249.trans (congrFun (f238 0 (by omega)) 26)
            have r251 := r250.trans (fm_rd_s m2)
            refine fr_icmp_ge (tgt := 207) h dX12_layAll_144 (by decide) (by omega) (by omega) (fun c252 => ?_) (fun c252 => ?_)
            ·
              refine fr_aload_n h rfl 0 rfl dX12_layAll_207 ?_
              refine fr_geti (iz := 26) h kX12 fX12_276 at_0M rfl rfl (by decide) (by decide) rfM_26 dX12_layAll_208 (fun z253 w254 w255 q256 => ?_)
              have r257 := q256.trans (congrFun (f238 0 (by omega)) 26)
              have r258 := r257.trans (fm_rd_s m2)
              have r259 := (congrFun (f238 0 (by omega)) 26)
              have r260 := r259.trans (fm_rd_s m2)
              have r261 := (congrFun (f238 15 (by omega)) 0)
              have r262 := r261.trans (fm_rd_k (a := 15) (b := 0) m2 (by omega))
              have r263 := (congrFun (f238 13 (by omega)) 0)
              have r264 := r263.trans (fm_rd_k (a := 13) (b := 0) m2 (by omega))
              have r265 := (congrFun (f238 14 (by omega)) 0)
              have r266 := r265.trans (fm_rd_k (a := 14) (b := 0) m2 (by omega))
              exact fr_iret h hq (by omega) ⟨(by omega), (by omega), (by omega), (by omega), (by omega), (by omega), (by omega), (by omega), (fun a k0 k1 k2 => ((f238 a (by omega)).trans (fm_up_row m2 (by omega)))), (fun i k0 k1 k2 k3 k4 k5 k6 => ((congrFun (f238 0 (by omega)) i).trans (fm_rd_i (a := 0) (b := i) m2 (by omega))))⟩ dX12_layAll_211
            ·
              exfalso; omega
          ·
            exfalso; omega
set_option maxHeartbeats 200000 in
theorem f_X12_tellItem (x : Mm) (k : Int) (h_k : fm_r k) (e0 : k = 1) (e1 : x 15 0 = 0) (e2 : x 13 0 = 0) (e3 : x 14 0 = 0) : CnI YM yX12_tellItem cX12_tellItem 4 .int 1 22 (fun G => [vr G 0, vi k]) x (fun z y' => (z = 0) ∧ (∀ a : Int, (a < 0 ∨ 0 < a) → (a < 3 ∨ 3 < a) → y' a = x a) ∧ (∀ i : Int, i ≠ 4 → y' 0 i = x 0 i)) := by
  refine cn_I (by decide) (fun _ => Nat.le_of_ble_eq_true rfl) (fun G C h hq => ?_)
  have h : OK YM G C cX12_tellItem RX12 4 (some .int) 1 22 := h
  show FW YM G C 4 x 0 [(0, vr G 0), (1, vi k)] []
  refine fr_aload_n h rfl 0 rfl dX12_tellItem_0 ?_
  refine fr_getc (z := 15) (iz := 27) h kX12 fX12_54 at_0M rfl rfl rfM_27 (by omega) dX12_tellItem_1 ?_
  refine fr_iload_n h rfl 1 rfl dX12_tellItem_4 ?_
  refine fr_iconst h dX12_tellItem_5 ?_
  refine fr_isub h dX12_tellItem_6 ?_
  refine fr_normi (fun z1 w2 q3 => ?_)
  have w4 : fm_r ((k - 1)) → z1 = (k - 1) := fun q => (iI_inj q w2 q3).symm
  have kz15 : x 15 z1 = x 15 0 := by rw [show (z1 : Int) = 0 by omega]
  refine fr_iald h arM_15 (by omega) (by omega) (rrM_15 z1) dX12_tellItem_7 (fun z5 w6 w7 q8 => ?_)
  refine fr_istore_n (L' := [(0, vr G 0), (1, vi k), (2, vi z5)]) h rfl dX12_tellItem_8 (by decide) [1, 2, 0] rfl ?_
  refine fr_aload_n h rfl 0 rfl dX12_tellItem_9 ?_
  refine fr_iconst h dX12_tellItem_10 ?_
  refine fr_puti (iz := 4) h kX12 fX12_98 at_0M rfl rfl (by decide) (by decide) rfl (by decide +kernel) rfM_4 (by omega) (by omega) dX12_tellItem_11 ?_
  refine fr_mem (fun x9 m10 => ?_)
  refine fr_aload_n h rfl 0 rfl dX12_tellItem_14 ?_
  refine fr_aload_n h rfl 0 rfl dX12_tellItem_15 ?_
  refine fr_getc (z := 14) (iz := 25) h kX12 fX12_51 at_0M rfl rfl rfM_25 (by omega) dX12_tellItem_16 ?_
  refine fr_iload_n h rfl 2 rfl dX12_tellItem_19 ?_
  refine fr_iald h arM_14 (by omega) (by omega) (rrM_14 z5) dX12_tellItem_20 (fun z11 w12 w13 q14 => ?_)
  have r15 := q14.trans (fm_rd_k (a := 14) (b := z5) m10 (by omega))
  refine fr_i2l h (by omega) dX12_tellItem_21 ?_
  have r16 := (fm_rd_s m10)
  refine fr_cvV h kX12 at_0M wX12_tell lX12_269 (c_X12_tell x9 z11 (by omega) (by omega)) rfl (by decide) (by decide) rfl (Nat.le_of_ble_eq_true rfl) dX12_tellItem_22 (fun x17 p20 => ?_)
  obtain ⟨p21, f22, f23⟩ := p20
  refine fr_iconst h dX12_tellItem_25 ?_
  refine fr_istore_n (L' := [(0, vr G 0), (1, vi k), (2, vi z5), (3, vi 0)]) h rfl dX12_tellItem_26 (by decide) [1, 2, 3, 0] rfl ?_
  refine fr_iload_n h rfl 3 rfl dX12_tellItem_27 ?_
  refine fr_aload_n h rfl 0 rfl dX12_tellItem_28 ?_
  refine fr_getc (z := 13) (iz := 24) h kX12 fX12_48 at_0M rfl rfl rfM_24 (by omega) dX12_tellItem_29 ?_
  refine fr_iload_n h rfl 2 rfl dX12_tellItem_32 ?_
  have kz13 : x 13 z5 = x 13 0 := by rw [show (z5 : Int) = 0 by omega]
  refine fr_iald h arM_13 (by omega) (by omega) (rrM_13 z5) dX12_tellItem_33 (fun z24 w25 w26 q27 => ?_)
  have r28 := q27.trans (congrFun (f22 13 (by omega) (by omega)) z5)
  have r29 := r28.trans (fm_rd_k (a := 13) (b := z5) m10 (by omega))
  refine fr_icmp_ge (tgt := 59) h dX12_tellItem_34 (by decide) (by omega) (by omega) (fun c30 => ?_) (fun c30 => ?_)
  ·
    refine fr_aload_n h rfl 0 rfl dX12_tellItem_59 ?_
    refine fr_getc (z := 13) (iz := 24) h kX12 fX12_48 at_0M rfl rfl rfM_24 (by omega) dX12_tellItem_60 ?_
    refine fr_iload_n h rfl 2 rfl dX12_tellItem_63 ?_
    have kz13 : x 13 z5 = x 13 0 := by rw [show (z5 : Int) = 0 by omega]
    refine fr_iald h arM_13 (by omega) (by omega) (rrM_13 z5) dX12_tellItem_64 (fun z31 w32 w33 q34 => ?_)
    have r35 := q34.trans (congrFun (f22 13 (by omega) (by omega)) z5)
    have r36 := r35.trans (fm_rd_k (a := 13) (b := z5) m10 (by omega))
    exact fr_iret h hq (by omega) ⟨(by omega), (fun a k0 k1 => ((f22 a (by omega) (by omega)).trans (fm_up_row m10 (by omega)))), (fun i k0 => ((f23 i (by omega)).trans (fm_rd_i (a := 0) (b := i) m10 (by omega))))⟩ dX12_tellItem_65
  ·
    exfalso; omega
set_option maxHeartbeats 200000 in
theorem f_X12_costAt (x : Mm) (k : Int) (h_k : fm_r k) (e0 : k = 1) (e1 : x 15 0 = 0) (e2 : x 13 0 = 0) (e3 : x 14 0 = 0) : CnI YM yX12_costAt cX12_costAt 2 .int 0 0 (fun G => [vr G 0, vi k]) x (fun z y' => (z = 0) ∧ (y' = x)) := by
  refine cn_I (by decide) (fun _ => Nat.le_of_ble_eq_true rfl) (fun G C h hq => ?_)
  have h : OK YM G C cX12_costAt RX12 2 (some .int) 0 0 := h
  show FW YM G C 2 x 0 [(0, vr G 0), (1, vi k)] []
  refine fr_aload_n h rfl 0 rfl dX12_costAt_0 ?_
  refine fr_getc (z := 14) (iz := 25) h kX12 fX12_51 at_0M rfl rfl rfM_25 (by omega) dX12_costAt_1 ?_
  refine fr_aload_n h rfl 0 rfl dX12_costAt_4 ?_
  refine fr_getc (z := 15) (iz := 27) h kX12 fX12_54 at_0M rfl rfl rfM_27 (by omega) dX12_costAt_5 ?_
  refine fr_iload_n h rfl 1 rfl dX12_costAt_8 ?_
  refine fr_iconst h dX12_costAt_9 ?_
  refine fr_isub h dX12_costAt_10 ?_
  refine fr_normi (fun z1 w2 q3 => ?_)
  have w4 : fm_r ((k - 1)) → z1 = (k - 1) := fun q => (iI_inj q w2 q3).symm
  have kz15 : x 15 z1 = x 15 0 := by rw [show (z1 : Int) = 0 by omega]
  refine fr_iald h arM_15 (by omega) (by omega) (rrM_15 z1) dX12_costAt_11 (fun z5 w6 w7 q8 => ?_)
  have kz14 : x 14 z5 = x 14 0 := by rw [show (z5 : Int) = 0 by omega]
  refine fr_iald h arM_14 (by omega) (by omega) (rrM_14 z5) dX12_costAt_12 (fun z9 w10 w11 q12 => ?_)
  exact fr_iret h hq (by omega) ⟨(by omega), rfl⟩ dX12_costAt_13
set_option maxHeartbeats 200000 in
theorem f_X12_upTo (x : Mm) (k : Int) (h_k : fm_r k) (e0 : x 15 0 = 0) (e1 : x 13 0 = 0) (e2 : x 14 0 = 0) (e3 : x 0 26 ≤ 1) : CnI YM yX12_upTo cX12_upTo 3 .int 0 0 (fun G => [vr G 0, vi k]) x (fun z y' => (0 ≤ z) ∧ (z ≤ x 0 26) ∧ (x 0 26 = 1 → 0 ≤ k → z = 1) ∧ (k < 0 → z = 0) ∧ (y' = x)) := by
  refine cn_I (by decide) (fun _ => Nat.le_of_ble_eq_true rfl) (fun G C h hq => ?_)
  have h : OK YM G C cX12_upTo RX12 3 (some .int) 0 0 := h
  show FW YM G C 3 x 0 [(0, vr G 0), (1, vi k)] []
  refine fr_rng (fun hR => ?_)
  have h26 : 0 ≤ x 0 26 := by have q := hR 0 26; rw [rfM_26] at q; exact q.1
  refine fr_iconst h dX12_upTo_0 ?_
  refine fr_istore_n (L' := [(0, vr G 0), (1, vi k), (2, vi 0)]) h rfl dX12_upTo_1 (by decide) [1, 2, 0] rfl ?_
  have HL1 : ∀ (n1 : Nat) (l2_1 : Int), fm_r l2_1 → 0 ≤ l2_1 → l2_1 ≤ 1300 → l2_1 ≤ x 0 26 → (1 ≤ l2_1 → 0 ≤ k) → (1300 - l2_1) < n1 → FW YM G C 3 x 2 [(0, vr G 0), (1, vi k), (2, vi l2_1)] [] := by
    intro n1
    induction n1 with
    | zero =>
      intro l2_1 g1_0 g1_1 g1_2 g1_3 g1_4 g1_5
      exfalso; omega
    | succ n1 ih1 =>
      intro l2_1 g1_0 g1_1 g1_2 g1_3 g1_4 g1_5
      refine fr_iload_n h rfl 2 rfl dX12_upTo_2 ?_
      refine fr_aload_n h rfl 0 rfl dX12_upTo_3 ?_
      refine fr_geti (iz := 26) h kX12 fX12_276 at_0M rfl rfl (by decide) (by decide) rfM_26 dX12_upTo_4 (fun z2 w3 w4 q5 => ?_)
      refine fr_icmp_ge (tgt := 31) h dX12_upTo_7 (by decide) (by omega) (by omega) (fun c6 => ?_) (fun c6 => ?_)
      ·
        refine fr_iload_n h rfl 2 rfl dX12_upTo_31 ?_
        exact fr_iret h hq (by omega) ⟨(by omega), (by omega), (by omega), (by omega), rfl⟩ dX12_upTo_32
      ·
        refine fr_aload_n h rfl 0 rfl dX12_upTo_10 ?_
        refine fr_getc (z := 14) (iz := 25) h kX12 fX12_51 at_0M rfl rfl rfM_25 (by omega) dX12_upTo_11 ?_
        refine fr_aload_n h rfl 0 rfl dX12_upTo_14 ?_
        refine fr_getc (z := 15) (iz := 27) h kX12 fX12_54 at_0M rfl rfl rfM_27 (by omega) dX12_upTo_15 ?_
        refine fr_iload_n h rfl 2 rfl dX12_upTo_18 ?_
        have kz15 : x 15 l2_1 = x 15 0 := by rw [show (l2_1 : Int) = 0 by omega]
        refine fr_iald h arM_15 (by omega) (by omega) (rrM_15 l2_1) dX12_upTo_19 (fun z7 w8 w9 q10 => ?_)
        have kz14 : x 14 z7 = x 14 0 := by rw [show (z7 : Int) = 0 by omega]
        refine fr_iald h arM_14 (by omega) (by omega) (rrM_14 z7) dX12_upTo_20 (fun z11 w12 w13 q14 => ?_)
        refine fr_iload_n h rfl 1 rfl dX12_upTo_21 ?_
        refine fr_icmp_gt (tgt := 31) h dX12_upTo_22 (by decide) (by omega) (by omega) (fun c15 => ?_) (fun c15 => ?_)
        ·
          refine fr_iload_n h rfl 2 rfl dX12_upTo_31 ?_
          exact fr_iret h hq (by omega) ⟨(by omega), (by omega), (by omega), (by omega), rfl⟩ dX12_upTo_32
        ·
          refine fr_iinc (j := 2) (L' := [(0, vr G 0), (1, vi k), (2, vi (l2_1 + 1))]) h dX12_upTo_25 rfl (by decide) [1, 2, 0] rfl ?_
          refine fr_goto (tgt := 2) h dX12_upTo_28 (by decide) ?_
          exact ih1 (l2_1 + 1) (by omega) (by omega) (by omega) (by omega) (by omega) (by omega)
  exact HL1 ((1300 - 0) + 1 : Int).toNat 0 (by omega) (by omega) (by omega) (by omega) (by omega) (by omega)
set_option maxHeartbeats 200000 in
theorem f_X12_isLaid (x : Mm) (k : Int) (n : Int) (h_k : fm_r k) (h_n : fm_r n) (e0 : k = 0) (e1 : n = 0) (e2 : x 15 0 = 0) (e3 : x 13 0 = 0) (e4 : x 14 0 = 0) : CnI YM yX12_isLaid cX12_isLaid 4 .boolean 0 0 (fun G => [vr G 0, vi k, vi n]) x (fun z y' => (z = 1) ∧ (y' = x)) := by
  refine cn_I (by decide) (fun _ => Nat.le_of_ble_eq_true rfl) (fun G C h hq => ?_)
  have h : OK YM G C cX12_isLaid RX12 4 (some .boolean) 0 0 := h
  show FW YM G C 4 x 0 [(0, vr G 0), (1, vi k), (2, vi n)] []
  refine fr_aload_n h rfl 0 rfl dX12_isLaid_0 ?_
  refine fr_getc (z := 13) (iz := 24) h kX12 fX12_48 at_0M rfl rfl rfM_24 (by omega) dX12_isLaid_1 ?_
  refine fr_iload_n h rfl 1 rfl dX12_isLaid_4 ?_
  have kz13 : x 13 k = x 13 0 := by rw [show (k : Int) = 0 by omega]
  refine fr_iald h arM_13 (by omega) (by omega) (rrM_13 k) dX12_isLaid_5 (fun z1 w2 w3 q4 => ?_)
  refine fr_iload_n h rfl 2 rfl dX12_isLaid_6 ?_
  refine fr_icmp_eq (tgt := 12) h dX12_isLaid_7 (by decide) (by omega) (by omega) (fun c5 => ?_) (fun c5 => ?_)
  ·
    refine fr_iconst h dX12_isLaid_12 ?_
    refine fr_istore_n (L' := [(0, vr G 0), (1, vi k), (2, vi n), (3, vi 0)]) h rfl dX12_isLaid_13 (by decide) [1, 2, 3, 0] rfl ?_
    refine fr_iload_n h rfl 3 rfl dX12_isLaid_14 ?_
    refine fr_iload_n h rfl 2 rfl dX12_isLaid_15 ?_
    refine fr_icmp_ge (tgt := 47) h dX12_isLaid_16 (by decide) (by omega) (by omega) (fun c6 => ?_) (fun c6 => ?_)
    ·
      refine fr_iconst h dX12_isLaid_47 ?_
      exact fr_zret h rfl hq (by omega) ⟨(by omega), rfl⟩ dX12_isLaid_48
    ·
      exfalso; omega
  ·
    exfalso; omega
