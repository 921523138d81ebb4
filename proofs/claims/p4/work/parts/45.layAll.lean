set_option maxHeartbeats 200000 in
theorem c_bitCountM (x : Mm) (p : Int) (h_p : fm_r p) : CnI YM yJ6_bitCount_0f7a4 cJ6_bitCount_0f7a4 1 .int 0 0 (fun G => [vi p]) x (fun z y' => (0 ≤ p → p < 128 → 0 ≤ z ∧ z ≤ 7 ∧ z = (pcn p.toNat : Int)) ∧ (y' = x)) := by
  refine cn_I (by decide) (fun _ => Nat.le_of_ble_eq_true rfl) (fun G C h hq => ?_)
  have h : OK YM G C cJ6_bitCount_0f7a4 RJ6 1 (some .int) 0 0 := h
  show FW YM G C 1 x 0 [(0, vi p)] []
  refine fr_iload_n h rfl 0 rfl dJ6_bitCount_0f7a4_0 ?_
  refine fr_iload_n h rfl 0 rfl dJ6_bitCount_0f7a4_1 ?_
  refine fr_iconst h dJ6_bitCount_0f7a4_2 ?_
  refine fr_iushr h dJ6_bitCount_0f7a4_3 (fun z1 w2 q3 w4 => ?_)
  refine fr_ldcw (z := 1431655765) h (by exact tb_4 (i := 0) (by decide +kernel) (by decide +kernel)) rfl dJ6_bitCount_0f7a4_4 ?_
  refine fr_iand h dJ6_bitCount_0f7a4_7 (fun z5 w6 q7 w8 => ?_)
  have w9 := w8 (by omega) (by omega)
  refine fr_isub h dJ6_bitCount_0f7a4_8 ?_
  refine fr_normi (fun z10 w11 q12 => ?_)
  have w13 : fm_r ((p - z5)) → z10 = (p - z5) := fun q => (iI_inj q w11 q12).symm
  refine fr_istore_n (L' := [(0, vi z10)]) h rfl dJ6_bitCount_0f7a4_9 (by decide) [0] rfl ?_
  refine fr_iload_n h rfl 0 rfl dJ6_bitCount_0f7a4_10 ?_
  refine fr_ldcw (z := 858993459) h (by exact tb_4 (i := 1) (by decide +kernel) (by decide +kernel)) rfl dJ6_bitCount_0f7a4_11 ?_
  refine fr_iand h dJ6_bitCount_0f7a4_14 (fun z14 w15 q16 w17 => ?_)
  have w18 := w17 (by omega) (by omega)
  refine fr_iload_n h rfl 0 rfl dJ6_bitCount_0f7a4_15 ?_
  refine fr_iconst h dJ6_bitCount_0f7a4_16 ?_
  refine fr_iushr h dJ6_bitCount_0f7a4_17 (fun z19 w20 q21 w22 => ?_)
  refine fr_ldcw (z := 858993459) h (by exact tb_4 (i := 1) (by decide +kernel) (by decide +kernel)) rfl dJ6_bitCount_0f7a4_18 ?_
  refine fr_iand h dJ6_bitCount_0f7a4_21 (fun z23 w24 q25 w26 => ?_)
  have w27 := w26 (by omega) (by omega)
  refine fr_iadd h dJ6_bitCount_0f7a4_22 ?_
  refine fr_istore_n (L' := [(0, vi (z14 + z23))]) h rfl dJ6_bitCount_0f7a4_23 (by decide) [0] rfl ?_
  refine fr_iload_n h rfl 0 rfl dJ6_bitCount_0f7a4_24 ?_
  refine fr_iload_n h rfl 0 rfl dJ6_bitCount_0f7a4_25 ?_
  refine fr_iconst h dJ6_bitCount_0f7a4_26 ?_
  refine fr_iushr h dJ6_bitCount_0f7a4_27 (fun z28 w29 q30 w31 => ?_)
  refine fr_iadd h dJ6_bitCount_0f7a4_28 ?_
  refine fr_normi (fun z32 w33 q34 => ?_)
  have w35 : fm_r (((z14 + z23) + z28)) → z32 = ((z14 + z23) + z28) := fun q => (iI_inj q w33 q34).symm
  refine fr_ldcw (z := 252645135) h (by exact tb_4 (i := 2) (by decide +kernel) (by decide +kernel)) rfl dJ6_bitCount_0f7a4_29 ?_
  refine fr_iand h dJ6_bitCount_0f7a4_32 (fun z36 w37 q38 w39 => ?_)
  have w40 := w39 (by omega) (by omega)
  refine fr_istore_n (L' := [(0, vi z36)]) h rfl dJ6_bitCount_0f7a4_33 (by decide) [0] rfl ?_
  refine fr_iload_n h rfl 0 rfl dJ6_bitCount_0f7a4_34 ?_
  refine fr_iload_n h rfl 0 rfl dJ6_bitCount_0f7a4_35 ?_
  refine fr_bipush h rfl dJ6_bitCount_0f7a4_36 ?_
  refine fr_iushr h dJ6_bitCount_0f7a4_38 (fun z41 w42 q43 w44 => ?_)
  refine fr_iadd h dJ6_bitCount_0f7a4_39 ?_
  refine fr_normi (fun z45 w46 q47 => ?_)
  have w48 : fm_r ((z36 + z41)) → z45 = (z36 + z41) := fun q => (iI_inj q w46 q47).symm
  refine fr_istore_n (L' := [(0, vi z45)]) h rfl dJ6_bitCount_0f7a4_40 (by decide) [0] rfl ?_
  refine fr_iload_n h rfl 0 rfl dJ6_bitCount_0f7a4_41 ?_
  refine fr_iload_n h rfl 0 rfl dJ6_bitCount_0f7a4_42 ?_
  refine fr_bipush h rfl dJ6_bitCount_0f7a4_43 ?_
  refine fr_iushr h dJ6_bitCount_0f7a4_45 (fun z49 w50 q51 w52 => ?_)
  have w53 := w52 rfl
  refine fr_iadd h dJ6_bitCount_0f7a4_46 ?_
  refine fr_normi (fun z54 w55 q56 => ?_)
  have w57 : fm_r ((z45 + z49)) → z54 = (z45 + z49) := fun q => (iI_inj q w55 q56).symm
  refine fr_istore_n (L' := [(0, vi z54)]) h rfl dJ6_bitCount_0f7a4_47 (by decide) [0] rfl ?_
  refine fr_iload_n h rfl 0 rfl dJ6_bitCount_0f7a4_48 ?_
  refine fr_bipush h rfl dJ6_bitCount_0f7a4_49 ?_
  refine fr_iand h dJ6_bitCount_0f7a4_51 (fun z58 w59 q60 w61 => ?_)
  have w62 := w61 (by omega) (by omega)
  exact fr_iret h hq (by omega) ⟨(fun a b => bitc a b (by omega) q3 q7 q12 q16 q21 q25 q30 q34 q38 q43 q47 q51 q56 q60), rfl⟩ dJ6_bitCount_0f7a4_52
set_option maxHeartbeats 1000000 in
theorem c_X12_merge (x : Mm) (p : Int) (w : Int) (v : Int) (h_p : fm_r p) (h_w : fm_r w) (h_v : fm_r v) (e0 : 0 ≤ p) (e1 : p ≤ w) (e2 : w ≤ v) (e3 : v ≤ 1300) : CnV YM yX12_merge cX12_merge 8 0 0 (fun G => [vr G 0, vi p, vi w, vi v]) x (fun y' => (∀ a : Int, (a < 15 ∨ 16 < a) → y' a = x a)) := by
  refine cn_V (by decide) (fun _ => Nat.le_of_ble_eq_true rfl) (fun G C h hq => ?_)
  have h : OK YM G C cX12_merge RX12 8 none 0 0 := h
  show FW YM G C 8 x 0 [(0, vr G 0), (1, vi p), (2, vi w), (3, vi v)] []
  refine fr_iload_n h rfl 1 rfl dX12_merge_0 ?_
  refine fr_istore (L' := [(0, vr G 0), (1, vi p), (2, vi w), (3, vi v), (4, vi p)]) h dX12_merge_1 (by decide) [1, 2, 3, 4, 0] rfl ?_
  refine fr_iload_n h rfl 2 rfl dX12_merge_3 ?_
  refine fr_istore (L' := [(0, vr G 0), (1, vi p), (2, vi w), (3, vi v), (4, vi p), (5, vi w)]) h dX12_merge_4 (by decide) [1, 2, 3, 4, 5, 0] rfl ?_
  refine fr_iload_n h rfl 1 rfl dX12_merge_6 ?_
  refine fr_istore (L' := [(0, vr G 0), (1, vi p), (2, vi w), (3, vi v), (4, vi p), (5, vi w), (6, vi p)]) h dX12_merge_7 (by decide) [1, 2, 3, 4, 5, 6, 0] rfl ?_
  have HL1 : ∀ (n1 : Nat) (l4_1 l5_1 l6_1 : Int) (x_1 : Mm), fm_r l4_1 → 0 ≤ l4_1 → l4_1 ≤ 1300 → fm_r l5_1 → 0 ≤ l5_1 → l5_1 ≤ 1300 → fm_r l6_1 → 0 ≤ l6_1 → l6_1 ≤ 1300 → l4_1 + l5_1 = l6_1 + w → l4_1 ≤ w → l5_1 ≤ v → (∀ a : Int, (a < 16 ∨ 16 < a) → x_1 a = x a) → (1300 - l6_1) < n1 → FW YM G C 8 x_1 9 [(0, vr G 0), (1, vi p), (2, vi w), (3, vi v), (4, vi l4_1), (5, vi l5_1), (6, vi l6_1)] [] := by
    intro n1
    induction n1 with
    | zero =>
      intro l4_1 l5_1 l6_1 x_1 g1_0 g1_1 g1_2 g1_3 g1_4 g1_5 g1_6 g1_7 g1_8 g1_9 g1_10 g1_11 g1_12 g1_13
      exfalso; omega
    | succ n1 ih1 =>
      intro l4_1 l5_1 l6_1 x_1 g1_0 g1_1 g1_2 g1_3 g1_4 g1_5 g1_6 g1_7 g1_8 g1_9 g1_10 g1_11 g1_12 g1_13
      refine fr_iload h 6 rfl dX12_merge_9 ?_
      refine fr_iload_n h rfl 3 rfl dX12_merge_11 ?_
      refine fr_icmp_ge (tgt := 105) h dX12_merge_12 (by decide) (by omega) (by omega) (fun c2 => ?_) (fun c2 => ?_)
      ·
        refine fr_iload_n h rfl 1 rfl dX12_merge_105 ?_
        refine fr_istore (L' := [(0, vr G 0), (1, vi p), (2, vi w), (3, vi v), (4, vi l4_1), (5, vi l5_1), (6, vi p)]) h dX12_merge_106 (by decide) [1, 2, 3, 4, 5, 6, 0] rfl ?_
        have HL3 : ∀ (n3 : Nat) (l6_3 : Int) (x_3 : Mm), fm_r l6_3 → 0 ≤ l6_3 → l6_3 ≤ 1300 → (∀ a : Int, (a < 15 ∨ 15 < a) → x_3 a = x_1 a) → (1300 - l6_3) < n3 → FW YM G C 8 x_3 108 [(0, vr G 0), (1, vi p), (2, vi w), (3, vi v), (4, vi l4_1), (5, vi l5_1), (6, vi l6_3)] [] := by
          intro n3
          induction n3 with
          | zero =>
            intro l6_3 x_3 g3_0 g3_1 g3_2 g3_3 g3_4
            exfalso; omega
          | succ n3 ih3 =>
            intro l6_3 x_3 g3_0 g3_1 g3_2 g3_3 g3_4
            refine fr_iload h 6 rfl dX12_merge_108 ?_
            refine fr_iload_n h rfl 3 rfl dX12_merge_110 ?_
            refine fr_icmp_ge (tgt := 134) h dX12_merge_111 (by decide) (by omega) (by omega) (fun c4 => ?_) (fun c4 => ?_)
            ·
              exact fr_vret h hq (fun a k0 => ((g3_3 a (by omega)).trans (g1_12 a (by omega)))) dX12_merge_134
            ·
              refine fr_aload_n h rfl 0 rfl dX12_merge_114 ?_
              refine fr_getc (z := 15) (iz := 27) h kX12 fX12_54 at_0M rfl rfl rfM_27 (by omega) dX12_merge_115 ?_
              refine fr_iload h 6 rfl dX12_merge_118 ?_
              refine fr_aload_n h rfl 0 rfl dX12_merge_120 ?_
              refine fr_getc (z := 16) (iz := 28) h kX12 fX12_57 at_0M rfl rfl rfM_28 (by omega) dX12_merge_121 ?_
              refine fr_iload h 6 rfl dX12_merge_124 ?_
              refine fr_iald h arM_16 (by omega) (by omega) (rrM_16 l6_3) dX12_merge_126 (fun z5 w6 w7 q8 => ?_)
              have r9 := q8.trans (congrFun (g3_3 16 (by omega)) l6_3)
              refine fr_iast h arM_15 (by omega) (by omega) (rrM_15 l6_3) (by omega) (by omega) dX12_merge_127 ?_
              refine fr_mem (fun x10 m11 => ?_)
              refine fr_iinc (j := 6) (L' := [(0, vr G 0), (1, vi p), (2, vi w), (3, vi v), (4, vi l4_1), (5, vi l5_1), (6, vi (l6_3 + 1))]) h dX12_merge_128 rfl (by decide) [1, 2, 3, 4, 5, 6, 0] rfl ?_
              refine fr_goto (tgt := 108) h dX12_merge_131 (by decide) ?_
              exact ih3 (l6_3 + 1) x10 (by omega) (by omega) (by omega) (fun a k0 => ((fm_up_row m11 (by omega)).trans (g3_3 a (by omega)))) (by omega)
        exact HL3 ((1300 - p) + 1 : Int).toNat p x_1 (by omega) (by omega) (by omega) (fun a _ => rfl) (by omega)
      ·
        refine fr_iload h 5 rfl dX12_merge_15 ?_
        refine fr_iload_n h rfl 3 rfl dX12_merge_17 ?_
        refine fr_icmp_eq (tgt := 54) h dX12_merge_18 (by decide) (by omega) (by omega) (fun c12 => ?_) (fun c12 => ?_)
        ·
          refine fr_iconst h dX12_merge_54 ?_
          refine fr_goto (tgt := 59) h dX12_merge_55 (by decide) ?_
          refine fr_istore (L' := [(0, vr G 0), (1, vi p), (2, vi w), (3, vi v), (4, vi l4_1), (5, vi l5_1), (6, vi l6_1), (7, vi 1)]) h dX12_merge_59 (by decide) [1, 2, 3, 4, 5, 6, 7, 0] rfl ?_
          refine fr_aload_n h rfl 0 rfl dX12_merge_61 ?_
          refine fr_getc (z := 16) (iz := 28) h kX12 fX12_57 at_0M rfl rfl rfM_28 (by omega) dX12_merge_62 ?_
          refine fr_iload h 6 rfl dX12_merge_65 ?_
          refine fr_aload_n h rfl 0 rfl dX12_merge_67 ?_
          refine fr_getc (z := 15) (iz := 27) h kX12 fX12_54 at_0M rfl rfl rfM_27 (by omega) dX12_merge_68 ?_
          refine fr_iload h 7 rfl dX12_merge_71 ?_
          refine fr_if_eq (tgt := 81) h dX12_merge_73 (by decide) (by omega) (fun c13 => by exfalso; omega) (fun c13 => ?_)
          refine fr_iload h 4 rfl dX12_merge_76 ?_
          refine fr_goto (tgt := 83) h dX12_merge_78 (by decide) ?_
          refine fr_iald h arM_15 (by omega) (by omega) (rrM_15 l4_1) dX12_merge_83 (fun z14 w15 w16 q17 => ?_)
          have r18 := q17.trans (congrFun (g1_12 15 (by omega)) l4_1)
          refine fr_iast h arM_16 (by omega) (by omega) (rrM_16 l6_1) (by omega) (by omega) dX12_merge_84 ?_
          refine fr_mem (fun x19 m20 => ?_)
          refine fr_iload h 7 rfl dX12_merge_85 ?_
          refine fr_if_eq (tgt := 96) h dX12_merge_87 (by decide) (by omega) (fun c21 => by exfalso; omega) (fun c21 => ?_)
          refine fr_iinc (j := 4) (L' := [(0, vr G 0), (1, vi p), (2, vi w), (3, vi v), (4, vi (l4_1 + 1)), (5, vi l5_1), (6, vi l6_1), (7, vi 1)]) h dX12_merge_90 rfl (by decide) [1, 2, 3, 4, 0, 5, 6, 7] rfl ?_
          refine fr_goto (tgt := 99) h dX12_merge_93 (by decide) ?_
          refine fr_iinc (j := 6) (L' := [(0, vr G 0), (1, vi p), (2, vi w), (3, vi v), (4, vi (l4_1 + 1)), (5, vi l5_1), (6, vi (l6_1 + 1)), (7, vi 1)]) h dX12_merge_99 rfl (by decide) [1, 2, 3, 4, 5, 6, 0, 7] rfl ?_
          refine fr_goto (tgt := 9) h dX12_merge_102 (by decide) ?_
          refine fr_sub (L' := [(0, vr G 0), (1, vi p), (2, vi w), (3, vi v), (4, vi (l4_1 + 1)), (5, vi l5_1), (6, vi (l6_1 + 1))]) [0, 1, 2, 3, 4, 5, 6] rfl ?_
          exact ih1 (l4_1 + 1) l5_1 (l6_1 + 1) x19 (by omega) (by omega) (by omega) (by omega) (by omega) (by omega) (by omega) (by omega) (by omega) (by omega) (by omega) (by omega) (fun a k0 => ((fm_up_row m20 (by omega)).trans (g1_12 a (by omega)))) (by omega)
        ·
          refine fr_iload h 4 rfl dX12_merge_21 ?_
          refine fr_iload_n h rfl 2 rfl dX12_merge_23 ?_
          refine fr_icmp_ge (tgt := 58) h dX12_merge_24 (by decide) (by omega) (by omega) (fun c22 => ?_) (fun c22 => ?_)
          ·
            refine fr_iconst h dX12_merge_58 ?_
            refine fr_istore (L' := [(0, vr G 0), (1, vi p), (2, vi w), (3, vi v), (4, vi l4_1), (5, vi l5_1), (6, vi l6_1), (7, vi 0)]) h dX12_merge_59 (by decide) [1, 2, 3, 4, 5, 6, 7, 0] rfl ?_
            refine fr_aload_n h rfl 0 rfl dX12_merge_61 ?_
            refine fr_getc (z := 16) (iz := 28) h kX12 fX12_57 at_0M rfl rfl rfM_28 (by omega) dX12_merge_62 ?_
            refine fr_iload h 6 rfl dX12_merge_65 ?_
            refine fr_aload_n h rfl 0 rfl dX12_merge_67 ?_
            refine fr_getc (z := 15) (iz := 27) h kX12 fX12_54 at_0M rfl rfl rfM_27 (by omega) dX12_merge_68 ?_
            refine fr_iload h 7 rfl dX12_merge_71 ?_
            refine fr_if_eq (tgt := 81) h dX12_merge_73 (by decide) (by omega) (fun c23 => ?_) (fun c23 => by exfalso; omega)
            refine fr_iload h 5 rfl dX12_merge_81 ?_
            refine fr_iald h arM_15 (by omega) (by omega) (rrM_15 l5_1) dX12_merge_83 (fun z24 w25 w26 q27 => ?_)
            have r28 := q27.trans (congrFun (g1_12 15 (by omega)) l5_1)
            refine fr_iast h arM_16 (by omega) (by omega) (rrM_16 l6_1) (by omega) (by omega) dX12_merge_84 ?_
            refine fr_mem (fun x29 m30 => ?_)
            refine fr_iload h 7 rfl dX12_merge_85 ?_
            refine fr_if_eq (tgt := 96) h dX12_merge_87 (by decide) (by omega) (fun c31 => ?_) (fun c31 => by exfalso; omega)
            refine fr_iinc (j := 5) (L' := [(0, vr G 0), (1, vi p), (2, vi w), (3, vi v), (4, vi l4_1), (5, vi (l5_1 + 1)), (6, vi l6_1), (7, vi 0)]) h dX12_merge_96 rfl (by decide) [1, 2, 3, 4, 5, 0, 6, 7] rfl ?_
            refine fr_iinc (j := 6) (L' := [(0, vr G 0), (1, vi p), (2, vi w), (3, vi v), (4, vi l4_1), (5, vi (l5_1 + 1)), (6, vi (l6_1 + 1)), (7, vi 0)]) h dX12_merge_99 rfl (by decide) [1, 2, 3, 4, 5, 6, 0, 7] rfl ?_
            refine fr_goto (tgt := 9) h dX12_merge_102 (by decide) ?_
            refine fr_sub (L' := [(0, vr G 0), (1, vi p), (2, vi w), (3, vi v), (4, vi l4_1), (5, vi (l5_1 + 1)), (6, vi (l6_1 + 1))]) [0, 1, 2, 3, 4, 5, 6] rfl ?_
            exact ih1 l4_1 (l5_1 + 1) (l6_1 + 1) x29 (by omega) (by omega) (by omega) (by omega) (by omega) (by omega) (by omega) (by omega) (by omega) (by omega) (by omega) (by omega) (fun a k0 => ((fm_up_row m30 (by omega)).trans (g1_12 a (by omega)))) (by omega)
          ·
            refine fr_aload_n h rfl 0 rfl dX12_merge_27 ?_
            refine fr_getc (z := 14) (iz := 25) h kX12 fX12_51 at_0M rfl rfl rfM_25 (by omega) dX12_merge_28 ?_
            refine fr_aload_n h rfl 0 rfl dX12_merge_31 ?_
            refine fr_getc (z := 15) (iz := 27) h kX12 fX12_54 at_0M rfl rfl rfM_27 (by omega) dX12_merge_32 ?_
            refine fr_iload h 4 rfl dX12_merge_35 ?_
            refine fr_iald h arM_15 (by omega) (by omega) (rrM_15 l4_1) dX12_merge_37 (fun z32 w33 w34 q35 => ?_)
            have r36 := q35.trans (congrFun (g1_12 15 (by omega)) l4_1)
            refine fr_iald h arM_14 (by omega) (by omega) (rrM_14 z32) dX12_merge_38 (fun z37 w38 w39 q40 => ?_)
            have r41 := q40.trans (congrFun (g1_12 14 (by omega)) z32)
            refine fr_aload_n h rfl 0 rfl dX12_merge_39 ?_
            refine fr_getc (z := 14) (iz := 25) h kX12 fX12_51 at_0M rfl rfl rfM_25 (by omega) dX12_merge_40 ?_
            refine fr_aload_n h rfl 0 rfl dX12_merge_43 ?_
            refine fr_getc (z := 15) (iz := 27) h kX12 fX12_54 at_0M rfl rfl rfM_27 (by omega) dX12_merge_44 ?_
            refine fr_iload h 5 rfl dX12_merge_47 ?_
            refine fr_iald h arM_15 (by omega) (by omega) (rrM_15 l5_1) dX12_merge_49 (fun z42 w43 w44 q45 => ?_)
            have r46 := q45.trans (congrFun (g1_12 15 (by omega)) l5_1)
            refine fr_iald h arM_14 (by omega) (by omega) (rrM_14 z42) dX12_merge_50 (fun z47 w48 w49 q50 => ?_)
            have r51 := q50.trans (congrFun (g1_12 14 (by omega)) z42)
            refine fr_icmp_gt (tgt := 58) h dX12_merge_51 (by decide) (by omega) (by omega) (fun c52 => ?_) (fun c52 => ?_)
            ·
              refine fr_iconst h dX12_merge_58 ?_
              refine fr_istore (L' := [(0, vr G 0), (1, vi p), (2, vi w), (3, vi v), (4, vi l4_1), (5, vi l5_1), (6, vi l6_1), (7, vi 0)]) h dX12_merge_59 (by decide) [1, 2, 3, 4, 5, 6, 7, 0] rfl ?_
              refine fr_aload_n h rfl 0 rfl dX12_merge_61 ?_
              refine fr_getc (z := 16) (iz := 28) h kX12 fX12_57 at_0M rfl rfl rfM_28 (by omega) dX12_merge_62 ?_
              refine fr_iload h 6 rfl dX12_merge_65 ?_
              refine fr_aload_n h rfl 0 rfl dX12_merge_67 ?_
              refine fr_getc (z := 15) (iz := 27) h kX12 fX12_54 at_0M rfl rfl rfM_27 (by omega) dX12_merge_68 ?_
              refine fr_iload h 7 rfl dX12_merge_71 ?_
              refine fr_if_eq (tgt := 81) h dX12_merge_73 (by decide) (by omega) (fun c53 => ?_) (fun c53 => by exfalso; omega)
              refine fr_iload h 5 rfl dX12_merge_81 ?_
              refine fr_iald h arM_15 (by omega) (by omega) (rrM_15 l5_1) dX12_merge_83 (fun z54 w55 w56 q57 => ?_)
              have r58 := q57.trans (congrFun (g1_12 15 (by omega)) l5_1)
              refine fr_iast h arM_16 (by omega) (by omega) (rrM_16 l6_1) (by omega) (by omega) dX12_merge_84 ?_
              refine fr_mem (fun x59 m60 => ?_)
              refine fr_iload h 7 rfl dX12_merge_85 ?_
              refine fr_if_eq (tgt := 96) h dX12_merge_87 (by decide) (by omega) (fun c61 => ?_) (fun c61 => by exfalso; omega)
              refine fr_iinc (j := 5) (L' := [(0, vr G 0), (1, vi p), (2, vi w), (3, vi v), (4, vi l4_1), (5, vi (l5_1 + 1)), (6, vi l6_1), (7, vi 0)]) h dX12_merge_96 rfl (by decide) [1, 2, 3, 4, 5, 0, 6, 7] rfl ?_
              refine fr_iinc (j := 6) (L' := [(0, vr G 0), (1, vi p), (2, vi w), (3, vi v), (4, vi l4_1), (5, vi (l5_1 + 1)), (6, vi (l6_1 + 1)), (7, vi 0)]) h dX12_merge_99 rfl (by decide) [1, 2, 3, 4, 5, 6, 0, 7] rfl ?_
              refine fr_goto (tgt := 9) h dX12_merge_102 (by decide) ?_
              refine fr_sub (L' := [(0, vr G 0), (1, vi p), (2, vi w), (3, vi v), (4, vi l4_1), (5, vi (l5_1 + 1)), (6, vi (l6_1 + 1))]) [0, 1, 2, 3, 4, 5, 6] rfl ?_
              exact ih1 l4_1 (l5_1 + 1) (l6_1 + 1) x59 (by omega) (by omega) (by omega) (by omega) (by omega) (by omega) (by omega) (by omega) (by omega) (by omega) (by omega) (by omega) (fun a k0 => ((fm_up_row m60 (by omega)).trans (g1_12 a (by omega)))) (by omega)
            ·
              refine fr_iconst h dX12_merge_54 ?_
              refine fr_goto (tgt := 59) h dX12_merge_55 (by decide) ?_
              refine fr_istore (L' := [(0, vr G 0), (1, vi p), (2, vi w), (3, vi v), (4, vi l4_1), (5, vi l5_1), (6, vi l6_1), (7, vi 1)]) h dX12_merge_59 (by decide) [1, 2, 3, 4, 5, 6, 7, 0] rfl ?_
              refine fr_aload_n h rfl 0 rfl dX12_merge_61 ?_
              refine fr_getc (z := 16) (iz := 28) h kX12 fX12_57 at_0M rfl rfl rfM_28 (by omega) dX12_merge_62 ?_
              refine fr_iload h 6 rfl dX12_merge_65 ?_
              refine fr_aload_n h rfl 0 rfl dX12_merge_67 ?_
              refine fr_getc (z := 15) (iz := 27) h kX12 fX12_54 at_0M rfl rfl rfM_27 (by omega) dX12_merge_68 ?_
              refine fr_iload h 7 rfl dX12_merge_71 ?_
              refine fr_if_eq (tgt := 81) h dX12_merge_73 (by decide) (by omega) (fun c62 => by exfalso; omega) (fun c62 => ?_)
              refine fr_iload h 4 rfl dX12_merge_76 ?_
              refine fr_goto (tgt := 83) h dX12_merge_78 (by decide) ?_
              refine fr_iald h arM_15 (by omega) (by omega) (rrM_15 l4_1) dX12_merge_83 (fun z63 w64 w65 q66 => ?_)
              have r67 := q66.trans (congrFun (g1_12 15 (by omega)) l4_1)
              refine fr_iast h arM_16 (by omega) (by omega) (rrM_16 l6_1) (by omega) (by omega) dX12_merge_84 ?_
              refine fr_mem (fun x68 m69 => ?_)
              refine fr_iload h 7 rfl dX12_merge_85 ?_
              refine fr_if_eq (tgt := 96) h dX12_merge_87 (by decide) (by omega) (fun c70 => by exfalso; omega) (fun c70 => ?_)
              refine fr_iinc (j := 4) (L' := [(0, vr G 0), (1, vi p), (2, vi w), (3, vi v), (4, vi (l4_1 + 1)), (5, vi l5_1), (6, vi l6_1), (7, vi 1)]) h dX12_merge_90 rfl (by decide) [1, 2, 3, 4, 0, 5, 6, 7] rfl ?_
              refine fr_goto (tgt := 99) h dX12_merge_93 (by decide) ?_
              refine fr_iinc (j := 6) (L' := [(0, vr G 0), (1, vi p), (2, vi w), (3, vi v), (4, vi (l4_1 + 1)), (5, vi l5_1), (6, vi (l6_1 + 1)), (7, vi 1)]) h dX12_merge_99 rfl (by decide) [1, 2, 3, 4, 5, 6, 0, 7] rfl ?_
              refine fr_goto (tgt := 9) h dX12_merge_102 (by decide) ?_
              refine fr_sub (L' := [(0, vr G 0), (1, vi p), (2, vi w), (3, vi v), (4, vi (l4_1 + 1)), (5, vi l5_1), (6, vi (l6_1 + 1))]) [0, 1, 2, 3, 4, 5, 6] rfl ?_
              exact ih1 (l4_1 + 1) l5_1 (l6_1 + 1) x68 (by omega) (by omega) (by omega) (by omega) (by omega) (by omega) (by omega) (by omega) (by omega) (by omega) (by omega) (by omega) (fun a k0 => ((fm_up_row m69 (by omega)).trans (g1_12 a (by omega)))) (by omega)
  exact HL1 ((1300 - p) + 1 : Int).toNat p w p x (by omega) (by omega) (by omega) (by omega) (by omega) (by omega) (by omega) (by omega) (by omega) (by omega) (by omega) (by omega) (fun a _ => rfl) (by omega)
set_option maxHeartbeats 4000000 in
theorem c_X12_layAll (x : Mm) (b : Int) (hb : isSA b) (k : Int) (h_k : fm_r k) (e0 : MI (x b)) : CnI YM yX12_layAll cX12_layAll 5 .int 206 6224 (fun G => [vr G 0, vr G b, vi k]) x (fun z y' => (0 ≤ z) ∧ (z ≤ 1300) ∧ (y' 0 26 = z) ∧ (k = 0 → z = ccp (x b) 0) ∧ (k = 1 → z = cn1 (x b)) ∧ (k ≠ 0 → k ≠ 1 → z ≤ 720) ∧ (∀ a : Int, (a < 0 ∨ 0 < a) → (a < 7 ∨ 7 < a) → (a < 12 ∨ 18 < a) → y' a = x a) ∧ (∀ i : Int, i ≠ 6 → i ≠ 7 → i ≠ 8 → i ≠ 9 → i ≠ 10 → i ≠ 15 → i ≠ 26 → y' 0 i = x 0 i)) := by
  refine cn_I (by decide) (fun _ => Nat.le_of_ble_eq_true rfl) (fun G C h hq => ?_)
  have h : OK YM G C cX12_layAll RX12 5 (some .int) 206 6224 := h
  show FW YM G C 5 x 0 [(0, vr G 0), (1, vr G b), (2, vi k)] []
  have h_b := SA_b hb
  have hs_b : b = 1 ∨ b = 9 ∨ b = 10 := hb
  refine fr_aload_n h rfl 0 rfl dX12_layAll_0 ?_
  refine fr_iconst h dX12_layAll_1 ?_
  refine fr_puti (iz := 26) h kX12 fX12_276 at_0M rfl rfl (by decide) (by decide) rfl (by decide +kernel) rfM_26 (by omega) (by omega) dX12_layAll_2 ?_
  refine fr_mem (fun x1 m2 => ?_)
  refine fr_iload_n h rfl 2 rfl dX12_layAll_5 ?_
  by_cases c4 : k = 0
  ·
    refine fr_tab_in (off := 30) (tgt := 36) h dX12_layAll_6 (by omega) (by omega) (by omega) (by rw [c4]; rfl) (by decide) ?_
    refine fr_aload_n h rfl 0 rfl dX12_layAll_36 ?_
    refine fr_aload_n h rfl 1 rfl dX12_layAll_37 ?_
    refine fr_iconst h dX12_layAll_38 ?_
    refine fr_iconst h dX12_layAll_39 ?_
    have hp6 := pw6_4
    have r5 := (fm_rd_s m2)
    refine fr_cvV h kX12 at_0M wX12_layChoices lX12_286 (c_X12_layChoices 5 x1 b hb 0 0 (by omega) (by omega) (by omega) (by omega) (by omega) (by omega) (by omega) (by omega)) rfl (by decide) (by decide) rfl (Nat.le_of_ble_eq_true rfl) dX12_layAll_40 (fun x6 p9 => ?_)
    obtain ⟨p10, p11, p12, f13, f14⟩ := p9
    have hc0 : ccp (x1 b) 0 = ccp (x b) 0 := by rw [show x1 b = x b from (fm_up_row m2 (by omega))]
    refine fr_goto (tgt := 114) h dX12_layAll_43 (by decide) ?_
    refine fr_iconst h dX12_layAll_114 ?_
    refine fr_istore_n (L' := [(0, vr G 0), (1, vr G b), (2, vi k), (3, vi 0)]) h rfl dX12_layAll_115 (by decide) [1, 2, 3, 0] rfl ?_
    have HL15 : ∀ (n15 : Nat) (l3_15 : Int) (x_15 : Mm), fm_r l3_15 → 0 ≤ l3_15 → l3_15 ≤ 1300 → (∀ a : Int, (a < 15 ∨ 15 < a) → x_15 a = x6 a) → (1300 - l3_15) < n15 → FW YM G C 5 x_15 116 [(0, vr G 0), (1, vr G b), (2, vi k), (3, vi l3_15)] [] := by
      intro n15
      induction n15 with
      | zero =>
        intro l3_15 x_15 g15_0 g15_1 g15_2 g15_3 g15_4
        exfalso; omega
      | succ n15 ih15 =>
        intro l3_15 x_15 g15_0 g15_1 g15_2 g15_3 g15_4
        refine fr_iload_n h rfl 3 rfl dX12_layAll_116 ?_
        refine fr_aload_n h rfl 0 rfl dX12_layAll_117 ?_
        refine fr_geti (iz := 26) h kX12 fX12_276 at_0M rfl rfl (by decide) (by decide) rfM_26 dX12_layAll_118 (fun z16 w17 w18 q19 => ?_)
        have r20 := q19.trans (congrFun (g15_3 0 (by omega)) 26)
        have r21 := (fm_rd_s m2)
        refine fr_icmp_ge (tgt := 137) h dX12_layAll_121 (by decide) (by omega) (by omega) (fun c22 => ?_) (fun c22 => ?_)
        ·
          refine fr_iconst h dX12_layAll_137 ?_
          refine fr_istore_n (L' := [(0, vr G 0), (1, vr G b), (2, vi k), (3, vi 1)]) h rfl dX12_layAll_138 (by decide) [1, 2, 3, 0] rfl ?_
          have HL23 : ∀ (n23 : Nat) (l3_23 : Int) (x_23 : Mm), fm_r l3_23 → 1 ≤ l3_23 → l3_23 ≤ 2600 → (∀ a : Int, (a < 15 ∨ 16 < a) → x_23 a = x_15 a) → (2600 - l3_23) < n23 → FW YM G C 5 x_23 139 [(0, vr G 0), (1, vr G b), (2, vi k), (3, vi l3_23)] [] := by
            intro n23
            induction n23 with
            | zero =>
              intro l3_23 x_23 g23_0 g23_1 g23_2 g23_3 g23_4
              exfalso; omega
            | succ n23 ih23 =>
              intro l3_23 x_23 g23_0 g23_1 g23_2 g23_3 g23_4
              refine fr_iload_n h rfl 3 rfl dX12_layAll_139 ?_
              refine fr_aload_n h rfl 0 rfl dX12_layAll_140 ?_
              refine fr_geti (iz := 26) h kX12 fX12_276 at_0M rfl rfl (by decide) (by decide) rfM_26 dX12_layAll_141 (fun z24 w25 w26 q27 => ?_)
              have r28 := q27.trans (congrFun (g23_3 0 (by omega)) 26)
              have r29 := r28.trans (congrFun (g15_3 0 (by omega)) 26)
              have r30 := (fm_rd_s m2)
              refine fr_icmp_ge (tgt := 207) h dX12_layAll_144 (by decide) (by omega) (by omega) (fun c31 => ?_) (fun c31 => ?_)
              ·
                refine fr_aload_n h rfl 0 rfl dX12_layAll_207 ?_
                refine fr_geti (iz := 26) h kX12 fX12_276 at_0M rfl rfl (by decide) (by decide) rfM_26 dX12_layAll_208 (fun z32 w33 w34 q35 => ?_)
                have r36 := q35.trans (congrFun (g23_3 0 (by omega)) 26)
                have r37 := r36.trans (congrFun (g15_3 0 (by omega)) 26)
                have r38 := (fm_rd_s m2)
                have r39 := (congrFun (g23_3 0 (by omega)) 26)
                have r40 := r39.trans (congrFun (g15_3 0 (by omega)) 26)
                have r41 := (fm_rd_s m2)
                exact fr_iret h hq (by omega) ⟨(by omega), (by omega), (by omega), (by omega), (by omega), (by omega), (fun a k0 k1 k2 => ((g23_3 a (by omega)).trans ((g15_3 a (by omega)).trans ((f13 a (by omega) (by omega) (by omega) (by omega)).trans (fm_up_row m2 (by omega)))))), (fun i k0 k1 k2 k3 k4 k5 k6 => ((congrFun (g23_3 0 (by omega)) i).trans ((congrFun (g15_3 0 (by omega)) i).trans ((f14 i (by omega) (by omega) (by omega) (by omega) (by omega) (by omega) (by omega)).trans (fm_rd_i (a := 0) (b := i) m2 (by omega))))))⟩ dX12_layAll_211
              ·
                refine fr_iconst h dX12_layAll_147 ?_
                refine fr_istore (L' := [(0, vr G 0), (1, vr G b), (2, vi k), (3, vi l3_23), (4, vi 0)]) h dX12_layAll_148 (by decide) [1, 2, 3, 4, 0] rfl ?_
                have HL42 : ∀ (n42 : Nat) (l4_42 : Int) (x_42 : Mm), fm_r l4_42 → 0 ≤ l4_42 → l4_42 ≤ 4000 → (∀ a : Int, (a < 15 ∨ 16 < a) → x_42 a = x_23 a) → (4000 - l4_42) < n42 → FW YM G C 5 x_42 150 [(0, vr G 0), (1, vr G b), (2, vi k), (3, vi l3_23), (4, vi l4_42)] [] := by
                  intro n42
                  induction n42 with
                  | zero =>
                    intro l4_42 x_42 g42_0 g42_1 g42_2 g42_3 g42_4
                    exfalso; omega
                  | succ n42 ih42 =>
                    intro l4_42 x_42 g42_0 g42_1 g42_2 g42_3 g42_4
                    refine fr_iload h 4 rfl dX12_layAll_150 ?_
                    refine fr_aload_n h rfl 0 rfl dX12_layAll_152 ?_
                    refine fr_geti (iz := 26) h kX12 fX12_276 at_0M rfl rfl (by decide) (by decide) rfM_26 dX12_layAll_153 (fun z43 w44 w45 q46 => ?_)
                    have r47 := q46.trans (congrFun (g42_3 0 (by omega)) 26)
                    have r48 := r47.trans (congrFun (g23_3 0 (by omega)) 26)
                    have r49 := r48.trans (congrFun (g15_3 0 (by omega)) 26)
                    have r50 := (fm_rd_s m2)
                    refine fr_icmp_ge (tgt := 200) h dX12_layAll_156 (by decide) (by omega) (by omega) (fun c51 => ?_) (fun c51 => ?_)
                    ·
                      refine fr_iload_n h rfl 3 rfl dX12_layAll_200 ?_
                      refine fr_iconst h dX12_layAll_201 ?_
                      refine fr_imul h dX12_layAll_202 ?_
                      refine fr_istore_n (L' := [(0, vr G 0), (1, vr G b), (2, vi k), (3, vi (l3_23 * 2)), (4, vi l4_42)]) h rfl dX12_layAll_203 (by decide) [1, 2, 3, 0, 4] rfl ?_
                      refine fr_goto (tgt := 139) h dX12_layAll_204 (by decide) ?_
                      refine fr_sub (L' := [(0, vr G 0), (1, vr G b), (2, vi k), (3, vi (l3_23 * 2))]) [0, 1, 2, 3] rfl ?_
                      exact ih23 (l3_23 * 2) x_42 (by omega) (by omega) (by omega) (fun a k0 => ((g42_3 a (by omega)).trans (g23_3 a (by omega)))) (by omega)
                    ·
                      refine fr_aload_n h rfl 0 rfl dX12_layAll_159 ?_
                      refine fr_iload h 4 rfl dX12_layAll_160 ?_
                      refine fr_aload_n h rfl 0 rfl dX12_layAll_162 ?_
                      refine fr_geti (iz := 26) h kX12 fX12_276 at_0M rfl rfl (by decide) (by decide) rfM_26 dX12_layAll_163 (fun z52 w53 w54 q55 => ?_)
                      have r56 := q55.trans (congrFun (g42_3 0 (by omega)) 26)
                      have r57 := r56.trans (congrFun (g23_3 0 (by omega)) 26)
                      have r58 := r57.trans (congrFun (g15_3 0 (by omega)) 26)
                      have r59 := (fm_rd_s m2)
                      refine fr_iload h 4 rfl dX12_layAll_166 ?_
                      refine fr_iload_n h rfl 3 rfl dX12_layAll_168 ?_
                      refine fr_iadd h dX12_layAll_169 ?_
                      refine fr_mmin h (by omega) (by omega) (tb_6 (i := 215) (by decide +kernel) (by decide +kernel)) w_mmin (by decide) (by decide) (Nat.le_of_ble_eq_true rfl) dX12_layAll_170 (fun z60 w61 w62 w63 => ?_)
                      refine fr_aload_n h rfl 0 rfl dX12_layAll_173 ?_
                      refine fr_geti (iz := 26) h kX12 fX12_276 at_0M rfl rfl (by decide) (by decide) rfM_26 dX12_layAll_174 (fun z64 w65 w66 q67 => ?_)
                      have r68 := q67.trans (congrFun (g42_3 0 (by omega)) 26)
                      have r69 := r68.trans (congrFun (g23_3 0 (by omega)) 26)
                      have r70 := r69.trans (congrFun (g15_3 0 (by omega)) 26)
                      have r71 := (fm_rd_s m2)
                      refine fr_iload h 4 rfl dX12_layAll_177 ?_
                      refine fr_iconst h dX12_layAll_179 ?_
                      refine fr_iload_n h rfl 3 rfl dX12_layAll_180 ?_
                      refine fr_imul h dX12_layAll_181 ?_
                      refine fr_iadd h dX12_layAll_182 ?_
                      refine fr_mmin h (by omega) (by omega) (tb_6 (i := 215) (by decide +kernel) (by decide +kernel)) w_mmin (by decide) (by decide) (Nat.le_of_ble_eq_true rfl) dX12_layAll_183 (fun z72 w73 w74 w75 => ?_)
                      refine fr_cvV h kX12 at_0M wX12_merge lX12_320 (c_X12_merge x_42 l4_42 z60 z72 (by omega) (by omega) (by omega) (by omega) (by omega) (by omega) (by omega)) rfl (by decide) (by decide) rfl (Nat.le_of_ble_eq_true rfl) dX12_layAll_186 (fun x76 p79 => ?_)
                      have f80 := p79
                      refine fr_iload h 4 rfl dX12_layAll_189 ?_
                      refine fr_iconst h dX12_layAll_191 ?_
                      refine fr_iload_n h rfl 3 rfl dX12_layAll_192 ?_
                      refine fr_imul h dX12_layAll_193 ?_
                      refine fr_iadd h dX12_layAll_194 ?_
                      refine fr_istore (L' := [(0, vr G 0), (1, vr G b), (2, vi k), (3, vi l3_23), (4, vi (l4_42 + (2 * l3_23)))]) h dX12_layAll_195 (by decide) [1, 2, 3, 4, 0] rfl ?_
                      refine fr_goto (tgt := 150) h dX12_layAll_197 (by decide) ?_
                      exact ih42 (l4_42 + (2 * l3_23)) x76 (by omega) (by omega) (by omega) (fun a k0 => ((f80 a (by omega)).trans (g42_3 a (by omega)))) (by omega)
                exact HL42 ((4000 - 0) + 1 : Int).toNat 0 x_23 (by omega) (by omega) (by omega) (fun a _ => rfl) (by omega)
          exact HL23 ((2600 - 1) + 1 : Int).toNat 1 x_15 (by omega) (by omega) (by omega) (fun a _ => rfl) (by omega)
        ·
          refine fr_aload_n h rfl 0 rfl dX12_layAll_124 ?_
          refine fr_getc (z := 15) (iz := 27) h kX12 fX12_54 at_0M rfl rfl rfM_27 (by omega) dX12_layAll_125 ?_
          refine fr_iload_n h rfl 3 rfl dX12_layAll_128 ?_
          refine fr_iload_n h rfl 3 rfl dX12_layAll_129 ?_
          refine fr_iast h arM_15 (by omega) (by omega) (rrM_15 l3_15) (by omega) (by omega) dX12_layAll_130 ?_
          refine fr_mem (fun x81 m82 => ?_)
          refine fr_iinc (j := 3) (L' := [(0, vr G 0), (1, vr G b), (2, vi k), (3, vi (l3_15 + 1))]) h dX12_layAll_131 rfl (by decide) [1, 2, 3, 0] rfl ?_
          refine fr_goto (tgt := 116) h dX12_layAll_134 (by decide) ?_
          exact ih15 (l3_15 + 1) x81 (by omega) (by omega) (by omega) (fun a k0 => ((fm_up_row m82 (by omega)).trans (g15_3 a (by omega)))) (by omega)
    exact HL15 ((1300 - 0) + 1 : Int).toNat 0 x6 (by omega) (by omega) (by omega) (fun a _ => rfl) (by omega)
  ·
    by_cases c83 : k = 1
    ·
      refine fr_tab_in (off := 40) (tgt := 46) h dX12_layAll_6 (by omega) (by omega) (by omega) (by rw [c83]; rfl) (by decide) ?_
      refine fr_aload_n h rfl 1 rfl dX12_layAll_46 ?_
      refine fr_csI h wX12_joinedOf lX12_312 (c_X12_joinedOf2 x1 b hb) rfl (by decide) (by decide) rfl (Nat.le_of_ble_eq_true rfl) dX12_layAll_47 (fun z85 x84 w86 p87 => ?_)
      obtain ⟨p88, p89, p90, y91⟩ := p87
      rw [y91]
      clear y91
      skip
      refine fr_csI h wJ6_bitCount_0f7a4 lX12_315 (c_bitCountM x1 z85 (by omega)) rfl (by decide) (by decide) rfl (Nat.le_of_ble_eq_true rfl) dX12_layAll_50 (fun z93 x92 w94 p95 => ?_)
      obtain ⟨p96, y97⟩ := p95
      rw [y97]
      clear y97
      skip
      refine fr_istore_n (L' := [(0, vr G 0), (1, vr G b), (2, vi k), (3, vi z93)]) h rfl dX12_layAll_53 (by decide) [1, 2, 3, 0] rfl ?_
      refine fr_aload_n h rfl 0 rfl dX12_layAll_54 ?_
      refine fr_aload_n h rfl 1 rfl dX12_layAll_55 ?_
      refine fr_iconst h dX12_layAll_56 ?_
      refine fr_iconst h dX12_layAll_57 ?_
      refine fr_iconst h dX12_layAll_58 ?_
      refine fr_iload_n h rfl 3 rfl dX12_layAll_59 ?_
      refine fr_iconst h dX12_layAll_60 ?_
      refine fr_isub h dX12_layAll_61 ?_
      refine fr_normi (fun z98 w99 q100 => ?_)
      have w101 : fm_r ((z93 - 1)) → z98 = (z93 - 1) := fun q => (iI_inj q w99 q100).symm
      refine fr_mmax h (by omega) (by omega) (tb_6 (i := 216) (by decide +kernel) (by decide +kernel)) w_mmax (by decide) (by decide) (Nat.le_of_ble_eq_true rfl) dX12_layAll_62 (fun z102 w103 w104 w105 => ?_)
      refine fr_aload_n h rfl 1 rfl dX12_layAll_65 ?_
      refine fr_csI h wX12_edgesOf lX12_216 (c_X12_edgesOf x1 b hb) rfl (by decide) (by decide) rfl (Nat.le_of_ble_eq_true rfl) dX12_layAll_66 (fun z107 x106 w108 p109 => ?_)
      obtain ⟨p110, p111, p112, y113⟩ := p109
      rw [y113]
      clear y113
      have hmi : ec (x1 b) 49 ≤ 12 := by rw [show x1 b = x b from (fm_up_row m2 (by omega))]; exact e0.2
      have hch := ch_le (m := z107 - 0) (k := z102 - 0) (by omega) (by omega) (by omega) (by omega)
      have hnd : z102 = need1 (x b) := need1_m (p := z85) (c := z93) (by rw [← show x1 b = x b from (fm_up_row m2 (by omega))]; omega) (by omega) (by omega) (by omega) (by omega)
      have hed : z107 = ec (x b) 49 := by rw [← show x1 b = x b from (fm_up_row m2 (by omega))]; omega
      skip
      have r114 := (fm_rd_s m2)
      refine fr_cvV h kX12 at_0M wX12_layTrees lX12_296 (c_X12_layTrees 7 x1 b hb 0 0 z102 z107 (by omega) (by omega) (by omega) (by omega) (by omega) (by omega) (by omega) (by omega) (by omega) (by omega) (by omega) (fun i a c => by exfalso; omega) (by omega) (by omega)) rfl (by decide) (by decide) rfl (Nat.le_of_ble_eq_true rfl) dX12_layAll_69 (fun x115 p118 => ?_)
      obtain ⟨p119, p120, p121, p122, f123, f124⟩ := p118
      have hc1 : TC (x1 b) z107 z102 (x1 17) 0 0 = cn1 (x b) := by rw [show x1 b = x b from (fm_up_row m2 (by omega))]; exact cn1_of hed hnd
      refine fr_goto (tgt := 114) h dX12_layAll_72 (by decide) ?_
      refine fr_iconst h dX12_layAll_114 ?_
      refine fr_istore_n (L' := [(0, vr G 0), (1, vr G b), (2, vi k), (3, vi 0)]) h rfl dX12_layAll_115 (by decide) [1, 2, 3, 0] rfl ?_
      have HL125 : ∀ (n125 : Nat) (l3_125 : Int) (x_125 : Mm), fm_r l3_125 → 0 ≤ l3_125 → l3_125 ≤ 1300 → (∀ a : Int, (a < 15 ∨ 15 < a) → x_125 a = x115 a) → (1300 - l3_125) < n125 → FW YM G C 5 x_125 116 [(0, vr G 0), (1, vr G b), (2, vi k), (3, vi l3_125)] [] := by
        intro n125
        induction n125 with
        | zero =>
          intro l3_125 x_125 g125_0 g125_1 g125_2 g125_3 g125_4
          exfalso; omega
        | succ n125 ih125 =>
          intro l3_125 x_125 g125_0 g125_1 g125_2 g125_3 g125_4
          refine fr_iload_n h rfl 3 rfl dX12_layAll_116 ?_
          refine fr_aload_n h rfl 0 rfl dX12_layAll_117 ?_
          refine fr_geti (iz := 26) h kX12 fX12_276 at_0M rfl rfl (by decide) (by decide) rfM_26 dX12_layAll_118 (fun z126 w127 w128 q129 => ?_)
          have r130 := q129.trans (congrFun (g125_3 0 (by omega)) 26)
          have r131 := (fm_rd_s m2)
          refine fr_icmp_ge (tgt := 137) h dX12_layAll_121 (by decide) (by omega) (by omega) (fun c132 => ?_) (fun c132 => ?_)
          ·
            refine fr_iconst h dX12_layAll_137 ?_
            refine fr_istore_n (L' := [(0, vr G 0), (1, vr G b), (2, vi k), (3, vi 1)]) h rfl dX12_layAll_138 (by decide) [1, 2, 3, 0] rfl ?_
            have HL133 : ∀ (n133 : Nat) (l3_133 : Int) (x_133 : Mm), fm_r l3_133 → 1 ≤ l3_133 → l3_133 ≤ 2600 → (∀ a : Int, (a < 15 ∨ 16 < a) → x_133 a = x_125 a) → (2600 - l3_133) < n133 → FW YM G C 5 x_133 139 [(0, vr G 0), (1, vr G b), (2, vi k), (3, vi l3_133)] [] := by
              intro n133
              induction n133 with
              | zero =>
                intro l3_133 x_133 g133_0 g133_1 g133_2 g133_3 g133_4
                exfalso; omega
              | succ n133 ih133 =>
                intro l3_133 x_133 g133_0 g133_1 g133_2 g133_3 g133_4
                refine fr_iload_n h rfl 3 rfl dX12_layAll_139 ?_
                refine fr_aload_n h rfl 0 rfl dX12_layAll_140 ?_
                refine fr_geti (iz := 26) h kX12 fX12_276 at_0M rfl rfl (by decide) (by decide) rfM_26 dX12_layAll_141 (fun z134 w135 w136 q137 => ?_)
                have r138 := q137.trans (congrFun (g133_3 0 (by omega)) 26)
                have r139 := r138.trans (congrFun (g125_3 0 (by omega)) 26)
                have r140 := (fm_rd_s m2)
                refine fr_icmp_ge (tgt := 207) h dX12_layAll_144 (by decide) (by omega) (by omega) (fun c141 => ?_) (fun c141 => ?_)
                ·
                  refine fr_aload_n h rfl 0 rfl dX12_layAll_207 ?_
                  refine fr_geti (iz := 26) h kX12 fX12_276 at_0M rfl rfl (by decide) (by decide) rfM_26 dX12_layAll_208 (fun z142 w143 w144 q145 => ?_)
                  have r146 := q145.trans (congrFun (g133_3 0 (by omega)) 26)
                  have r147 := r146.trans (congrFun (g125_3 0 (by omega)) 26)
                  have r148 := (fm_rd_s m2)
                  have r149 := (congrFun (g133_3 0 (by omega)) 26)
                  have r150 := r149.trans (congrFun (g125_3 0 (by omega)) 26)
                  have r151 := (fm_rd_s m2)
                  exact fr_iret h hq (by omega) ⟨(by omega), (by omega), (by omega), (by omega), (by omega), (by omega), (fun a k0 k1 k2 => ((g133_3 a (by omega)).trans ((g125_3 a (by omega)).trans ((f123 a (by omega) (by omega) (by omega)).trans (fm_up_row m2 (by omega)))))), (fun i k0 k1 k2 k3 k4 k5 k6 => ((congrFun (g133_3 0 (by omega)) i).trans ((congrFun (g125_3 0 (by omega)) i).trans ((f124 i (by omega)).trans (fm_rd_i (a := 0) (b := i) m2 (by omega))))))⟩ dX12_layAll_211
                ·
                  refine fr_iconst h dX12_layAll_147 ?_
                  refine fr_istore (L' := [(0, vr G 0), (1, vr G b), (2, vi k), (3, vi l3_133), (4, vi 0)]) h dX12_layAll_148 (by decide) [1, 2, 3, 4, 0] rfl ?_
                  have HL152 : ∀ (n152 : Nat) (l4_152 : Int) (x_152 : Mm), fm_r l4_152 → 0 ≤ l4_152 → l4_152 ≤ 4000 → (∀ a : Int, (a < 15 ∨ 16 < a) → x_152 a = x_133 a) → (4000 - l4_152) < n152 → FW YM G C 5 x_152 150 [(0, vr G 0), (1, vr G b), (2, vi k), (3, vi l3_133), (4, vi l4_152)] [] := by
                    intro n152
                    induction n152 with
                    | zero =>
                      intro l4_152 x_152 g152_0 g152_1 g152_2 g152_3 g152_4
                      exfalso; omega
                    | succ n152 ih152 =>
                      intro l4_152 x_152 g152_0 g152_1 g152_2 g152_3 g152_4
                      refine fr_iload h 4 rfl dX12_layAll_150 ?_
                      refine fr_aload_n h rfl 0 rfl dX12_layAll_152 ?_
                      refine fr_geti (iz := 26) h kX12 fX12_276 at_0M rfl rfl (by decide) (by decide) rfM_26 dX12_layAll_153 (fun z153 w154 w155 q156 => ?_)
                      have r157 := q156.trans (congrFun (g152_3 0 (by omega)) 26)
                      have r158 := r157.trans (congrFun (g133_3 0 (by omega)) 26)
                      have r159 := r158.trans (congrFun (g125_3 0 (by omega)) 26)
                      have r160 := (fm_rd_s m2)
                      refine fr_icmp_ge (tgt := 200) h dX12_layAll_156 (by decide) (by omega) (by omega) (fun c161 => ?_) (fun c161 => ?_)
                      ·
                        refine fr_iload_n h rfl 3 rfl dX12_layAll_200 ?_
                        refine fr_iconst h dX12_layAll_201 ?_
                        refine fr_imul h dX12_layAll_202 ?_
                        refine fr_istore_n (L' := [(0, vr G 0), (1, vr G b), (2, vi k), (3, vi (l3_133 * 2)), (4, vi l4_152)]) h rfl dX12_layAll_203 (by decide) [1, 2, 3, 0, 4] rfl ?_
                        refine fr_goto (tgt := 139) h dX12_layAll_204 (by decide) ?_
                        refine fr_sub (L' := [(0, vr G 0), (1, vr G b), (2, vi k), (3, vi (l3_133 * 2))]) [0, 1, 2, 3] rfl ?_
                        exact ih133 (l3_133 * 2) x_152 (by omega) (by omega) (by omega) (fun a k0 => ((g152_3 a (by omega)).trans (g133_3 a (by omega)))) (by omega)
                      ·
                        refine fr_aload_n h rfl 0 rfl dX12_layAll_159 ?_
                        refine fr_iload h 4 rfl dX12_layAll_160 ?_
                        refine fr_aload_n h rfl 0 rfl dX12_layAll_162 ?_
                        refine fr_geti (iz := 26) h kX12 fX12_276 at_0M rfl rfl (by decide) (by decide) rfM_26 dX12_layAll_163 (fun z162 w163 w164 q165 => ?_)
                        have r166 := q165.trans (congrFun (g152_3 0 (by omega)) 26)
                        have r167 := r166.trans (congrFun (g133_3 0 (by omega)) 26)
                        have r168 := r167.trans (congrFun (g125_3 0 (by omega)) 26)
                        have r169 := (fm_rd_s m2)
                        refine fr_iload h 4 rfl dX12_layAll_166 ?_
                        refine fr_iload_n h rfl 3 rfl dX12_layAll_168 ?_
                        refine fr_iadd h dX12_layAll_169 ?_
                        refine fr_mmin h (by omega) (by omega) (tb_6 (i := 215) (by decide +kernel) (by decide +kernel)) w_mmin (by decide) (by decide) (Nat.le_of_ble_eq_true rfl) dX12_layAll_170 (fun z170 w171 w172 w173 => ?_)
                        refine fr_aload_n h rfl 0 rfl dX12_layAll_173 ?_
                        refine fr_geti (iz := 26) h kX12 fX12_276 at_0M rfl rfl (by decide) (by decide) rfM_26 dX12_layAll_174 (fun z174 w175 w176 q177 => ?_)
                        have r178 := q177.trans (congrFun (g152_3 0 (by omega)) 26)
                        have r179 := r178.trans (congrFun (g133_3 0 (by omega)) 26)
                        have r180 := r179.trans (congrFun (g125_3 0 (by omega)) 26)
                        have r181 := (fm_rd_s m2)
                        refine fr_iload h 4 rfl dX12_layAll_177 ?_
                        refine fr_iconst h dX12_layAll_179 ?_
                        refine fr_iload_n h rfl 3 rfl dX12_layAll_180 ?_
                        refine fr_imul h dX12_layAll_181 ?_
                        refine fr_iadd h dX12_layAll_182 ?_
                        refine fr_mmin h (by omega) (by omega) (tb_6 (i := 215) (by decide +kernel) (by decide +kernel)) w_mmin (by decide) (by decide) (Nat.le_of_ble_eq_true rfl) dX12_layAll_183 (fun z182 w183 w184 w185 => ?_)
                        refine fr_cvV h kX12 at_0M wX12_merge lX12_320 (c_X12_merge x_152 l4_152 z170 z182 (by omega) (by omega) (by omega) (by omega) (by omega) (by omega) (by omega)) rfl (by decide) (by decide) rfl (Nat.le_of_ble_eq_true rfl) dX12_layAll_186 (fun x186 p189 => ?_)
                        have f190 := p189
                        refine fr_iload h 4 rfl dX12_layAll_189 ?_
                        refine fr_iconst h dX12_layAll_191 ?_
                        refine fr_iload_n h rfl 3 rfl dX12_layAll_192 ?_
                        refine fr_imul h dX12_layAll_193 ?_
                        refine fr_iadd h dX12_layAll_194 ?_
                        refine fr_istore (L' := [(0, vr G 0), (1, vr G b), (2, vi k), (3, vi l3_133), (4, vi (l4_152 + (2 * l3_133)))]) h dX12_layAll_195 (by decide) [1, 2, 3, 4, 0] rfl ?_
                        refine fr_goto (tgt := 150) h dX12_layAll_197 (by decide) ?_
                        exact ih152 (l4_152 + (2 * l3_133)) x186 (by omega) (by omega) (by omega) (fun a k0 => ((f190 a (by omega)).trans (g152_3 a (by omega)))) (by omega)
                  exact HL152 ((4000 - 0) + 1 : Int).toNat 0 x_133 (by omega) (by omega) (by omega) (fun a _ => rfl) (by omega)
            exact HL133 ((2600 - 1) + 1 : Int).toNat 1 x_125 (by omega) (by omega) (by omega) (fun a _ => rfl) (by omega)
          ·
            refine fr_aload_n h rfl 0 rfl dX12_layAll_124 ?_
            refine fr_getc (z := 15) (iz := 27) h kX12 fX12_54 at_0M rfl rfl rfM_27 (by omega) dX12_layAll_125 ?_
            refine fr_iload_n h rfl 3 rfl dX12_layAll_128 ?_
            refine fr_iload_n h rfl 3 rfl dX12_layAll_129 ?_
            refine fr_iast h arM_15 (by omega) (by omega) (rrM_15 l3_125) (by omega) (by omega) dX12_layAll_130 ?_
            refine fr_mem (fun x191 m192 => ?_)
            refine fr_iinc (j := 3) (L' := [(0, vr G 0), (1, vr G b), (2, vi k), (3, vi (l3_125 + 1))]) h dX12_layAll_131 rfl (by decide) [1, 2, 3, 0] rfl ?_
            refine fr_goto (tgt := 116) h dX12_layAll_134 (by decide) ?_
            exact ih125 (l3_125 + 1) x191 (by omega) (by omega) (by omega) (fun a k0 => ((fm_up_row m192 (by omega)).trans (g125_3 a (by omega)))) (by omega)
      exact HL125 ((1300 - 0) + 1 : Int).toNat 0 x115 (by omega) (by omega) (by omega) (fun a _ => rfl) (by omega)
    ·
      by_cases c193 : k = 2
      ·
        refine fr_tab_in (off := 69) (tgt := 75) h dX12_layAll_6 (by omega) (by omega) (by omega) (by rw [c193]; rfl) (by decide) ?_
        refine fr_aload_n h rfl 0 rfl dX12_layAll_75 ?_
        refine fr_aload_n h rfl 1 rfl dX12_layAll_76 ?_
        refine fr_iconst h dX12_layAll_77 ?_
        refine fr_iconst h dX12_layAll_78 ?_
        refine fr_iconst h dX12_layAll_79 ?_
        have hf5 := fct_5
        have hr5 : fr0 0 5 = 5 := by decide
        refine fr_rng (fun hR => ?_)
        have hw : 0 ≤ x1 b 102 ∧ x1 b 102 ≤ 5 := by have q := hR b 102; rw [SA_r hb, sg_size] at q; exact q
        have r194 := (fm_rd_k (a := b) (b := 102) m2 (by omega))
        have r195 := (fm_rd_s m2)
        refine fr_cvV h kX12 at_0M wX12_layPairings lX12_303 (c_X12_layPairings 6 x1 b hb 0 0 0 (by omega) (by omega) (by omega) (by omega) (by omega) (by omega) (by omega) (by omega) (by omega) (by omega) (by omega)) rfl (by decide) (by decide) rfl (Nat.le_of_ble_eq_true rfl) dX12_layAll_80 (fun x196 p199 => ?_)
        obtain ⟨p200, p201, f202, f203⟩ := p199
        refine fr_goto (tgt := 114) h dX12_layAll_83 (by decide) ?_
        refine fr_iconst h dX12_layAll_114 ?_
        refine fr_istore_n (L' := [(0, vr G 0), (1, vr G b), (2, vi k), (3, vi 0)]) h rfl dX12_layAll_115 (by decide) [1, 2, 3, 0] rfl ?_
        have HL204 : ∀ (n204 : Nat) (l3_204 : Int) (x_204 : Mm), fm_r l3_204 → 0 ≤ l3_204 → l3_204 ≤ 1300 → (∀ a : Int, (a < 15 ∨ 15 < a) → x_204 a = x196 a) → (1300 - l3_204) < n204 → FW YM G C 5 x_204 116 [(0, vr G 0), (1, vr G b), (2, vi k), (3, vi l3_204)] [] := by
          intro n204
          induction n204 with
          | zero =>
            intro l3_204 x_204 g204_0 g204_1 g204_2 g204_3 g204_4
            exfalso; omega
          | succ n204 ih204 =>
            intro l3_204 x_204 g204_0 g204_1 g204_2 g204_3 g204_4
            refine fr_iload_n h rfl 3 rfl dX12_layAll_116 ?_
            refine fr_aload_n h rfl 0 rfl dX12_layAll_117 ?_
            refine fr_geti (iz := 26) h kX12 fX12_276 at_0M rfl rfl (by decide) (by decide) rfM_26 dX12_layAll_118 (fun z205 w206 w207 q208 => ?_)
            have r209 := q208.trans (congrFun (g204_3 0 (by omega)) 26)
            have r210 := (fm_rd_s m2)
            refine fr_icmp_ge (tgt := 137) h dX12_layAll_121 (by decide) (by omega) (by omega) (fun c211 => ?_) (fun c211 => ?_)
            ·
              refine fr_iconst h dX12_layAll_137 ?_
              refine fr_istore_n (L' := [(0, vr G 0), (1, vr G b), (2, vi k), (3, vi 1)]) h rfl dX12_layAll_138 (by decide) [1, 2, 3, 0] rfl ?_
              have HL212 : ∀ (n212 : Nat) (l3_212 : Int) (x_212 : Mm), fm_r l3_212 → 1 ≤ l3_212 → l3_212 ≤ 2600 → (∀ a : Int, (a < 15 ∨ 16 < a) → x_212 a = x_204 a) → (2600 - l3_212) < n212 → FW YM G C 5 x_212 139 [(0, vr G 0), (1, vr G b), (2, vi k), (3, vi l3_212)] [] := by
                intro n212
                induction n212 with
                | zero =>
                  intro l3_212 x_212 g212_0 g212_1 g212_2 g212_3 g212_4
                  exfalso; omega
                | succ n212 ih212 =>
                  intro l3_212 x_212 g212_0 g212_1 g212_2 g212_3 g212_4
                  refine fr_iload_n h rfl 3 rfl dX12_layAll_139 ?_
                  refine fr_aload_n h rfl 0 rfl dX12_layAll_140 ?_
                  refine fr_geti (iz := 26) h kX12 fX12_276 at_0M rfl rfl (by decide) (by decide) rfM_26 dX12_layAll_141 (fun z213 w214 w215 q216 => ?_)
                  have r217 := q216.trans (congrFun (g212_3 0 (by omega)) 26)
                  have r218 := r217.trans (congrFun (g204_3 0 (by omega)) 26)
                  have r219 := (fm_rd_s m2)
                  refine fr_icmp_ge (tgt := 207) h dX12_layAll_144 (by decide) (by omega) (by omega) (fun c220 => ?_) (fun c220 => ?_)
                  ·
                    refine fr_aload_n h rfl 0 rfl dX12_layAll_207 ?_
                    refine fr_geti (iz := 26) h kX12 fX12_276 at_0M rfl rfl (by decide) (by decide) rfM_26 dX12_layAll_208 (fun z221 w222 w223 q224 => ?_)
                    have r225 := q224.trans (congrFun (g212_3 0 (by omega)) 26)
                    have r226 := r225.trans (congrFun (g204_3 0 (by omega)) 26)
                    have r227 := (fm_rd_s m2)
                    have r228 := (congrFun (g212_3 0 (by omega)) 26)
                    have r229 := r228.trans (congrFun (g204_3 0 (by omega)) 26)
                    have r230 := (fm_rd_s m2)
                    exact fr_iret h hq (by omega) ⟨(by omega), (by omega), (by omega), (by omega), (by omega), (by omega), (fun a k0 k1 k2 => ((g212_3 a (by omega)).trans ((g204_3 a (by omega)).trans ((f202 a (by omega) (by omega) (by omega)).trans (fm_up_row m2 (by omega)))))), (fun i k0 k1 k2 k3 k4 k5 k6 => ((congrFun (g212_3 0 (by omega)) i).trans ((congrFun (g204_3 0 (by omega)) i).trans ((f203 i (by omega)).trans (fm_rd_i (a := 0) (b := i) m2 (by omega))))))⟩ dX12_layAll_211
                  ·
                    refine fr_iconst h dX12_layAll_147 ?_
                    refine fr_istore (L' := [(0, vr G 0), (1, vr G b), (2, vi k), (3, vi l3_212), (4, vi 0)]) h dX12_layAll_148 (by decide) [1, 2, 3, 4, 0] rfl ?_
                    have HL231 : ∀ (n231 : Nat) (l4_231 : Int) (x_231 : Mm), fm_r l4_231 → 0 ≤ l4_231 → l4_231 ≤ 4000 → (∀ a : Int, (a < 15 ∨ 16 < a) → x_231 a = x_212 a) → (4000 - l4_231) < n231 → FW YM G C 5 x_231 150 [(0, vr G 0), (1, vr G b), (2, vi k), (3, vi l3_212), (4, vi l4_231)] [] := by
                      intro n231
                      induction n231 with
                      | zero =>
                        intro l4_231 x_231 g231_0 g231_1 g231_2 g231_3 g231_4
                        exfalso; omega
                      | succ n231 ih231 =>
                        intro l4_231 x_231 g231_0 g231_1 g231_2 g231_3 g231_4
                        refine fr_iload h 4 rfl dX12_layAll_150 ?_
                        refine fr_aload_n h rfl 0 rfl dX12_layAll_152 ?_
                        refine fr_geti (iz := 26) h kX12 fX12_276 at_0M rfl rfl (by decide) (by decide) rfM_26 dX12_layAll_153 (fun z232 w233 w234 q235 => ?_)
                        have r236 := q235.trans (congrFun (g231_3 0 (by omega)) 26)
                        have r237 := r236.trans (congrFun (g212_3 0 (by omega)) 26)
                        have r238 := r237.trans (congrFun (g204_3 0 (by omega)) 26)
                        have r239 := (fm_rd_s m2)
                        refine fr_icmp_ge (tgt := 200) h dX12_layAll_156 (by decide) (by omega) (by omega) (fun c240 => ?_) (fun c240 => ?_)
                        ·
                          refine fr_iload_n h rfl 3 rfl dX12_layAll_200 ?_
                          refine fr_iconst h dX12_layAll_201 ?_
                          refine fr_imul h dX12_layAll_202 ?_
                          refine fr_istore_n (L' := [(0, vr G 0), (1, vr G b), (2, vi k), (3, vi (l3_212 * 2)), (4, vi l4_231)]) h rfl dX12_layAll_203 (by decide) [1, 2, 3, 0, 4] rfl ?_
                          refine fr_goto (tgt := 139) h dX12_layAll_204 (by decide) ?_
                          refine fr_sub (L' := [(0, vr G 0), (1, vr G b), (2, vi k), (3, vi (l3_212 * 2))]) [0, 1, 2, 3] rfl ?_
                          exact ih212 (l3_212 * 2) x_231 (by omega) (by omega) (by omega) (fun a k0 => ((g231_3 a (by omega)).trans (g212_3 a (by omega)))) (by omega)
                        ·
                          refine fr_aload_n h rfl 0 rfl dX12_layAll_159 ?_
                          refine fr_iload h 4 rfl dX12_layAll_160 ?_
                          refine fr_aload_n h rfl 0 rfl dX12_layAll_162 ?_
                          refine fr_geti (iz := 26) h kX12 fX12_276 at_0M rfl rfl (by decide) (by decide) rfM_26 dX12_layAll_163 (fun z241 w242 w243 q244 => ?_)
                          have r245 := q244.trans (congrFun (g231_3 0 (by omega)) 26)
                          have r246 := r245.trans (congrFun (g212_3 0 (by omega)) 26)
                          have r247 := r246.trans (congrFun (g204_3 0 (by omega)) 26)
                          have r248 := (fm_rd_s m2)
                          refine fr_iload h 4 rfl dX12_layAll_166 ?_
                          refine fr_iload_n h rfl 3 rfl dX12_layAll_168 ?_
                          refine fr_iadd h dX12_layAll_169 ?_
                          refine fr_mmin h (by omega) (by omega) (tb_6 (i := 215) (by decide +kernel) (by decide +kernel)) w_mmin (by decide) (by decide) (Nat.le_of_ble_eq_true rfl) dX12_layAll_170 (fun z249 w250 w251 w252 => ?_)
                          refine fr_aload_n h rfl 0 rfl dX12_layAll_173 ?_
                          refine fr_geti (iz := 26) h kX12 fX12_276 at_0M rfl rfl (by decide) (by decide) rfM_26 dX12_layAll_174 (fun z253 w254 w255 q256 => ?_)
                          have r257 := q256.trans (congrFun (g231_3 0 (by omega)) 26)
                          have r258 := r257.trans (congrFun (g212_3 0 (by omega)) 26)
                          have r259 := r258.trans (congrFun (g204_3 0 (by omega)) 26)
                          have r260 := (fm_rd_s m2)
                          refine fr_iload h 4 rfl dX12_layAll_177 ?_
                          refine fr_iconst h dX12_layAll_179 ?_
                          refine fr_iload_n h rfl 3 rfl dX12_layAll_180 ?_
                          refine fr_imul h dX12_layAll_181 ?_
                          refine fr_iadd h dX12_layAll_182 ?_
                          refine fr_mmin h (by omega) (by omega) (tb_6 (i := 215) (by decide +kernel) (by decide +kernel)) w_mmin (by decide) (by decide) (Nat.le_of_ble_eq_true rfl) dX12_layAll_183 (fun z261 w262 w263 w264 => ?_)
                          refine fr_cvV h kX12 at_0M wX12_merge lX12_320 (c_X12_merge x_231 l4_231 z249 z261 (by omega) (by omega) (by omega) (by omega) (by omega) (by omega) (by omega)) rfl (by decide) (by decide) rfl (Nat.le_of_ble_eq_true rfl) dX12_layAll_186 (fun x265 p268 => ?_)
                          have f269 := p268
                          refine fr_iload h 4 rfl dX12_layAll_189 ?_
                          refine fr_iconst h dX12_layAll_191 ?_
                          refine fr_iload_n h rfl 3 rfl dX12_layAll_192 ?_
                          refine fr_imul h dX12_layAll_193 ?_
                          refine fr_iadd h dX12_layAll_194 ?_
                          refine fr_istore (L' := [(0, vr G 0), (1, vr G b), (2, vi k), (3, vi l3_212), (4, vi (l4_231 + (2 * l3_212)))]) h dX12_layAll_195 (by decide) [1, 2, 3, 4, 0] rfl ?_
                          refine fr_goto (tgt := 150) h dX12_layAll_197 (by decide) ?_
                          exact ih231 (l4_231 + (2 * l3_212)) x265 (by omega) (by omega) (by omega) (fun a k0 => ((f269 a (by omega)).trans (g231_3 a (by omega)))) (by omega)
                    exact HL231 ((4000 - 0) + 1 : Int).toNat 0 x_212 (by omega) (by omega) (by omega) (fun a _ => rfl) (by omega)
              exact HL212 ((2600 - 1) + 1 : Int).toNat 1 x_204 (by omega) (by omega) (by omega) (fun a _ => rfl) (by omega)
            ·
              refine fr_aload_n h rfl 0 rfl dX12_layAll_124 ?_
              refine fr_getc (z := 15) (iz := 27) h kX12 fX12_54 at_0M rfl rfl rfM_27 (by omega) dX12_layAll_125 ?_
              refine fr_iload_n h rfl 3 rfl dX12_layAll_128 ?_
              refine fr_iload_n h rfl 3 rfl dX12_layAll_129 ?_
              refine fr_iast h arM_15 (by omega) (by omega) (rrM_15 l3_204) (by omega) (by omega) dX12_layAll_130 ?_
              refine fr_mem (fun x270 m271 => ?_)
              refine fr_iinc (j := 3) (L' := [(0, vr G 0), (1, vr G b), (2, vi k), (3, vi (l3_204 + 1))]) h dX12_layAll_131 rfl (by decide) [1, 2, 3, 0] rfl ?_
              refine fr_goto (tgt := 116) h dX12_layAll_134 (by decide) ?_
              exact ih204 (l3_204 + 1) x270 (by omega) (by omega) (by omega) (fun a k0 => ((fm_up_row m271 (by omega)).trans (g204_3 a (by omega)))) (by omega)
        exact HL204 ((1300 - 0) + 1 : Int).toNat 0 x196 (by omega) (by omega) (by omega) (fun a _ => rfl) (by omega)
      ·
        by_cases c272 : k = 3
        ·
          refine fr_tab_in (off := 80) (tgt := 86) h dX12_layAll_6 (by omega) (by omega) (by omega) (by rw [c272]; rfl) (by decide) ?_
          refine fr_aload_n h rfl 0 rfl dX12_layAll_86 ?_
          refine fr_aload_n h rfl 1 rfl dX12_layAll_87 ?_
          refine fr_iconst h dX12_layAll_88 ?_
          refine fr_iconst h dX12_layAll_89 ?_
          refine fr_iconst h dX12_layAll_90 ?_
          have hp2 := pw2_6
          have r273 := (fm_rd_s m2)
          refine fr_cvV h kX12 at_0M wX12_laySubsets lX12_306 (c_X12_laySubsets 7 x1 b hb 0 0 0 (by omega) (by omega) (by omega) (by omega) (by omega) (by omega) (by omega) (by omega)) rfl (by decide) (by decide) rfl (Nat.le_of_ble_eq_true rfl) dX12_layAll_91 (fun x274 p277 => ?_)
          obtain ⟨p278, p279, f280, f281⟩ := p277
          refine fr_goto (tgt := 114) h dX12_layAll_94 (by decide) ?_
          refine fr_iconst h dX12_layAll_114 ?_
          refine fr_istore_n (L' := [(0, vr G 0), (1, vr G b), (2, vi k), (3, vi 0)]) h rfl dX12_layAll_115 (by decide) [1, 2, 3, 0] rfl ?_
          have HL282 : ∀ (n282 : Nat) (l3_282 : Int) (x_282 : Mm), fm_r l3_282 → 0 ≤ l3_282 → l3_282 ≤ 1300 → (∀ a : Int, (a < 15 ∨ 15 < a) → x_282 a = x274 a) → (1300 - l3_282) < n282 → FW YM G C 5 x_282 116 [(0, vr G 0), (1, vr G b), (2, vi k), (3, vi l3_282)] [] := by
            intro n282
            induction n282 with
            | zero =>
              intro l3_282 x_282 g282_0 g282_1 g282_2 g282_3 g282_4
              exfalso; omega
            | succ n282 ih282 =>
              intro l3_282 x_282 g282_0 g282_1 g282_2 g282_3 g282_4
              refine fr_iload_n h rfl 3 rfl dX12_layAll_116 ?_
              refine fr_aload_n h rfl 0 rfl dX12_layAll_117 ?_
              refine fr_geti (iz := 26) h kX12 fX12_276 at_0M rfl rfl (by decide) (by decide) rfM_26 dX12_layAll_118 (fun z283 w284 w285 q286 => ?_)
              have r287 := q286.trans (congrFun (g282_3 0 (by omega)) 26)
              have r288 := (fm_rd_s m2)
              refine fr_icmp_ge (tgt := 137) h dX12_layAll_121 (by decide) (by omega) (by omega) (fun c289 => ?_) (fun c289 => ?_)
              ·
                refine fr_iconst h dX12_layAll_137 ?_
                refine fr_istore_n (L' := [(0, vr G 0), (1, vr G b), (2, vi k), (3, vi 1)]) h rfl dX12_layAll_138 (by decide) [1, 2, 3, 0] rfl ?_
                have HL290 : ∀ (n290 : Nat) (l3_290 : Int) (x_290 : Mm), fm_r l3_290 → 1 ≤ l3_290 → l3_290 ≤ 2600 → (∀ a : Int, (a < 15 ∨ 16 < a) → x_290 a = x_282 a) → (2600 - l3_290) < n290 → FW YM G C 5 x_290 139 [(0, vr G 0), (1, vr G b), (2, vi k), (3, vi l3_290)] [] := by
                  intro n290
                  induction n290 with
                  | zero =>
                    intro l3_290 x_290 g290_0 g290_1 g290_2 g290_3 g290_4
                    exfalso; omega
                  | succ n290 ih290 =>
                    intro l3_290 x_290 g290_0 g290_1 g290_2 g290_3 g290_4
                    refine fr_iload_n h rfl 3 rfl dX12_layAll_139 ?_
                    refine fr_aload_n h rfl 0 rfl dX12_layAll_140 ?_
                    refine fr_geti (iz := 26) h kX12 fX12_276 at_0M rfl rfl (by decide) (by decide) rfM_26 dX12_layAll_141 (fun z291 w292 w293 q294 => ?_)
                    have r295 := q294.trans (congrFun (g290_3 0 (by omega)) 26)
                    have r296 := r295.trans (congrFun (g282_3 0 (by omega)) 26)
                    have r297 := (fm_rd_s m2)
                    refine fr_icmp_ge (tgt := 207) h dX12_layAll_144 (by decide) (by omega) (by omega) (fun c298 => ?_) (fun c298 => ?_)
                    ·
                      refine fr_aload_n h rfl 0 rfl dX12_layAll_207 ?_
                      refine fr_geti (iz := 26) h kX12 fX12_276 at_0M rfl rfl (by decide) (by decide) rfM_26 dX12_layAll_208 (fun z299 w300 w301 q302 => ?_)
                      have r303 := q302.trans (congrFun (g290_3 0 (by omega)) 26)
                      have r304 := r303.trans (congrFun (g282_3 0 (by omega)) 26)
                      have r305 := (fm_rd_s m2)
                      have r306 := (congrFun (g290_3 0 (by omega)) 26)
                      have r307 := r306.trans (congrFun (g282_3 0 (by omega)) 26)
                      have r308 := (fm_rd_s m2)
                      exact fr_iret h hq (by omega) ⟨(by omega), (by omega), (by omega), (by omega), (by omega), (by omega), (fun a k0 k1 k2 => ((g290_3 a (by omega)).trans ((g282_3 a (by omega)).trans ((f280 a (by omega) (by omega) (by omega)).trans (fm_up_row m2 (by omega)))))), (fun i k0 k1 k2 k3 k4 k5 k6 => ((congrFun (g290_3 0 (by omega)) i).trans ((congrFun (g282_3 0 (by omega)) i).trans ((f281 i (by omega)).trans (fm_rd_i (a := 0) (b := i) m2 (by omega))))))⟩ dX12_layAll_211
                    ·
                      refine fr_iconst h dX12_layAll_147 ?_
                      refine fr_istore (L' := [(0, vr G 0), (1, vr G b), (2, vi k), (3, vi l3_290), (4, vi 0)]) h dX12_layAll_148 (by decide) [1, 2, 3, 4, 0] rfl ?_
                      have HL309 : ∀ (n309 : Nat) (l4_309 : Int) (x_309 : Mm), fm_r l4_309 → 0 ≤ l4_309 → l4_309 ≤ 4000 → (∀ a : Int, (a < 15 ∨ 16 < a) → x_309 a = x_290 a) → (4000 - l4_309) < n309 → FW YM G C 5 x_309 150 [(0, vr G 0), (1, vr G b), (2, vi k), (3, vi l3_290), (4, vi l4_309)] [] := by
                        intro n309
                        induction n309 with
                        | zero =>
                          intro l4_309 x_309 g309_0 g309_1 g309_2 g309_3 g309_4
                          exfalso; omega
                        | succ n309 ih309 =>
                          intro l4_309 x_309 g309_0 g309_1 g309_2 g309_3 g309_4
                          refine fr_iload h 4 rfl dX12_layAll_150 ?_
                          refine fr_aload_n h rfl 0 rfl dX12_layAll_152 ?_
                          refine fr_geti (iz := 26) h kX12 fX12_276 at_0M rfl rfl (by decide) (by decide) rfM_26 dX12_layAll_153 (fun z310 w311 w312 q313 => ?_)
                          have r314 := q313.trans (congrFun (g309_3 0 (by omega)) 26)
                          have r315 := r314.trans (congrFun (g290_3 0 (by omega)) 26)
                          have r316 := r315.trans (congrFun (g282_3 0 (by omega)) 26)
                          have r317 := (fm_rd_s m2)
                          refine fr_icmp_ge (tgt := 200) h dX12_layAll_156 (by decide) (by omega) (by omega) (fun c318 => ?_) (fun c318 => ?_)
                          ·
                            refine fr_iload_n h rfl 3 rfl dX12_layAll_200 ?_
                            refine fr_iconst h dX12_layAll_201 ?_
                            refine fr_imul h dX12_layAll_202 ?_
                            refine fr_istore_n (L' := [(0, vr G 0), (1, vr G b), (2, vi k), (3, vi (l3_290 * 2)), (4, vi l4_309)]) h rfl dX12_layAll_203 (by decide) [1, 2, 3, 0, 4] rfl ?_
                            refine fr_goto (tgt := 139) h dX12_layAll_204 (by decide) ?_
                            refine fr_sub (L' := [(0, vr G 0), (1, vr G b), (2, vi k), (3, vi (l3_290 * 2))]) [0, 1, 2, 3] rfl ?_
                            exact ih290 (l3_290 * 2) x_309 (by omega) (by omega) (by omega) (fun a k0 => ((g309_3 a (by omega)).trans (g290_3 a (by omega)))) (by omega)
                          ·
                            refine fr_aload_n h rfl 0 rfl dX12_layAll_159 ?_
                            refine fr_iload h 4 rfl dX12_layAll_160 ?_
                            refine fr_aload_n h rfl 0 rfl dX12_layAll_162 ?_
                            refine fr_geti (iz := 26) h kX12 fX12_276 at_0M rfl rfl (by decide) (by decide) rfM_26 dX12_layAll_163 (fun z319 w320 w321 q322 => ?_)
                            have r323 := q322.trans (congrFun (g309_3 0 (by omega)) 26)
                            have r324 := r323.trans (congrFun (g290_3 0 (by omega)) 26)
                            have r325 := r324.trans (congrFun (g282_3 0 (by omega)) 26)
                            have r326 := (fm_rd_s m2)
                            refine fr_iload h 4 rfl dX12_layAll_166 ?_
                            refine fr_iload_n h rfl 3 rfl dX12_layAll_168 ?_
                            refine fr_iadd h dX12_layAll_169 ?_
                            refine fr_mmin h (by omega) (by omega) (tb_6 (i := 215) (by decide +kernel) (by decide +kernel)) w_mmin (by decide) (by decide) (Nat.le_of_ble_eq_true rfl) dX12_layAll_170 (fun z327 w328 w329 w330 => ?_)
                            refine fr_aload_n h rfl 0 rfl dX12_layAll_173 ?_
                            refine fr_geti (iz := 26) h kX12 fX12_276 at_0M rfl rfl (by decide) (by decide) rfM_26 dX12_layAll_174 (fun z331 w332 w333 q334 => ?_)
                            have r335 := q334.trans (congrFun (g309_3 0 (by omega)) 26)
                            have r336 := r335.trans (congrFun (g290_3 0 (by omega)) 26)
                            have r337 := r336.trans (congrFun (g282_3 0 (by omega)) 26)
                            have r338 := (fm_rd_s m2)
                            refine fr_iload h 4 rfl dX12_layAll_177 ?_
                            refine fr_iconst h dX12_layAll_179 ?_
                            refine fr_iload_n h rfl 3 rfl dX12_layAll_180 ?_
                            refine fr_imul h dX12_layAll_181 ?_
                            refine fr_iadd h dX12_layAll_182 ?_
                            refine fr_mmin h (by omega) (by omega) (tb_6 (i := 215) (by decide +kernel) (by decide +kernel)) w_mmin (by decide) (by decide) (Nat.le_of_ble_eq_true rfl) dX12_layAll_183 (fun z339 w340 w341 w342 => ?_)
                            refine fr_cvV h kX12 at_0M wX12_merge lX12_320 (c_X12_merge x_309 l4_309 z327 z339 (by omega) (by omega) (by omega) (by omega) (by omega) (by omega) (by omega)) rfl (by decide) (by decide) rfl (Nat.le_of_ble_eq_true rfl) dX12_layAll_186 (fun x343 p346 => ?_)
                            have f347 := p346
                            refine fr_iload h 4 rfl dX12_layAll_189 ?_
                            refine fr_iconst h dX12_layAll_191 ?_
                            refine fr_iload_n h rfl 3 rfl dX12_layAll_192 ?_
                            refine fr_imul h dX12_layAll_193 ?_
                            refine fr_iadd h dX12_layAll_194 ?_
                            refine fr_istore (L' := [(0, vr G 0), (1, vr G b), (2, vi k), (3, vi l3_290), (4, vi (l4_309 + (2 * l3_290)))]) h dX12_layAll_195 (by decide) [1, 2, 3, 4, 0] rfl ?_
                            refine fr_goto (tgt := 150) h dX12_layAll_197 (by decide) ?_
                            exact ih309 (l4_309 + (2 * l3_290)) x343 (by omega) (by omega) (by omega) (fun a k0 => ((f347 a (by omega)).trans (g309_3 a (by omega)))) (by omega)
                      exact HL309 ((4000 - 0) + 1 : Int).toNat 0 x_290 (by omega) (by omega) (by omega) (fun a _ => rfl) (by omega)
                exact HL290 ((2600 - 1) + 1 : Int).toNat 1 x_282 (by omega) (by omega) (by omega) (fun a _ => rfl) (by omega)
              ·
                refine fr_aload_n h rfl 0 rfl dX12_layAll_124 ?_
                refine fr_getc (z := 15) (iz := 27) h kX12 fX12_54 at_0M rfl rfl rfM_27 (by omega) dX12_layAll_125 ?_
                refine fr_iload_n h rfl 3 rfl dX12_layAll_128 ?_
                refine fr_iload_n h rfl 3 rfl dX12_layAll_129 ?_
                refine fr_iast h arM_15 (by omega) (by omega) (rrM_15 l3_282) (by omega) (by omega) dX12_layAll_130 ?_
                refine fr_mem (fun x348 m349 => ?_)
                refine fr_iinc (j := 3) (L' := [(0, vr G 0), (1, vr G b), (2, vi k), (3, vi (l3_282 + 1))]) h dX12_layAll_131 rfl (by decide) [1, 2, 3, 0] rfl ?_
                refine fr_goto (tgt := 116) h dX12_layAll_134 (by decide) ?_
                exact ih282 (l3_282 + 1) x348 (by omega) (by omega) (by omega) (fun a k0 => ((fm_up_row m349 (by omega)).trans (g282_3 a (by omega)))) (by omega)
          exact HL282 ((1300 - 0) + 1 : Int).toNat 0 x274 (by omega) (by omega) (by omega) (fun a _ => rfl) (by omega)
        ·
          refine fr_tab_out (tgt := 97) h dX12_layAll_6 (by omega) (by omega) (by decide) ?_
          refine fr_aload_n h rfl 0 rfl dX12_layAll_97 ?_
          refine fr_aload_n h rfl 1 rfl dX12_layAll_98 ?_
          refine fr_aload_n h rfl 1 rfl dX12_layAll_99 ?_
          refine fr_bipush h rfl dX12_layAll_100 ?_
          refine fr_iald h (SA_a hb) (by omega) (by omega) ((SA_r hb 103).trans sg_e1) dX12_layAll_102 (fun z350 w351 w352 q353 => ?_)
          have r354 := q353.trans (fm_rd_k (a := b) (b := 103) m2 (by omega))
          refine fr_iconst h dX12_layAll_103 ?_
          refine fr_iconst h dX12_layAll_104 ?_
          refine fr_aload_n h rfl 1 rfl dX12_layAll_105 ?_
          refine fr_bipush h rfl dX12_layAll_106 ?_
          refine fr_iald h (SA_a hb) (by omega) (by omega) ((SA_r hb 103).trans sg_e1) dX12_layAll_108 (fun z355 w356 w357 q358 => ?_)
          have r359 := q358.trans (fm_rd_k (a := b) (b := 103) m2 (by omega))
          refine fr_ishl h dX12_layAll_109 (fun z360 w361 q362 w363 => ?_)
          have hf6 := fct_6
          have hsh := shl1 (w := z355) (s := z360) (by omega) (by omega) w361 q362
          refine fr_iconst h dX12_layAll_110 ?_
          have r364 := (fm_rd_s m2)
          refine fr_cvV h kX12 at_0M wX12_layRoutes lX12_309 (c_X12_layRoutes 7 x1 b hb z350 0 z360 0 (by omega) (by omega) (by omega) (by omega) (by omega) (by omega) (by omega) (by omega) (by omega) (by omega) (by omega) (by omega) (by omega)) rfl (by decide) (by decide) rfl (Nat.le_of_ble_eq_true rfl) dX12_layAll_111 (fun x365 p368 => ?_)
          obtain ⟨p369, p370, f371, f372⟩ := p368
          refine fr_iconst h dX12_layAll_114 ?_
          refine fr_istore_n (L' := [(0, vr G 0), (1, vr G b), (2, vi k), (3, vi 0)]) h rfl dX12_layAll_115 (by decide) [1, 2, 3, 0] rfl ?_
          have HL373 : ∀ (n373 : Nat) (l3_373 : Int) (x_373 : Mm), fm_r l3_373 → 0 ≤ l3_373 → l3_373 ≤ 1300 → (∀ a : Int, (a < 15 ∨ 15 < a) → x_373 a = x365 a) → (1300 - l3_373) < n373 → FW YM G C 5 x_373 116 [(0, vr G 0), (1, vr G b), (2, vi k), (3, vi l3_373)] [] := by
            intro n373
            induction n373 with
            | zero =>
              intro l3_373 x_373 g373_0 g373_1 g373_2 g373_3 g373_4
              exfalso; omega
            | succ n373 ih373 =>
              intro l3_373 x_373 g373_0 g373_1 g373_2 g373_3 g373_4
              refine fr_iload_n h rfl 3 rfl dX12_layAll_116 ?_
              refine fr_aload_n h rfl 0 rfl dX12_layAll_117 ?_
              refine fr_geti (iz := 26) h kX12 fX12_276 at_0M rfl rfl (by decide) (by decide) rfM_26 dX12_layAll_118 (fun z374 w375 w376 q377 => ?_)
              have r378 := q377.trans (congrFun (g373_3 0 (by omega)) 26)
              have r379 := (fm_rd_s m2)
              refine fr_icmp_ge (tgt := 137) h dX12_layAll_121 (by decide) (by omega) (by omega) (fun c380 => ?_) (fun c380 => ?_)
              ·
                refine fr_iconst h dX12_layAll_137 ?_
                refine fr_istore_n (L' := [(0, vr G 0), (1, vr G b), (2, vi k), (3, vi 1)]) h rfl dX12_layAll_138 (by decide) [1, 2, 3, 0] rfl ?_
                have HL381 : ∀ (n381 : Nat) (l3_381 : Int) (x_381 : Mm), fm_r l3_381 → 1 ≤ l3_381 → l3_381 ≤ 2600 → (∀ a : Int, (a < 15 ∨ 16 < a) → x_381 a = x_373 a) → (2600 - l3_381) < n381 → FW YM G C 5 x_381 139 [(0, vr G 0), (1, vr G b), (2, vi k), (3, vi l3_381)] [] := by
                  intro n381
                  induction n381 with
                  | zero =>
                    intro l3_381 x_381 g381_0 g381_1 g381_2 g381_3 g381_4
                    exfalso; omega
                  | succ n381 ih381 =>
                    intro l3_381 x_381 g381_0 g381_1 g381_2 g381_3 g381_4
                    refine fr_iload_n h rfl 3 rfl dX12_layAll_139 ?_
                    refine fr_aload_n h rfl 0 rfl dX12_layAll_140 ?_
                    refine fr_geti (iz := 26) h kX12 fX12_276 at_0M rfl rfl (by decide) (by decide) rfM_26 dX12_layAll_141 (fun z382 w383 w384 q385 => ?_)
                    have r386 := q385.trans (congrFun (g381_3 0 (by omega)) 26)
                    have r387 := r386.trans (congrFun (g373_3 0 (by omega)) 26)
                    have r388 := (fm_rd_s m2)
                    refine fr_icmp_ge (tgt := 207) h dX12_layAll_144 (by decide) (by omega) (by omega) (fun c389 => ?_) (fun c389 => ?_)
                    ·
                      refine fr_aload_n h rfl 0 rfl dX12_layAll_207 ?_
                      refine fr_geti (iz := 26) h kX12 fX12_276 at_0M rfl rfl (by decide) (by decide) rfM_26 dX12_layAll_208 (fun z390 w391 w392 q393 => ?_)
                      have r394 := q393.trans (congrFun (g381_3 0 (by omega)) 26)
                      have r395 := r394.trans (congrFun (g373_3 0 (by omega)) 26)
                      have r396 := (fm_rd_s m2)
                      have r397 := (congrFun (g381_3 0 (by omega)) 26)
                      have r398 := r397.trans (congrFun (g373_3 0 (by omega)) 26)
                      have r399 := (fm_rd_s m2)
                      exact fr_iret h hq (by omega) ⟨(by omega), (by omega), (by omega), (by omega), (by omega), (by omega), (fun a k0 k1 k2 => ((g381_3 a (by omega)).trans ((g373_3 a (by omega)).trans ((f371 a (by omega) (by omega) (by omega)).trans (fm_up_row m2 (by omega)))))), (fun i k0 k1 k2 k3 k4 k5 k6 => ((congrFun (g381_3 0 (by omega)) i).trans ((congrFun (g373_3 0 (by omega)) i).trans ((f372 i (by omega)).trans (fm_rd_i (a := 0) (b := i) m2 (by omega))))))⟩ dX12_layAll_211
                    ·
                      refine fr_iconst h dX12_layAll_147 ?_
                      refine fr_istore (L' := [(0, vr G 0), (1, vr G b), (2, vi k), (3, vi l3_381), (4, vi 0)]) h dX12_layAll_148 (by decide) [1, 2, 3, 4, 0] rfl ?_
                      have HL400 : ∀ (n400 : Nat) (l4_400 : Int) (x_400 : Mm), fm_r l4_400 → 0 ≤ l4_400 → l4_400 ≤ 4000 → (∀ a : Int, (a < 15 ∨ 16 < a) → x_400 a = x_381 a) → (4000 - l4_400) < n400 → FW YM G C 5 x_400 150 [(0, vr G 0), (1, vr G b), (2, vi k), (3, vi l3_381), (4, vi l4_400)] [] := by
                        intro n400
                        induction n400 with
                        | zero =>
                          intro l4_400 x_400 g400_0 g400_1 g400_2 g400_3 g400_4
                          exfalso; omega
                        | succ n400 ih400 =>
                          intro l4_400 x_400 g400_0 g400_1 g400_2 g400_3 g400_4
                          refine fr_iload h 4 rfl dX12_layAll_150 ?_
                          refine fr_aload_n h rfl 0 rfl dX12_layAll_152 ?_
                          refine fr_geti (iz := 26) h kX12 fX12_276 at_0M rfl rfl (by decide) (by decide) rfM_26 dX12_layAll_153 (fun z401 w402 w403 q404 => ?_)
                          have r405 := q404.trans (congrFun (g400_3 0 (by omega)) 26)
                          have r406 := r405.trans (congrFun (g381_3 0 (by omega)) 26)
                          have r407 := r406.trans (congrFun (g373_3 0 (by omega)) 26)
                          have r408 := (fm_rd_s m2)
                          refine fr_icmp_ge (tgt := 200) h dX12_layAll_156 (by decide) (by omega) (by omega) (fun c409 => ?_) (fun c409 => ?_)
                          ·
                            refine fr_iload_n h rfl 3 rfl dX12_layAll_200 ?_
                            refine fr_iconst h dX12_layAll_201 ?_
                            refine fr_imul h dX12_layAll_202 ?_
                            refine fr_istore_n (L' := [(0, vr G 0), (1, vr G b), (2, vi k), (3, vi (l3_381 * 2)), (4, vi l4_400)]) h rfl dX12_layAll_203 (by decide) [1, 2, 3, 0, 4] rfl ?_
                            refine fr_goto (tgt := 139) h dX12_layAll_204 (by decide) ?_
                            refine fr_sub (L' := [(0, vr G 0), (1, vr G b), (2, vi k), (3, vi (l3_381 * 2))]) [0, 1, 2, 3] rfl ?_
                            exact ih381 (l3_381 * 2) x_400 (by omega) (by omega) (by omega) (fun a k0 => ((g400_3 a (by omega)).trans (g381_3 a (by omega)))) (by omega)
                          ·
                            refine fr_aload_n h rfl 0 rfl dX12_layAll_159 ?_
                            refine fr_iload h 4 rfl dX12_layAll_160 ?_
                            refine fr_aload_n h rfl 0 rfl dX12_layAll_162 ?_
                            refine fr_geti (iz := 26) h kX12 fX12_276 at_0M rfl rfl (by decide) (by decide) rfM_26 dX12_layAll_163 (fun z410 w411 w412 q413 => ?_)
                            have r414 := q413.trans (congrFun (g400_3 0 (by omega)) 26)
                            have r415 := r414.trans (congrFun (g381_3 0 (by omega)) 26)
                            have r416 := r415.trans (congrFun (g373_3 0 (by omega)) 26)
                            have r417 := (fm_rd_s m2)
                            refine fr_iload h 4 rfl dX12_layAll_166 ?_
                            refine fr_iload_n h rfl 3 rfl dX12_layAll_168 ?_
                            refine fr_iadd h dX12_layAll_169 ?_
                            refine fr_mmin h (by omega) (by omega) (tb_6 (i := 215) (by decide +kernel) (by decide +kernel)) w_mmin (by decide) (by decide) (Nat.le_of_ble_eq_true rfl) dX12_layAll_170 (fun z418 w419 w420 w421 => ?_)
                            refine fr_aload_n h rfl 0 rfl dX12_layAll_173 ?_
                            refine fr_geti (iz := 26) h kX12 fX12_276 at_0M rfl rfl (by decide) (by decide) rfM_26 dX12_layAll_174 (fun z422 w423 w424 q425 => ?_)
                            have r426 := q425.trans (congrFun (g400_3 0 (by omega)) 26)
                            have r427 := r426.trans (congrFun (g381_3 0 (by omega)) 26)
                            have r428 := r427.trans (congrFun (g373_3 0 (by omega)) 26)
                            have r429 := (fm_rd_s m2)
                            refine fr_iload h 4 rfl dX12_layAll_177 ?_
                            refine fr_iconst h dX12_layAll_179 ?_
                            refine fr_iload_n h rfl 3 rfl dX12_layAll_180 ?_
                            refine fr_imul h dX12_layAll_181 ?_
                            refine fr_iadd h dX12_layAll_182 ?_
                            refine fr_mmin h (by omega) (by omega) (tb_6 (i := 215) (by decide +kernel) (by decide +kernel)) w_mmin (by decide) (by decide) (Nat.le_of_ble_eq_true rfl) dX12_layAll_183 (fun z430 w431 w432 w433 => ?_)
                            refine fr_cvV h kX12 at_0M wX12_merge lX12_320 (c_X12_merge x_400 l4_400 z418 z430 (by omega) (by omega) (by omega) (by omega) (by omega) (by omega) (by omega)) rfl (by decide) (by decide) rfl (Nat.le_of_ble_eq_true rfl) dX12_layAll_186 (fun x434 p437 => ?_)
                            have f438 := p437
                            refine fr_iload h 4 rfl dX12_layAll_189 ?_
                            refine fr_iconst h dX12_layAll_191 ?_
                            refine fr_iload_n h rfl 3 rfl dX12_layAll_192 ?_
                            refine fr_imul h dX12_layAll_193 ?_
                            refine fr_iadd h dX12_layAll_194 ?_
                            refine fr_istore (L' := [(0, vr G 0), (1, vr G b), (2, vi k), (3, vi l3_381), (4, vi (l4_400 + (2 * l3_381)))]) h dX12_layAll_195 (by decide) [1, 2, 3, 4, 0] rfl ?_
                            refine fr_goto (tgt := 150) h dX12_layAll_197 (by decide) ?_
                            exact ih400 (l4_400 + (2 * l3_381)) x434 (by omega) (by omega) (by omega) (fun a k0 => ((f438 a (by omega)).trans (g400_3 a (by omega)))) (by omega)
                      exact HL400 ((4000 - 0) + 1 : Int).toNat 0 x_381 (by omega) (by omega) (by omega) (fun a _ => rfl) (by omega)
                exact HL381 ((2600 - 1) + 1 : Int).toNat 1 x_373 (by omega) (by omega) (by omega) (fun a _ => rfl) (by omega)
              ·
                refine fr_aload_n h rfl 0 rfl dX12_layAll_124 ?_
                refine fr_getc (z := 15) (iz := 27) h kX12 fX12_54 at_0M rfl rfl rfM_27 (by omega) dX12_layAll_125 ?_
                refine fr_iload_n h rfl 3 rfl dX12_layAll_128 ?_
                refine fr_iload_n h rfl 3 rfl dX12_layAll_129 ?_
                refine fr_iast h arM_15 (by omega) (by omega) (rrM_15 l3_373) (by omega) (by omega) dX12_layAll_130 ?_
                refine fr_mem (fun x439 m440 => ?_)
                refine fr_iinc (j := 3) (L' := [(0, vr G 0), (1, vr G b), (2, vi k), (3, vi (l3_373 + 1))]) h dX12_layAll_131 rfl (by decide) [1, 2, 3, 0] rfl ?_
                refine fr_goto (tgt := 116) h dX12_layAll_134 (by decide) ?_
                exact ih373 (l3_373 + 1) x439 (by omega) (by omega) (by omega) (fun a k0 => ((fm_up_row m440 (by omega)).trans (g373_3 a (by omega)))) (by omega)
          exact HL373 ((1300 - 0) + 1 : Int).toNat 0 x365 (by omega) (by omega) (by omega) (fun a _ => rfl) (by omega)
set_option maxHeartbeats 200000 in
theorem c_X12_tellItem (x : Mm) (k : Int) (h_k : fm_r k) (e0 : 1 ≤ k) (e1 : k ≤ 1300) : CnI YM yX12_tellItem cX12_tellItem 4 .int 1 22 (fun G => [vr G 0, vi k]) x (fun z y' => (0 ≤ z) ∧ (z ≤ 8) ∧ (∀ a : Int, (a < 0 ∨ 0 < a) → (a < 3 ∨ 3 < a) → y' a = x a) ∧ (∀ i : Int, i ≠ 4 → y' 0 i = x 0 i)) := by
  refine cn_I (by decide) (fun _ => Nat.le_of_ble_eq_true rfl) (fun G C h hq => ?_)
  have h : OK YM G C cX12_tellItem RX12 4 (some .int) 1 22 := h
  show FW YM G C 4 x 0 [(0, vr G 0), (1, vi k)] []
  refine fr_aload_n h rfl 0 rfl dX12_tellItem_0 ?_
  refine fr_getc (z := 15) (iz := 27) h kX12 fX12_54 at_0M rfl rfl rfM_27 (by omega) dX12_tellItem_1 ?_
  refine fr_iload_n h rfl 1 rfl dX12_tellItem_4 ?_
  refine fr_iconst h dX12_tellItem_5 ?_
  refine fr_isub h dX12_tellItem_6 ?_
  refine fr_iald h arM_15 (by omega) (by omega) (rrM_15 (k - 1)) dX12_tellItem_7 (fun z1 w2 w3 q4 => ?_)
  refine fr_istore_n (L' := [(0, vr G 0), (1, vi k), (2, vi z1)]) h rfl dX12_tellItem_8 (by decide) [1, 2, 0] rfl ?_
  refine fr_aload_n h rfl 0 rfl dX12_tellItem_9 ?_
  refine fr_iconst h dX12_tellItem_10 ?_
  refine fr_puti (iz := 4) h kX12 fX12_98 at_0M rfl rfl (by decide) (by decide) rfl (by decide +kernel) rfM_4 (by omega) (by omega) dX12_tellItem_11 ?_
  refine fr_mem (fun x5 m6 => ?_)
  refine fr_aload_n h rfl 0 rfl dX12_tellItem_14 ?_
  refine fr_aload_n h rfl 0 rfl dX12_tellItem_15 ?_
  refine fr_getc (z := 14) (iz := 25) h kX12 fX12_51 at_0M rfl rfl rfM_25 (by omega) dX12_tellItem_16 ?_
  refine fr_iload_n h rfl 2 rfl dX12_tellItem_19 ?_
  refine fr_iald h arM_14 (by omega) (by omega) (rrM_14 z1) dX12_tellItem_20 (fun z7 w8 w9 q10 => ?_)
  have r11 := q10.trans (fm_rd_k (a := 14) (b := z1) m6 (by omega))
  refine fr_i2l h (by omega) dX12_tellItem_21 ?_
  have r12 := (fm_rd_s m6)
  refine fr_cvV h kX12 at_0M wX12_tell lX12_269 (c_X12_tell x5 z7 (by omega) (by omega)) rfl (by decide) (by decide) rfl (Nat.le_of_ble_eq_true rfl) dX12_tellItem_22 (fun x13 p16 => ?_)
  obtain ⟨p17, f18, f19⟩ := p16
  refine fr_iconst h dX12_tellItem_25 ?_
  refine fr_istore_n (L' := [(0, vr G 0), (1, vi k), (2, vi z1), (3, vi 0)]) h rfl dX12_tellItem_26 (by decide) [1, 2, 3, 0] rfl ?_
  have HL20 : ∀ (n20 : Nat) (l3_20 : Int) (x_20 : Mm), fm_r l3_20 → 0 ≤ l3_20 → l3_20 ≤ 8 → x_20 0 4 = l3_20 + 1 → (∀ a : Int, (a < 0 ∨ 0 < a) → (a < 3 ∨ 3 < a) → x_20 a = x13 a) → (∀ i : Int, i ≠ 4 → x_20 0 i = x13 0 i) → (8 - l3_20) < n20 → FW YM G C 4 x_20 27 [(0, vr G 0), (1, vi k), (2, vi z1), (3, vi l3_20)] [] := by
    intro n20
    induction n20 with
    | zero =>
      intro l3_20 x_20 g20_0 g20_1 g20_2 g20_3 g20_4 g20_5 g20_6
      exfalso; omega
    | succ n20 ih20 =>
      intro l3_20 x_20 g20_0 g20_1 g20_2 g20_3 g20_4 g20_5 g20_6
      refine fr_iload_n h rfl 3 rfl dX12_tellItem_27 ?_
      refine fr_aload_n h rfl 0 rfl dX12_tellItem_28 ?_
      refine fr_getc (z := 13) (iz := 24) h kX12 fX12_48 at_0M rfl rfl rfM_24 (by omega) dX12_tellItem_29 ?_
      refine fr_iload_n h rfl 2 rfl dX12_tellItem_32 ?_
      refine fr_iald h arM_13 (by omega) (by omega) (rrM_13 z1) dX12_tellItem_33 (fun z21 w22 w23 q24 => ?_)
      have r25 := q24.trans (congrFun (g20_4 13 (by omega) (by omega)) z1)
      have r26 := r25.trans (congrFun (f18 13 (by omega) (by omega)) z1)
      have r27 := r26.trans (fm_rd_k (a := 13) (b := z1) m6 (by omega))
      refine fr_icmp_ge (tgt := 59) h dX12_tellItem_34 (by decide) (by omega) (by omega) (fun c28 => ?_) (fun c28 => ?_)
      ·
        refine fr_aload_n h rfl 0 rfl dX12_tellItem_59 ?_
        refine fr_getc (z := 13) (iz := 24) h kX12 fX12_48 at_0M rfl rfl rfM_24 (by omega) dX12_tellItem_60 ?_
        refine fr_iload_n h rfl 2 rfl dX12_tellItem_63 ?_
        refine fr_iald h arM_13 (by omega) (by omega) (rrM_13 z1) dX12_tellItem_64 (fun z29 w30 w31 q32 => ?_)
        have r33 := q32.trans (congrFun (g20_4 13 (by omega) (by omega)) z1)
        have r34 := r33.trans (congrFun (f18 13 (by omega) (by omega)) z1)
        have r35 := r34.trans (fm_rd_k (a := 13) (b := z1) m6 (by omega))
        exact fr_iret h hq (by omega) ⟨(by omega), (by omega), (fun a k0 k1 => ((g20_4 a (by omega) (by omega)).trans ((f18 a (by omega) (by omega)).trans (fm_up_row m6 (by omega))))), (fun i k0 => ((g20_5 i (by omega)).trans ((f19 i (by omega)).trans (fm_rd_i (a := 0) (b := i) m6 (by omega)))))⟩ dX12_tellItem_65
      ·
        refine fr_aload_n h rfl 0 rfl dX12_tellItem_37 ?_
        refine fr_aload_n h rfl 0 rfl dX12_tellItem_38 ?_
        refine fr_getc (z := 12) (iz := 23) h kX12 fX12_45 at_0M rfl rfl rfM_23 (by omega) dX12_tellItem_39 ?_
        refine fr_bipush h rfl dX12_tellItem_42 ?_
        refine fr_iload_n h rfl 2 rfl dX12_tellItem_44 ?_
        refine fr_imul h dX12_tellItem_45 ?_
        refine fr_iload_n h rfl 3 rfl dX12_tellItem_46 ?_
        refine fr_iadd h dX12_tellItem_47 ?_
        refine fr_iald h arM_12 (by omega) (by omega) (rrM_12 ((8 * z1) + l3_20)) dX12_tellItem_48 (fun z36 w37 w38 q39 => ?_)
        have r40 := q39.trans (congrFun (g20_4 12 (by omega) (by omega)) ((8 * z1) + l3_20))
        have r41 := r40.trans (congrFun (f18 12 (by omega) (by omega)) ((8 * z1) + l3_20))
        have r42 := r41.trans (fm_rd_k (a := 12) (b := ((8 * z1) + l3_20)) m6 (by omega))
        refine fr_i2l h (by omega) dX12_tellItem_49 ?_
        have r43 := (fm_rd_s m6)
        refine fr_cvV h kX12 at_0M wX12_tell lX12_269 (c_X12_tell x_20 z36 (by omega) (by omega)) rfl (by decide) (by decide) rfl (Nat.le_of_ble_eq_true rfl) dX12_tellItem_50 (fun x44 p47 => ?_)
        obtain ⟨p48, f49, f50⟩ := p47
        refine fr_iinc (j := 3) (L' := [(0, vr G 0), (1, vi k), (2, vi z1), (3, vi (l3_20 + 1))]) h dX12_tellItem_53 rfl (by decide) [1, 2, 3, 0] rfl ?_
        refine fr_goto (tgt := 27) h dX12_tellItem_56 (by decide) ?_
        have r51 := (fm_rd_s m6)
        exact ih20 (l3_20 + 1) x44 (by omega) (by omega) (by omega) (by omega) (fun a k0 k1 => ((f49 a (by omega) (by omega)).trans (g20_4 a (by omega) (by omega)))) (fun i k0 => ((f50 i (by omega)).trans (g20_5 i (by omega)))) (by omega)
  have r52 := (fm_rd_s m6)
  exact HL20 ((8 - 0) + 1 : Int).toNat 0 x13 (by omega) (by omega) (by omega) (by omega) (fun a _ _ => rfl) (fun i _ => rfl) (by omega)
set_option maxHeartbeats 200000 in
theorem c_X12_costAt (x : Mm) (k : Int) (h_k : fm_r k) (e0 : 1 ≤ k) (e1 : k ≤ 1300) : CnI YM yX12_costAt cX12_costAt 2 .int 0 0 (fun G => [vr G 0, vi k]) x (fun z y' => (y' = x)) := by
  refine cn_I (by decide) (fun _ => Nat.le_of_ble_eq_true rfl) (fun G C h hq => ?_)
  have h : OK YM G C cX12_costAt RX12 2 (some .int) 0 0 := h
  show FW YM G C 2 x 0 [(0, vr G 0), (1, vi k)] []
  refine fr_aload_n h rfl 0 rfl dX12_costAt_0 ?_
  refine fr_getc (z := 14) (iz := 25) h kX12 fX12_51 at_0M rfl rfl rfM_25 (by omega) dX12_costAt_1 ?_
  refine fr_aload_n h rfl 0 rfl dX12_costAt_4 ?_
  refine fr_getc (z := 15) (iz := 27) h kX12 fX12_54 at_0M rfl rfl rfM_27 (by omega) dX12_costAt_5 ?_
  refine fr_iload_n h rfl 1 rfl dX12_costAt_8 ?_
  refine fr_iconst h dX12_costAt_9 ?_
  refine fr_isub h dX12_costAt_10 ?_
  refine fr_iald h arM_15 (by omega) (by omega) (rrM_15 (k - 1)) dX12_costAt_11 (fun z1 w2 w3 q4 => ?_)
  refine fr_iald h arM_14 (by omega) (by omega) (rrM_14 z1) dX12_costAt_12 (fun z5 w6 w7 q8 => ?_)
  exact fr_iret h hq (by omega) rfl dX12_costAt_13
set_option maxHeartbeats 200000 in
theorem c_X12_upTo (x : Mm) (k : Int) (h_k : fm_r k) : CnI YM yX12_upTo cX12_upTo 3 .int 0 0 (fun G => [vr G 0, vi k]) x (fun z y' => (0 ≤ z) ∧ (z ≤ x 0 26) ∧ (y' = x)) := by
  refine cn_I (by decide) (fun _ => Nat.le_of_ble_eq_true rfl) (fun G C h hq => ?_)
  have h : OK YM G C cX12_upTo RX12 3 (some .int) 0 0 := h
  show FW YM G C 3 x 0 [(0, vr G 0), (1, vi k)] []
  refine fr_rng (fun hR => ?_)
  have h26 : 0 ≤ x 0 26 := by have q := hR 0 26; rw [rfM_26] at q; exact q.1
  refine fr_iconst h dX12_upTo_0 ?_
  refine fr_istore_n (L' := [(0, vr G 0), (1, vi k), (2, vi 0)]) h rfl dX12_upTo_1 (by decide) [1, 2, 0] rfl ?_
  have HL1 : ∀ (n1 : Nat) (l2_1 : Int), fm_r l2_1 → 0 ≤ l2_1 → l2_1 ≤ 1300 → l2_1 ≤ x 0 26 → (1300 - l2_1) < n1 → FW YM G C 3 x 2 [(0, vr G 0), (1, vi k), (2, vi l2_1)] [] := by
    intro n1
    induction n1 with
    | zero =>
      intro l2_1 g1_0 g1_1 g1_2 g1_3 g1_4
      exfalso; omega
    | succ n1 ih1 =>
      intro l2_1 g1_0 g1_1 g1_2 g1_3 g1_4
      refine fr_iload_n h rfl 2 rfl dX12_upTo_2 ?_
      refine fr_aload_n h rfl 0 rfl dX12_upTo_3 ?_
      refine fr_geti (iz := 26) h kX12 fX12_276 at_0M rfl rfl (by decide) (by decide) rfM_26 dX12_upTo_4 (fun z2 w3 w4 q5 => ?_)
      refine fr_icmp_ge (tgt := 31) h dX12_upTo_7 (by decide) (by omega) (by omega) (fun c6 => ?_) (fun c6 => ?_)
      ·
        refine fr_iload_n h rfl 2 rfl dX12_upTo_31 ?_
        exact fr_iret h hq (by omega) ⟨(by omega), (by omega), rfl⟩ dX12_upTo_32
      ·
        refine fr_aload_n h rfl 0 rfl dX12_upTo_10 ?_
        refine fr_getc (z := 14) (iz := 25) h kX12 fX12_51 at_0M rfl rfl rfM_25 (by omega) dX12_upTo_11 ?_
        refine fr_aload_n h rfl 0 rfl dX12_upTo_14 ?_
        refine fr_getc (z := 15) (iz := 27) h kX12 fX12_54 at_0M rfl rfl rfM_27 (by omega) dX12_upTo_15 ?_
        refine fr_iload_n h rfl 2 rfl dX12_upTo_18 ?_
        refine fr_iald h arM_15 (by omega) (by omega) (rrM_15 l2_1) dX12_upTo_19 (fun z7 w8 w9 q10 => ?_)
        refine fr_iald h arM_14 (by omega) (by omega) (rrM_14 z7) dX12_upTo_20 (fun z11 w12 w13 q14 => ?_)
        refine fr_iload_n h rfl 1 rfl dX12_upTo_21 ?_
        refine fr_icmp_gt (tgt := 31) h dX12_upTo_22 (by decide) (by omega) (by omega) (fun c15 => ?_) (fun c15 => ?_)
        ·
          refine fr_iload_n h rfl 2 rfl dX12_upTo_31 ?_
          exact fr_iret h hq (by omega) ⟨(by omega), (by omega), rfl⟩ dX12_upTo_32
        ·
          refine fr_iinc (j := 2) (L' := [(0, vr G 0), (1, vi k), (2, vi (l2_1 + 1))]) h dX12_upTo_25 rfl (by decide) [1, 2, 0] rfl ?_
          refine fr_goto (tgt := 2) h dX12_upTo_28 (by decide) ?_
          exact ih1 (l2_1 + 1) (by omega) (by omega) (by omega) (by omega) (by omega)
  exact HL1 ((1300 - 0) + 1 : Int).toNat 0 (by omega) (by omega) (by omega) (by omega) (by omega)
