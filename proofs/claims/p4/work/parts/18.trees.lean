set_option maxHeartbeats 200000 in
theorem c_X4_findTrees (x : Mm) (r : Int) (hr : isRu r) (o : Int) (on : Nat) (ho : OrN o on) (e0 : x 89 6 = 3) (e1 : x 89 7 = r) (e2 : x 89 8 = o) : CnV YC yX4_findTrees cX4_findTrees 4 24 848 (fun G => [vr G 89]) x (fun y' => (y' 89 6 = x 89 6) ∧ (y' 89 7 = x 89 7) ∧ (y' 89 8 = x 89 8) ∧ (∀ a : Int, (a < 89 ∨ 93 < a) → (a < o ∨ o + 1 < a) → (a < r ∨ r + 4 < a) → y' a = x a)) := by
  refine cn_V (by decide) (fun _ => Nat.le_of_ble_eq_true rfl) (fun G C h hq => ?_)
  have h : OK YC G C cX4_findTrees RX4 4 none 24 848 := h
  show FW YC G C 4 x 0 [(0, vr G 89)] []
  have h_r := Ru_b hr
  have h_o := OrN_b ho
  refine fr_aload_n h rfl 0 rfl dX4_findTrees_0 ?_
  refine fr_iconst h dX4_findTrees_1 ?_
  refine fr_puti (iz := 4) h kX4 fX4_90 at_89 rfl rfl (by decide) (by decide) rfl (by decide +kernel) rf_89_4 (by omega) (by omega) dX4_findTrees_2 ?_
  refine fr_mem (fun x1 m2 => ?_)
  refine fr_iconst h dX4_findTrees_5 ?_
  refine fr_istore_n (L' := [(0, vr G 89), (1, vi 0)]) h rfl dX4_findTrees_6 (by decide) [1, 0] rfl ?_
  have HL3 : ∀ (n3 : Nat) (l1_3 : Int) (x_3 : Mm), fm_r l1_3 → 0 ≤ l1_3 → l1_3 ≤ 7 → x_3 89 6 = 3 → x_3 89 7 = r → x_3 89 8 = o → (∀ a : Int, (a < 89 ∨ 93 < a) → (a < o ∨ o + 1 < a) → (a < r ∨ r + 4 < a) → x_3 a = x1 a) → (7 - l1_3) < n3 → FW YC G C 4 x_3 7 [(0, vr G 89), (1, vi l1_3)] [] := by
    intro n3
    induction n3 with
    | zero =>
      intro l1_3 x_3 g3_0 g3_1 g3_2 g3_3 g3_4 g3_5 g3_6 g3_7
      exfalso; omega
    | succ n3 ih3 =>
      intro l1_3 x_3 g3_0 g3_1 g3_2 g3_3 g3_4 g3_5 g3_6 g3_7
      refine fr_iload_n h rfl 1 rfl dX4_findTrees_7 ?_
      refine fr_bipush h rfl dX4_findTrees_8 ?_
      refine fr_icmp_ge (tgt := 98) h dX4_findTrees_10 (by decide) (by omega) (by omega) (fun c4 => ?_) (fun c4 => ?_)
      ·
        refine fr_aload_n h rfl 0 rfl dX4_findTrees_98 ?_
        refine fr_iconst h dX4_findTrees_99 ?_
        refine fr_aload_n h rfl 0 rfl dX4_findTrees_100 ?_
        refine fr_getr (z := 3) (iz := 6) h kX4 fX4_24 at_89 rfl rfl g3_3 (by omega) dX4_findTrees_101 ?_
        refine fr_cvI h kX8 (St_at St_3) wX8_joinedNodes lX4_96 (c_X8_joinedNodes x_3 3 St_3) rfl (by decide) (by decide) rfl (Nat.le_of_ble_eq_true rfl) dX4_findTrees_104 (fun z6 x5 w7 p8 => ?_)
        have y9 := p8
        rw [y9]
        clear y9
        refine fr_csI h wJ6_bitCount_0f7a4 lX4_99 (c_bitCount x_3 z6 (by omega)) rfl (by decide) (by decide) rfl (Nat.le_of_ble_eq_true rfl) dX4_findTrees_107 (fun z11 x10 w12 p13 => ?_)
        have y14 := p13
        rw [y14]
        clear y14
        refine fr_iconst h dX4_findTrees_110 ?_
        refine fr_isub h dX4_findTrees_111 ?_
        refine fr_normi (fun z15 w16 q17 => ?_)
        have w18 : fm_r ((z11 - 1)) → z15 = (z11 - 1) := fun q => (iI_inj q w16 q17).symm
        refine fr_mmax h (by omega) (by omega) (tb_4 (i := 3) (by decide +kernel) (by decide +kernel)) w_mmax (by decide) (by decide) (Nat.le_of_ble_eq_true rfl) dX4_findTrees_112 (fun z19 w20 w21 w22 => ?_)
        refine fr_puti (iz := 5) h kX4 fX4_109 at_89 rfl rfl (by decide) (by decide) rfl (by decide +kernel) rf_89_5 (by omega) (by omega) dX4_findTrees_115 ?_
        refine fr_mem (fun x23 m24 => ?_)
        refine fr_iconst h dX4_findTrees_118 ?_
        refine fr_istore_n (L' := [(0, vr G 89), (1, vi 0)]) h rfl dX4_findTrees_119 (by decide) [1, 0] rfl ?_
        refine fr_iconst h dX4_findTrees_120 ?_
        refine fr_istore_n (L' := [(0, vr G 89), (1, vi 0), (2, vi 0)]) h rfl dX4_findTrees_121 (by decide) [1, 2, 0] rfl ?_
        have HL25 : ∀ (n25 : Nat) (l1_25 l2_25 : Int), fm_r l1_25 → fm_r l2_25 → 0 ≤ l2_25 → l2_25 ≤ 7 → x23 89 6 = 3 → x23 89 7 = r → x23 89 8 = o → (7 - l2_25) < n25 → FW YC G C 4 x23 122 [(0, vr G 89), (1, vi l1_25), (2, vi l2_25)] [] := by
          intro n25
          induction n25 with
          | zero =>
            intro l1_25 l2_25 g25_0 g25_1 g25_2 g25_3 g25_4 g25_5 g25_6 g25_7
            exfalso; omega
          | succ n25 ih25 =>
            intro l1_25 l2_25 g25_0 g25_1 g25_2 g25_3 g25_4 g25_5 g25_6 g25_7
            refine fr_iload_n h rfl 2 rfl dX4_findTrees_122 ?_
            refine fr_bipush h rfl dX4_findTrees_123 ?_
            refine fr_icmp_ge (tgt := 141) h dX4_findTrees_125 (by decide) (by omega) (by omega) (fun c26 => ?_) (fun c26 => ?_)
            ·
              refine fr_aload_n h rfl 0 rfl dX4_findTrees_141 ?_
              refine fr_iconst h dX4_findTrees_142 ?_
              refine fr_iconst h dX4_findTrees_143 ?_
              refine fr_iconst h dX4_findTrees_144 ?_
              refine fr_lconst (z := 0) h rfl dX4_findTrees_145 ?_
              refine fr_iload_n h rfl 1 rfl dX4_findTrees_146 ?_
              have r27 := (fm_rd_i (a := 89) (b := 6) m24 (by decide))
              have r28 := (fm_rd_i (a := 89) (b := 6) m2 (by decide))
              have r29 := (fm_rd_i (a := 89) (b := 7) m24 (by decide))
              have r30 := (fm_rd_i (a := 89) (b := 7) m2 (by decide))
              have r31 := (fm_rd_i (a := 89) (b := 8) m24 (by decide))
              have r32 := (fm_rd_i (a := 89) (b := 8) m2 (by decide))
              refine fr_cvV h kX4 at_89 wX4_growTree lX4_116 (c_X4_growTree 13 x23 r hr o on ho 0 0 0 0 l1_25 (by omega) (by omega) (by omega) (by omega) (by omega) (by omega) (by omega) (by omega) (by omega) (by omega) (by omega) (by omega) (by omega)) rfl (by decide) (by decide) rfl (Nat.le_of_ble_eq_true rfl) dX4_findTrees_147 (fun x33 p36 => ?_)
              obtain ⟨p37, p38, p39, f40⟩ := p36
              have r41 := (fm_rd_i (a := 89) (b := 6) m24 (by decide))
              have r42 := (fm_rd_i (a := 89) (b := 6) m2 (by decide))
              have r43 := (fm_rd_i (a := 89) (b := 7) m24 (by decide))
              have r44 := (fm_rd_i (a := 89) (b := 7) m2 (by decide))
              have r45 := (fm_rd_i (a := 89) (b := 8) m24 (by decide))
              have r46 := (fm_rd_i (a := 89) (b := 8) m2 (by decide))
              exact fr_vret h hq ⟨(by omega), (by omega), (by omega), (fun a k0 k1 k2 => ((f40 a (by omega) (by omega) (by omega)).trans ((fm_up_row m24 (by omega)).trans ((g3_6 a (by omega) (by omega) (by omega)).trans (fm_up_row m2 (by omega))))))⟩ dX4_findTrees_150
            ·
              refine fr_iload_n h rfl 1 rfl dX4_findTrees_128 ?_
              refine fr_iload_n h rfl 2 rfl dX4_findTrees_129 ?_
              refine fr_iload_n h rfl 2 rfl dX4_findTrees_130 ?_
              refine fr_csI h wX4_regrouped lX4_112 (c_X4_regrouped x23 l1_25 l2_25 l2_25 (by omega) (by omega) (by omega)) rfl (by decide) (by decide) rfl (Nat.le_of_ble_eq_true rfl) dX4_findTrees_131 (fun z48 x47 w49 p50 => ?_)
              have y51 := p50
              rw [y51]
              clear y51
              refine fr_istore_n (L' := [(0, vr G 89), (1, vi z48), (2, vi l2_25)]) h rfl dX4_findTrees_134 (by decide) [1, 0, 2] rfl ?_
              refine fr_iinc (j := 2) (L' := [(0, vr G 89), (1, vi z48), (2, vi (l2_25 + 1))]) h dX4_findTrees_135 rfl (by decide) [1, 2, 0] rfl ?_
              refine fr_goto (tgt := 122) h dX4_findTrees_138 (by decide) ?_
              have r52 := (fm_rd_i (a := 89) (b := 6) m24 (by decide))
              have r53 := (fm_rd_i (a := 89) (b := 6) m2 (by decide))
              have r54 := (fm_rd_i (a := 89) (b := 7) m24 (by decide))
              have r55 := (fm_rd_i (a := 89) (b := 7) m2 (by decide))
              have r56 := (fm_rd_i (a := 89) (b := 8) m24 (by decide))
              have r57 := (fm_rd_i (a := 89) (b := 8) m2 (by decide))
              exact ih25 z48 (l2_25 + 1) (by omega) (by omega) (by omega) (by omega) (by omega) (by omega) (by omega) (by omega)
        have r58 := (fm_rd_i (a := 89) (b := 6) m24 (by decide))
        have r59 := (fm_rd_i (a := 89) (b := 6) m2 (by decide))
        have r60 := (fm_rd_i (a := 89) (b := 7) m24 (by decide))
        have r61 := (fm_rd_i (a := 89) (b := 7) m2 (by decide))
        have r62 := (fm_rd_i (a := 89) (b := 8) m24 (by decide))
        have r63 := (fm_rd_i (a := 89) (b := 8) m2 (by decide))
        exact HL25 ((7 - 0) + 1 : Int).toNat 0 0 (by omega) (by omega) (by omega) (by omega) (by omega) (by omega) (by omega) (by omega)
      ·
        refine fr_iload_n h rfl 1 rfl dX4_findTrees_13 ?_
        refine fr_iconst h dX4_findTrees_14 ?_
        refine fr_iadd h dX4_findTrees_15 ?_
        refine fr_istore_n (L' := [(0, vr G 89), (1, vi l1_3), (2, vi (l1_3 + 1))]) h rfl dX4_findTrees_16 (by decide) [1, 2, 0] rfl ?_
        have HL64 : ∀ (n64 : Nat) (l2_64 : Int) (x_64 : Mm), fm_r l2_64 → 1 ≤ l2_64 → l2_64 ≤ 7 → x_64 89 6 = 3 → x_64 89 7 = r → x_64 89 8 = o → (∀ a : Int, (a < 89 ∨ 93 < a) → (a < o ∨ o + 1 < a) → (a < r ∨ r + 4 < a) → x_64 a = x_3 a) → (7 - l2_64) < n64 → FW YC G C 4 x_64 17 [(0, vr G 89), (1, vi l1_3), (2, vi l2_64)] [] := by
          intro n64
          induction n64 with
          | zero =>
            intro l2_64 x_64 g64_0 g64_1 g64_2 g64_3 g64_4 g64_5 g64_6 g64_7
            exfalso; omega
          | succ n64 ih64 =>
            intro l2_64 x_64 g64_0 g64_1 g64_2 g64_3 g64_4 g64_5 g64_6 g64_7
            refine fr_iload_n h rfl 2 rfl dX4_findTrees_17 ?_
            refine fr_bipush h rfl dX4_findTrees_18 ?_
            refine fr_icmp_ge (tgt := 92) h dX4_findTrees_20 (by decide) (by omega) (by omega) (fun c65 => ?_) (fun c65 => ?_)
            ·
              refine fr_iinc (j := 1) (L' := [(0, vr G 89), (1, vi (l1_3 + 1)), (2, vi l2_64)]) h dX4_findTrees_92 rfl (by decide) [1, 0, 2] rfl ?_
              refine fr_goto (tgt := 7) h dX4_findTrees_95 (by decide) ?_
              refine fr_sub (L' := [(0, vr G 89), (1, vi (l1_3 + 1))]) [0, 1] rfl ?_
              have r66 := (fm_rd_i (a := 89) (b := 6) m2 (by decide))
              have r67 := (fm_rd_i (a := 89) (b := 7) m2 (by decide))
              have r68 := (fm_rd_i (a := 89) (b := 8) m2 (by decide))
              exact ih3 (l1_3 + 1) x_64 (by omega) (by omega) (by omega) (by omega) (by omega) (by omega) (fun a k0 k1 k2 => ((g64_6 a (by omega) (by omega) (by omega)).trans (g3_6 a (by omega) (by omega) (by omega)))) (by omega)
            ·
              refine fr_aload_n h rfl 0 rfl dX4_findTrees_23 ?_
              refine fr_getr (z := 3) (iz := 6) h kX4 fX4_24 at_89 rfl rfl g64_3 (by omega) dX4_findTrees_24 ?_
              refine fr_iload_n h rfl 1 rfl dX4_findTrees_27 ?_
              refine fr_iload_n h rfl 2 rfl dX4_findTrees_28 ?_
              refine fr_cvI h kX8 (St_at St_3) wX8_weight lX4_94 (c_X8_weight x_64 3 St_3 l1_3 l2_64 (by omega) (by omega)) rfl (by decide) (by decide) rfl (Nat.le_of_ble_eq_true rfl) dX4_findTrees_29 (fun z70 x69 w71 p72 => ?_)
              obtain ⟨p73, p74, y75⟩ := p72
              rw [y75]
              clear y75
              refine fr_istore_n (L' := [(0, vr G 89), (1, vi l1_3), (2, vi l2_64), (3, vi z70)]) h rfl dX4_findTrees_32 (by decide) [1, 2, 3, 0] rfl ?_
              refine fr_iload_n h rfl 3 rfl dX4_findTrees_33 ?_
              refine fr_if_le (tgt := 86) h dX4_findTrees_34 (by decide) (by omega) (fun c76 => ?_) (fun c76 => ?_)
              ·
                refine fr_iinc (j := 2) (L' := [(0, vr G 89), (1, vi l1_3), (2, vi (l2_64 + 1)), (3, vi z70)]) h dX4_findTrees_86 rfl (by decide) [1, 2, 0, 3] rfl ?_
                refine fr_goto (tgt := 17) h dX4_findTrees_89 (by decide) ?_
                refine fr_sub (L' := [(0, vr G 89), (1, vi l1_3), (2, vi (l2_64 + 1))]) [0, 1, 2] rfl ?_
                have r77 := (fm_rd_i (a := 89) (b := 6) m2 (by decide))
                have r78 := (fm_rd_i (a := 89) (b := 7) m2 (by decide))
                have r79 := (fm_rd_i (a := 89) (b := 8) m2 (by decide))
                exact ih64 (l2_64 + 1) x_64 (by omega) (by omega) (by omega) (by omega) (by omega) (by omega) (fun a k0 k1 k2 => (g64_6 a (by omega) (by omega) (by omega))) (by omega)
              ·
                refine fr_aload_n h rfl 0 rfl dX4_findTrees_37 ?_
                refine fr_geti (iz := 4) h kX4 fX4_90 at_89 rfl rfl (by decide) (by decide) rf_89_4 dX4_findTrees_38 (fun z80 w81 w82 q83 => ?_)
                have r84 := (fm_rd_s m2)
                refine fr_bipush h rfl dX4_findTrees_41 ?_
                refine fr_icmp_ge (tgt := 86) h dX4_findTrees_43 (by decide) (by omega) (by omega) (fun c85 => ?_) (fun c85 => ?_)
                ·
                  refine fr_iinc (j := 2) (L' := [(0, vr G 89), (1, vi l1_3), (2, vi (l2_64 + 1)), (3, vi z70)]) h dX4_findTrees_86 rfl (by decide) [1, 2, 0, 3] rfl ?_
                  refine fr_goto (tgt := 17) h dX4_findTrees_89 (by decide) ?_
                  refine fr_sub (L' := [(0, vr G 89), (1, vi l1_3), (2, vi (l2_64 + 1))]) [0, 1, 2] rfl ?_
                  have r86 := (fm_rd_i (a := 89) (b := 6) m2 (by decide))
                  have r87 := (fm_rd_i (a := 89) (b := 7) m2 (by decide))
                  have r88 := (fm_rd_i (a := 89) (b := 8) m2 (by decide))
                  exact ih64 (l2_64 + 1) x_64 (by omega) (by omega) (by omega) (by omega) (by omega) (by omega) (fun a k0 k1 k2 => (g64_6 a (by omega) (by omega) (by omega))) (by omega)
                ·
                  refine fr_aload_n h rfl 0 rfl dX4_findTrees_46 ?_
                  refine fr_getc (z := 91) (iz := 1) h kX4 fX4_15 at_89 rfl rfl rf_89_1 (by omega) dX4_findTrees_47 ?_
                  refine fr_aload_n h rfl 0 rfl dX4_findTrees_50 ?_
                  refine fr_geti (iz := 4) h kX4 fX4_90 at_89 rfl rfl (by decide) (by decide) rf_89_4 dX4_findTrees_51 (fun z89 w90 w91 q92 => ?_)
                  have r93 := (fm_rd_s m2)
                  refine fr_iload_n h rfl 1 rfl dX4_findTrees_54 ?_
                  refine fr_iast h ar_91 (by omega) (by omega) (rr_91 z89) (by omega) (by omega) dX4_findTrees_55 ?_
                  refine fr_mem (fun x94 m95 => ?_)
                  refine fr_aload_n h rfl 0 rfl dX4_findTrees_56 ?_
                  refine fr_getc (z := 92) (iz := 2) h kX4 fX4_18 at_89 rfl rfl rf_89_2 (by omega) dX4_findTrees_57 ?_
                  refine fr_aload_n h rfl 0 rfl dX4_findTrees_60 ?_
                  refine fr_geti (iz := 4) h kX4 fX4_90 at_89 rfl rfl (by decide) (by decide) rf_89_4 dX4_findTrees_61 (fun z96 w97 w98 q99 => ?_)
                  have r100 := q99.trans (fm_rd_k (a := 89) (b := 4) m95 (by omega))
                  have r101 := (fm_rd_s m2)
                  refine fr_iload_n h rfl 2 rfl dX4_findTrees_64 ?_
                  refine fr_iast h ar_92 (by omega) (by omega) (rr_92 z96) (by omega) (by omega) dX4_findTrees_65 ?_
                  refine fr_mem (fun x102 m103 => ?_)
                  refine fr_aload_n h rfl 0 rfl dX4_findTrees_66 ?_
                  refine fr_getc (z := 93) (iz := 3) h kX4 fX4_21 at_89 rfl rfl rf_89_3 (by omega) dX4_findTrees_67 ?_
                  refine fr_aload_n h rfl 0 rfl dX4_findTrees_70 ?_
                  refine fr_geti (iz := 4) h kX4 fX4_90 at_89 rfl rfl (by decide) (by decide) rf_89_4 dX4_findTrees_71 (fun z104 w105 w106 q107 => ?_)
                  have r108 := q107.trans (fm_rd_k (a := 89) (b := 4) m103 (by omega))
                  have r109 := r108.trans (fm_rd_k (a := 89) (b := 4) m95 (by omega))
                  have r110 := (fm_rd_s m2)
                  refine fr_iload_n h rfl 3 rfl dX4_findTrees_74 ?_
                  refine fr_iast h ar_93 (by omega) (by omega) (rr_93 z104) (by omega) (by omega) dX4_findTrees_75 ?_
                  refine fr_mem (fun x111 m112 => ?_)
                  refine fr_aload_n h rfl 0 rfl dX4_findTrees_76 ?_
                  refine fr_dup h rfl dX4_findTrees_77 ?_
                  refine fr_geti (iz := 4) h kX4 fX4_90 at_89 rfl rfl (by decide) (by decide) rf_89_4 dX4_findTrees_78 (fun z113 w114 w115 q116 => ?_)
                  have r117 := q116.trans (fm_rd_k (a := 89) (b := 4) m112 (by omega))
                  have r118 := r117.trans (fm_rd_k (a := 89) (b := 4) m103 (by omega))
                  have r119 := r118.trans (fm_rd_k (a := 89) (b := 4) m95 (by omega))
                  have r120 := (fm_rd_s m2)
                  refine fr_iconst h dX4_findTrees_81 ?_
                  refine fr_iadd h dX4_findTrees_82 ?_
                  refine fr_puti (iz := 4) h kX4 fX4_90 at_89 rfl rfl (by decide) (by decide) rfl (by decide +kernel) rf_89_4 (by omega) (by omega) dX4_findTrees_83 ?_
                  refine fr_mem (fun x121 m122 => ?_)
                  refine fr_iinc (j := 2) (L' := [(0, vr G 89), (1, vi l1_3), (2, vi (l2_64 + 1)), (3, vi z70)]) h dX4_findTrees_86 rfl (by decide) [1, 2, 0, 3] rfl ?_
                  refine fr_goto (tgt := 17) h dX4_findTrees_89 (by decide) ?_
                  refine fr_sub (L' := [(0, vr G 89), (1, vi l1_3), (2, vi (l2_64 + 1))]) [0, 1, 2] rfl ?_
                  have r123 := (fm_rd_i (a := 89) (b := 6) m122 (by decide))
                  have r124 := r123.trans (fm_rd_k (a := 89) (b := 6) m112 (by omega))
                  have r125 := r124.trans (fm_rd_k (a := 89) (b := 6) m103 (by omega))
                  have r126 := r125.trans (fm_rd_k (a := 89) (b := 6) m95 (by omega))
                  have r127 := (fm_rd_i (a := 89) (b := 6) m2 (by decide))
                  have r128 := (fm_rd_i (a := 89) (b := 7) m122 (by decide))
                  have r129 := r128.trans (fm_rd_k (a := 89) (b := 7) m112 (by omega))
                  have r130 := r129.trans (fm_rd_k (a := 89) (b := 7) m103 (by omega))
                  have r131 := r130.trans (fm_rd_k (a := 89) (b := 7) m95 (by omega))
                  have r132 := (fm_rd_i (a := 89) (b := 7) m2 (by decide))
                  have r133 := (fm_rd_i (a := 89) (b := 8) m122 (by decide))
                  have r134 := r133.trans (fm_rd_k (a := 89) (b := 8) m112 (by omega))
                  have r135 := r134.trans (fm_rd_k (a := 89) (b := 8) m103 (by omega))
                  have r136 := r135.trans (fm_rd_k (a := 89) (b := 8) m95 (by omega))
                  have r137 := (fm_rd_i (a := 89) (b := 8) m2 (by decide))
                  exact ih64 (l2_64 + 1) x121 (by omega) (by omega) (by omega) (by omega) (by omega) (by omega) (fun a k0 k1 k2 => ((fm_up_row m122 (by omega)).trans ((fm_up_row m112 (by omega)).trans ((fm_up_row m103 (by omega)).trans ((fm_up_row m95 (by omega)).trans (g64_6 a (by omega) (by omega) (by omega))))))) (by omega)
        have r138 := (fm_rd_i (a := 89) (b := 6) m2 (by decide))
        have r139 := (fm_rd_i (a := 89) (b := 7) m2 (by decide))
        have r140 := (fm_rd_i (a := 89) (b := 8) m2 (by decide))
        exact HL64 ((7 - (l1_3 + 1)) + 1 : Int).toNat (l1_3 + 1) x_3 (by omega) (by omega) (by omega) (by omega) (by omega) (by omega) (fun a _ _ _ => rfl) (by omega)
  have r141 := (fm_rd_i (a := 89) (b := 6) m2 (by decide))
  have r142 := (fm_rd_i (a := 89) (b := 7) m2 (by decide))
  have r143 := (fm_rd_i (a := 89) (b := 8) m2 (by decide))
  exact HL3 ((7 - 0) + 1 : Int).toNat 0 x1 (by omega) (by omega) (by omega) (by omega) (by omega) (by omega) (fun a _ _ _ => rfl) (by omega)
set_option maxHeartbeats 200000 in
theorem c_X4_find (x : Mm) (k : Int) (r : Int) (hr : isRu r) (o : Int) (on : Nat) (ho : OrN o on) (h_k : fm_r k) : CnV YC yX4_find cX4_find 5 25 871 (fun G => [vr G 89, vi k, vr G 3, vr G r, vr G o]) x (fun y' => (∀ a : Int, (a < 89 ∨ 93 < a) → (a < o ∨ o + 1 < a) → (a < r ∨ r + 4 < a) → y' a = x a)) := by
  refine cn_V (by decide) (fun _ => Nat.le_of_ble_eq_true rfl) (fun G C h hq => ?_)
  have h : OK YC G C cX4_find RX4 5 none 25 871 := h
  show FW YC G C 5 x 0 [(0, vr G 89), (1, vi k), (2, vr G 3), (3, vr G r), (4, vr G o)] []
  have h_r := Ru_b hr
  have h_o := OrN_b ho
  refine fr_aload_n h rfl 0 rfl dX4_find_0 ?_
  refine fr_aload_n h rfl 2 rfl dX4_find_1 ?_
  refine fr_putr (tf := (.object "BestWalks$State")) (iz := 6) h kX4 fX4_24 at_89 rfl rfl rfl (by decide +kernel) (fun _ => rfl) (fun _ => rfl) rf_89_6 (by omega) (by omega) (by omega) dX4_find_2 ?_
  refine fr_mem (fun x1 m2 => ?_)
  refine fr_aload_n h rfl 0 rfl dX4_find_5 ?_
  refine fr_aload_n h rfl 3 rfl dX4_find_6 ?_
  refine fr_putr (tf := (.object "BestWalks$Rule")) (iz := 7) h kX4 fX4_28 at_89 rfl rfl rfl (by decide +kernel) (fun _ => rfl) (fun _ => rfl) rf_89_7 (by omega) (by omega) (by omega) dX4_find_7 ?_
  refine fr_mem (fun x3 m4 => ?_)
  refine fr_aload_n h rfl 0 rfl dX4_find_10 ?_
  refine fr_aload h 4 rfl dX4_find_11 ?_
  refine fr_putr (tf := (.object "BestWalks$Order")) (iz := 8) h kX4 fX4_32 at_89 rfl rfl rfl (by decide +kernel) (fun _ => rfl) (fun _ => rfl) rf_89_8 (by omega) (by omega) (by omega) dX4_find_13 ?_
  refine fr_mem (fun x5 m6 => ?_)
  refine fr_iload_n h rfl 1 rfl dX4_find_16 ?_
  by_cases c8 : k = 0
  ·
    refine fr_tab_in (off := 31) (tgt := 48) h dX4_find_17 (by omega) (by omega) (by omega) (by rw [c8]; rfl) (by decide) ?_
    refine fr_aload_n h rfl 0 rfl dX4_find_48 ?_
    refine fr_iconst h dX4_find_49 ?_
    refine fr_iconst h dX4_find_50 ?_
    refine fr_lconst (z := 0) h rfl dX4_find_51 ?_
    have r9 := (fm_rd_i (a := 89) (b := 6) m6 (by decide))
    have r10 := r9.trans (fm_rd_i (a := 89) (b := 6) m4 (by decide))
    have r11 := r10.trans (fm_rd_s m2)
    have r12 := (fm_rd_i (a := 89) (b := 7) m6 (by decide))
    have r13 := r12.trans (fm_rd_s m4)
    have r14 := (fm_rd_s m6)
    refine fr_cvV h kX4 at_89 wX4_findChoices lX4_36 (c_X4_findChoices 5 x5 r hr o on ho 0 0 0 (by omega) (by omega) (by omega) (by omega) (by omega) (by omega) (by omega) (by omega) (by omega) (by omega) (by omega)) rfl (by decide) (by decide) rfl (Nat.le_of_ble_eq_true rfl) dX4_find_52 (fun x15 p18 => ?_)
    obtain ⟨p19, p20, p21, f22⟩ := p18
    refine fr_goto (tgt := 99) h dX4_find_55 (by decide) ?_
    exact fr_vret h hq (fun a k0 k1 k2 => ((f22 a (by omega) (by omega) (by omega)).trans ((fm_up_row m6 (by omega)).trans ((fm_up_row m4 (by omega)).trans (fm_up_row m2 (by omega)))))) dX4_find_99
  ·
    by_cases c23 : k = 1
    ·
      refine fr_tab_in (off := 41) (tgt := 58) h dX4_find_17 (by omega) (by omega) (by omega) (by rw [c23]; rfl) (by decide) ?_
      refine fr_aload_n h rfl 0 rfl dX4_find_58 ?_
      have r24 := (fm_rd_i (a := 89) (b := 6) m6 (by decide))
      have r25 := r24.trans (fm_rd_i (a := 89) (b := 6) m4 (by decide))
      have r26 := r25.trans (fm_rd_s m2)
      have r27 := (fm_rd_i (a := 89) (b := 7) m6 (by decide))
      have r28 := r27.trans (fm_rd_s m4)
      have r29 := (fm_rd_s m6)
      refine fr_cvV h kX4 at_89 wX4_findTrees lX4_40 (c_X4_findTrees x5 r hr o on ho (by omega) (by omega) (by omega)) rfl (by decide) (by decide) rfl (Nat.le_of_ble_eq_true rfl) dX4_find_59 (fun x30 p33 => ?_)
      obtain ⟨p34, p35, p36, f37⟩ := p33
      refine fr_goto (tgt := 99) h dX4_find_62 (by decide) ?_
      exact fr_vret h hq (fun a k0 k1 k2 => ((f37 a (by omega) (by omega) (by omega)).trans ((fm_up_row m6 (by omega)).trans ((fm_up_row m4 (by omega)).trans (fm_up_row m2 (by omega)))))) dX4_find_99
    ·
      by_cases c38 : k = 2
      ·
        refine fr_tab_in (off := 48) (tgt := 65) h dX4_find_17 (by omega) (by omega) (by omega) (by rw [c38]; rfl) (by decide) ?_
        refine fr_aload_n h rfl 0 rfl dX4_find_65 ?_
        refine fr_iconst h dX4_find_66 ?_
        refine fr_iconst h dX4_find_67 ?_
        refine fr_lconst (z := 0) h rfl dX4_find_68 ?_
        refine fr_iconst h dX4_find_69 ?_
        have r39 := (fm_rd_i (a := 89) (b := 6) m6 (by decide))
        have r40 := r39.trans (fm_rd_i (a := 89) (b := 6) m4 (by decide))
        have r41 := r40.trans (fm_rd_s m2)
        have r42 := (fm_rd_i (a := 89) (b := 7) m6 (by decide))
        have r43 := r42.trans (fm_rd_s m4)
        have r44 := (fm_rd_s m6)
        refine fr_cvV h kX4 at_89 wX4_findPairings lX4_43 (c_X4_findPairings 6 x5 r hr o on ho 0 0 0 0 (by omega) (by omega) (by omega) (by omega) (by omega) (by omega) (by omega) (by omega) (by omega) (by omega)) rfl (by decide) (by decide) rfl (Nat.le_of_ble_eq_true rfl) dX4_find_70 (fun x45 p48 => ?_)
        obtain ⟨p49, p50, p51, f52⟩ := p48
        refine fr_goto (tgt := 99) h dX4_find_73 (by decide) ?_
        exact fr_vret h hq (fun a k0 k1 k2 => ((f52 a (by omega) (by omega) (by omega)).trans ((fm_up_row m6 (by omega)).trans ((fm_up_row m4 (by omega)).trans (fm_up_row m2 (by omega)))))) dX4_find_99
      ·
        by_cases c53 : k = 3
        ·
          refine fr_tab_in (off := 59) (tgt := 76) h dX4_find_17 (by omega) (by omega) (by omega) (by rw [c53]; rfl) (by decide) ?_
          refine fr_aload_n h rfl 0 rfl dX4_find_76 ?_
          refine fr_iconst h dX4_find_77 ?_
          refine fr_iconst h dX4_find_78 ?_
          refine fr_iconst h dX4_find_79 ?_
          refine fr_lconst (z := 0) h rfl dX4_find_80 ?_
          have r54 := (fm_rd_i (a := 89) (b := 6) m6 (by decide))
          have r55 := r54.trans (fm_rd_i (a := 89) (b := 6) m4 (by decide))
          have r56 := r55.trans (fm_rd_s m2)
          have r57 := (fm_rd_i (a := 89) (b := 7) m6 (by decide))
          have r58 := r57.trans (fm_rd_s m4)
          have r59 := (fm_rd_s m6)
          refine fr_cvV h kX4 at_89 wX4_findSubsets lX4_47 (c_X4_findSubsets 7 x5 r hr o on ho 0 0 0 0 (by omega) (by omega) (by omega) (by omega) (by omega) (by omega) (by omega) (by omega) (by omega) (by omega) (by omega)) rfl (by decide) (by decide) rfl (Nat.le_of_ble_eq_true rfl) dX4_find_81 (fun x60 p63 => ?_)
          obtain ⟨p64, p65, p66, f67⟩ := p63
          refine fr_goto (tgt := 99) h dX4_find_84 (by decide) ?_
          exact fr_vret h hq (fun a k0 k1 k2 => ((f67 a (by omega) (by omega) (by omega)).trans ((fm_up_row m6 (by omega)).trans ((fm_up_row m4 (by omega)).trans (fm_up_row m2 (by omega)))))) dX4_find_99
        ·
          refine fr_tab_out (tgt := 87) h dX4_find_17 (by omega) (by omega) (by decide) ?_
          refine fr_aload_n h rfl 0 rfl dX4_find_87 ?_
          refine fr_aload_n h rfl 2 rfl dX4_find_88 ?_
          refine fr_cvI h kX8 (St_at St_3) wX8_firstEnd lX4_51 (c_X8_firstEnd x5 3 St_3) rfl (by decide) (by decide) rfl (Nat.le_of_ble_eq_true rfl) dX4_find_89 (fun z69 x68 w70 p71 => ?_)
          obtain ⟨p72, p73, p74, y75⟩ := p71
          rw [y75]
          clear y75
          refine fr_iconst h dX4_find_92 ?_
          refine fr_iconst h dX4_find_93 ?_
          refine fr_lconst (z := 0) h rfl dX4_find_94 ?_
          refine fr_iconst h dX4_find_95 ?_
          have r76 := (fm_rd_i (a := 89) (b := 6) m6 (by decide))
          have r77 := r76.trans (fm_rd_i (a := 89) (b := 6) m4 (by decide))
          have r78 := r77.trans (fm_rd_s m2)
          have r79 := (fm_rd_i (a := 89) (b := 7) m6 (by decide))
          have r80 := r79.trans (fm_rd_s m4)
          have r81 := (fm_rd_s m6)
          refine fr_cvV h kX4 at_89 wX4_findRoutes lX4_57 (c_X4_findRoutes 7 x5 r hr o on ho z69 0 0 0 0 (by omega) (by omega) (by omega) (by omega) (by omega) (by omega) (by omega) (by omega) (by omega) (by omega) (by omega) (by omega) (by omega)) rfl (by decide) (by decide) rfl (Nat.le_of_ble_eq_true rfl) dX4_find_96 (fun x82 p85 => ?_)
          obtain ⟨p86, p87, p88, f89⟩ := p85
          exact fr_vret h hq (fun a k0 k1 k2 => ((f89 a (by omega) (by omega) (by omega)).trans ((fm_up_row m6 (by omega)).trans ((fm_up_row m4 (by omega)).trans (fm_up_row m2 (by omega)))))) dX4_find_99
set_option maxHeartbeats 200000 in
theorem c_X4_costOfChoice (x : Mm) (r : Int) (hr : isRu r) (v : Int) (h_v : fm_l v) : CnI YC yX4_costOfChoice cX4_costOfChoice 7 .int 3 74 (fun G => [vr G 89, vr G 3, vr G r, vj v]) x (fun z y' => (∀ a : Int, (a < 89 ∨ 93 < a) → (a < r ∨ r + 4 < a) → y' a = x a)) := by
  refine cn_I (by decide) (fun _ => Nat.le_of_ble_eq_true rfl) (fun G C h hq => ?_)
  have h : OK YC G C cX4_costOfChoice RX4 7 (some .int) 3 74 := h
  show FW YC G C 7 x 0 [(0, vr G 89), (1, vr G 3), (2, vr G r), (3, vj v)] []
  have h_r := Ru_b hr
  refine fr_iconst h dX4_costOfChoice_0 ?_
  refine fr_istore (L' := [(0, vr G 89), (1, vr G 3), (2, vr G r), (3, vj v), (5, vi 0)]) h dX4_costOfChoice_1 (by decide) [1, 2, 3, 4, 0] rfl ?_
  refine fr_iconst h dX4_costOfChoice_3 ?_
  refine fr_istore (L' := [(0, vr G 89), (1, vr G 3), (2, vr G r), (3, vj v), (5, vi 0), (6, vi 0)]) h dX4_costOfChoice_4 (by decide) [1, 2, 3, 4, 5, 0] rfl ?_
  have HL1 : ∀ (n1 : Nat) (l5_1 l6_1 : Int) (x_1 : Mm), fm_r l5_1 → 0 ≤ l5_1 → l5_1 ≤ 4 → fm_r l6_1 → 0 ≤ l6_1 → l6_1 ≤ 4 → l5_1 ≤ l6_1 → (∀ a : Int, (a < 89 ∨ 93 < a) → (a < r ∨ r + 4 < a) → x_1 a = x a) → (4 - l6_1) < n1 → FW YC G C 7 x_1 6 [(0, vr G 89), (1, vr G 3), (2, vr G r), (3, vj v), (5, vi l5_1), (6, vi l6_1)] [] := by
    intro n1
    induction n1 with
    | zero =>
      intro l5_1 l6_1 x_1 g1_0 g1_1 g1_2 g1_3 g1_4 g1_5 g1_6 g1_7 g1_8
      exfalso; omega
    | succ n1 ih1 =>
      intro l5_1 l6_1 x_1 g1_0 g1_1 g1_2 g1_3 g1_4 g1_5 g1_6 g1_7 g1_8
      refine fr_iload h 5 rfl dX4_costOfChoice_6 ?_
      refine fr_iconst h dX4_costOfChoice_8 ?_
      refine fr_icmp_ge (tgt := 49) h dX4_costOfChoice_9 (by decide) (by omega) (by omega) (fun c2 => ?_) (fun c2 => ?_)
      ·
        refine fr_aload_n h rfl 2 rfl dX4_costOfChoice_49 ?_
        refine fr_aload_n h rfl 0 rfl dX4_costOfChoice_50 ?_
        refine fr_getc (z := 90) (iz := 0) h kX4 fX4_9 at_89 rfl rfl rf_89_0 (by omega) dX4_costOfChoice_51 ?_
        refine fr_iload h 4 rfl dX4_costOfChoice_54 ?_
        refine fr_cvI h kX7 (Ru_at hr) wX7_costOf lX4_74 (c_X7_costOf x_1 r hr l5_1 (by omega) (by omega)) rfl (by decide) (by decide) rfl (Nat.le_of_ble_eq_true rfl) dX4_costOfChoice_56 (fun z4 x3 w5 p6 => ?_)
        have f7 := p6
        exact fr_iret h hq (by omega) (fun a k0 k1 => ((f7 a (by omega)).trans (g1_7 a (by omega) (by omega)))) dX4_costOfChoice_59
      ·
        refine fr_aload_n h rfl 1 rfl dX4_costOfChoice_12 ?_
        refine fr_iload h 5 rfl dX4_costOfChoice_13 ?_
        refine fr_cvI h kX8 (St_at St_3) wX8_sizeOf lX4_61 (c_X8_sizeOf x_1 3 St_3 l6_1 (by omega)) rfl (by decide) (by decide) rfl (Nat.le_of_ble_eq_true rfl) dX4_costOfChoice_15 (fun z9 x8 w10 p11 => ?_)
        obtain ⟨p12, p13, p14, p15, y16⟩ := p11
        rw [y16]
        clear y16
        refine fr_if_le (tgt := 43) h dX4_costOfChoice_18 (by decide) (by omega) (fun c17 => ?_) (fun c17 => ?_)
        ·
          refine fr_iinc (j := 5) (L' := [(0, vr G 89), (1, vr G 3), (2, vr G r), (3, vj v), (5, vi l5_1), (6, vi (l6_1 + 1))]) h dX4_costOfChoice_43 rfl (by decide) [1, 2, 3, 4, 5, 0] rfl ?_
          refine fr_goto (tgt := 6) h dX4_costOfChoice_46 (by decide) ?_
          exact ih1 l5_1 (l6_1 + 1) x_1 (by omega) (by omega) (by omega) (by omega) (by omega) (by omega) (by omega) (fun a k0 k1 => (g1_7 a (by omega) (by omega))) (by omega)
        ·
          refine fr_aload_n h rfl 0 rfl dX4_costOfChoice_21 ?_
          refine fr_getc (z := 90) (iz := 0) h kX4 fX4_9 at_89 rfl rfl rf_89_0 (by omega) dX4_costOfChoice_22 ?_
          refine fr_iload h 4 rfl dX4_costOfChoice_25 ?_
          refine fr_aload_n h rfl 1 rfl dX4_costOfChoice_27 ?_
          refine fr_iload h 5 rfl dX4_costOfChoice_28 ?_
          refine fr_lload_n h rfl 3 rfl dX4_costOfChoice_30 ?_
          refine fr_iload h 4 rfl dX4_costOfChoice_31 ?_
          refine fr_csI h wX2_numberAt lX4_65 (c_X2_numberAt x_1 v l5_1 (by omega) (by omega)) rfl (by decide) (by decide) rfl (Nat.le_of_ble_eq_true rfl) dX4_costOfChoice_33 (fun z19 x18 w20 p21 => ?_)
          obtain ⟨p22, p23, y24⟩ := p21
          rw [y24]
          clear y24
          refine fr_cvI h kX8 (St_at St_3) wX8_numberAt lX4_71 (c_X8_numberAt x_1 3 St_3 l6_1 z19 (by omega) (by omega)) rfl (by decide) (by decide) rfl (Nat.le_of_ble_eq_true rfl) dX4_costOfChoice_36 (fun z26 x25 w27 p28 => ?_)
          obtain ⟨p29, p30, p31, y32⟩ := p28
          rw [y32]
          clear y32
          refine fr_iast h ar_90 (by omega) (by omega) (rr_90 l5_1) (by omega) (by omega) dX4_costOfChoice_39 ?_
          refine fr_mem (fun x33 m34 => ?_)
          refine fr_iinc (j := 4) (L' := [(0, vr G 89), (1, vr G 3), (2, vr G r), (3, vj v), (5, vi (l5_1 + 1)), (6, vi l6_1)]) h dX4_costOfChoice_40 rfl (by decide) [1, 2, 3, 4, 0, 5] rfl ?_
          refine fr_iinc (j := 5) (L' := [(0, vr G 89), (1, vr G 3), (2, vr G r), (3, vj v), (5, vi (l5_1 + 1)), (6, vi (l6_1 + 1))]) h dX4_costOfChoice_43 rfl (by decide) [1, 2, 3, 4, 5, 0] rfl ?_
          refine fr_goto (tgt := 6) h dX4_costOfChoice_46 (by decide) ?_
          exact ih1 (l5_1 + 1) (l6_1 + 1) x33 (by omega) (by omega) (by omega) (by omega) (by omega) (by omega) (by omega) (fun a k0 k1 => ((fm_up_row m34 (by omega)).trans (g1_7 a (by omega) (by omega)))) (by omega)
  exact HL1 ((4 - 0) + 1 : Int).toNat 0 0 x (by omega) (by omega) (by omega) (by omega) (by omega) (by omega) (by omega) (fun a _ _ => rfl) (by omega)
set_option maxHeartbeats 200000 in
theorem c_X9_numbersInto (x : Mm) : CnI YC yX9_numbersInto cX9_numbersInto 4 .int 2 42 (fun G => [vr G 1, vr G 109]) x (fun z y' => ((-21) ≤ z) ∧ (z ≤ 6) ∧ (∀ a : Int, (a < 109 ∨ 109 < a) → y' a = x a)) := by
  refine cn_I (by decide) (fun _ => Nat.le_of_ble_eq_true rfl) (fun G C h hq => ?_)
  have h : OK YC G C cX9_numbersInto RX9 4 (some .int) 2 42 := h
  show FW YC G C 4 x 0 [(0, vr G 1), (1, vr G 109)] []
  refine fr_aload_n h rfl 0 rfl dX9_numbersInto_0 ?_
  refine fr_geti (iz := 1) h kX9 fX9_15 at_1 rfl rfl (by decide) (by decide) rf_1_1 dX9_numbersInto_1 (fun z1 w2 w3 q4 => ?_)
  refine fr_if_ne (tgt := 9) h dX9_numbersInto_4 (by decide) (by omega) (fun c5 => ?_) (fun c5 => ?_)
  ·
    refine fr_iconst h dX9_numbersInto_9 ?_
    refine fr_istore_n (L' := [(0, vr G 1), (1, vr G 109), (2, vi 0)]) h rfl dX9_numbersInto_10 (by decide) [1, 2, 0] rfl ?_
    refine fr_iconst h dX9_numbersInto_11 ?_
    refine fr_istore_n (L' := [(0, vr G 1), (1, vr G 109), (2, vi 0), (3, vi 0)]) h rfl dX9_numbersInto_12 (by decide) [1, 2, 3, 0] rfl ?_
    have HL6 : ∀ (n6 : Nat) (l2_6 l3_6 : Int) (x_6 : Mm), fm_r l2_6 → 0 ≤ l2_6 → l2_6 ≤ 18 → fm_r l3_6 → 0 ≤ l3_6 → l3_6 ≤ 6 → l2_6 ≤ 3 * l3_6 → (∀ a : Int, (a < 109 ∨ 109 < a) → x_6 a = x a) → (6 - l3_6) < n6 → FW YC G C 4 x_6 13 [(0, vr G 1), (1, vr G 109), (2, vi l2_6), (3, vi l3_6)] [] := by
      intro n6
      induction n6 with
      | zero =>
        intro l2_6 l3_6 x_6 g6_0 g6_1 g6_2 g6_3 g6_4 g6_5 g6_6 g6_7 g6_8
        exfalso; omega
      | succ n6 ih6 =>
        intro l2_6 l3_6 x_6 g6_0 g6_1 g6_2 g6_3 g6_4 g6_5 g6_6 g6_7 g6_8
        refine fr_iload_n h rfl 3 rfl dX9_numbersInto_13 ?_
        refine fr_aload_n h rfl 1 rfl dX9_numbersInto_14 ?_
        refine fr_aleni h ar_109 (by decide) dX9_numbersInto_15 ?_
        show FW YC G C 4 x_6 16 [(0, vr G 1), (1, vr G 109), (2, vi l2_6), (3, vi l3_6)] [vi 6, vi l3_6]
        refine fr_icmp_ge (tgt := 103) h dX9_numbersInto_16 (by decide) (by omega) (by omega) (fun c7 => ?_) (fun c7 => ?_)
        ·
          refine fr_iconst h dX9_numbersInto_103 ?_
          refine fr_iload_n h rfl 2 rfl dX9_numbersInto_104 ?_
          refine fr_isub h dX9_numbersInto_105 ?_
          exact fr_iret h hq (by omega) ⟨(by omega), (by omega), (fun a k0 => (g6_7 a (by omega)))⟩ dX9_numbersInto_106
        ·
          refine fr_aload_n h rfl 0 rfl dX9_numbersInto_19 ?_
          refine fr_iload_n h rfl 2 rfl dX9_numbersInto_20 ?_
          refine fr_cvI h kX9 at_1 wX9_hasDigit lX9_27 (c_X9_hasDigit x_6 l2_6 (by omega)) rfl (by decide) (by decide) rfl (Nat.le_of_ble_eq_true rfl) dX9_numbersInto_21 (fun z9 x8 w10 p11 => ?_)
          obtain ⟨p12, p13, y14⟩ := p11
          rw [y14]
          clear y14
          refine fr_if_ne (tgt := 31) h dX9_numbersInto_24 (by decide) (by omega) (fun c15 => ?_) (fun c15 => ?_)
          ·
            refine fr_aload_n h rfl 1 rfl dX9_numbersInto_31 ?_
            refine fr_iload_n h rfl 3 rfl dX9_numbersInto_32 ?_
            refine fr_aload_n h rfl 0 rfl dX9_numbersInto_33 ?_
            refine fr_iload_n h rfl 2 rfl dX9_numbersInto_34 ?_
            refine fr_cvI h kX9 at_1 wX9_digit lX9_23 (c_X9_digit x_6 l2_6 (by omega)) rfl (by decide) (by decide) rfl (Nat.le_of_ble_eq_true rfl) dX9_numbersInto_35 (fun z17 x16 w18 p19 => ?_)
            obtain ⟨p20, p21, p22, y23⟩ := p19
            rw [y23]
            clear y23
            refine fr_iast h ar_109 (by omega) (by omega) (rr_109 l3_6) (by omega) (by omega) dX9_numbersInto_38 ?_
            refine fr_mem (fun x24 m25 => ?_)
            refine fr_iinc (j := 2) (L' := [(0, vr G 1), (1, vr G 109), (2, vi (l2_6 + 1)), (3, vi l3_6)]) h dX9_numbersInto_39 rfl (by decide) [1, 2, 0, 3] rfl ?_
            refine fr_aload_n h rfl 0 rfl dX9_numbersInto_42 ?_
            refine fr_iload_n h rfl 2 rfl dX9_numbersInto_43 ?_
            refine fr_cvI h kX9 at_1 wX9_hasDigit lX9_27 (c_X9_hasDigit x24 (l2_6 + 1) (by omega)) rfl (by decide) (by decide) rfl (Nat.le_of_ble_eq_true rfl) dX9_numbersInto_44 (fun z27 x26 w28 p29 => ?_)
            obtain ⟨p30, p31, y32⟩ := p29
            rw [y32]
            clear y32
            refine fr_if_eq (tgt := 68) h dX9_numbersInto_47 (by decide) (by omega) (fun c33 => ?_) (fun c33 => ?_)
            ·
              refine fr_iload_n h rfl 2 rfl dX9_numbersInto_68 ?_
              refine fr_aload_n h rfl 0 rfl dX9_numbersInto_69 ?_
              refine fr_geti (iz := 1) h kX9 fX9_15 at_1 rfl rfl (by decide) (by decide) rf_1_1 dX9_numbersInto_70 (fun z34 w35 w36 q37 => ?_)
              have r38 := q37.trans (fm_rd_k (a := 1) (b := 1) m25 (by omega))
              have r39 := r38.trans (congrFun (g6_7 1 (by omega)) 1)
              refine fr_icmp_ne (tgt := 80) h dX9_numbersInto_73 (by decide) (by omega) (by omega) (fun c40 => ?_) (fun c40 => ?_)
              ·
                refine fr_aload_n h rfl 0 rfl dX9_numbersInto_80 ?_
                refine fr_iload_n h rfl 2 rfl dX9_numbersInto_81 ?_
                refine fr_cvI h kX9 at_1 wX9_at lX9_19 (c_X9_at x24 (l2_6 + 1) (by omega)) rfl (by decide) (by decide) rfl (Nat.le_of_ble_eq_true rfl) dX9_numbersInto_82 (fun z42 x41 w43 p44 => ?_)
                obtain ⟨p45, p46, p47, p48, y49⟩ := p44
                rw [y49]
                clear y49
                refine fr_bipush h rfl dX9_numbersInto_85 ?_
                refine fr_icmp_eq (tgt := 94) h dX9_numbersInto_87 (by decide) (by omega) (by omega) (fun c50 => ?_) (fun c50 => ?_)
                ·
                  refine fr_iinc (j := 2) (L' := [(0, vr G 1), (1, vr G 109), (2, vi ((l2_6 + 1) + 1)), (3, vi l3_6)]) h dX9_numbersInto_94 rfl (by decide) [1, 2, 0, 3] rfl ?_
                  refine fr_iinc (j := 3) (L' := [(0, vr G 1), (1, vr G 109), (2, vi ((l2_6 + 1) + 1)), (3, vi (l3_6 + 1))]) h dX9_numbersInto_97 rfl (by decide) [1, 2, 3, 0] rfl ?_
                  refine fr_goto (tgt := 13) h dX9_numbersInto_100 (by decide) ?_
                  exact ih6 ((l2_6 + 1) + 1) (l3_6 + 1) x24 (by omega) (by omega) (by omega) (by omega) (by omega) (by omega) (by omega) (fun a k0 => ((fm_up_row m25 (by omega)).trans (g6_7 a (by omega)))) (by omega)
                ·
                  refine fr_iconst h dX9_numbersInto_90 ?_
                  refine fr_iload_n h rfl 2 rfl dX9_numbersInto_91 ?_
                  refine fr_isub h dX9_numbersInto_92 ?_
                  exact fr_iret h hq (by omega) ⟨(by omega), (by omega), (fun a k0 => ((fm_up_row m25 (by omega)).trans (g6_7 a (by omega))))⟩ dX9_numbersInto_93
              ·
                refine fr_iload_n h rfl 3 rfl dX9_numbersInto_76 ?_
                refine fr_iconst h dX9_numbersInto_77 ?_
                refine fr_iadd h dX9_numbersInto_78 ?_
                exact fr_iret h hq (by omega) ⟨(by omega), (by omega), (fun a k0 => ((fm_up_row m25 (by omega)).trans (g6_7 a (by omega))))⟩ dX9_numbersInto_79
            ·
              refine fr_aload_n h rfl 1 rfl dX9_numbersInto_50 ?_
              refine fr_iload_n h rfl 3 rfl dX9_numbersInto_51 ?_
              refine fr_bipush h rfl dX9_numbersInto_52 ?_
              refine fr_aload_n h rfl 1 rfl dX9_numbersInto_54 ?_
              refine fr_iload_n h rfl 3 rfl dX9_numbersInto_55 ?_
              refine fr_iald h ar_109 (by omega) (by omega) (rr_109 l3_6) dX9_numbersInto_56 (fun z51 w52 w53 q54 => ?_)
              have r55 := q54.trans (fm_rd_s m25)
              refine fr_imul h dX9_numbersInto_57 ?_
              refine fr_aload_n h rfl 0 rfl dX9_numbersInto_58 ?_
              refine fr_iload_n h rfl 2 rfl dX9_numbersInto_59 ?_
              refine fr_cvI h kX9 at_1 wX9_digit lX9_23 (c_X9_digit x24 (l2_6 + 1) (by omega)) rfl (by decide) (by decide) rfl (Nat.le_of_ble_eq_true rfl) dX9_numbersInto_60 (fun z57 x56 w58 p59 => ?_)
              obtain ⟨p60, p61, p62, y63⟩ := p59
              rw [y63]
              clear y63
              refine fr_iadd h dX9_numbersInto_63 ?_
              refine fr_iast h ar_109 (by omega) (by omega) (rr_109 l3_6) (by omega) (by omega) dX9_numbersInto_64 ?_
              refine fr_mem (fun x64 m65 => ?_)
              refine fr_iinc (j := 2) (L' := [(0, vr G 1), (1, vr G 109), (2, vi ((l2_6 + 1) + 1)), (3, vi l3_6)]) h dX9_numbersInto_65 rfl (by decide) [1, 2, 0, 3] rfl ?_
              refine fr_iload_n h rfl 2 rfl dX9_numbersInto_68 ?_
              refine fr_aload_n h rfl 0 rfl dX9_numbersInto_69 ?_
              refine fr_geti (iz := 1) h kX9 fX9_15 at_1 rfl rfl (by decide) (by decide) rf_1_1 dX9_numbersInto_70 (fun z66 w67 w68 q69 => ?_)
              have r70 := q69.trans (fm_rd_k (a := 1) (b := 1) m65 (by omega))
              have r71 := r70.trans (fm_rd_k (a := 1) (b := 1) m25 (by omega))
              have r72 := r71.trans (congrFun (g6_7 1 (by omega)) 1)
              refine fr_icmp_ne (tgt := 80) h dX9_numbersInto_73 (by decide) (by omega) (by omega) (fun c73 => ?_) (fun c73 => ?_)
              ·
                refine fr_aload_n h rfl 0 rfl dX9_numbersInto_80 ?_
                refine fr_iload_n h rfl 2 rfl dX9_numbersInto_81 ?_
                refine fr_cvI h kX9 at_1 wX9_at lX9_19 (c_X9_at x64 ((l2_6 + 1) + 1) (by omega)) rfl (by decide) (by decide) rfl (Nat.le_of_ble_eq_true rfl) dX9_numbersInto_82 (fun z75 x74 w76 p77 => ?_)
                obtain ⟨p78, p79, p80, p81, y82⟩ := p77
                rw [y82]
                clear y82
                refine fr_bipush h rfl dX9_numbersInto_85 ?_
                refine fr_icmp_eq (tgt := 94) h dX9_numbersInto_87 (by decide) (by omega) (by omega) (fun c83 => ?_) (fun c83 => ?_)
                ·
                  refine fr_iinc (j := 2) (L' := [(0, vr G 1), (1, vr G 109), (2, vi (((l2_6 + 1) + 1) + 1)), (3, vi l3_6)]) h dX9_numbersInto_94 rfl (by decide) [1, 2, 0, 3] rfl ?_
                  refine fr_iinc (j := 3) (L' := [(0, vr G 1), (1, vr G 109), (2, vi (((l2_6 + 1) + 1) + 1)), (3, vi (l3_6 + 1))]) h dX9_numbersInto_97 rfl (by decide) [1, 2, 3, 0] rfl ?_
                  refine fr_goto (tgt := 13) h dX9_numbersInto_100 (by decide) ?_
                  exact ih6 (((l2_6 + 1) + 1) + 1) (l3_6 + 1) x64 (by omega) (by omega) (by omega) (by omega) (by omega) (by omega) (by omega) (fun a k0 => ((fm_up_row m65 (by omega)).trans ((fm_up_row m25 (by omega)).trans (g6_7 a (by omega))))) (by omega)
                ·
                  refine fr_iconst h dX9_numbersInto_90 ?_
                  refine fr_iload_n h rfl 2 rfl dX9_numbersInto_91 ?_
                  refine fr_isub h dX9_numbersInto_92 ?_
                  exact fr_iret h hq (by omega) ⟨(by omega), (by omega), (fun a k0 => ((fm_up_row m65 (by omega)).trans ((fm_up_row m25 (by omega)).trans (g6_7 a (by omega)))))⟩ dX9_numbersInto_93
              ·
                refine fr_iload_n h rfl 3 rfl dX9_numbersInto_76 ?_
                refine fr_iconst h dX9_numbersInto_77 ?_
                refine fr_iadd h dX9_numbersInto_78 ?_
                exact fr_iret h hq (by omega) ⟨(by omega), (by omega), (fun a k0 => ((fm_up_row m65 (by omega)).trans ((fm_up_row m25 (by omega)).trans (g6_7 a (by omega)))))⟩ dX9_numbersInto_79
          ·
            refine fr_iconst h dX9_numbersInto_27 ?_
            refine fr_iload_n h rfl 2 rfl dX9_numbersInto_28 ?_
            refine fr_isub h dX9_numbersInto_29 ?_
            exact fr_iret h hq (by omega) ⟨(by omega), (by omega), (fun a k0 => (g6_7 a (by omega)))⟩ dX9_numbersInto_30
    exact HL6 ((6 - 0) + 1 : Int).toNat 0 0 x (by omega) (by omega) (by omega) (by omega) (by omega) (by omega) (by omega) (fun a _ => rfl) (by omega)
  ·
    refine fr_iconst h dX9_numbersInto_7 ?_
    exact fr_iret h hq (by omega) ⟨(by omega), (by omega), (fun a _ => rfl)⟩ dX9_numbersInto_8
