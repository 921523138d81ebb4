def LI (x y : Mm) (t : Int) : Prop := t = 0 → FRC x ∧ FRM y ∧ ((x 0 13 = 110 ∧ x 0 14 = 115) ∨ (x 0 13 = 115 ∧ x 0 14 = 110)) ∧ GI y ∧ y 0 21 ≤ 0 ∧ x 1 1 = 0 ∧ y 0 2 = 0 ∧ x 98 3 = y 0 37 ∧ (∀ j : Int, x 77 j = y 27 j)
theorem keepF {x y x' y' : Mm} {p z w : Int} (a1 : z = 1 → x' 77 p = 1) (a2 : ∀ j : Int, ¬ (z = 1 ∧ j = p) → x' 77 j = x 77 j) (b1 : w = 1 → y' 27 p = 1) (b2 : ∀ j : Int, ¬ (w = 1 ∧ j = p) → y' 27 j = y 27 j) (e : z = w) (h : ∀ j : Int, x 77 j = y 27 j) : ∀ j : Int, x' 77 j = y' 27 j := by
  intro j
  by_cases c : z = 1 ∧ j = p
  · obtain ⟨c1, rfl⟩ := c
    rw [a1 c1, b1 (e ▸ c1)]
  · rw [a2 j c, b2 j (by rw [← e]; exact c)]
    exact h j
theorem lr_mono {C : LC} {ce sl ce2 sl2 : Nat} {x y : Mm} {pc : Nat} {L : List (Nat × Value)} {st : List Value} (h1 : ce ≤ ce2) (h2 : sl ≤ sl2) (k : LW C ce2 sl2 x y pc L st) : LW C ce sl x y pc L st := by
  intro hR hR2 H locs ls hP hP2 hS hl
  exact fun T hT X => k hR hR2 H locs ls hP hP2 hS hl T hT (X.mono h1 h2)
theorem ll_26 : Cond.methodLink R_law 26 yX11_sign ∈ TB := tb_2 (i := 60) (by decide +kernel) (by decide +kernel)
theorem ll_30 : Cond.methodLink R_law 30 yX12_sign ∈ TB := tb_6 (i := 99) (by decide +kernel) (by decide +kernel)
theorem ll_31 : Cond.methodLink R_law 31 yX11_end ∈ TB := tb_2 (i := 72) (by decide +kernel) (by decide +kernel)
theorem ll_35 : Cond.methodLink R_law 35 yX12_end ∈ TB := tb_6 (i := 103) (by decide +kernel) (by decide +kernel)
theorem ll_36 : Cond.methodLink R_law 36 yX11_lists ∈ TB := tb_2 (i := 80) (by decide +kernel) (by decide +kernel)
theorem ll_39 : Cond.methodLink R_law 39 yX12_lists ∈ TB := tb_6 (i := 110) (by decide +kernel) (by decide +kernel)
theorem ll_40 : Cond.methodLink R_law 40 yX11_rule ∈ TB := tb_2 (i := 143) (by decide +kernel) (by decide +kernel)
theorem ll_44 : Cond.methodLink R_law 44 yX12_rule ∈ TB := tb_6 (i := 163) (by decide +kernel) (by decide +kernel)
theorem ll_45 : Cond.methodLink R_law 45 yL_number ∈ TB := tb_5 (i := 104) (by decide +kernel) (by decide +kernel)
theorem ll_50 : Cond.methodLink R_law 50 yX12_number_ ∈ TB := tb_6 (i := 194) (by decide +kernel) (by decide +kernel)
theorem ll_51 : Cond.methodLink R_law 51 yX12_thrown ∈ TB := tb_6 (i := 95) (by decide +kernel) (by decide +kernel)
theorem ll_54 : Cond.methodLink R_law 54 yL_edge ∈ TB := tb_5 (i := 177) (by decide +kernel) (by decide +kernel)
theorem ll_56 : Cond.methodLink R_law 56 yX12_edge ∈ TB := tb_6 (i := 202) (by decide +kernel) (by decide +kernel)
theorem ll_57 : Cond.methodLink R_law 57 yX11_sheet ∈ TB := tb_2 (i := 196) (by decide +kernel) (by decide +kernel)
theorem ll_61 : Cond.methodLink R_law 61 yX12_sheet ∈ TB := tb_6 (i := 215) (by decide +kernel) (by decide +kernel)
theorem ll_62 : Cond.methodLink R_law 62 yX11_puts ∈ TB := tb_2 (i := 209) (by decide +kernel) (by decide +kernel)
theorem ll_65 : Cond.methodLink R_law 65 yX12_puts ∈ TB := tb_6 (i := 224) (by decide +kernel) (by decide +kernel)
theorem ll_66 : Cond.methodLink R_law 66 yX11_takes ∈ TB := tb_2 (i := 214) (by decide +kernel) (by decide +kernel)
theorem ll_69 : Cond.methodLink R_law 69 yX12_takes ∈ TB := tb_6 (i := 231) (by decide +kernel) (by decide +kernel)
theorem ll_70 : Cond.methodLink R_law 70 yX11_joins ∈ TB := tb_2 (i := 230) (by decide +kernel) (by decide +kernel)
theorem ll_74 : Cond.methodLink R_law 74 yX12_joins ∈ TB := tb_7 (i := 1) (by decide +kernel) (by decide +kernel)
theorem ll_75 : Cond.methodLink R_law 75 yX11_costs ∈ TB := tb_3 (i := 8) (by decide +kernel) (by decide +kernel)
theorem ll_78 : Cond.methodLink R_law 78 yX12_costs ∈ TB := tb_7 (i := 8) (by decide +kernel) (by decide +kernel)
theorem ll_79 : Cond.methodLink R_law 79 yX11_sets ∈ TB := tb_3 (i := 16) (by decide +kernel) (by decide +kernel)
theorem ll_82 : Cond.methodLink R_law 82 yX12_sets ∈ TB := tb_7 (i := 15) (by decide +kernel) (by decide +kernel)
theorem ll_83 : Cond.methodLink R_law 83 yX11_ends ∈ TB := tb_3 (i := 24) (by decide +kernel) (by decide +kernel)
theorem ll_86 : Cond.methodLink R_law 86 yX12_ends ∈ TB := tb_7 (i := 22) (by decide +kernel) (by decide +kernel)
theorem ll_87 : Cond.methodLink R_law 87 yX11_day ∈ TB := tb_3 (i := 36) (by decide +kernel) (by decide +kernel)
theorem ll_90 : Cond.methodLink R_law 90 yX12_day ∈ TB := tb_7 (i := 32) (by decide +kernel) (by decide +kernel)
theorem ll_91 : Cond.methodLink R_law 91 yX11_undo ∈ TB := tb_3 (i := 150) (by decide +kernel) (by decide +kernel)
theorem ll_94 : Cond.methodLink R_law 94 yX12_undo ∈ TB := tb_7 (i := 52) (by decide +kernel) (by decide +kernel)
theorem ll_95 : Cond.methodLink R_law 95 yX11_best ∈ TB := tb_3 (i := 162) (by decide +kernel) (by decide +kernel)
theorem ll_98 : Cond.methodLink R_law 98 yX12_best ∈ TB := tb_7 (i := 56) (by decide +kernel) (by decide +kernel)
theorem ll_99 : Cond.methodLink R_law 99 yX11_many ∈ TB := tb_4 (i := 88) (by decide +kernel) (by decide +kernel)
theorem ll_102 : Cond.methodLink R_law 102 yX12_many ∈ TB := tb_7 (i := 118) (by decide +kernel) (by decide +kernel)
theorem ll_103 : Cond.methodLink R_law 103 yX11_below ∈ TB := tb_4 (i := 97) (by decide +kernel) (by decide +kernel)
theorem ll_106 : Cond.methodLink R_law 106 yX12_below ∈ TB := tb_7 (i := 130) (by decide +kernel) (by decide +kernel)
theorem ll_107 : Cond.methodLink R_law 107 yX11_rank ∈ TB := tb_4 (i := 101) (by decide +kernel) (by decide +kernel)
theorem ll_110 : Cond.methodLink R_law 110 yX12_rank ∈ TB := tb_7 (i := 134) (by decide +kernel) (by decide +kernel)
theorem ll_111 : Cond.methodLink R_law 111 yX11_alike ∈ TB := tb_4 (i := 120) (by decide +kernel) (by decide +kernel)
theorem ll_114 : Cond.methodLink R_law 114 yX12_alike ∈ TB := tb_7 (i := 142) (by decide +kernel) (by decide +kernel)
theorem ll_115 : Cond.methodLink R_law 115 yX11_surely ∈ TB := tb_4 (i := 129) (by decide +kernel) (by decide +kernel)
theorem ll_118 : Cond.methodLink R_law 118 yX12_surely ∈ TB := tb_7 (i := 146) (by decide +kernel) (by decide +kernel)
theorem ll_119 : Cond.methodLink R_law 119 yX11_having ∈ TB := tb_4 (i := 142) (by decide +kernel) (by decide +kernel)
theorem ll_122 : Cond.methodLink R_law 122 yX12_having ∈ TB := tb_7 (i := 150) (by decide +kernel) (by decide +kernel)
theorem ll_123 : Cond.methodLink R_law 123 yX11_differ ∈ TB := tb_4 (i := 146) (by decide +kernel) (by decide +kernel)
theorem ll_126 : Cond.methodLink R_law 126 yX12_differ ∈ TB := tb_7 (i := 154) (by decide +kernel) (by decide +kernel)
theorem ll_127 : Cond.methodLink R_law 127 yX11_gap ∈ TB := tb_4 (i := 154) (by decide +kernel) (by decide +kernel)
theorem ll_130 : Cond.methodLink R_law 130 yX12_gap ∈ TB := tb_7 (i := 158) (by decide +kernel) (by decide +kernel)
theorem ll_131 : Cond.methodLink R_law 131 yX11_opens ∈ TB := tb_4 (i := 158) (by decide +kernel) (by decide +kernel)
theorem ll_134 : Cond.methodLink R_law 134 yX12_opens ∈ TB := tb_7 (i := 162) (by decide +kernel) (by decide +kernel)
theorem ll_135 : Cond.methodLink R_law 135 yX11_goes ∈ TB := tb_4 (i := 166) (by decide +kernel) (by decide +kernel)
theorem ll_138 : Cond.methodLink R_law 138 yX12_goes ∈ TB := tb_7 (i := 166) (by decide +kernel) (by decide +kernel)
theorem ll_139 : Cond.methodLink R_law 139 yX11_skips ∈ TB := tb_4 (i := 191) (by decide +kernel) (by decide +kernel)
theorem ll_142 : Cond.methodLink R_law 142 yX12_skips ∈ TB := tb_7 (i := 174) (by decide +kernel) (by decide +kernel)
theorem ll_143 : Cond.methodLink R_law 143 yX11_heard ∈ TB := tb_4 (i := 195) (by decide +kernel) (by decide +kernel)
theorem ll_146 : Cond.methodLink R_law 146 yX12_heard ∈ TB := tb_7 (i := 178) (by decide +kernel) (by decide +kernel)
theorem ll_147 : Cond.methodLink R_law 147 yX11_forget ∈ TB := tb_4 (i := 209) (by decide +kernel) (by decide +kernel)
theorem ll_150 : Cond.methodLink R_law 150 yX12_forget ∈ TB := tb_7 (i := 185) (by decide +kernel) (by decide +kernel)
theorem ll_151 : Cond.methodLink R_law 151 yX11_fits ∈ TB := tb_4 (i := 217) (by decide +kernel) (by decide +kernel)
theorem ll_154 : Cond.methodLink R_law 154 yX12_fits ∈ TB := tb_7 (i := 189) (by decide +kernel) (by decide +kernel)
theorem ll_155 : Cond.methodLink R_law 155 yX11_asks ∈ TB := tb_4 (i := 237) (by decide +kernel) (by decide +kernel)
theorem ll_158 : Cond.methodLink R_law 158 yX12_asks ∈ TB := tb_7 (i := 201) (by decide +kernel) (by decide +kernel)
theorem ll_159 : Cond.methodLink R_law 159 yX11_odds ∈ TB := tb_5 (i := 28) (by decide +kernel) (by decide +kernel)
theorem ll_162 : Cond.methodLink R_law 162 yX12_odds ∈ TB := tb_7 (i := 206) (by decide +kernel) (by decide +kernel)
theorem ll_163 : Cond.methodLink R_law 163 yX11_duel ∈ TB := tb_5 (i := 36) (by decide +kernel) (by decide +kernel)
theorem ll_166 : Cond.methodLink R_law 166 yX12_duel ∈ TB := tb_7 (i := 213) (by decide +kernel) (by decide +kernel)
theorem ll_167 : Cond.methodLink R_law 167 yX11_law ∈ TB := tb_5 (i := 46) (by decide +kernel) (by decide +kernel)
theorem ll_170 : Cond.methodLink R_law 170 yX12_law ∈ TB := tb_7 (i := 221) (by decide +kernel) (by decide +kernel)
theorem ll_171 : Cond.methodLink R_law 171 yX11_years ∈ TB := tb_5 (i := 58) (by decide +kernel) (by decide +kernel)
theorem ll_174 : Cond.methodLink R_law 174 yX12_years ∈ TB := tb_7 (i := 225) (by decide +kernel) (by decide +kernel)
theorem ll_175 : Cond.methodLink R_law 175 yX11_keep ∈ TB := tb_5 (i := 75) (by decide +kernel) (by decide +kernel)
theorem ll_178 : Cond.methodLink R_law 178 yX12_keep ∈ TB := tb_7 (i := 238) (by decide +kernel) (by decide +kernel)
theorem ll_179 : Cond.methodLink R_law 179 yX11_again ∈ TB := tb_5 (i := 79) (by decide +kernel) (by decide +kernel)
theorem ll_182 : Cond.methodLink R_law 182 yX12_again ∈ TB := tb_8 (i := 2) (by decide +kernel) (by decide +kernel)
theorem ll_183 : Cond.methodLink R_law 183 yX11_count ∈ TB := tb_5 (i := 87) (by decide +kernel) (by decide +kernel)
theorem ll_186 : Cond.methodLink R_law 186 yX12_count ∈ TB := tb_8 (i := 6) (by decide +kernel) (by decide +kernel)
theorem ll_187 : Cond.methodLink R_law 187 yL_row ∈ TB := tb_5 (i := 190) (by decide +kernel) (by decide +kernel)
theorem ll_190 : Cond.methodLink R_law 190 yX12_row ∈ TB := tb_8 (i := 14) (by decide +kernel) (by decide +kernel)
set_option maxHeartbeats 1000000 in
theorem lb_208 {C : LC} (h : LOK C 5) {x y : Mm} {n : Nat} {at9 : Int} (hI : LI x y n) (h0 : 0 ≤ at9) (e9 : at9 = 5 * n) (h1 : at9 + 5 ≤ lc_L C) (hn : n ≤ 511) (hc1 : 149 + n + 1 ≤ room_1.cells) (hsl1 : 24032 + 6 * n + 6 ≤ room_1.slots) (next : ∀ x' y' : Mm, LI x' y' ((n : Int) + 1) → LW C (149 + n + 1) (24032 + 6 * n + 6) x' y' 1551 [(0, .ref (lc_b C)), (1, vr (lc_GC C) 0), (2, vr (lc_GM C) 0), (3, vr (lc_GC C) 120), (4, vi at9)] []) : LW C (149 + n) (24032 + 6 * n) x y 208 [(0, .ref (lc_b C)), (1, vr (lc_GC C) 0), (2, vr (lc_GM C) 0), (3, vr (lc_GC C) 120), (4, vi at9)] [] := by
  obtain ⟨hFC, hFM, hB, hG, h21, hT, hT2, hK, hF⟩ := hI (by have := LOK_hLN h; omega)
  refine lr_aload_n h rfl 1 rfl dl_208 ?_
  refine lr_aload_n h rfl 0 rfl dl_209 ?_
  refine lr_iload h 4 rfl dl_210 ?_
  refine lr_iconst h dl_212 ?_
  refine lr_iadd h dl_213 ?_
  refine lr_sld h (Nat.le_of_ble_eq_true rfl) (by omega) (by omega) dl_214 (fun s1 hs2 es3 => ?_)
  refine lr_cCI (as := [vi s1]) (k := 0) h kX11 at_0 wX11_sign ll_26 (d_X11_sign x s1 hs2) rfl (by decide) (by decide) rfl (Nat.le_of_ble_eq_true rfl) (Nat.le_of_succ_le hc1) (by omega) dl_215 (fun z5 c4 w6 p7 => ?_)
  obtain ⟨p7_0, p7_1, p7_2, p7_3, p7_4⟩ := p7
  refine lr_aload_n h rfl 2 rfl dl_218 ?_
  refine lr_aload_n h rfl 0 rfl dl_219 ?_
  refine lr_iload h 4 rfl dl_220 ?_
  refine lr_iconst h dl_222 ?_
  refine lr_iadd h dl_223 ?_
  refine lr_sld h (Nat.le_of_ble_eq_true rfl) (by omega) (by omega) dl_224 (fun s8 hs9 es10 => ?_)
  rw [show s8 = s1 from es10.trans es3.symm]
  refine lr_cMI (as := [vi s1]) (k := 0) h kX12 at_0M wX12_sign ll_30 (d_X12_sign y s1 hs2) rfl (by decide) (by decide) rfl (Nat.le_of_ble_eq_true rfl) (Nat.le_of_succ_le hc1) (by omega) dl_225 (fun z12 m11 w13 p14 => ?_)
  obtain ⟨p14_0, p14_1, p14_2, p14_3, p14_4, p14_5, p14_6⟩ := p14
  refine lr_icmp_eq (tgt := 1551) h dl_228 (by decide) w6 w13 (fun q228 => ?_) (fun q228 => absurd (show z5 = z12 by omega) q228)
  refine lr_mono (ce2 := 149 + n + 1) (sl2 := 24032 + 6 * n + 6) (Nat.le_succ _) (Nat.le_add_right _ 6) ?_
  exact next c4 m11 (fun q9 => absurd q9 (by omega))
set_option maxHeartbeats 1000000 in
theorem lb_233 {C : LC} (h : LOK C 5) {x y : Mm} {n : Nat} {at9 : Int} (hI : LI x y n) (h0 : 0 ≤ at9) (e9 : at9 = 5 * n) (h1 : at9 + 5 ≤ lc_L C) (hn : n ≤ 511) (hc1 : 149 + n + 1 ≤ room_1.cells) (hsl1 : 24032 + 6 * n + 6 ≤ room_1.slots) (next : ∀ x' y' : Mm, LI x' y' ((n : Int) + 1) → LW C (149 + n + 1) (24032 + 6 * n + 6) x' y' 1551 [(0, .ref (lc_b C)), (1, vr (lc_GC C) 0), (2, vr (lc_GM C) 0), (3, vr (lc_GC C) 120), (4, vi at9)] []) : LW C (149 + n) (24032 + 6 * n) x y 233 [(0, .ref (lc_b C)), (1, vr (lc_GC C) 0), (2, vr (lc_GM C) 0), (3, vr (lc_GC C) 120), (4, vi at9)] [] := by
  obtain ⟨hFC, hFM, hB, hG, h21, hT, hT2, hK, hF⟩ := hI (by have := LOK_hLN h; omega)
  refine lr_aload_n h rfl 1 rfl dl_233 ?_
  refine lr_aload_n h rfl 0 rfl dl_234 ?_
  refine lr_iload h 4 rfl dl_235 ?_
  refine lr_iconst h dl_237 ?_
  refine lr_iadd h dl_238 ?_
  refine lr_sld h (Nat.le_of_ble_eq_true rfl) (by omega) (by omega) dl_239 (fun s1 hs2 es3 => ?_)
  refine lr_cCI (as := [vi s1]) (k := 0) h kX11 at_0 wX11_end ll_31 (d_X11_end x s1 hs2) rfl (by decide) (by decide) rfl (Nat.le_of_ble_eq_true rfl) (Nat.le_of_succ_le hc1) (by omega) dl_240 (fun z5 c4 w6 p7 => ?_)
  obtain ⟨p7_0, p7_1, p7_2, p7_3, p7_4⟩ := p7
  refine lr_aload_n h rfl 2 rfl dl_243 ?_
  refine lr_aload_n h rfl 0 rfl dl_244 ?_
  refine lr_iload h 4 rfl dl_245 ?_
  refine lr_iconst h dl_247 ?_
  refine lr_iadd h dl_248 ?_
  refine lr_sld h (Nat.le_of_ble_eq_true rfl) (by omega) (by omega) dl_249 (fun s8 hs9 es10 => ?_)
  rw [show s8 = s1 from es10.trans es3.symm]
  refine lr_cMI (as := [vi s1]) (k := 0) h kX12 at_0M wX12_end ll_35 (c_X12_end y s1 hs2) rfl (by decide) (by decide) rfl (Nat.le_of_ble_eq_true rfl) (Nat.le_of_succ_le hc1) (by omega) dl_250 (fun z12 m11 w13 p14 => ?_)
  obtain ⟨p14_0, p14_1, p14_2, p14_3, p14_4, p14_5, p14_6⟩ := p14
  refine lr_icmp_eq (tgt := 1551) h dl_253 (by decide) w6 w13 (fun q253 => ?_) (fun q253 => absurd (show z5 = z12 by omega) q253)
  refine lr_mono (ce2 := 149 + n + 1) (sl2 := 24032 + 6 * n + 6) (Nat.le_succ _) (Nat.le_add_right _ 6) ?_
  exact next c4 m11 (fun q9 => absurd q9 (by omega))
set_option maxHeartbeats 1000000 in
theorem lb_258 {C : LC} (h : LOK C 5) {x y : Mm} {n : Nat} {at9 : Int} (hI : LI x y n) (h0 : 0 ≤ at9) (e9 : at9 = 5 * n) (h1 : at9 + 5 ≤ lc_L C) (hn : n ≤ 511) (hc1 : 149 + n + 1 ≤ room_1.cells) (hsl1 : 24032 + 6 * n + 6 ≤ room_1.slots) (next : ∀ x' y' : Mm, LI x' y' ((n : Int) + 1) → LW C (149 + n + 1) (24032 + 6 * n + 6) x' y' 1551 [(0, .ref (lc_b C)), (1, vr (lc_GC C) 0), (2, vr (lc_GM C) 0), (3, vr (lc_GC C) 120), (4, vi at9)] []) : LW C (149 + n) (24032 + 6 * n) x y 258 [(0, .ref (lc_b C)), (1, vr (lc_GC C) 0), (2, vr (lc_GM C) 0), (3, vr (lc_GC C) 120), (4, vi at9)] [] := by
  obtain ⟨hFC, hFM, hB, hG, h21, hT, hT2, hK, hF⟩ := hI (by have := LOK_hLN h; omega)
  refine lr_aload_n h rfl 1 rfl dl_258 ?_
  refine lr_aload_n h rfl 0 rfl dl_259 ?_
  refine lr_iload h 4 rfl dl_260 ?_
  refine lr_iconst h dl_262 ?_
  refine lr_iadd h dl_263 ?_
  refine lr_sld h (Nat.le_of_ble_eq_true rfl) (by omega) (by omega) dl_264 (fun s1 hs2 es3 => ?_)
  refine lr_cCI (as := [vi s1]) (k := 0) h kX11 at_0 wX11_lists ll_36 (d_X11_lists x s1 hs2) rfl (by decide) (by decide) rfl (Nat.le_of_ble_eq_true rfl) (Nat.le_of_succ_le hc1) (by omega) dl_265 (fun z5 c4 w6 p7 => ?_)
  obtain ⟨p7_0, p7_1, p7_2, p7_3⟩ := p7
  refine lr_aload_n h rfl 2 rfl dl_268 ?_
  refine lr_aload_n h rfl 0 rfl dl_269 ?_
  refine lr_iload h 4 rfl dl_270 ?_
  refine lr_iconst h dl_272 ?_
  refine lr_iadd h dl_273 ?_
  refine lr_sld h (Nat.le_of_ble_eq_true rfl) (by omega) (by omega) dl_274 (fun s8 hs9 es10 => ?_)
  rw [show s8 = s1 from es10.trans es3.symm]
  refine lr_cMI (as := [vi s1]) (k := 0) h kX12 at_0M wX12_lists ll_39 (d_X12_lists y s1 (fun j => uch (y 2 j)) hs2 hG (fun _ => rfl) (by omega)) rfl (by decide) (by decide) rfl (Nat.le_of_ble_eq_true rfl) (Nat.le_of_succ_le hc1) (by omega) dl_275 (fun z12 m11 w13 p14 => ?_)
  obtain ⟨p14_0, p14_1, p14_2, p14_3, p14_4, p14_5, p14_6, p14_7⟩ := p14
  refine lr_icmp_eq (tgt := 1551) h dl_278 (by decide) w6 w13 (fun q278 => ?_) (fun q278 => absurd (show z5 = z12 by omega) q278)
  refine lr_mono (ce2 := 149 + n + 1) (sl2 := 24032 + 6 * n + 6) (Nat.le_succ _) (Nat.le_add_right _ 6) ?_
  exact next c4 m11 (fun q9 => absurd q9 (by omega))
set_option maxHeartbeats 1000000 in
theorem lb_283 {C : LC} (h : LOK C 5) {x y : Mm} {n : Nat} {at9 : Int} (hI : LI x y n) (h0 : 0 ≤ at9) (e9 : at9 = 5 * n) (h1 : at9 + 5 ≤ lc_L C) (hn : n ≤ 511) (hc1 : 149 + n + 1 ≤ room_1.cells) (hsl1 : 24032 + 6 * n + 6 ≤ room_1.slots) (next : ∀ x' y' : Mm, LI x' y' ((n : Int) + 1) → LW C (149 + n + 1) (24032 + 6 * n + 6) x' y' 1551 [(0, .ref (lc_b C)), (1, vr (lc_GC C) 0), (2, vr (lc_GM C) 0), (3, vr (lc_GC C) 120), (4, vi at9)] []) : LW C (149 + n) (24032 + 6 * n) x y 283 [(0, .ref (lc_b C)), (1, vr (lc_GC C) 0), (2, vr (lc_GM C) 0), (3, vr (lc_GC C) 120), (4, vi at9)] [] := by
  obtain ⟨hFC, hFM, hB, hG, h21, hT, hT2, hK, hF⟩ := hI (by have := LOK_hLN h; omega)
  refine lr_aload_n h rfl 1 rfl dl_283 ?_
  refine lr_cCI (as := []) (k := 0) h kX11 at_0 wX11_rule ll_40 (f_X11_rule x hFC) rfl (by decide) (by decide) rfl (Nat.le_of_ble_eq_true rfl) (Nat.le_of_succ_le hc1) (by omega) dl_284 (fun z2 c1 w3 p4 => ?_)
  obtain ⟨p4_0, p4_1⟩ := p4
  refine lr_aload_n h rfl 2 rfl dl_287 ?_
  refine lr_cMI (as := []) (k := 0) h kX12 at_0M wX12_rule ll_44 (f_X12_rule y hG hFM) rfl (by decide) (by decide) rfl (Nat.le_of_ble_eq_true rfl) (Nat.le_of_succ_le hc1) (by omega) dl_288 (fun z6 m5 w7 p8 => ?_)
  obtain ⟨p8_0, p8_1, p8_2⟩ := p8
  refine lr_icmp_eq (tgt := 1551) h dl_291 (by decide) w3 w7 (fun q291 => ?_) (fun q291 => absurd (show z2 = z6 by omega) q291)
  refine lr_mono (ce2 := 149 + n + 1) (sl2 := 24032 + 6 * n + 6) (Nat.le_succ _) (Nat.le_add_right _ 6) ?_
  exact next c1 m5 (fun q9 => absurd q9 (by omega))
set_option maxHeartbeats 1000000 in
theorem lb_296 {C : LC} (h : LOK C 5) {x y : Mm} {n : Nat} {at9 : Int} (hI : LI x y n) (h0 : 0 ≤ at9) (e9 : at9 = 5 * n) (h1 : at9 + 5 ≤ lc_L C) (hn : n ≤ 511) (hc1 : 149 + n + 1 ≤ room_1.cells) (hsl1 : 24032 + 6 * n + 6 ≤ room_1.slots) (next : ∀ x' y' : Mm, LI x' y' ((n : Int) + 1) → LW C (149 + n + 1) (24032 + 6 * n + 6) x' y' 1551 [(0, .ref (lc_b C)), (1, vr (lc_GC C) 0), (2, vr (lc_GM C) 0), (3, vr (lc_GC C) 120), (4, vi at9)] []) : LW C (149 + n) (24032 + 6 * n) x y 296 [(0, .ref (lc_b C)), (1, vr (lc_GC C) 0), (2, vr (lc_GM C) 0), (3, vr (lc_GC C) 120), (4, vi at9)] [] := by
  obtain ⟨hFC, hFM, hB, hG, h21, hT, hT2, hK, hF⟩ := hI (by have := LOK_hLN h; omega)
  refine lr_aload_n h rfl 1 rfl dl_296 ?_
  refine lr_aload_n h rfl 0 rfl dl_297 ?_
  refine lr_iload h 4 rfl dl_298 ?_
  refine lr_iconst h dl_300 ?_
  refine lr_iadd h dl_301 ?_
  refine lr_sld h (Nat.le_of_ble_eq_true rfl) (by omega) (by omega) dl_302 (fun s1 hs2 es3 => ?_)
  refine lr_aload_n h rfl 0 rfl dl_303 ?_
  refine lr_iload h 4 rfl dl_304 ?_
  refine lr_iconst h dl_306 ?_
  refine lr_iadd h dl_307 ?_
  refine lr_sld h (Nat.le_of_ble_eq_true rfl) (by omega) (by omega) dl_308 (fun s4 hs5 es6 => ?_)
  refine lr_aload_n h rfl 3 rfl dl_309 ?_
  refine lr_cW (np := 4) (as := fun G => [vr G 0, vi s1, vi s4, vr G 120]) h wcL_number wsL_number iL ll_45 ⟨by decide, by decide, by decide +kernel⟩ (f_L_number x hFC hs2 hs5) rfl (by decide) (by decide) rfl (Nat.le_of_ble_eq_true rfl) (by show 149 + n + 1 ≤ room_1.cells; exact hc1) hsl1 dl_310 (fun z8 c7 w9 p10 => ?_)
  obtain ⟨p10_0, p10_1⟩ := p10
  refine lr_istore (L' := [(0, .ref (lc_b C)), (1, vr (lc_GC C) 0), (2, vr (lc_GM C) 0), (3, vr (lc_GC C) 120), (4, vi at9), (5, vi z8)]) h dl_313 (by decide) [1, 2, 3, 4, 5, 0] rfl ?_
  refine lr_aload_n h rfl 2 rfl dl_315 ?_
  refine lr_aload_n h rfl 0 rfl dl_316 ?_
  refine lr_iload h 4 rfl dl_317 ?_
  refine lr_iconst h dl_319 ?_
  refine lr_iadd h dl_320 ?_
  refine lr_sld h (Nat.le_of_ble_eq_true rfl) (by omega) (by omega) dl_321 (fun s11 hs12 es13 => ?_)
  rw [show s11 = s1 from es13.trans es3.symm]
  refine lr_aload_n h rfl 0 rfl dl_322 ?_
  refine lr_iload h 4 rfl dl_323 ?_
  refine lr_iconst h dl_325 ?_
  refine lr_iadd h dl_326 ?_
  refine lr_sld h (Nat.le_of_ble_eq_true rfl) (by omega) (by omega) dl_327 (fun s14 hs15 es16 => ?_)
  rw [show s14 = s4 from es16.trans es6.symm]
  refine lr_cMI (as := [vi s1, vi s4]) (k := 0) h kX12 at_0M wX12_number_ ll_50 (f_X12_number_ y s1 s4 hs2 hs5 hG hFM) rfl (by decide) (by decide) rfl (Nat.le_of_ble_eq_true rfl) hc1 hsl1 dl_328 (fun z18 m17 w19 p20 => ?_)
  obtain ⟨p20_0, p20_1, p20_2⟩ := p20
  refine lr_istore (L' := [(0, .ref (lc_b C)), (1, vr (lc_GC C) 0), (2, vr (lc_GM C) 0), (3, vr (lc_GC C) 120), (4, vi at9), (5, vi z8), (6, vi z18)]) h dl_331 (by decide) [1, 2, 3, 4, 5, 6, 0] rfl ?_
  refine lr_aload_n h rfl 2 rfl dl_333 ?_
  refine lr_cMI (as := []) (k := 0) h kX12 at_0M wX12_thrown ll_51 (c_X12_thrown m17) rfl (by decide) (by decide) rfl (Nat.le_of_ble_eq_true rfl) hc1 hsl1 dl_334 (fun z22 m21 w23 p24 => ?_)
  obtain ⟨p24_0, p24_1, p24_2, p24_3⟩ := p24
  have e_p24 : m17 = m21 := p24_3.symm
  subst e_p24
  refine lr_iload h 5 rfl dl_337 ?_
  refine lr_icmp_eq (tgt := 344) h dl_339 (by decide) w23 w9 (fun q339 => ?_) (fun q339 => absurd (show z22 = z8 by omega) q339)
  refine lr_iload h 5 rfl dl_344 ?_
  refine lr_if_ne (tgt := 361) h dl_346 (by decide) w9 (fun q346 => ?_) (fun q346 => absurd q346 (by omega))
  refine lr_goto (tgt := 1551) h dl_361 (by decide) ?_
  refine lr_sub [0, 1, 2, 3, 4] rfl ?_
  exact next c7 m17 (fun q9 => absurd q9 (by omega))
set_option maxHeartbeats 1000000 in
theorem lb_364 {C : LC} (h : LOK C 5) {x y : Mm} {n : Nat} {at9 : Int} (hI : LI x y n) (h0 : 0 ≤ at9) (e9 : at9 = 5 * n) (h1 : at9 + 5 ≤ lc_L C) (hn : n ≤ 511) (hc1 : 149 + n + 1 ≤ room_1.cells) (hsl1 : 24032 + 6 * n + 6 ≤ room_1.slots) (next : ∀ x' y' : Mm, LI x' y' ((n : Int) + 1) → LW C (149 + n + 1) (24032 + 6 * n + 6) x' y' 1551 [(0, .ref (lc_b C)), (1, vr (lc_GC C) 0), (2, vr (lc_GM C) 0), (3, vr (lc_GC C) 120), (4, vi at9)] []) : LW C (149 + n) (24032 + 6 * n) x y 364 [(0, .ref (lc_b C)), (1, vr (lc_GC C) 0), (2, vr (lc_GM C) 0), (3, vr (lc_GC C) 120), (4, vi at9)] [] := by
  obtain ⟨hFC, hFM, hB, hG, h21, hT, hT2, hK, hF⟩ := hI (by have := LOK_hLN h; omega)
  refine lr_aload_n h rfl 1 rfl dl_364 ?_
  refine lr_aload_n h rfl 0 rfl dl_365 ?_
  refine lr_iload h 4 rfl dl_366 ?_
  refine lr_iconst h dl_368 ?_
  refine lr_iadd h dl_369 ?_
  refine lr_sld h (Nat.le_of_ble_eq_true rfl) (by omega) (by omega) dl_370 (fun s1 hs2 es3 => ?_)
  refine lr_aload_n h rfl 0 rfl dl_371 ?_
  refine lr_iload h 4 rfl dl_372 ?_
  refine lr_iconst h dl_374 ?_
  refine lr_iadd h dl_375 ?_
  refine lr_sld h (Nat.le_of_ble_eq_true rfl) (by omega) (by omega) dl_376 (fun s4 hs5 es6 => ?_)
  refine lr_aload_n h rfl 3 rfl dl_377 ?_
  refine lr_cW (np := 4) (as := fun G => [vr G 0, vi s1, vi s4, vr G 120]) h wcL_edge wsL_edge iL ll_54 ⟨by decide, by decide, by decide +kernel⟩ (f_L_edge x hFC hs2 hs5) rfl (by decide) (by decide) rfl (Nat.le_of_ble_eq_true rfl) (by show 149 + n + 1 ≤ room_1.cells; exact hc1) hsl1 dl_378 (fun z8 c7 w9 p10 => ?_)
  obtain ⟨p10_0, p10_1⟩ := p10
  refine lr_istore (L' := [(0, .ref (lc_b C)), (1, vr (lc_GC C) 0), (2, vr (lc_GM C) 0), (3, vr (lc_GC C) 120), (4, vi at9), (5, vi z8)]) h dl_381 (by decide) [1, 2, 3, 4, 5, 0] rfl ?_
  refine lr_aload_n h rfl 2 rfl dl_383 ?_
  refine lr_aload_n h rfl 0 rfl dl_384 ?_
  refine lr_iload h 4 rfl dl_385 ?_
  refine lr_iconst h dl_387 ?_
  refine lr_iadd h dl_388 ?_
  refine lr_sld h (Nat.le_of_ble_eq_true rfl) (by omega) (by omega) dl_389 (fun s11 hs12 es13 => ?_)
  rw [show s11 = s1 from es13.trans es3.symm]
  refine lr_aload_n h rfl 0 rfl dl_390 ?_
  refine lr_iload h 4 rfl dl_391 ?_
  refine lr_iconst h dl_393 ?_
  refine lr_iadd h dl_394 ?_
  refine lr_sld h (Nat.le_of_ble_eq_true rfl) (by omega) (by omega) dl_395 (fun s14 hs15 es16 => ?_)
  rw [show s14 = s4 from es16.trans es6.symm]
  refine lr_cMI (as := [vi s1, vi s4]) (k := 0) h kX12 at_0M wX12_edge ll_56 (f_X12_edge y s1 s4 hs2 hs5 hG hFM) rfl (by decide) (by decide) rfl (Nat.le_of_ble_eq_true rfl) hc1 hsl1 dl_396 (fun z18 m17 w19 p20 => ?_)
  obtain ⟨p20_0, p20_1, p20_2⟩ := p20
  refine lr_istore (L' := [(0, .ref (lc_b C)), (1, vr (lc_GC C) 0), (2, vr (lc_GM C) 0), (3, vr (lc_GC C) 120), (4, vi at9), (5, vi z8), (6, vi z18)]) h dl_399 (by decide) [1, 2, 3, 4, 5, 6, 0] rfl ?_
  refine lr_aload_n h rfl 2 rfl dl_401 ?_
  refine lr_cMI (as := []) (k := 0) h kX12 at_0M wX12_thrown ll_51 (c_X12_thrown m17) rfl (by decide) (by decide) rfl (Nat.le_of_ble_eq_true rfl) hc1 hsl1 dl_402 (fun z22 m21 w23 p24 => ?_)
  obtain ⟨p24_0, p24_1, p24_2, p24_3⟩ := p24
  have e_p24 : m17 = m21 := p24_3.symm
  subst e_p24
  refine lr_iload h 5 rfl dl_405 ?_
  refine lr_icmp_eq (tgt := 412) h dl_407 (by decide) w23 w9 (fun q407 => ?_) (fun q407 => absurd (show z22 = z8 by omega) q407)
  refine lr_iload h 5 rfl dl_412 ?_
  refine lr_if_ne (tgt := 429) h dl_414 (by decide) w9 (fun q414 => ?_) (fun q414 => absurd q414 (by omega))
  refine lr_goto (tgt := 1551) h dl_429 (by decide) ?_
  refine lr_sub [0, 1, 2, 3, 4] rfl ?_
  exact next c7 m17 (fun q9 => absurd q9 (by omega))
set_option maxHeartbeats 1000000 in
theorem lb_432 {C : LC} (h : LOK C 5) {x y : Mm} {n : Nat} {at9 : Int} (hI : LI x y n) (h0 : 0 ≤ at9) (e9 : at9 = 5 * n) (h1 : at9 + 5 ≤ lc_L C) (hn : n ≤ 511) (hc1 : 149 + n + 1 ≤ room_1.cells) (hsl1 : 24032 + 6 * n + 6 ≤ room_1.slots) (next : ∀ x' y' : Mm, LI x' y' ((n : Int) + 1) → LW C (149 + n + 1) (24032 + 6 * n + 6) x' y' 1551 [(0, .ref (lc_b C)), (1, vr (lc_GC C) 0), (2, vr (lc_GM C) 0), (3, vr (lc_GC C) 120), (4, vi at9)] []) : LW C (149 + n) (24032 + 6 * n) x y 432 [(0, .ref (lc_b C)), (1, vr (lc_GC C) 0), (2, vr (lc_GM C) 0), (3, vr (lc_GC C) 120), (4, vi at9)] [] := by
  obtain ⟨hFC, hFM, hB, hG, h21, hT, hT2, hK, hF⟩ := hI (by have := LOK_hLN h; omega)
  refine lr_aload_n h rfl 1 rfl dl_432 ?_
  refine lr_aload_n h rfl 0 rfl dl_433 ?_
  refine lr_iload h 4 rfl dl_434 ?_
  refine lr_iconst h dl_436 ?_
  refine lr_iadd h dl_437 ?_
  refine lr_sld h (Nat.le_of_ble_eq_true rfl) (by omega) (by omega) dl_438 (fun s1 hs2 es3 => ?_)
  refine lr_aload_n h rfl 0 rfl dl_439 ?_
  refine lr_iload h 4 rfl dl_440 ?_
  refine lr_iconst h dl_442 ?_
  refine lr_iadd h dl_443 ?_
  refine lr_sld h (Nat.le_of_ble_eq_true rfl) (by omega) (by omega) dl_444 (fun s4 hs5 es6 => ?_)
  refine lr_aload_n h rfl 0 rfl dl_445 ?_
  refine lr_iload h 4 rfl dl_446 ?_
  refine lr_iconst h dl_448 ?_
  refine lr_iadd h dl_449 ?_
  refine lr_sld h (Nat.le_of_ble_eq_true rfl) (by omega) (by omega) dl_450 (fun s7 hs8 es9 => ?_)
  refine lr_aload_n h rfl 0 rfl dl_451 ?_
  refine lr_iload h 4 rfl dl_452 ?_
  refine lr_iconst h dl_454 ?_
  refine lr_iadd h dl_455 ?_
  refine lr_sld h (Nat.le_of_ble_eq_true rfl) (by omega) (by omega) dl_456 (fun s10 hs11 es12 => ?_)
  refine lr_cCI (as := [vi s1, vi s4, vi s7, vi s10]) (k := 0) h kX11 at_0 wX11_sheet ll_57 (f_X11_sheet x s1 s4 s7 s10 hs2 hs5 hs8 hs11 hFC) rfl (by decide) (by decide) rfl (Nat.le_of_ble_eq_true rfl) (Nat.le_of_succ_le hc1) (by omega) dl_457 (fun z14 c13 w15 p16 => ?_)
  obtain ⟨p16_0, p16_1, p16_2, p16_3, p16_4⟩ := p16
  refine lr_aload_n h rfl 2 rfl dl_460 ?_
  refine lr_aload_n h rfl 0 rfl dl_461 ?_
  refine lr_iload h 4 rfl dl_462 ?_
  refine lr_iconst h dl_464 ?_
  refine lr_iadd h dl_465 ?_
  refine lr_sld h (Nat.le_of_ble_eq_true rfl) (by omega) (by omega) dl_466 (fun s17 hs18 es19 => ?_)
  rw [show s17 = s1 from es19.trans es3.symm]
  refine lr_aload_n h rfl 0 rfl dl_467 ?_
  refine lr_iload h 4 rfl dl_468 ?_
  refine lr_iconst h dl_470 ?_
  refine lr_iadd h dl_471 ?_
  refine lr_sld h (Nat.le_of_ble_eq_true rfl) (by omega) (by omega) dl_472 (fun s20 hs21 es22 => ?_)
  rw [show s20 = s4 from es22.trans es6.symm]
  refine lr_aload_n h rfl 0 rfl dl_473 ?_
  refine lr_iload h 4 rfl dl_474 ?_
  refine lr_iconst h dl_476 ?_
  refine lr_iadd h dl_477 ?_
  refine lr_sld h (Nat.le_of_ble_eq_true rfl) (by omega) (by omega) dl_478 (fun s23 hs24 es25 => ?_)
  rw [show s23 = s7 from es25.trans es9.symm]
  refine lr_aload_n h rfl 0 rfl dl_479 ?_
  refine lr_iload h 4 rfl dl_480 ?_
  refine lr_iconst h dl_482 ?_
  refine lr_iadd h dl_483 ?_
  refine lr_sld h (Nat.le_of_ble_eq_true rfl) (by omega) (by omega) dl_484 (fun s26 hs27 es28 => ?_)
  rw [show s26 = s10 from es28.trans es12.symm]
  refine lr_cMI (as := [vi s1, vi s4, vi s7, vi s10]) (k := 0) h kX12 at_0M wX12_sheet ll_61 (f_X12_sheet y s1 s4 s7 s10 hs2 hs5 hs8 hs11 hG hFM) rfl (by decide) (by decide) rfl (Nat.le_of_ble_eq_true rfl) (Nat.le_of_succ_le hc1) (by omega) dl_485 (fun z30 m29 w31 p32 => ?_)
  obtain ⟨p32_0, p32_1, p32_2, p32_3, p32_4, p32_5⟩ := p32
  refine lr_icmp_eq (tgt := 1551) h dl_488 (by decide) w15 w31 (fun q488 => ?_) (fun q488 => absurd (show z14 = z30 by omega) q488)
  refine lr_mono (ce2 := 149 + n + 1) (sl2 := 24032 + 6 * n + 6) (Nat.le_succ _) (Nat.le_add_right _ 6) ?_
  exact next c13 m29 (fun q9 => absurd q9 (by omega))
set_option maxHeartbeats 1000000 in
theorem lb_493 {C : LC} (h : LOK C 5) {x y : Mm} {n : Nat} {at9 : Int} (hI : LI x y n) (h0 : 0 ≤ at9) (e9 : at9 = 5 * n) (h1 : at9 + 5 ≤ lc_L C) (hn : n ≤ 511) (hc1 : 149 + n + 1 ≤ room_1.cells) (hsl1 : 24032 + 6 * n + 6 ≤ room_1.slots) (next : ∀ x' y' : Mm, LI x' y' ((n : Int) + 1) → LW C (149 + n + 1) (24032 + 6 * n + 6) x' y' 1551 [(0, .ref (lc_b C)), (1, vr (lc_GC C) 0), (2, vr (lc_GM C) 0), (3, vr (lc_GC C) 120), (4, vi at9)] []) : LW C (149 + n) (24032 + 6 * n) x y 493 [(0, .ref (lc_b C)), (1, vr (lc_GC C) 0), (2, vr (lc_GM C) 0), (3, vr (lc_GC C) 120), (4, vi at9)] [] := by
  obtain ⟨hFC, hFM, hB, hG, h21, hT, hT2, hK, hF⟩ := hI (by have := LOK_hLN h; omega)
  refine lr_aload_n h rfl 1 rfl dl_493 ?_
  refine lr_aload_n h rfl 0 rfl dl_494 ?_
  refine lr_iload h 4 rfl dl_495 ?_
  refine lr_iconst h dl_497 ?_
  refine lr_iadd h dl_498 ?_
  refine lr_sld h (Nat.le_of_ble_eq_true rfl) (by omega) (by omega) dl_499 (fun s1 hs2 es3 => ?_)
  refine lr_aload_n h rfl 0 rfl dl_500 ?_
  refine lr_iload h 4 rfl dl_501 ?_
  refine lr_iconst h dl_503 ?_
  refine lr_iadd h dl_504 ?_
  refine lr_sld h (Nat.le_of_ble_eq_true rfl) (by omega) (by omega) dl_505 (fun s4 hs5 es6 => ?_)
  refine lr_cCI (as := [vi s1, vi s4]) (k := 0) h kX11 at_0 wX11_puts ll_62 (f_X11_puts x s1 s4 hs2 hs5 hFC) rfl (by decide) (by decide) rfl (Nat.le_of_ble_eq_true rfl) (Nat.le_of_succ_le hc1) (by omega) dl_506 (fun z8 c7 w9 p10 => ?_)
  obtain ⟨p10_0, p10_1, p10_2⟩ := p10
  refine lr_aload_n h rfl 2 rfl dl_509 ?_
  refine lr_aload_n h rfl 0 rfl dl_510 ?_
  refine lr_iload h 4 rfl dl_511 ?_
  refine lr_iconst h dl_513 ?_
  refine lr_iadd h dl_514 ?_
  refine lr_sld h (Nat.le_of_ble_eq_true rfl) (by omega) (by omega) dl_515 (fun s11 hs12 es13 => ?_)
  rw [show s11 = s1 from es13.trans es3.symm]
  refine lr_aload_n h rfl 0 rfl dl_516 ?_
  refine lr_iload h 4 rfl dl_517 ?_
  refine lr_iconst h dl_519 ?_
  refine lr_iadd h dl_520 ?_
  refine lr_sld h (Nat.le_of_ble_eq_true rfl) (by omega) (by omega) dl_521 (fun s14 hs15 es16 => ?_)
  rw [show s14 = s4 from es16.trans es6.symm]
  refine lr_cMI (as := [vi s1, vi s4]) (k := 0) h kX12 at_0M wX12_puts ll_65 (f_X12_puts y s1 s4 hs2 hs5 hG hFM) rfl (by decide) (by decide) rfl (Nat.le_of_ble_eq_true rfl) (Nat.le_of_succ_le hc1) (by omega) dl_522 (fun z18 m17 w19 p20 => ?_)
  obtain ⟨p20_0, p20_1, p20_2, p20_3⟩ := p20
  have heq : z8 = z18 := by
    by_cases hv : (0 ≤ s1 ∧ s1 < 4 ∧ 0 ≤ s4 ∧ s4 ≤ 99)
    · have k0 := p10_0 hv; have k2 := p20_0 hv; clear p10_0 p10_1 p20_0 p20_1; omega
    · have k1 := p10_1 hv; have k3 := p20_1 hv; clear p10_0 p10_1 p20_0 p20_1; omega
  refine lr_icmp_eq (tgt := 1551) h dl_525 (by decide) w9 w19 (fun q525 => ?_) (fun q525 => absurd heq q525)
  refine lr_mono (ce2 := 149 + n + 1) (sl2 := 24032 + 6 * n + 6) (Nat.le_succ _) (Nat.le_add_right _ 6) ?_
  exact next c7 m17 (fun q9 => absurd q9 (by omega))
set_option maxHeartbeats 1000000 in
theorem lb_530 {C : LC} (h : LOK C 5) {x y : Mm} {n : Nat} {at9 : Int} (hI : LI x y n) (h0 : 0 ≤ at9) (e9 : at9 = 5 * n) (h1 : at9 + 5 ≤ lc_L C) (hn : n ≤ 511) (hc1 : 149 + n + 1 ≤ room_1.cells) (hsl1 : 24032 + 6 * n + 6 ≤ room_1.slots) (next : ∀ x' y' : Mm, LI x' y' ((n : Int) + 1) → LW C (149 + n + 1) (24032 + 6 * n + 6) x' y' 1551 [(0, .ref (lc_b C)), (1, vr (lc_GC C) 0), (2, vr (lc_GM C) 0), (3, vr (lc_GC C) 120), (4, vi at9)] []) : LW C (149 + n) (24032 + 6 * n) x y 530 [(0, .ref (lc_b C)), (1, vr (lc_GC C) 0), (2, vr (lc_GM C) 0), (3, vr (lc_GC C) 120), (4, vi at9)] [] := by
  obtain ⟨hFC, hFM, hB, hG, h21, hT, hT2, hK, hF⟩ := hI (by have := LOK_hLN h; omega)
  refine lr_aload_n h rfl 1 rfl dl_530 ?_
  refine lr_aload_n h rfl 0 rfl dl_531 ?_
  refine lr_iload h 4 rfl dl_532 ?_
  refine lr_iconst h dl_534 ?_
  refine lr_iadd h dl_535 ?_
  refine lr_sld h (Nat.le_of_ble_eq_true rfl) (by omega) (by omega) dl_536 (fun s1 hs2 es3 => ?_)
  refine lr_aload_n h rfl 0 rfl dl_537 ?_
  refine lr_iload h 4 rfl dl_538 ?_
  refine lr_iconst h dl_540 ?_
  refine lr_iadd h dl_541 ?_
  refine lr_sld h (Nat.le_of_ble_eq_true rfl) (by omega) (by omega) dl_542 (fun s4 hs5 es6 => ?_)
  refine lr_cCI (as := [vi s1, vi s4]) (k := 0) h kX11 at_0 wX11_takes ll_66 (f_X11_takes x s1 s4 hs2 hs5 hFC) rfl (by decide) (by decide) rfl (Nat.le_of_ble_eq_true rfl) (Nat.le_of_succ_le hc1) (by omega) dl_543 (fun z8 c7 w9 p10 => ?_)
  obtain ⟨p10_0, p10_1⟩ := p10
  refine lr_aload_n h rfl 2 rfl dl_546 ?_
  refine lr_aload_n h rfl 0 rfl dl_547 ?_
  refine lr_iload h 4 rfl dl_548 ?_
  refine lr_iconst h dl_550 ?_
  refine lr_iadd h dl_551 ?_
  refine lr_sld h (Nat.le_of_ble_eq_true rfl) (by omega) (by omega) dl_552 (fun s11 hs12 es13 => ?_)
  rw [show s11 = s1 from es13.trans es3.symm]
  refine lr_aload_n h rfl 0 rfl dl_553 ?_
  refine lr_iload h 4 rfl dl_554 ?_
  refine lr_iconst h dl_556 ?_
  refine lr_iadd h dl_557 ?_
  refine lr_sld h (Nat.le_of_ble_eq_true rfl) (by omega) (by omega) dl_558 (fun s14 hs15 es16 => ?_)
  rw [show s14 = s4 from es16.trans es6.symm]
  refine lr_cMI (as := [vi s1, vi s4]) (k := 0) h kX12 at_0M wX12_takes ll_69 (f_X12_takes y s1 s4 hs2 hs5 hG hFM) rfl (by decide) (by decide) rfl (Nat.le_of_ble_eq_true rfl) (Nat.le_of_succ_le hc1) (by omega) dl_559 (fun z18 m17 w19 p20 => ?_)
  obtain ⟨p20_0, p20_1, p20_2⟩ := p20
  refine lr_icmp_eq (tgt := 1551) h dl_562 (by decide) w9 w19 (fun q562 => ?_) (fun q562 => absurd (show z8 = z18 by omega) q562)
  refine lr_mono (ce2 := 149 + n + 1) (sl2 := 24032 + 6 * n + 6) (Nat.le_succ _) (Nat.le_add_right _ 6) ?_
  exact next c7 m17 (fun q9 => absurd q9 (by omega))
set_option maxHeartbeats 1000000 in
theorem lb_567 {C : LC} (h : LOK C 5) {x y : Mm} {n : Nat} {at9 : Int} (hI : LI x y n) (h0 : 0 ≤ at9) (e9 : at9 = 5 * n) (h1 : at9 + 5 ≤ lc_L C) (hn : n ≤ 511) (hc1 : 149 + n + 1 ≤ room_1.cells) (hsl1 : 24032 + 6 * n + 6 ≤ room_1.slots) (next : ∀ x' y' : Mm, LI x' y' ((n : Int) + 1) → LW C (149 + n + 1) (24032 + 6 * n + 6) x' y' 1551 [(0, .ref (lc_b C)), (1, vr (lc_GC C) 0), (2, vr (lc_GM C) 0), (3, vr (lc_GC C) 120), (4, vi at9)] []) : LW C (149 + n) (24032 + 6 * n) x y 567 [(0, .ref (lc_b C)), (1, vr (lc_GC C) 0), (2, vr (lc_GM C) 0), (3, vr (lc_GC C) 120), (4, vi at9)] [] := by
  obtain ⟨hFC, hFM, hB, hG, h21, hT, hT2, hK, hF⟩ := hI (by have := LOK_hLN h; omega)
  refine lr_aload_n h rfl 1 rfl dl_567 ?_
  refine lr_aload_n h rfl 0 rfl dl_568 ?_
  refine lr_iload h 4 rfl dl_569 ?_
  refine lr_iconst h dl_571 ?_
  refine lr_iadd h dl_572 ?_
  refine lr_sld h (Nat.le_of_ble_eq_true rfl) (by omega) (by omega) dl_573 (fun s1 hs2 es3 => ?_)
  refine lr_aload_n h rfl 0 rfl dl_574 ?_
  refine lr_iload h 4 rfl dl_575 ?_
  refine lr_iconst h dl_577 ?_
  refine lr_iadd h dl_578 ?_
  refine lr_sld h (Nat.le_of_ble_eq_true rfl) (by omega) (by omega) dl_579 (fun s4 hs5 es6 => ?_)
  refine lr_aload_n h rfl 0 rfl dl_580 ?_
  refine lr_iload h 4 rfl dl_581 ?_
  refine lr_iconst h dl_583 ?_
  refine lr_iadd h dl_584 ?_
  refine lr_sld h (Nat.le_of_ble_eq_true rfl) (by omega) (by omega) dl_585 (fun s7 hs8 es9 => ?_)
  refine lr_cCI (as := [vi s1, vi s4, vi s7]) (k := 0) h kX11 at_0 wX11_joins ll_70 (f_X11_joins x s1 s4 s7 hs2 hs5 hs8 hFC) rfl (by decide) (by decide) rfl (Nat.le_of_ble_eq_true rfl) (Nat.le_of_succ_le hc1) (by omega) dl_586 (fun z11 c10 w12 p13 => ?_)
  obtain ⟨p13_0, p13_1, p13_2, p13_3⟩ := p13
  refine lr_aload_n h rfl 2 rfl dl_589 ?_
  refine lr_aload_n h rfl 0 rfl dl_590 ?_
  refine lr_iload h 4 rfl dl_591 ?_
  refine lr_iconst h dl_593 ?_
  refine lr_iadd h dl_594 ?_
  refine lr_sld h (Nat.le_of_ble_eq_true rfl) (by omega) (by omega) dl_595 (fun s14 hs15 es16 => ?_)
  rw [show s14 = s1 from es16.trans es3.symm]
  refine lr_aload_n h rfl 0 rfl dl_596 ?_
  refine lr_iload h 4 rfl dl_597 ?_
  refine lr_iconst h dl_599 ?_
  refine lr_iadd h dl_600 ?_
  refine lr_sld h (Nat.le_of_ble_eq_true rfl) (by omega) (by omega) dl_601 (fun s17 hs18 es19 => ?_)
  rw [show s17 = s4 from es19.trans es6.symm]
  refine lr_aload_n h rfl 0 rfl dl_602 ?_
  refine lr_iload h 4 rfl dl_603 ?_
  refine lr_iconst h dl_605 ?_
  refine lr_iadd h dl_606 ?_
  refine lr_sld h (Nat.le_of_ble_eq_true rfl) (by omega) (by omega) dl_607 (fun s20 hs21 es22 => ?_)
  rw [show s20 = s7 from es22.trans es9.symm]
  refine lr_cMI (as := [vi s1, vi s4, vi s7]) (k := 0) h kX12 at_0M wX12_joins ll_74 (f_X12_joins y s1 s4 s7 hs2 hs5 hs8 hG hFM) rfl (by decide) (by decide) rfl (Nat.le_of_ble_eq_true rfl) (Nat.le_of_succ_le hc1) (by omega) dl_608 (fun z24 m23 w25 p26 => ?_)
  obtain ⟨p26_0, p26_1, p26_2, p26_3, p26_4⟩ := p26
  have heq : z11 = z24 := by
    by_cases hv : (0 ≤ s1 ∧ s1 < 7 ∧ 0 ≤ s4 ∧ s4 < 7 ∧ s1 ≠ s4 ∧ 0 ≤ s7 ∧ s7 ≤ 99)
    · have k1 := p13_1 hv; have k2 := p13_2 hv; have k4 := p26_1 hv; have k5 := p26_2 hv; clear p13_0 p13_1 p13_2 p26_0 p26_1 p26_2; omega
    · have k0 := p13_0 hv; have k3 := p26_0 hv; clear p13_0 p13_1 p13_2 p26_0 p26_1 p26_2; omega
  refine lr_icmp_eq (tgt := 1551) h dl_611 (by decide) w12 w25 (fun q611 => ?_) (fun q611 => absurd heq q611)
  refine lr_mono (ce2 := 149 + n + 1) (sl2 := 24032 + 6 * n + 6) (Nat.le_succ _) (Nat.le_add_right _ 6) ?_
  exact next c10 m23 (fun q9 => absurd q9 (by omega))
set_option maxHeartbeats 1000000 in
theorem lb_616 {C : LC} (h : LOK C 5) {x y : Mm} {n : Nat} {at9 : Int} (hI : LI x y n) (h0 : 0 ≤ at9) (e9 : at9 = 5 * n) (h1 : at9 + 5 ≤ lc_L C) (hn : n ≤ 511) (hc1 : 149 + n + 1 ≤ room_1.cells) (hsl1 : 24032 + 6 * n + 6 ≤ room_1.slots) (next : ∀ x' y' : Mm, LI x' y' ((n : Int) + 1) → LW C (149 + n + 1) (24032 + 6 * n + 6) x' y' 1551 [(0, .ref (lc_b C)), (1, vr (lc_GC C) 0), (2, vr (lc_GM C) 0), (3, vr (lc_GC C) 120), (4, vi at9)] []) : LW C (149 + n) (24032 + 6 * n) x y 616 [(0, .ref (lc_b C)), (1, vr (lc_GC C) 0), (2, vr (lc_GM C) 0), (3, vr (lc_GC C) 120), (4, vi at9)] [] := by
  obtain ⟨hFC, hFM, hB, hG, h21, hT, hT2, hK, hF⟩ := hI (by have := LOK_hLN h; omega)
  refine lr_aload_n h rfl 1 rfl dl_616 ?_
  refine lr_aload_n h rfl 0 rfl dl_617 ?_
  refine lr_iload h 4 rfl dl_618 ?_
  refine lr_iconst h dl_620 ?_
  refine lr_iadd h dl_621 ?_
  refine lr_sld h (Nat.le_of_ble_eq_true rfl) (by omega) (by omega) dl_622 (fun s1 hs2 es3 => ?_)
  refine lr_aload_n h rfl 0 rfl dl_623 ?_
  refine lr_iload h 4 rfl dl_624 ?_
  refine lr_iconst h dl_626 ?_
  refine lr_iadd h dl_627 ?_
  refine lr_sld h (Nat.le_of_ble_eq_true rfl) (by omega) (by omega) dl_628 (fun s4 hs5 es6 => ?_)
  refine lr_aload_n h rfl 0 rfl dl_629 ?_
  refine lr_iload h 4 rfl dl_630 ?_
  refine lr_iconst h dl_632 ?_
  refine lr_iadd h dl_633 ?_
  refine lr_sld h (Nat.le_of_ble_eq_true rfl) (by omega) (by omega) dl_634 (fun s7 hs8 es9 => ?_)
  refine lr_cCI (as := [vi s1, vi s4, vi s7]) (k := 0) h kX11 at_0 wX11_costs ll_75 (f_X11_costs x s1 s4 s7 hs2 hs5 hs8 hFC) rfl (by decide) (by decide) rfl (Nat.le_of_ble_eq_true rfl) (Nat.le_of_succ_le hc1) (by omega) dl_635 (fun z11 c10 w12 p13 => ?_)
  obtain ⟨p13_0, p13_1, p13_2⟩ := p13
  refine lr_aload_n h rfl 2 rfl dl_638 ?_
  refine lr_aload_n h rfl 0 rfl dl_639 ?_
  refine lr_iload h 4 rfl dl_640 ?_
  refine lr_iconst h dl_642 ?_
  refine lr_iadd h dl_643 ?_
  refine lr_sld h (Nat.le_of_ble_eq_true rfl) (by omega) (by omega) dl_644 (fun s14 hs15 es16 => ?_)
  rw [show s14 = s1 from es16.trans es3.symm]
  refine lr_aload_n h rfl 0 rfl dl_645 ?_
  refine lr_iload h 4 rfl dl_646 ?_
  refine lr_iconst h dl_648 ?_
  refine lr_iadd h dl_649 ?_
  refine lr_sld h (Nat.le_of_ble_eq_true rfl) (by omega) (by omega) dl_650 (fun s17 hs18 es19 => ?_)
  rw [show s17 = s4 from es19.trans es6.symm]
  refine lr_aload_n h rfl 0 rfl dl_651 ?_
  refine lr_iload h 4 rfl dl_652 ?_
  refine lr_iconst h dl_654 ?_
  refine lr_iadd h dl_655 ?_
  refine lr_sld h (Nat.le_of_ble_eq_true rfl) (by omega) (by omega) dl_656 (fun s20 hs21 es22 => ?_)
  rw [show s20 = s7 from es22.trans es9.symm]
  refine lr_cMI (as := [vi s1, vi s4, vi s7]) (k := 0) h kX12 at_0M wX12_costs ll_78 (f_X12_costs y s1 s4 s7 hs2 hs5 hs8 hG hFM) rfl (by decide) (by decide) rfl (Nat.le_of_ble_eq_true rfl) (Nat.le_of_succ_le hc1) (by omega) dl_657 (fun z24 m23 w25 p26 => ?_)
  obtain ⟨p26_0, p26_1, p26_2, p26_3⟩ := p26
  have heq : z11 = z24 := by
    by_cases hv : (0 ≤ s1 ∧ s1 < 5 ∧ 0 ≤ s4 ∧ s4 < 5 ∧ 0 ≤ s7 ∧ s7 ≤ 99)
    · have k0 := p13_0 hv; have k2 := p26_0 hv; clear p13_0 p13_1 p26_0 p26_1; omega
    · have k1 := p13_1 hv; have k3 := p26_1 hv; clear p13_0 p13_1 p26_0 p26_1; omega
  refine lr_icmp_eq (tgt := 1551) h dl_660 (by decide) w12 w25 (fun q660 => ?_) (fun q660 => absurd heq q660)
  refine lr_mono (ce2 := 149 + n + 1) (sl2 := 24032 + 6 * n + 6) (Nat.le_succ _) (Nat.le_add_right _ 6) ?_
  exact next c10 m23 (fun q9 => absurd q9 (by omega))
set_option maxHeartbeats 1000000 in
theorem lb_665 {C : LC} (h : LOK C 5) {x y : Mm} {n : Nat} {at9 : Int} (hI : LI x y n) (h0 : 0 ≤ at9) (e9 : at9 = 5 * n) (h1 : at9 + 5 ≤ lc_L C) (hn : n ≤ 511) (hc1 : 149 + n + 1 ≤ room_1.cells) (hsl1 : 24032 + 6 * n + 6 ≤ room_1.slots) (next : ∀ x' y' : Mm, LI x' y' ((n : Int) + 1) → LW C (149 + n + 1) (24032 + 6 * n + 6) x' y' 1551 [(0, .ref (lc_b C)), (1, vr (lc_GC C) 0), (2, vr (lc_GM C) 0), (3, vr (lc_GC C) 120), (4, vi at9)] []) : LW C (149 + n) (24032 + 6 * n) x y 665 [(0, .ref (lc_b C)), (1, vr (lc_GC C) 0), (2, vr (lc_GM C) 0), (3, vr (lc_GC C) 120), (4, vi at9)] [] := by
  obtain ⟨hFC, hFM, hB, hG, h21, hT, hT2, hK, hF⟩ := hI (by have := LOK_hLN h; omega)
  refine lr_aload_n h rfl 1 rfl dl_665 ?_
  refine lr_aload_n h rfl 0 rfl dl_666 ?_
  refine lr_iload h 4 rfl dl_667 ?_
  refine lr_iconst h dl_669 ?_
  refine lr_iadd h dl_670 ?_
  refine lr_sld h (Nat.le_of_ble_eq_true rfl) (by omega) (by omega) dl_671 (fun s1 hs2 es3 => ?_)
  refine lr_aload_n h rfl 0 rfl dl_672 ?_
  refine lr_iload h 4 rfl dl_673 ?_
  refine lr_iconst h dl_675 ?_
  refine lr_iadd h dl_676 ?_
  refine lr_sld h (Nat.le_of_ble_eq_true rfl) (by omega) (by omega) dl_677 (fun s4 hs5 es6 => ?_)
  refine lr_cCI (as := [vi s1, vi s4]) (k := 0) h kX11 at_0 wX11_sets ll_79 (f_X11_sets x s1 s4 hs2 hs5 hFC) rfl (by decide) (by decide) rfl (Nat.le_of_ble_eq_true rfl) (Nat.le_of_succ_le hc1) (by omega) dl_678 (fun z8 c7 w9 p10 => ?_)
  obtain ⟨p10_0, p10_1, p10_2, p10_3⟩ := p10
  refine lr_aload_n h rfl 2 rfl dl_681 ?_
  refine lr_aload_n h rfl 0 rfl dl_682 ?_
  refine lr_iload h 4 rfl dl_683 ?_
  refine lr_iconst h dl_685 ?_
  refine lr_iadd h dl_686 ?_
  refine lr_sld h (Nat.le_of_ble_eq_true rfl) (by omega) (by omega) dl_687 (fun s11 hs12 es13 => ?_)
  rw [show s11 = s1 from es13.trans es3.symm]
  refine lr_aload_n h rfl 0 rfl dl_688 ?_
  refine lr_iload h 4 rfl dl_689 ?_
  refine lr_iconst h dl_691 ?_
  refine lr_iadd h dl_692 ?_
  refine lr_sld h (Nat.le_of_ble_eq_true rfl) (by omega) (by omega) dl_693 (fun s14 hs15 es16 => ?_)
  rw [show s14 = s4 from es16.trans es6.symm]
  refine lr_cMI (as := [vi s1, vi s4]) (k := 0) h kX12 at_0M wX12_sets ll_82 (f_X12_sets y s1 s4 hs2 hs5 hG hFM) rfl (by decide) (by decide) rfl (Nat.le_of_ble_eq_true rfl) (Nat.le_of_succ_le hc1) (by omega) dl_694 (fun z18 m17 w19 p20 => ?_)
  obtain ⟨p20_0, p20_1, p20_2, p20_3, p20_4⟩ := p20
  have heq : z8 = z18 := by
    by_cases hv : ((s1 = 0 ∧ 0 ≤ s4 ∧ s4 ≤ 5) ∨ (s1 = 1 ∧ 0 ≤ s4 ∧ s4 ≤ 3))
    · have k1 := p10_1 hv; have k2 := p10_2 hv; have k4 := p20_1 hv; have k5 := p20_2 hv; clear p10_0 p10_1 p10_2 p20_0 p20_1 p20_2; omega
    · have k0 := p10_0 hv; have k3 := p20_0 hv; clear p10_0 p10_1 p10_2 p20_0 p20_1 p20_2; omega
  refine lr_icmp_eq (tgt := 1551) h dl_697 (by decide) w9 w19 (fun q697 => ?_) (fun q697 => absurd heq q697)
  refine lr_mono (ce2 := 149 + n + 1) (sl2 := 24032 + 6 * n + 6) (Nat.le_succ _) (Nat.le_add_right _ 6) ?_
  exact next c7 m17 (fun q9 => absurd q9 (by omega))
set_option maxHeartbeats 1000000 in
theorem lb_702 {C : LC} (h : LOK C 5) {x y : Mm} {n : Nat} {at9 : Int} (hI : LI x y n) (h0 : 0 ≤ at9) (e9 : at9 = 5 * n) (h1 : at9 + 5 ≤ lc_L C) (hn : n ≤ 511) (hc1 : 149 + n + 1 ≤ room_1.cells) (hsl1 : 24032 + 6 * n + 6 ≤ room_1.slots) (next : ∀ x' y' : Mm, LI x' y' ((n : Int) + 1) → LW C (149 + n + 1) (24032 + 6 * n + 6) x' y' 1551 [(0, .ref (lc_b C)), (1, vr (lc_GC C) 0), (2, vr (lc_GM C) 0), (3, vr (lc_GC C) 120), (4, vi at9)] []) : LW C (149 + n) (24032 + 6 * n) x y 702 [(0, .ref (lc_b C)), (1, vr (lc_GC C) 0), (2, vr (lc_GM C) 0), (3, vr (lc_GC C) 120), (4, vi at9)] [] := by
  obtain ⟨hFC, hFM, hB, hG, h21, hT, hT2, hK, hF⟩ := hI (by have := LOK_hLN h; omega)
  refine lr_aload_n h rfl 1 rfl dl_702 ?_
  refine lr_aload_n h rfl 0 rfl dl_703 ?_
  refine lr_iload h 4 rfl dl_704 ?_
  refine lr_iconst h dl_706 ?_
  refine lr_iadd h dl_707 ?_
  refine lr_sld h (Nat.le_of_ble_eq_true rfl) (by omega) (by omega) dl_708 (fun s1 hs2 es3 => ?_)
  refine lr_aload_n h rfl 0 rfl dl_709 ?_
  refine lr_iload h 4 rfl dl_710 ?_
  refine lr_iconst h dl_712 ?_
  refine lr_iadd h dl_713 ?_
  refine lr_sld h (Nat.le_of_ble_eq_true rfl) (by omega) (by omega) dl_714 (fun s4 hs5 es6 => ?_)
  refine lr_cCI (as := [vi s1, vi s4]) (k := 0) h kX11 at_0 wX11_ends ll_83 (f_X11_ends x s1 s4 hs2 hs5 hFC) rfl (by decide) (by decide) rfl (Nat.le_of_ble_eq_true rfl) (Nat.le_of_succ_le hc1) (by omega) dl_715 (fun z8 c7 w9 p10 => ?_)
  obtain ⟨p10_0, p10_1, p10_2⟩ := p10
  refine lr_aload_n h rfl 2 rfl dl_718 ?_
  refine lr_aload_n h rfl 0 rfl dl_719 ?_
  refine lr_iload h 4 rfl dl_720 ?_
  refine lr_iconst h dl_722 ?_
  refine lr_iadd h dl_723 ?_
  refine lr_sld h (Nat.le_of_ble_eq_true rfl) (by omega) (by omega) dl_724 (fun s11 hs12 es13 => ?_)
  rw [show s11 = s1 from es13.trans es3.symm]
  refine lr_aload_n h rfl 0 rfl dl_725 ?_
  refine lr_iload h 4 rfl dl_726 ?_
  refine lr_iconst h dl_728 ?_
  refine lr_iadd h dl_729 ?_
  refine lr_sld h (Nat.le_of_ble_eq_true rfl) (by omega) (by omega) dl_730 (fun s14 hs15 es16 => ?_)
  rw [show s14 = s4 from es16.trans es6.symm]
  refine lr_cMI (as := [vi s1, vi s4]) (k := 0) h kX12 at_0M wX12_ends ll_86 (f_X12_ends y s1 s4 hs2 hs5 hG hFM) rfl (by decide) (by decide) rfl (Nat.le_of_ble_eq_true rfl) (Nat.le_of_succ_le hc1) (by omega) dl_731 (fun z18 m17 w19 p20 => ?_)
  obtain ⟨p20_0, p20_1, p20_2, p20_3⟩ := p20
  have heq : z8 = z18 := by
    by_cases hv : (0 ≤ s1 ∧ s1 < 7 ∧ 0 ≤ s4 ∧ s4 < 7 ∧ s1 ≠ s4)
    · have k0 := p10_0 hv; have k2 := p20_0 hv; clear p10_0 p10_1 p20_0 p20_1; omega
    · have k1 := p10_1 hv; have k3 := p20_1 hv; clear p10_0 p10_1 p20_0 p20_1; omega
  refine lr_icmp_eq (tgt := 1551) h dl_734 (by decide) w9 w19 (fun q734 => ?_) (fun q734 => absurd heq q734)
  refine lr_mono (ce2 := 149 + n + 1) (sl2 := 24032 + 6 * n + 6) (Nat.le_succ _) (Nat.le_add_right _ 6) ?_
  exact next c7 m17 (fun q9 => absurd q9 (by omega))
set_option maxHeartbeats 1000000 in
theorem lb_739 {C : LC} (h : LOK C 5) {x y : Mm} {n : Nat} {at9 : Int} (hI : LI x y n) (h0 : 0 ≤ at9) (e9 : at9 = 5 * n) (h1 : at9 + 5 ≤ lc_L C) (hn : n ≤ 511) (hc1 : 149 + n + 1 ≤ room_1.cells) (hsl1 : 24032 + 6 * n + 6 ≤ room_1.slots) (next : ∀ x' y' : Mm, LI x' y' ((n : Int) + 1) → LW C (149 + n + 1) (24032 + 6 * n + 6) x' y' 1551 [(0, .ref (lc_b C)), (1, vr (lc_GC C) 0), (2, vr (lc_GM C) 0), (3, vr (lc_GC C) 120), (4, vi at9)] []) : LW C (149 + n) (24032 + 6 * n) x y 739 [(0, .ref (lc_b C)), (1, vr (lc_GC C) 0), (2, vr (lc_GM C) 0), (3, vr (lc_GC C) 120), (4, vi at9)] [] := by
  obtain ⟨hFC, hFM, hB, hG, h21, hT, hT2, hK, hF⟩ := hI (by have := LOK_hLN h; omega)
  refine lr_aload_n h rfl 1 rfl dl_739 ?_
  refine lr_cCI (as := []) (k := 0) h kX11 at_0 wX11_day ll_87 (f_X11_day x hFC) rfl (by decide) (by decide) rfl (Nat.le_of_ble_eq_true rfl) (Nat.le_of_succ_le hc1) (by omega) dl_740 (fun z2 c1 w3 p4 => ?_)
  obtain ⟨p4_0, p4_1⟩ := p4
  refine lr_aload_n h rfl 2 rfl dl_743 ?_
  refine lr_cMI (as := []) (k := 0) h kX12 at_0M wX12_day ll_90 (f_X12_day y hG hFM) rfl (by decide) (by decide) rfl (Nat.le_of_ble_eq_true rfl) (Nat.le_of_succ_le hc1) (by omega) dl_744 (fun z6 m5 w7 p8 => ?_)
  obtain ⟨p8_0, p8_1, p8_2⟩ := p8
  refine lr_icmp_eq (tgt := 1551) h dl_747 (by decide) w3 w7 (fun q747 => ?_) (fun q747 => absurd (show z2 = z6 by omega) q747)
  refine lr_mono (ce2 := 149 + n + 1) (sl2 := 24032 + 6 * n + 6) (Nat.le_succ _) (Nat.le_add_right _ 6) ?_
  exact next c1 m5 (fun q9 => absurd q9 (by omega))
set_option maxHeartbeats 1000000 in
theorem lb_752 {C : LC} (h : LOK C 5) {x y : Mm} {n : Nat} {at9 : Int} (hI : LI x y n) (h0 : 0 ≤ at9) (e9 : at9 = 5 * n) (h1 : at9 + 5 ≤ lc_L C) (hn : n ≤ 511) (hc1 : 149 + n + 1 ≤ room_1.cells) (hsl1 : 24032 + 6 * n + 6 ≤ room_1.slots) (next : ∀ x' y' : Mm, LI x' y' ((n : Int) + 1) → LW C (149 + n + 1) (24032 + 6 * n + 6) x' y' 1551 [(0, .ref (lc_b C)), (1, vr (lc_GC C) 0), (2, vr (lc_GM C) 0), (3, vr (lc_GC C) 120), (4, vi at9)] []) : LW C (149 + n) (24032 + 6 * n) x y 752 [(0, .ref (lc_b C)), (1, vr (lc_GC C) 0), (2, vr (lc_GM C) 0), (3, vr (lc_GC C) 120), (4, vi at9)] [] := by
  obtain ⟨hFC, hFM, hB, hG, h21, hT, hT2, hK, hF⟩ := hI (by have := LOK_hLN h; omega)
  refine lr_aload_n h rfl 1 rfl dl_752 ?_
  refine lr_cCI (as := []) (k := 0) h kX11 at_0 wX11_undo ll_91 (f_X11_undo x hFC) rfl (by decide) (by decide) rfl (Nat.le_of_ble_eq_true rfl) (Nat.le_of_succ_le hc1) (by omega) dl_753 (fun z2 c1 w3 p4 => ?_)
  obtain ⟨p4_0, p4_1⟩ := p4
  refine lr_aload_n h rfl 2 rfl dl_756 ?_
  refine lr_cMI (as := []) (k := 0) h kX12 at_0M wX12_undo ll_94 (f_X12_undo y hG hFM) rfl (by decide) (by decide) rfl (Nat.le_of_ble_eq_true rfl) (Nat.le_of_succ_le hc1) (by omega) dl_757 (fun z6 m5 w7 p8 => ?_)
  obtain ⟨p8_0, p8_1, p8_2⟩ := p8
  refine lr_icmp_eq (tgt := 1551) h dl_760 (by decide) w3 w7 (fun q760 => ?_) (fun q760 => absurd (show z2 = z6 by omega) q760)
  refine lr_mono (ce2 := 149 + n + 1) (sl2 := 24032 + 6 * n + 6) (Nat.le_succ _) (Nat.le_add_right _ 6) ?_
  exact next c1 m5 (fun q9 => absurd q9 (by omega))
set_option maxHeartbeats 1000000 in
theorem lb_765 {C : LC} (h : LOK C 5) {x y : Mm} {n : Nat} {at9 : Int} (hI : LI x y n) (h0 : 0 ≤ at9) (e9 : at9 = 5 * n) (h1 : at9 + 5 ≤ lc_L C) (hn : n ≤ 511) (hc1 : 149 + n + 1 ≤ room_1.cells) (hsl1 : 24032 + 6 * n + 6 ≤ room_1.slots) (next : ∀ x' y' : Mm, LI x' y' ((n : Int) + 1) → LW C (149 + n + 1) (24032 + 6 * n + 6) x' y' 1551 [(0, .ref (lc_b C)), (1, vr (lc_GC C) 0), (2, vr (lc_GM C) 0), (3, vr (lc_GC C) 120), (4, vi at9)] []) : LW C (149 + n) (24032 + 6 * n) x y 765 [(0, .ref (lc_b C)), (1, vr (lc_GC C) 0), (2, vr (lc_GM C) 0), (3, vr (lc_GC C) 120), (4, vi at9)] [] := by
  obtain ⟨hFC, hFM, hB, hG, h21, hT, hT2, hK, hF⟩ := hI (by have := LOK_hLN h; omega)
  refine lr_aload_n h rfl 1 rfl dl_765 ?_
  refine lr_aload_n h rfl 0 rfl dl_766 ?_
  refine lr_iload h 4 rfl dl_767 ?_
  refine lr_iconst h dl_769 ?_
  refine lr_iadd h dl_770 ?_
  refine lr_sld h (Nat.le_of_ble_eq_true rfl) (by omega) (by omega) dl_771 (fun s1 hs2 es3 => ?_)
  refine lr_aload_n h rfl 0 rfl dl_772 ?_
  refine lr_iload h 4 rfl dl_773 ?_
  refine lr_iconst h dl_775 ?_
  refine lr_iadd h dl_776 ?_
  refine lr_sld h (Nat.le_of_ble_eq_true rfl) (by omega) (by omega) dl_777 (fun s4 hs5 es6 => ?_)
  refine lr_cCI (as := [vi s1, vi s4]) (k := 0) h kX11 at_0 wX11_best ll_95 (f_X11_best x s1 s4 hs2 hs5 hFC) rfl (by decide) (by decide) rfl (Nat.le_of_ble_eq_true rfl) (Nat.le_of_succ_le hc1) (by omega) dl_778 (fun z8 c7 w9 p10 => ?_)
  obtain ⟨p10_0, p10_1, p10_2, p10_3⟩ := p10
  refine lr_aload_n h rfl 2 rfl dl_781 ?_
  refine lr_aload_n h rfl 0 rfl dl_782 ?_
  refine lr_iload h 4 rfl dl_783 ?_
  refine lr_iconst h dl_785 ?_
  refine lr_iadd h dl_786 ?_
  refine lr_sld h (Nat.le_of_ble_eq_true rfl) (by omega) (by omega) dl_787 (fun s11 hs12 es13 => ?_)
  rw [show s11 = s1 from es13.trans es3.symm]
  refine lr_aload_n h rfl 0 rfl dl_788 ?_
  refine lr_iload h 4 rfl dl_789 ?_
  refine lr_iconst h dl_791 ?_
  refine lr_iadd h dl_792 ?_
  refine lr_sld h (Nat.le_of_ble_eq_true rfl) (by omega) (by omega) dl_793 (fun s14 hs15 es16 => ?_)
  rw [show s14 = s4 from es16.trans es6.symm]
  refine lr_cMI (as := [vi s1, vi s4]) (k := 0) h kX12 at_0M wX12_best ll_98 (f_X12_best y s1 s4 hs2 hs5 hG hFM) rfl (by decide) (by decide) rfl (Nat.le_of_ble_eq_true rfl) (Nat.le_of_succ_le hc1) (by omega) dl_794 (fun z18 m17 w19 p20 => ?_)
  obtain ⟨p20_0, p20_1, p20_2, p20_3, p20_4⟩ := p20
  have heq : z8 = z18 := by
    by_cases hv : (0 ≤ s1 ∧ s1 < 5 ∧ 1 ≤ s4 ∧ s4 ≤ 400)
    · have k1 := p10_1 hv; have k2 := p10_2 hv; have k4 := p20_1 hv; have k5 := p20_2 hv; clear p10_0 p10_1 p10_2 p20_0 p20_1 p20_2; omega
    · have k0 := p10_0 hv; have k3 := p20_0 hv; clear p10_0 p10_1 p10_2 p20_0 p20_1 p20_2; omega
  refine lr_icmp_eq (tgt := 1551) h dl_797 (by decide) w9 w19 (fun q797 => ?_) (fun q797 => absurd heq q797)
  refine lr_mono (ce2 := 149 + n + 1) (sl2 := 24032 + 6 * n + 6) (Nat.le_succ _) (Nat.le_add_right _ 6) ?_
  exact next c7 m17 (fun q9 => absurd q9 (by omega))
set_option maxHeartbeats 1000000 in
theorem lb_802 {C : LC} (h : LOK C 5) {x y : Mm} {n : Nat} {at9 : Int} (hI : LI x y n) (h0 : 0 ≤ at9) (e9 : at9 = 5 * n) (h1 : at9 + 5 ≤ lc_L C) (hn : n ≤ 511) (hc1 : 149 + n + 1 ≤ room_1.cells) (hsl1 : 24032 + 6 * n + 6 ≤ room_1.slots) (next : ∀ x' y' : Mm, LI x' y' ((n : Int) + 1) → LW C (149 + n + 1) (24032 + 6 * n + 6) x' y' 1551 [(0, .ref (lc_b C)), (1, vr (lc_GC C) 0), (2, vr (lc_GM C) 0), (3, vr (lc_GC C) 120), (4, vi at9)] []) : LW C (149 + n) (24032 + 6 * n) x y 802 [(0, .ref (lc_b C)), (1, vr (lc_GC C) 0), (2, vr (lc_GM C) 0), (3, vr (lc_GC C) 120), (4, vi at9)] [] := by
  obtain ⟨hFC, hFM, hB, hG, h21, hT, hT2, hK, hF⟩ := hI (by have := LOK_hLN h; omega)
  refine lr_aload_n h rfl 1 rfl dl_802 ?_
  refine lr_aload_n h rfl 0 rfl dl_803 ?_
  refine lr_iload h 4 rfl dl_804 ?_
  refine lr_iconst h dl_806 ?_
  refine lr_iadd h dl_807 ?_
  refine lr_sld h (Nat.le_of_ble_eq_true rfl) (by omega) (by omega) dl_808 (fun s1 hs2 es3 => ?_)
  refine lr_cCI (as := [vi s1]) (k := 0) h kX11 at_0 wX11_many ll_99 (f_X11_many x s1 hs2 hFC) rfl (by decide) (by decide) rfl (Nat.le_of_ble_eq_true rfl) (Nat.le_of_succ_le hc1) (by omega) dl_809 (fun z5 c4 w6 p7 => ?_)
  obtain ⟨p7_0, p7_1, p7_2, p7_3⟩ := p7
  refine lr_aload_n h rfl 2 rfl dl_812 ?_
  refine lr_aload_n h rfl 0 rfl dl_813 ?_
  refine lr_iload h 4 rfl dl_814 ?_
  refine lr_iconst h dl_816 ?_
  refine lr_iadd h dl_817 ?_
  refine lr_sld h (Nat.le_of_ble_eq_true rfl) (by omega) (by omega) dl_818 (fun s8 hs9 es10 => ?_)
  rw [show s8 = s1 from es10.trans es3.symm]
  refine lr_cMI (as := [vi s1]) (k := 0) h kX12 at_0M wX12_many ll_102 (f_X12_many y s1 hs2 hG hFM) rfl (by decide) (by decide) rfl (Nat.le_of_ble_eq_true rfl) (Nat.le_of_succ_le hc1) (by omega) dl_819 (fun z12 m11 w13 p14 => ?_)
  obtain ⟨p14_0, p14_1, p14_2, p14_3, p14_4⟩ := p14
  have heq : z5 = z12 := by
    by_cases hv : (0 ≤ s1 ∧ s1 < 5)
    · have k1 := p7_1 hv; have k2 := p7_2 hv; have k4 := p14_1 hv; have k5 := p14_2 hv; clear p7_0 p7_1 p7_2 p14_0 p14_1 p14_2; omega
    · have k0 := p7_0 hv; have k3 := p14_0 hv; clear p7_0 p7_1 p7_2 p14_0 p14_1 p14_2; omega
  refine lr_icmp_eq (tgt := 1551) h dl_822 (by decide) w6 w13 (fun q822 => ?_) (fun q822 => absurd heq q822)
  refine lr_mono (ce2 := 149 + n + 1) (sl2 := 24032 + 6 * n + 6) (Nat.le_succ _) (Nat.le_add_right _ 6) ?_
  exact next c4 m11 (fun q9 => absurd q9 (by omega))
set_option maxHeartbeats 1000000 in
theorem lb_827 {C : LC} (h : LOK C 5) {x y : Mm} {n : Nat} {at9 : Int} (hI : LI x y n) (h0 : 0 ≤ at9) (e9 : at9 = 5 * n) (h1 : at9 + 5 ≤ lc_L C) (hn : n ≤ 511) (hc1 : 149 + n + 1 ≤ room_1.cells) (hsl1 : 24032 + 6 * n + 6 ≤ room_1.slots) (next : ∀ x' y' : Mm, LI x' y' ((n : Int) + 1) → LW C (149 + n + 1) (24032 + 6 * n + 6) x' y' 1551 [(0, .ref (lc_b C)), (1, vr (lc_GC C) 0), (2, vr (lc_GM C) 0), (3, vr (lc_GC C) 120), (4, vi at9)] []) : LW C (149 + n) (24032 + 6 * n) x y 827 [(0, .ref (lc_b C)), (1, vr (lc_GC C) 0), (2, vr (lc_GM C) 0), (3, vr (lc_GC C) 120), (4, vi at9)] [] := by
  obtain ⟨hFC, hFM, hB, hG, h21, hT, hT2, hK, hF⟩ := hI (by have := LOK_hLN h; omega)
  refine lr_aload_n h rfl 1 rfl dl_827 ?_
  refine lr_aload_n h rfl 0 rfl dl_828 ?_
  refine lr_iload h 4 rfl dl_829 ?_
  refine lr_iconst h dl_831 ?_
  refine lr_iadd h dl_832 ?_
  refine lr_sld h (Nat.le_of_ble_eq_true rfl) (by omega) (by omega) dl_833 (fun s1 hs2 es3 => ?_)
  refine lr_aload_n h rfl 0 rfl dl_834 ?_
  refine lr_iload h 4 rfl dl_835 ?_
  refine lr_iconst h dl_837 ?_
  refine lr_iadd h dl_838 ?_
  refine lr_sld h (Nat.le_of_ble_eq_true rfl) (by omega) (by omega) dl_839 (fun s4 hs5 es6 => ?_)
  refine lr_cCI (as := [vi s1, vi s4]) (k := 0) h kX11 at_0 wX11_below ll_103 (f_X11_below x s1 s4 hs2 hs5 hFC) rfl (by decide) (by decide) rfl (Nat.le_of_ble_eq_true rfl) (Nat.le_of_succ_le hc1) (by omega) dl_840 (fun z8 c7 w9 p10 => ?_)
  obtain ⟨p10_0, p10_1, p10_2, p10_3⟩ := p10
  refine lr_aload_n h rfl 2 rfl dl_843 ?_
  refine lr_aload_n h rfl 0 rfl dl_844 ?_
  refine lr_iload h 4 rfl dl_845 ?_
  refine lr_iconst h dl_847 ?_
  refine lr_iadd h dl_848 ?_
  refine lr_sld h (Nat.le_of_ble_eq_true rfl) (by omega) (by omega) dl_849 (fun s11 hs12 es13 => ?_)
  rw [show s11 = s1 from es13.trans es3.symm]
  refine lr_aload_n h rfl 0 rfl dl_850 ?_
  refine lr_iload h 4 rfl dl_851 ?_
  refine lr_iconst h dl_853 ?_
  refine lr_iadd h dl_854 ?_
  refine lr_sld h (Nat.le_of_ble_eq_true rfl) (by omega) (by omega) dl_855 (fun s14 hs15 es16 => ?_)
  rw [show s14 = s4 from es16.trans es6.symm]
  refine lr_cMI (as := [vi s1, vi s4]) (k := 0) h kX12 at_0M wX12_below ll_106 (f_X12_below y s1 s4 hs2 hs5 hG hFM) rfl (by decide) (by decide) rfl (Nat.le_of_ble_eq_true rfl) (Nat.le_of_succ_le hc1) (by omega) dl_856 (fun z18 m17 w19 p20 => ?_)
  obtain ⟨p20_0, p20_1, p20_2, p20_3, p20_4⟩ := p20
  have heq : z8 = z18 := by
    by_cases hv : (0 ≤ s1 ∧ s1 < 5)
    · have k1 := p10_1 hv; have k2 := p10_2 hv; have k4 := p20_1 hv; have k5 := p20_2 hv; clear p10_0 p10_1 p10_2 p20_0 p20_1 p20_2; omega
    · have k0 := p10_0 hv; have k3 := p20_0 hv; clear p10_0 p10_1 p10_2 p20_0 p20_1 p20_2; omega
  refine lr_icmp_eq (tgt := 1551) h dl_859 (by decide) w9 w19 (fun q859 => ?_) (fun q859 => absurd heq q859)
  refine lr_mono (ce2 := 149 + n + 1) (sl2 := 24032 + 6 * n + 6) (Nat.le_succ _) (Nat.le_add_right _ 6) ?_
  exact next c7 m17 (fun q9 => absurd q9 (by omega))
set_option maxHeartbeats 1000000 in
theorem lb_864 {C : LC} (h : LOK C 5) {x y : Mm} {n : Nat} {at9 : Int} (hI : LI x y n) (h0 : 0 ≤ at9) (e9 : at9 = 5 * n) (h1 : at9 + 5 ≤ lc_L C) (hn : n ≤ 511) (hc1 : 149 + n + 1 ≤ room_1.cells) (hsl1 : 24032 + 6 * n + 6 ≤ room_1.slots) (next : ∀ x' y' : Mm, LI x' y' ((n : Int) + 1) → LW C (149 + n + 1) (24032 + 6 * n + 6) x' y' 1551 [(0, .ref (lc_b C)), (1, vr (lc_GC C) 0), (2, vr (lc_GM C) 0), (3, vr (lc_GC C) 120), (4, vi at9)] []) : LW C (149 + n) (24032 + 6 * n) x y 864 [(0, .ref (lc_b C)), (1, vr (lc_GC C) 0), (2, vr (lc_GM C) 0), (3, vr (lc_GC C) 120), (4, vi at9)] [] := by
  obtain ⟨hFC, hFM, hB, hG, h21, hT, hT2, hK, hF⟩ := hI (by have := LOK_hLN h; omega)
  refine lr_aload_n h rfl 1 rfl dl_864 ?_
  refine lr_aload_n h rfl 0 rfl dl_865 ?_
  refine lr_iload h 4 rfl dl_866 ?_
  refine lr_iconst h dl_868 ?_
  refine lr_iadd h dl_869 ?_
  refine lr_sld h (Nat.le_of_ble_eq_true rfl) (by omega) (by omega) dl_870 (fun s1 hs2 es3 => ?_)
  refine lr_cCI (as := [vi s1]) (k := 0) h kX11 at_0 wX11_rank ll_107 (f_X11_rank x s1 hs2 hFC) rfl (by decide) (by decide) rfl (Nat.le_of_ble_eq_true rfl) (Nat.le_of_succ_le hc1) (by omega) dl_871 (fun z5 c4 w6 p7 => ?_)
  obtain ⟨p7_0, p7_1, p7_2, p7_3⟩ := p7
  refine lr_aload_n h rfl 2 rfl dl_874 ?_
  refine lr_aload_n h rfl 0 rfl dl_875 ?_
  refine lr_iload h 4 rfl dl_876 ?_
  refine lr_iconst h dl_878 ?_
  refine lr_iadd h dl_879 ?_
  refine lr_sld h (Nat.le_of_ble_eq_true rfl) (by omega) (by omega) dl_880 (fun s8 hs9 es10 => ?_)
  rw [show s8 = s1 from es10.trans es3.symm]
  refine lr_cMI (as := [vi s1]) (k := 0) h kX12 at_0M wX12_rank ll_110 (f_X12_rank y s1 hs2 hG hFM) rfl (by decide) (by decide) rfl (Nat.le_of_ble_eq_true rfl) (Nat.le_of_succ_le hc1) (by omega) dl_881 (fun z12 m11 w13 p14 => ?_)
  obtain ⟨p14_0, p14_1, p14_2, p14_3, p14_4⟩ := p14
  have heq : z5 = z12 := by
    by_cases hv : (0 ≤ s1 ∧ s1 < 5)
    · have k1 := p7_1 hv; have k2 := p7_2 hv; have k4 := p14_1 hv; have k5 := p14_2 hv; clear p7_0 p7_1 p7_2 p14_0 p14_1 p14_2; omega
    · have k0 := p7_0 hv; have k3 := p14_0 hv; clear p7_0 p7_1 p7_2 p14_0 p14_1 p14_2; omega
  refine lr_icmp_eq (tgt := 1551) h dl_884 (by decide) w6 w13 (fun q884 => ?_) (fun q884 => absurd heq q884)
  refine lr_mono (ce2 := 149 + n + 1) (sl2 := 24032 + 6 * n + 6) (Nat.le_succ _) (Nat.le_add_right _ 6) ?_
  exact next c4 m11 (fun q9 => absurd q9 (by omega))
set_option maxHeartbeats 1000000 in
theorem lb_889 {C : LC} (h : LOK C 5) {x y : Mm} {n : Nat} {at9 : Int} (hI : LI x y n) (h0 : 0 ≤ at9) (e9 : at9 = 5 * n) (h1 : at9 + 5 ≤ lc_L C) (hn : n ≤ 511) (hc1 : 149 + n + 1 ≤ room_1.cells) (hsl1 : 24032 + 6 * n + 6 ≤ room_1.slots) (next : ∀ x' y' : Mm, LI x' y' ((n : Int) + 1) → LW C (149 + n + 1) (24032 + 6 * n + 6) x' y' 1551 [(0, .ref (lc_b C)), (1, vr (lc_GC C) 0), (2, vr (lc_GM C) 0), (3, vr (lc_GC C) 120), (4, vi at9)] []) : LW C (149 + n) (24032 + 6 * n) x y 889 [(0, .ref (lc_b C)), (1, vr (lc_GC C) 0), (2, vr (lc_GM C) 0), (3, vr (lc_GC C) 120), (4, vi at9)] [] := by
  obtain ⟨hFC, hFM, hB, hG, h21, hT, hT2, hK, hF⟩ := hI (by have := LOK_hLN h; omega)
  refine lr_aload_n h rfl 1 rfl dl_889 ?_
  refine lr_aload_n h rfl 0 rfl dl_890 ?_
  refine lr_iload h 4 rfl dl_891 ?_
  refine lr_iconst h dl_893 ?_
  refine lr_iadd h dl_894 ?_
  refine lr_sld h (Nat.le_of_ble_eq_true rfl) (by omega) (by omega) dl_895 (fun s1 hs2 es3 => ?_)
  refine lr_aload_n h rfl 0 rfl dl_896 ?_
  refine lr_iload h 4 rfl dl_897 ?_
  refine lr_iconst h dl_899 ?_
  refine lr_iadd h dl_900 ?_
  refine lr_sld h (Nat.le_of_ble_eq_true rfl) (by omega) (by omega) dl_901 (fun s4 hs5 es6 => ?_)
  refine lr_cCI (as := [vi s1, vi s4]) (k := 0) h kX11 at_0 wX11_alike ll_111 (f_X11_alike x s1 s4 hs2 hs5 hFC) rfl (by decide) (by decide) rfl (Nat.le_of_ble_eq_true rfl) (Nat.le_of_succ_le hc1) (by omega) dl_902 (fun z8 c7 w9 p10 => ?_)
  obtain ⟨p10_0, p10_1, p10_2, p10_3⟩ := p10
  refine lr_aload_n h rfl 2 rfl dl_905 ?_
  refine lr_aload_n h rfl 0 rfl dl_906 ?_
  refine lr_iload h 4 rfl dl_907 ?_
  refine lr_iconst h dl_909 ?_
  refine lr_iadd h dl_910 ?_
  refine lr_sld h (Nat.le_of_ble_eq_true rfl) (by omega) (by omega) dl_911 (fun s11 hs12 es13 => ?_)
  rw [show s11 = s1 from es13.trans es3.symm]
  refine lr_aload_n h rfl 0 rfl dl_912 ?_
  refine lr_iload h 4 rfl dl_913 ?_
  refine lr_iconst h dl_915 ?_
  refine lr_iadd h dl_916 ?_
  refine lr_sld h (Nat.le_of_ble_eq_true rfl) (by omega) (by omega) dl_917 (fun s14 hs15 es16 => ?_)
  rw [show s14 = s4 from es16.trans es6.symm]
  refine lr_cMI (as := [vi s1, vi s4]) (k := 0) h kX12 at_0M wX12_alike ll_114 (f_X12_alike y s1 s4 hs2 hs5 hG hFM) rfl (by decide) (by decide) rfl (Nat.le_of_ble_eq_true rfl) (Nat.le_of_succ_le hc1) (by omega) dl_918 (fun z18 m17 w19 p20 => ?_)
  obtain ⟨p20_0, p20_1, p20_2, p20_3, p20_4⟩ := p20
  have heq : z8 = z18 := by
    by_cases hv : (0 ≤ s1 ∧ s1 < 5 ∧ 1 ≤ s4 ∧ s4 ≤ 400)
    · have k1 := p10_1 hv; have k2 := p10_2 hv; have k4 := p20_1 hv; have k5 := p20_2 hv; clear p10_0 p10_1 p10_2 p20_0 p20_1 p20_2; omega
    · have k0 := p10_0 hv; have k3 := p20_0 hv; clear p10_0 p10_1 p10_2 p20_0 p20_1 p20_2; omega
  refine lr_icmp_eq (tgt := 1551) h dl_921 (by decide) w9 w19 (fun q921 => ?_) (fun q921 => absurd heq q921)
  refine lr_mono (ce2 := 149 + n + 1) (sl2 := 24032 + 6 * n + 6) (Nat.le_succ _) (Nat.le_add_right _ 6) ?_
  exact next c7 m17 (fun q9 => absurd q9 (by omega))
set_option maxHeartbeats 1000000 in
theorem lb_926 {C : LC} (h : LOK C 5) {x y : Mm} {n : Nat} {at9 : Int} (hI : LI x y n) (h0 : 0 ≤ at9) (e9 : at9 = 5 * n) (h1 : at9 + 5 ≤ lc_L C) (hn : n ≤ 511) (hc1 : 149 + n + 1 ≤ room_1.cells) (hsl1 : 24032 + 6 * n + 6 ≤ room_1.slots) (next : ∀ x' y' : Mm, LI x' y' ((n : Int) + 1) → LW C (149 + n + 1) (24032 + 6 * n + 6) x' y' 1551 [(0, .ref (lc_b C)), (1, vr (lc_GC C) 0), (2, vr (lc_GM C) 0), (3, vr (lc_GC C) 120), (4, vi at9)] []) : LW C (149 + n) (24032 + 6 * n) x y 926 [(0, .ref (lc_b C)), (1, vr (lc_GC C) 0), (2, vr (lc_GM C) 0), (3, vr (lc_GC C) 120), (4, vi at9)] [] := by
  obtain ⟨hFC, hFM, hB, hG, h21, hT, hT2, hK, hF⟩ := hI (by have := LOK_hLN h; omega)
  refine lr_aload_n h rfl 1 rfl dl_926 ?_
  refine lr_aload_n h rfl 0 rfl dl_927 ?_
  refine lr_iload h 4 rfl dl_928 ?_
  refine lr_iconst h dl_930 ?_
  refine lr_iadd h dl_931 ?_
  refine lr_sld h (Nat.le_of_ble_eq_true rfl) (by omega) (by omega) dl_932 (fun s1 hs2 es3 => ?_)
  refine lr_cCI (as := [vi s1]) (k := 0) h kX11 at_0 wX11_surely ll_115 (f_X11_surely x s1 hs2 hFC) rfl (by decide) (by decide) rfl (Nat.le_of_ble_eq_true rfl) (Nat.le_of_succ_le hc1) (by omega) dl_933 (fun z5 c4 w6 p7 => ?_)
  obtain ⟨p7_0, p7_1, p7_2, p7_3⟩ := p7
  refine lr_aload_n h rfl 2 rfl dl_936 ?_
  refine lr_aload_n h rfl 0 rfl dl_937 ?_
  refine lr_iload h 4 rfl dl_938 ?_
  refine lr_iconst h dl_940 ?_
  refine lr_iadd h dl_941 ?_
  refine lr_sld h (Nat.le_of_ble_eq_true rfl) (by omega) (by omega) dl_942 (fun s8 hs9 es10 => ?_)
  rw [show s8 = s1 from es10.trans es3.symm]
  refine lr_cMI (as := [vi s1]) (k := 0) h kX12 at_0M wX12_surely ll_118 (f_X12_surely y s1 hs2 hG hFM) rfl (by decide) (by decide) rfl (Nat.le_of_ble_eq_true rfl) (Nat.le_of_succ_le hc1) (by omega) dl_943 (fun z12 m11 w13 p14 => ?_)
  obtain ⟨p14_0, p14_1, p14_2, p14_3, p14_4⟩ := p14
  have heq : z5 = z12 := by
    by_cases hv : (0 ≤ s1 ∧ s1 < 5)
    · have k1 := p7_1 hv; have k2 := p7_2 hv; have k4 := p14_1 hv; have k5 := p14_2 hv; clear p7_0 p7_1 p7_2 p14_0 p14_1 p14_2; omega
    · have k0 := p7_0 hv; have k3 := p14_0 hv; clear p7_0 p7_1 p7_2 p14_0 p14_1 p14_2; omega
  refine lr_icmp_eq (tgt := 1551) h dl_946 (by decide) w6 w13 (fun q946 => ?_) (fun q946 => absurd heq q946)
  refine lr_mono (ce2 := 149 + n + 1) (sl2 := 24032 + 6 * n + 6) (Nat.le_succ _) (Nat.le_add_right _ 6) ?_
  exact next c4 m11 (fun q9 => absurd q9 (by omega))
set_option maxHeartbeats 1000000 in
theorem lb_951 {C : LC} (h : LOK C 5) {x y : Mm} {n : Nat} {at9 : Int} (hI : LI x y n) (h0 : 0 ≤ at9) (e9 : at9 = 5 * n) (h1 : at9 + 5 ≤ lc_L C) (hn : n ≤ 511) (hc1 : 149 + n + 1 ≤ room_1.cells) (hsl1 : 24032 + 6 * n + 6 ≤ room_1.slots) (next : ∀ x' y' : Mm, LI x' y' ((n : Int) + 1) → LW C (149 + n + 1) (24032 + 6 * n + 6) x' y' 1551 [(0, .ref (lc_b C)), (1, vr (lc_GC C) 0), (2, vr (lc_GM C) 0), (3, vr (lc_GC C) 120), (4, vi at9)] []) : LW C (149 + n) (24032 + 6 * n) x y 951 [(0, .ref (lc_b C)), (1, vr (lc_GC C) 0), (2, vr (lc_GM C) 0), (3, vr (lc_GC C) 120), (4, vi at9)] [] := by
  obtain ⟨hFC, hFM, hB, hG, h21, hT, hT2, hK, hF⟩ := hI (by have := LOK_hLN h; omega)
  refine lr_aload_n h rfl 1 rfl dl_951 ?_
  refine lr_aload_n h rfl 0 rfl dl_952 ?_
  refine lr_iload h 4 rfl dl_953 ?_
  refine lr_iconst h dl_955 ?_
  refine lr_iadd h dl_956 ?_
  refine lr_sld h (Nat.le_of_ble_eq_true rfl) (by omega) (by omega) dl_957 (fun s1 hs2 es3 => ?_)
  refine lr_aload_n h rfl 0 rfl dl_958 ?_
  refine lr_iload h 4 rfl dl_959 ?_
  refine lr_iconst h dl_961 ?_
  refine lr_iadd h dl_962 ?_
  refine lr_sld h (Nat.le_of_ble_eq_true rfl) (by omega) (by omega) dl_963 (fun s4 hs5 es6 => ?_)
  refine lr_aload_n h rfl 0 rfl dl_964 ?_
  refine lr_iload h 4 rfl dl_965 ?_
  refine lr_iconst h dl_967 ?_
  refine lr_iadd h dl_968 ?_
  refine lr_sld h (Nat.le_of_ble_eq_true rfl) (by omega) (by omega) dl_969 (fun s7 hs8 es9 => ?_)
  refine lr_aload_n h rfl 0 rfl dl_970 ?_
  refine lr_iload h 4 rfl dl_971 ?_
  refine lr_iconst h dl_973 ?_
  refine lr_iadd h dl_974 ?_
  refine lr_sld h (Nat.le_of_ble_eq_true rfl) (by omega) (by omega) dl_975 (fun s10 hs11 es12 => ?_)
  refine lr_cCI (as := [vi s1, vi s4, vi s7, vi s10]) (k := 0) h kX11 at_0 wX11_having ll_119 (f_X11_having x s1 s4 s7 s10 hs2 hs5 hs8 hs11 hFC) rfl (by decide) (by decide) rfl (Nat.le_of_ble_eq_true rfl) (Nat.le_of_succ_le hc1) (by omega) dl_976 (fun z14 c13 w15 p16 => ?_)
  obtain ⟨p16_0, p16_1, p16_2, p16_3⟩ := p16
  refine lr_aload_n h rfl 2 rfl dl_979 ?_
  refine lr_aload_n h rfl 0 rfl dl_980 ?_
  refine lr_iload h 4 rfl dl_981 ?_
  refine lr_iconst h dl_983 ?_
  refine lr_iadd h dl_984 ?_
  refine lr_sld h (Nat.le_of_ble_eq_true rfl) (by omega) (by omega) dl_985 (fun s17 hs18 es19 => ?_)
  rw [show s17 = s1 from es19.trans es3.symm]
  refine lr_aload_n h rfl 0 rfl dl_986 ?_
  refine lr_iload h 4 rfl dl_987 ?_
  refine lr_iconst h dl_989 ?_
  refine lr_iadd h dl_990 ?_
  refine lr_sld h (Nat.le_of_ble_eq_true rfl) (by omega) (by omega) dl_991 (fun s20 hs21 es22 => ?_)
  rw [show s20 = s4 from es22.trans es6.symm]
  refine lr_aload_n h rfl 0 rfl dl_992 ?_
  refine lr_iload h 4 rfl dl_993 ?_
  refine lr_iconst h dl_995 ?_
  refine lr_iadd h dl_996 ?_
  refine lr_sld h (Nat.le_of_ble_eq_true rfl) (by omega) (by omega) dl_997 (fun s23 hs24 es25 => ?_)
  rw [show s23 = s7 from es25.trans es9.symm]
  refine lr_aload_n h rfl 0 rfl dl_998 ?_
  refine lr_iload h 4 rfl dl_999 ?_
  refine lr_iconst h dl_1001 ?_
  refine lr_iadd h dl_1002 ?_
  refine lr_sld h (Nat.le_of_ble_eq_true rfl) (by omega) (by omega) dl_1003 (fun s26 hs27 es28 => ?_)
  rw [show s26 = s10 from es28.trans es12.symm]
  refine lr_cMI (as := [vi s1, vi s4, vi s7, vi s10]) (k := 0) h kX12 at_0M wX12_having ll_122 (f_X12_having y s1 s4 s7 s10 hs2 hs5 hs8 hs11 hG hFM) rfl (by decide) (by decide) rfl (Nat.le_of_ble_eq_true rfl) (Nat.le_of_succ_le hc1) (by omega) dl_1004 (fun z30 m29 w31 p32 => ?_)
  obtain ⟨p32_0, p32_1, p32_2, p32_3, p32_4⟩ := p32
  have heq : z14 = z30 := by
    by_cases hv : (0 ≤ s1 ∧ s1 < 5 ∧ 0 ≤ s4 ∧ s4 < 8 ∧ 0 ≤ s7 ∧ s7 < 12 ∧ 0 ≤ s10 ∧ s10 ≤ 1)
    · have k1 := p16_1 hv; have k2 := p16_2 hv; have k4 := p32_1 hv; have k5 := p32_2 hv; clear p16_0 p16_1 p16_2 p32_0 p32_1 p32_2; omega
    · have k0 := p16_0 hv; have k3 := p32_0 hv; clear p16_0 p16_1 p16_2 p32_0 p32_1 p32_2; omega
  refine lr_icmp_eq (tgt := 1551) h dl_1007 (by decide) w15 w31 (fun q1007 => ?_) (fun q1007 => absurd heq q1007)
  refine lr_mono (ce2 := 149 + n + 1) (sl2 := 24032 + 6 * n + 6) (Nat.le_succ _) (Nat.le_add_right _ 6) ?_
  exact next c13 m29 (fun q9 => absurd q9 (by omega))
set_option maxHeartbeats 1000000 in
theorem lb_1012 {C : LC} (h : LOK C 5) {x y : Mm} {n : Nat} {at9 : Int} (hI : LI x y n) (h0 : 0 ≤ at9) (e9 : at9 = 5 * n) (h1 : at9 + 5 ≤ lc_L C) (hn : n ≤ 511) (hc1 : 149 + n + 1 ≤ room_1.cells) (hsl1 : 24032 + 6 * n + 6 ≤ room_1.slots) (next : ∀ x' y' : Mm, LI x' y' ((n : Int) + 1) → LW C (149 + n + 1) (24032 + 6 * n + 6) x' y' 1551 [(0, .ref (lc_b C)), (1, vr (lc_GC C) 0), (2, vr (lc_GM C) 0), (3, vr (lc_GC C) 120), (4, vi at9)] []) : LW C (149 + n) (24032 + 6 * n) x y 1012 [(0, .ref (lc_b C)), (1, vr (lc_GC C) 0), (2, vr (lc_GM C) 0), (3, vr (lc_GC C) 120), (4, vi at9)] [] := by
  obtain ⟨hFC, hFM, hB, hG, h21, hT, hT2, hK, hF⟩ := hI (by have := LOK_hLN h; omega)
  refine lr_aload_n h rfl 1 rfl dl_1012 ?_
  refine lr_aload_n h rfl 0 rfl dl_1013 ?_
  refine lr_iload h 4 rfl dl_1014 ?_
  refine lr_iconst h dl_1016 ?_
  refine lr_iadd h dl_1017 ?_
  refine lr_sld h (Nat.le_of_ble_eq_true rfl) (by omega) (by omega) dl_1018 (fun s1 hs2 es3 => ?_)
  refine lr_aload_n h rfl 0 rfl dl_1019 ?_
  refine lr_iload h 4 rfl dl_1020 ?_
  refine lr_iconst h dl_1022 ?_
  refine lr_iadd h dl_1023 ?_
  refine lr_sld h (Nat.le_of_ble_eq_true rfl) (by omega) (by omega) dl_1024 (fun s4 hs5 es6 => ?_)
  refine lr_aload_n h rfl 0 rfl dl_1025 ?_
  refine lr_iload h 4 rfl dl_1026 ?_
  refine lr_iconst h dl_1028 ?_
  refine lr_iadd h dl_1029 ?_
  refine lr_sld h (Nat.le_of_ble_eq_true rfl) (by omega) (by omega) dl_1030 (fun s7 hs8 es9 => ?_)
  refine lr_cCI (as := [vi s1, vi s4, vi s7]) (k := 0) h kX11 at_0 wX11_differ ll_123 (f_X11_differ x s1 s4 s7 hs2 hs5 hs8 hFC) rfl (by decide) (by decide) rfl (Nat.le_of_ble_eq_true rfl) (Nat.le_of_succ_le hc1) (by omega) dl_1031 (fun z11 c10 w12 p13 => ?_)
  obtain ⟨p13_0, p13_1, p13_2, p13_3⟩ := p13
  refine lr_aload_n h rfl 2 rfl dl_1034 ?_
  refine lr_aload_n h rfl 0 rfl dl_1035 ?_
  refine lr_iload h 4 rfl dl_1036 ?_
  refine lr_iconst h dl_1038 ?_
  refine lr_iadd h dl_1039 ?_
  refine lr_sld h (Nat.le_of_ble_eq_true rfl) (by omega) (by omega) dl_1040 (fun s14 hs15 es16 => ?_)
  rw [show s14 = s1 from es16.trans es3.symm]
  refine lr_aload_n h rfl 0 rfl dl_1041 ?_
  refine lr_iload h 4 rfl dl_1042 ?_
  refine lr_iconst h dl_1044 ?_
  refine lr_iadd h dl_1045 ?_
  refine lr_sld h (Nat.le_of_ble_eq_true rfl) (by omega) (by omega) dl_1046 (fun s17 hs18 es19 => ?_)
  rw [show s17 = s4 from es19.trans es6.symm]
  refine lr_aload_n h rfl 0 rfl dl_1047 ?_
  refine lr_iload h 4 rfl dl_1048 ?_
  refine lr_iconst h dl_1050 ?_
  refine lr_iadd h dl_1051 ?_
  refine lr_sld h (Nat.le_of_ble_eq_true rfl) (by omega) (by omega) dl_1052 (fun s20 hs21 es22 => ?_)
  rw [show s20 = s7 from es22.trans es9.symm]
  refine lr_cMI (as := [vi s1, vi s4, vi s7]) (k := 0) h kX12 at_0M wX12_differ ll_126 (f_X12_differ y s1 s4 s7 hs2 hs5 hs8 hG hFM) rfl (by decide) (by decide) rfl (Nat.le_of_ble_eq_true rfl) (Nat.le_of_succ_le hc1) (by omega) dl_1053 (fun z24 m23 w25 p26 => ?_)
  obtain ⟨p26_0, p26_1, p26_2, p26_3, p26_4⟩ := p26
  have heq : z11 = z24 := by
    by_cases hv : (0 ≤ s1 ∧ s1 < 5 ∧ 1 ≤ s4 ∧ s4 ≤ 400 ∧ 1 ≤ s7 ∧ s7 ≤ 400)
    · have k1 := p13_1 hv; have k2 := p13_2 hv; have k4 := p26_1 hv; have k5 := p26_2 hv; clear p13_0 p13_1 p13_2 p26_0 p26_1 p26_2; omega
    · have k0 := p13_0 hv; have k3 := p26_0 hv; clear p13_0 p13_1 p13_2 p26_0 p26_1 p26_2; omega
  refine lr_icmp_eq (tgt := 1551) h dl_1056 (by decide) w12 w25 (fun q1056 => ?_) (fun q1056 => absurd heq q1056)
  refine lr_mono (ce2 := 149 + n + 1) (sl2 := 24032 + 6 * n + 6) (Nat.le_succ _) (Nat.le_add_right _ 6) ?_
  exact next c10 m23 (fun q9 => absurd q9 (by omega))
set_option maxHeartbeats 1000000 in
theorem lb_1061 {C : LC} (h : LOK C 5) {x y : Mm} {n : Nat} {at9 : Int} (hI : LI x y n) (h0 : 0 ≤ at9) (e9 : at9 = 5 * n) (h1 : at9 + 5 ≤ lc_L C) (hn : n ≤ 511) (hc1 : 149 + n + 1 ≤ room_1.cells) (hsl1 : 24032 + 6 * n + 6 ≤ room_1.slots) (next : ∀ x' y' : Mm, LI x' y' ((n : Int) + 1) → LW C (149 + n + 1) (24032 + 6 * n + 6) x' y' 1551 [(0, .ref (lc_b C)), (1, vr (lc_GC C) 0), (2, vr (lc_GM C) 0), (3, vr (lc_GC C) 120), (4, vi at9)] []) : LW C (149 + n) (24032 + 6 * n) x y 1061 [(0, .ref (lc_b C)), (1, vr (lc_GC C) 0), (2, vr (lc_GM C) 0), (3, vr (lc_GC C) 120), (4, vi at9)] [] := by
  obtain ⟨hFC, hFM, hB, hG, h21, hT, hT2, hK, hF⟩ := hI (by have := LOK_hLN h; omega)
  refine lr_aload_n h rfl 1 rfl dl_1061 ?_
  refine lr_aload_n h rfl 0 rfl dl_1062 ?_
  refine lr_iload h 4 rfl dl_1063 ?_
  refine lr_iconst h dl_1065 ?_
  refine lr_iadd h dl_1066 ?_
  refine lr_sld h (Nat.le_of_ble_eq_true rfl) (by omega) (by omega) dl_1067 (fun s1 hs2 es3 => ?_)
  refine lr_aload_n h rfl 0 rfl dl_1068 ?_
  refine lr_iload h 4 rfl dl_1069 ?_
  refine lr_iconst h dl_1071 ?_
  refine lr_iadd h dl_1072 ?_
  refine lr_sld h (Nat.le_of_ble_eq_true rfl) (by omega) (by omega) dl_1073 (fun s4 hs5 es6 => ?_)
  refine lr_cCI (as := [vi s1, vi s4]) (k := 0) h kX11 at_0 wX11_gap ll_127 (f_X11_gap x s1 s4 hs2 hs5 hFC) rfl (by decide) (by decide) rfl (Nat.le_of_ble_eq_true rfl) (Nat.le_of_succ_le hc1) (by omega) dl_1074 (fun z8 c7 w9 p10 => ?_)
  obtain ⟨p10_0, p10_1, p10_2⟩ := p10
  refine lr_aload_n h rfl 2 rfl dl_1077 ?_
  refine lr_aload_n h rfl 0 rfl dl_1078 ?_
  refine lr_iload h 4 rfl dl_1079 ?_
  refine lr_iconst h dl_1081 ?_
  refine lr_iadd h dl_1082 ?_
  refine lr_sld h (Nat.le_of_ble_eq_true rfl) (by omega) (by omega) dl_1083 (fun s11 hs12 es13 => ?_)
  rw [show s11 = s1 from es13.trans es3.symm]
  refine lr_aload_n h rfl 0 rfl dl_1084 ?_
  refine lr_iload h 4 rfl dl_1085 ?_
  refine lr_iconst h dl_1087 ?_
  refine lr_iadd h dl_1088 ?_
  refine lr_sld h (Nat.le_of_ble_eq_true rfl) (by omega) (by omega) dl_1089 (fun s14 hs15 es16 => ?_)
  rw [show s14 = s4 from es16.trans es6.symm]
  refine lr_cMI (as := [vi s1, vi s4]) (k := 0) h kX12 at_0M wX12_gap ll_130 (f_X12_gap y s1 s4 hs2 hs5 hG hFM) rfl (by decide) (by decide) rfl (Nat.le_of_ble_eq_true rfl) (Nat.le_of_succ_le hc1) (by omega) dl_1090 (fun z18 m17 w19 p20 => ?_)
  obtain ⟨p20_0, p20_1, p20_2, p20_3⟩ := p20
  have heq : z8 = z18 := by
    by_cases hv : (0 ≤ s1 ∧ s1 < 5 ∧ 1 ≤ s4 ∧ s4 ≤ 399)
    · have k1 := p10_1 hv; have k3 := p20_1 hv; clear p10_0 p10_1 p20_0 p20_1; omega
    · have k0 := p10_0 hv; have k2 := p20_0 hv; clear p10_0 p10_1 p20_0 p20_1; omega
  refine lr_icmp_eq (tgt := 1551) h dl_1093 (by decide) w9 w19 (fun q1093 => ?_) (fun q1093 => absurd heq q1093)
  refine lr_mono (ce2 := 149 + n + 1) (sl2 := 24032 + 6 * n + 6) (Nat.le_succ _) (Nat.le_add_right _ 6) ?_
  exact next c7 m17 (fun q9 => absurd q9 (by omega))
set_option maxHeartbeats 1000000 in
theorem lb_1098 {C : LC} (h : LOK C 5) {x y : Mm} {n : Nat} {at9 : Int} (hI : LI x y n) (h0 : 0 ≤ at9) (e9 : at9 = 5 * n) (h1 : at9 + 5 ≤ lc_L C) (hn : n ≤ 511) (hc1 : 149 + n + 1 ≤ room_1.cells) (hsl1 : 24032 + 6 * n + 6 ≤ room_1.slots) (next : ∀ x' y' : Mm, LI x' y' ((n : Int) + 1) → LW C (149 + n + 1) (24032 + 6 * n + 6) x' y' 1551 [(0, .ref (lc_b C)), (1, vr (lc_GC C) 0), (2, vr (lc_GM C) 0), (3, vr (lc_GC C) 120), (4, vi at9)] []) : LW C (149 + n) (24032 + 6 * n) x y 1098 [(0, .ref (lc_b C)), (1, vr (lc_GC C) 0), (2, vr (lc_GM C) 0), (3, vr (lc_GC C) 120), (4, vi at9)] [] := by
  obtain ⟨hFC, hFM, hB, hG, h21, hT, hT2, hK, hF⟩ := hI (by have := LOK_hLN h; omega)
  refine lr_aload_n h rfl 1 rfl dl_1098 ?_
  refine lr_aload_n h rfl 0 rfl dl_1099 ?_
  refine lr_iload h 4 rfl dl_1100 ?_
  refine lr_iconst h dl_1102 ?_
  refine lr_iadd h dl_1103 ?_
  refine lr_sld h (Nat.le_of_ble_eq_true rfl) (by omega) (by omega) dl_1104 (fun s1 hs2 es3 => ?_)
  refine lr_aload_n h rfl 0 rfl dl_1105 ?_
  refine lr_iload h 4 rfl dl_1106 ?_
  refine lr_iconst h dl_1108 ?_
  refine lr_iadd h dl_1109 ?_
  refine lr_sld h (Nat.le_of_ble_eq_true rfl) (by omega) (by omega) dl_1110 (fun s4 hs5 es6 => ?_)
  refine lr_cCI (as := [vi s1, vi s4]) (k := 0) h kX11 at_0 wX11_opens ll_131 (f_X11_opens x s1 s4 hs2 hs5 hFC) rfl (by decide) (by decide) rfl (Nat.le_of_ble_eq_true rfl) (Nat.le_of_succ_le hc1) (by omega) dl_1111 (fun z8 c7 w9 p10 => ?_)
  obtain ⟨p10_0, p10_1, p10_2, p10_3⟩ := p10
  refine lr_aload_n h rfl 2 rfl dl_1114 ?_
  refine lr_aload_n h rfl 0 rfl dl_1115 ?_
  refine lr_iload h 4 rfl dl_1116 ?_
  refine lr_iconst h dl_1118 ?_
  refine lr_iadd h dl_1119 ?_
  refine lr_sld h (Nat.le_of_ble_eq_true rfl) (by omega) (by omega) dl_1120 (fun s11 hs12 es13 => ?_)
  rw [show s11 = s1 from es13.trans es3.symm]
  refine lr_aload_n h rfl 0 rfl dl_1121 ?_
  refine lr_iload h 4 rfl dl_1122 ?_
  refine lr_iconst h dl_1124 ?_
  refine lr_iadd h dl_1125 ?_
  refine lr_sld h (Nat.le_of_ble_eq_true rfl) (by omega) (by omega) dl_1126 (fun s14 hs15 es16 => ?_)
  rw [show s14 = s4 from es16.trans es6.symm]
  refine lr_cMI (as := [vi s1, vi s4]) (k := 0) h kX12 at_0M wX12_opens ll_134 (f_X12_opens y s1 s4 hs2 hs5 hG hFM) rfl (by decide) (by decide) rfl (Nat.le_of_ble_eq_true rfl) (Nat.le_of_succ_le hc1) (by omega) dl_1127 (fun z18 m17 w19 p20 => ?_)
  obtain ⟨p20_0, p20_1, p20_2, p20_3, p20_4⟩ := p20
  have heq : z8 = z18 := by
    by_cases hv : (0 ≤ s1 ∧ s1 < 3 ∧ 0 ≤ s4 ∧ s4 < 5)
    · have k1 := p10_1 hv; have k2 := p10_2 hv; have k4 := p20_1 hv; have k5 := p20_2 hv; clear p10_0 p10_1 p10_2 p20_0 p20_1 p20_2; omega
    · have k0 := p10_0 hv; have k3 := p20_0 hv; clear p10_0 p10_1 p10_2 p20_0 p20_1 p20_2; omega
  refine lr_icmp_eq (tgt := 1551) h dl_1130 (by decide) w9 w19 (fun q1130 => ?_) (fun q1130 => absurd heq q1130)
  refine lr_mono (ce2 := 149 + n + 1) (sl2 := 24032 + 6 * n + 6) (Nat.le_succ _) (Nat.le_add_right _ 6) ?_
  exact next c7 m17 (fun q9 => absurd q9 (by omega))
set_option maxHeartbeats 1000000 in
theorem lb_1135 {C : LC} (h : LOK C 5) {x y : Mm} {n : Nat} {at9 : Int} (hI : LI x y n) (h0 : 0 ≤ at9) (e9 : at9 = 5 * n) (h1 : at9 + 5 ≤ lc_L C) (hn : n ≤ 511) (hc1 : 149 + n + 1 ≤ room_1.cells) (hsl1 : 24032 + 6 * n + 6 ≤ room_1.slots) (next : ∀ x' y' : Mm, LI x' y' ((n : Int) + 1) → LW C (149 + n + 1) (24032 + 6 * n + 6) x' y' 1551 [(0, .ref (lc_b C)), (1, vr (lc_GC C) 0), (2, vr (lc_GM C) 0), (3, vr (lc_GC C) 120), (4, vi at9)] []) : LW C (149 + n) (24032 + 6 * n) x y 1135 [(0, .ref (lc_b C)), (1, vr (lc_GC C) 0), (2, vr (lc_GM C) 0), (3, vr (lc_GC C) 120), (4, vi at9)] [] := by
  obtain ⟨hFC, hFM, hB, hG, h21, hT, hT2, hK, hF⟩ := hI (by have := LOK_hLN h; omega)
  refine lr_aload_n h rfl 1 rfl dl_1135 ?_
  refine lr_aload_n h rfl 0 rfl dl_1136 ?_
  refine lr_iload h 4 rfl dl_1137 ?_
  refine lr_iconst h dl_1139 ?_
  refine lr_iadd h dl_1140 ?_
  refine lr_sld h (Nat.le_of_ble_eq_true rfl) (by omega) (by omega) dl_1141 (fun s1 hs2 es3 => ?_)
  refine lr_cCI (as := [vi s1]) (k := 0) h kX11 at_0 wX11_goes ll_135 (f_X11_goes x s1 hs2 hFC) rfl (by decide) (by decide) rfl (Nat.le_of_ble_eq_true rfl) (Nat.le_of_succ_le hc1) (by omega) dl_1142 (fun z5 c4 w6 p7 => ?_)
  obtain ⟨p7_0, p7_1, p7_2⟩ := p7
  refine lr_aload_n h rfl 2 rfl dl_1145 ?_
  refine lr_aload_n h rfl 0 rfl dl_1146 ?_
  refine lr_iload h 4 rfl dl_1147 ?_
  refine lr_iconst h dl_1149 ?_
  refine lr_iadd h dl_1150 ?_
  refine lr_sld h (Nat.le_of_ble_eq_true rfl) (by omega) (by omega) dl_1151 (fun s8 hs9 es10 => ?_)
  rw [show s8 = s1 from es10.trans es3.symm]
  refine lr_cMI (as := [vi s1]) (k := 0) h kX12 at_0M wX12_goes ll_138 (f_X12_goes y s1 hs2 hG hFM) rfl (by decide) (by decide) rfl (Nat.le_of_ble_eq_true rfl) (Nat.le_of_succ_le hc1) (by omega) dl_1152 (fun z12 m11 w13 p14 => ?_)
  obtain ⟨p14_0, p14_1, p14_2, p14_3⟩ := p14
  have heq : z5 = z12 := by
    by_cases hv : (0 ≤ s1 ∧ s1 < 3)
    · clear p7_0 p14_0; omega
    · have k0 := p7_0 hv; have k1 := p14_0 hv; clear p7_0 p14_0; omega
  refine lr_icmp_eq (tgt := 1551) h dl_1155 (by decide) w6 w13 (fun q1155 => ?_) (fun q1155 => absurd heq q1155)
  refine lr_mono (ce2 := 149 + n + 1) (sl2 := 24032 + 6 * n + 6) (Nat.le_succ _) (Nat.le_add_right _ 6) ?_
  exact next c4 m11 (fun q9 => absurd q9 (by omega))
set_option maxHeartbeats 1000000 in
theorem lb_1160 {C : LC} (h : LOK C 5) {x y : Mm} {n : Nat} {at9 : Int} (hI : LI x y n) (h0 : 0 ≤ at9) (e9 : at9 = 5 * n) (h1 : at9 + 5 ≤ lc_L C) (hn : n ≤ 511) (hc1 : 149 + n + 1 ≤ room_1.cells) (hsl1 : 24032 + 6 * n + 6 ≤ room_1.slots) (next : ∀ x' y' : Mm, LI x' y' ((n : Int) + 1) → LW C (149 + n + 1) (24032 + 6 * n + 6) x' y' 1551 [(0, .ref (lc_b C)), (1, vr (lc_GC C) 0), (2, vr (lc_GM C) 0), (3, vr (lc_GC C) 120), (4, vi at9)] []) : LW C (149 + n) (24032 + 6 * n) x y 1160 [(0, .ref (lc_b C)), (1, vr (lc_GC C) 0), (2, vr (lc_GM C) 0), (3, vr (lc_GC C) 120), (4, vi at9)] [] := by
  obtain ⟨hFC, hFM, hB, hG, h21, hT, hT2, hK, hF⟩ := hI (by have := LOK_hLN h; omega)
  refine lr_aload_n h rfl 1 rfl dl_1160 ?_
  refine lr_aload_n h rfl 0 rfl dl_1161 ?_
  refine lr_iload h 4 rfl dl_1162 ?_
  refine lr_iconst h dl_1164 ?_
  refine lr_iadd h dl_1165 ?_
  refine lr_sld h (Nat.le_of_ble_eq_true rfl) (by omega) (by omega) dl_1166 (fun s1 hs2 es3 => ?_)
  refine lr_aload_n h rfl 0 rfl dl_1167 ?_
  refine lr_iload h 4 rfl dl_1168 ?_
  refine lr_iconst h dl_1170 ?_
  refine lr_iadd h dl_1171 ?_
  refine lr_sld h (Nat.le_of_ble_eq_true rfl) (by omega) (by omega) dl_1172 (fun s4 hs5 es6 => ?_)
  refine lr_cCI (as := [vi s1, vi s4]) (k := 0) h kX11 at_0 wX11_skips ll_139 (f_X11_skips x s1 s4 hs2 hs5 hFC) rfl (by decide) (by decide) rfl (Nat.le_of_ble_eq_true rfl) (Nat.le_of_succ_le hc1) (by omega) dl_1173 (fun z8 c7 w9 p10 => ?_)
  obtain ⟨p10_0, p10_1, p10_2⟩ := p10
  refine lr_aload_n h rfl 2 rfl dl_1176 ?_
  refine lr_aload_n h rfl 0 rfl dl_1177 ?_
  refine lr_iload h 4 rfl dl_1178 ?_
  refine lr_iconst h dl_1180 ?_
  refine lr_iadd h dl_1181 ?_
  refine lr_sld h (Nat.le_of_ble_eq_true rfl) (by omega) (by omega) dl_1182 (fun s11 hs12 es13 => ?_)
  rw [show s11 = s1 from es13.trans es3.symm]
  refine lr_aload_n h rfl 0 rfl dl_1183 ?_
  refine lr_iload h 4 rfl dl_1184 ?_
  refine lr_iconst h dl_1186 ?_
  refine lr_iadd h dl_1187 ?_
  refine lr_sld h (Nat.le_of_ble_eq_true rfl) (by omega) (by omega) dl_1188 (fun s14 hs15 es16 => ?_)
  rw [show s14 = s4 from es16.trans es6.symm]
  refine lr_cMI (as := [vi s1, vi s4]) (k := 0) h kX12 at_0M wX12_skips ll_142 (f_X12_skips y s1 s4 hs2 hs5 hG hFM) rfl (by decide) (by decide) rfl (Nat.le_of_ble_eq_true rfl) (Nat.le_of_succ_le hc1) (by omega) dl_1189 (fun z18 m17 w19 p20 => ?_)
  obtain ⟨p20_0, p20_1, p20_2, p20_3⟩ := p20
  have heq : z8 = z18 := by
    by_cases hv : (0 ≤ s1 ∧ s1 < 3 ∧ 0 ≤ s4 ∧ s4 ≤ 400)
    · clear p10_0 p20_0; omega
    · have k0 := p10_0 hv; have k1 := p20_0 hv; clear p10_0 p20_0; omega
  refine lr_icmp_eq (tgt := 1551) h dl_1192 (by decide) w9 w19 (fun q1192 => ?_) (fun q1192 => absurd heq q1192)
  refine lr_mono (ce2 := 149 + n + 1) (sl2 := 24032 + 6 * n + 6) (Nat.le_succ _) (Nat.le_add_right _ 6) ?_
  exact next c7 m17 (fun q9 => absurd q9 (by omega))
set_option maxHeartbeats 1000000 in
theorem lb_1197 {C : LC} (h : LOK C 5) {x y : Mm} {n : Nat} {at9 : Int} (hI : LI x y n) (h0 : 0 ≤ at9) (e9 : at9 = 5 * n) (h1 : at9 + 5 ≤ lc_L C) (hn : n ≤ 511) (hc1 : 149 + n + 1 ≤ room_1.cells) (hsl1 : 24032 + 6 * n + 6 ≤ room_1.slots) (next : ∀ x' y' : Mm, LI x' y' ((n : Int) + 1) → LW C (149 + n + 1) (24032 + 6 * n + 6) x' y' 1551 [(0, .ref (lc_b C)), (1, vr (lc_GC C) 0), (2, vr (lc_GM C) 0), (3, vr (lc_GC C) 120), (4, vi at9)] []) : LW C (149 + n) (24032 + 6 * n) x y 1197 [(0, .ref (lc_b C)), (1, vr (lc_GC C) 0), (2, vr (lc_GM C) 0), (3, vr (lc_GC C) 120), (4, vi at9)] [] := by
  obtain ⟨hFC, hFM, hB, hG, h21, hT, hT2, hK, hF⟩ := hI (by have := LOK_hLN h; omega)
  refine lr_aload_n h rfl 1 rfl dl_1197 ?_
  refine lr_aload_n h rfl 0 rfl dl_1198 ?_
  refine lr_iload h 4 rfl dl_1199 ?_
  refine lr_iconst h dl_1201 ?_
  refine lr_iadd h dl_1202 ?_
  refine lr_sld h (Nat.le_of_ble_eq_true rfl) (by omega) (by omega) dl_1203 (fun s1 hs2 es3 => ?_)
  refine lr_aload_n h rfl 0 rfl dl_1204 ?_
  refine lr_iload h 4 rfl dl_1205 ?_
  refine lr_iconst h dl_1207 ?_
  refine lr_iadd h dl_1208 ?_
  refine lr_sld h (Nat.le_of_ble_eq_true rfl) (by omega) (by omega) dl_1209 (fun s4 hs5 es6 => ?_)
  refine lr_cCI (as := [vi s1, vi s4]) (k := 0) h kX11 at_0 wX11_heard ll_143 (c_X11_heard x s1 s4 hs2 hs5) rfl (by decide) (by decide) rfl (Nat.le_of_ble_eq_true rfl) (Nat.le_of_succ_le hc1) (by omega) dl_1210 (fun z8 c7 w9 p10 => ?_)
  obtain ⟨p10_0, p10_1⟩ := p10
  refine lr_aload_n h rfl 2 rfl dl_1213 ?_
  refine lr_aload_n h rfl 0 rfl dl_1214 ?_
  refine lr_iload h 4 rfl dl_1215 ?_
  refine lr_iconst h dl_1217 ?_
  refine lr_iadd h dl_1218 ?_
  refine lr_sld h (Nat.le_of_ble_eq_true rfl) (by omega) (by omega) dl_1219 (fun s11 hs12 es13 => ?_)
  rw [show s11 = s1 from es13.trans es3.symm]
  refine lr_aload_n h rfl 0 rfl dl_1220 ?_
  refine lr_iload h 4 rfl dl_1221 ?_
  refine lr_iconst h dl_1223 ?_
  refine lr_iadd h dl_1224 ?_
  refine lr_sld h (Nat.le_of_ble_eq_true rfl) (by omega) (by omega) dl_1225 (fun s14 hs15 es16 => ?_)
  rw [show s14 = s4 from es16.trans es6.symm]
  refine lr_cMI (as := [vi s1, vi s4]) (k := 0) h kX12 at_0M wX12_heard ll_146 (c_X12_heard y s1 s4 hs2 hs5 hG) rfl (by decide) (by decide) rfl (Nat.le_of_ble_eq_true rfl) (Nat.le_of_succ_le hc1) (by omega) dl_1226 (fun z18 m17 w19 p20 => ?_)
  obtain ⟨p20_0, p20_1, p20_2, p20_3, p20_4⟩ := p20
  refine lr_icmp_eq (tgt := 1551) h dl_1229 (by decide) w9 w19 (fun q1229 => ?_) (fun q1229 => absurd (show z8 = z18 by omega) q1229)
  refine lr_mono (ce2 := 149 + n + 1) (sl2 := 24032 + 6 * n + 6) (Nat.le_succ _) (Nat.le_add_right _ 6) ?_
  exact next c7 m17 (fun q9 => absurd q9 (by omega))
set_option maxHeartbeats 1000000 in
theorem lb_1234 {C : LC} (h : LOK C 5) {x y : Mm} {n : Nat} {at9 : Int} (hI : LI x y n) (h0 : 0 ≤ at9) (e9 : at9 = 5 * n) (h1 : at9 + 5 ≤ lc_L C) (hn : n ≤ 511) (hc1 : 149 + n + 1 ≤ room_1.cells) (hsl1 : 24032 + 6 * n + 6 ≤ room_1.slots) (next : ∀ x' y' : Mm, LI x' y' ((n : Int) + 1) → LW C (149 + n + 1) (24032 + 6 * n + 6) x' y' 1551 [(0, .ref (lc_b C)), (1, vr (lc_GC C) 0), (2, vr (lc_GM C) 0), (3, vr (lc_GC C) 120), (4, vi at9)] []) : LW C (149 + n) (24032 + 6 * n) x y 1234 [(0, .ref (lc_b C)), (1, vr (lc_GC C) 0), (2, vr (lc_GM C) 0), (3, vr (lc_GC C) 120), (4, vi at9)] [] := by
  obtain ⟨hFC, hFM, hB, hG, h21, hT, hT2, hK, hF⟩ := hI (by have := LOK_hLN h; omega)
  refine lr_aload_n h rfl 1 rfl dl_1234 ?_
  refine lr_cCI (as := []) (k := 0) h kX11 at_0 wX11_forget ll_147 (c_X11_forget x) rfl (by decide) (by decide) rfl (Nat.le_of_ble_eq_true rfl) (Nat.le_of_succ_le hc1) (by omega) dl_1235 (fun z2 c1 w3 p4 => ?_)
  obtain ⟨p4_0, p4_1, p4_2⟩ := p4
  refine lr_aload_n h rfl 2 rfl dl_1238 ?_
  refine lr_cMI (as := []) (k := 0) h kX12 at_0M wX12_forget ll_150 (c_X12_forget y hG) rfl (by decide) (by decide) rfl (Nat.le_of_ble_eq_true rfl) (Nat.le_of_succ_le hc1) (by omega) dl_1239 (fun z6 m5 w7 p8 => ?_)
  obtain ⟨p8_0, p8_1, p8_2, p8_3, p8_4, p8_5⟩ := p8
  refine lr_icmp_eq (tgt := 1551) h dl_1242 (by decide) w3 w7 (fun q1242 => ?_) (fun q1242 => absurd (show z2 = z6 by omega) q1242)
  refine lr_mono (ce2 := 149 + n + 1) (sl2 := 24032 + 6 * n + 6) (Nat.le_succ _) (Nat.le_add_right _ 6) ?_
  exact next c1 m5 (fun q9 => absurd q9 (by omega))
set_option maxHeartbeats 1000000 in
theorem lb_1247 {C : LC} (h : LOK C 5) {x y : Mm} {n : Nat} {at9 : Int} (hI : LI x y n) (h0 : 0 ≤ at9) (e9 : at9 = 5 * n) (h1 : at9 + 5 ≤ lc_L C) (hn : n ≤ 511) (hc1 : 149 + n + 1 ≤ room_1.cells) (hsl1 : 24032 + 6 * n + 6 ≤ room_1.slots) (next : ∀ x' y' : Mm, LI x' y' ((n : Int) + 1) → LW C (149 + n + 1) (24032 + 6 * n + 6) x' y' 1551 [(0, .ref (lc_b C)), (1, vr (lc_GC C) 0), (2, vr (lc_GM C) 0), (3, vr (lc_GC C) 120), (4, vi at9)] []) : LW C (149 + n) (24032 + 6 * n) x y 1247 [(0, .ref (lc_b C)), (1, vr (lc_GC C) 0), (2, vr (lc_GM C) 0), (3, vr (lc_GC C) 120), (4, vi at9)] [] := by
  obtain ⟨hFC, hFM, hB, hG, h21, hT, hT2, hK, hF⟩ := hI (by have := LOK_hLN h; omega)
  refine lr_aload_n h rfl 1 rfl dl_1247 ?_
  refine lr_aload_n h rfl 0 rfl dl_1248 ?_
  refine lr_iload h 4 rfl dl_1249 ?_
  refine lr_iconst h dl_1251 ?_
  refine lr_iadd h dl_1252 ?_
  refine lr_sld h (Nat.le_of_ble_eq_true rfl) (by omega) (by omega) dl_1253 (fun s1 hs2 es3 => ?_)
  refine lr_cCI (as := [vi s1]) (k := 0) h kX11 at_0 wX11_fits ll_151 (f_X11_fits x s1 hs2 hFC) rfl (by decide) (by decide) rfl (Nat.le_of_ble_eq_true rfl) (Nat.le_of_succ_le hc1) (by omega) dl_1254 (fun z5 c4 w6 p7 => ?_)
  obtain ⟨p7_0, p7_1, p7_2, p7_3⟩ := p7
  refine lr_aload_n h rfl 2 rfl dl_1257 ?_
  refine lr_aload_n h rfl 0 rfl dl_1258 ?_
  refine lr_iload h 4 rfl dl_1259 ?_
  refine lr_iconst h dl_1261 ?_
  refine lr_iadd h dl_1262 ?_
  refine lr_sld h (Nat.le_of_ble_eq_true rfl) (by omega) (by omega) dl_1263 (fun s8 hs9 es10 => ?_)
  rw [show s8 = s1 from es10.trans es3.symm]
  refine lr_cMI (as := [vi s1]) (k := 0) h kX12 at_0M wX12_fits ll_154 (f_X12_fits y s1 hs2 hG hFM) rfl (by decide) (by decide) rfl (Nat.le_of_ble_eq_true rfl) (Nat.le_of_succ_le hc1) (by omega) dl_1264 (fun z12 m11 w13 p14 => ?_)
  obtain ⟨p14_0, p14_1, p14_2, p14_3, p14_4⟩ := p14
  have heq : z5 = z12 := by
    by_cases hv : (0 ≤ s1 ∧ s1 < 5)
    · have k1 := p7_1 hv; have k2 := p7_2 hv; have k4 := p14_1 hv; have k5 := p14_2 hv; clear p7_0 p7_1 p7_2 p14_0 p14_1 p14_2; omega
    · have k0 := p7_0 hv; have k3 := p14_0 hv; clear p7_0 p7_1 p7_2 p14_0 p14_1 p14_2; omega
  refine lr_icmp_eq (tgt := 1551) h dl_1267 (by decide) w6 w13 (fun q1267 => ?_) (fun q1267 => absurd heq q1267)
  refine lr_mono (ce2 := 149 + n + 1) (sl2 := 24032 + 6 * n + 6) (Nat.le_succ _) (Nat.le_add_right _ 6) ?_
  exact next c4 m11 (fun q9 => absurd q9 (by omega))
set_option maxHeartbeats 1000000 in
theorem lb_1272 {C : LC} (h : LOK C 5) {x y : Mm} {n : Nat} {at9 : Int} (hI : LI x y n) (h0 : 0 ≤ at9) (e9 : at9 = 5 * n) (h1 : at9 + 5 ≤ lc_L C) (hn : n ≤ 511) (hc1 : 149 + n + 1 ≤ room_1.cells) (hsl1 : 24032 + 6 * n + 6 ≤ room_1.slots) (next : ∀ x' y' : Mm, LI x' y' ((n : Int) + 1) → LW C (149 + n + 1) (24032 + 6 * n + 6) x' y' 1551 [(0, .ref (lc_b C)), (1, vr (lc_GC C) 0), (2, vr (lc_GM C) 0), (3, vr (lc_GC C) 120), (4, vi at9)] []) : LW C (149 + n) (24032 + 6 * n) x y 1272 [(0, .ref (lc_b C)), (1, vr (lc_GC C) 0), (2, vr (lc_GM C) 0), (3, vr (lc_GC C) 120), (4, vi at9)] [] := by
  obtain ⟨hFC, hFM, hB, hG, h21, hT, hT2, hK, hF⟩ := hI (by have := LOK_hLN h; omega)
  refine lr_aload_n h rfl 1 rfl dl_1272 ?_
  refine lr_aload_n h rfl 0 rfl dl_1273 ?_
  refine lr_iload h 4 rfl dl_1274 ?_
  refine lr_iconst h dl_1276 ?_
  refine lr_iadd h dl_1277 ?_
  refine lr_sld h (Nat.le_of_ble_eq_true rfl) (by omega) (by omega) dl_1278 (fun s1 hs2 es3 => ?_)
  refine lr_cCI (as := [vi s1]) (k := 0) h kX11 at_0 wX11_asks ll_155 (f_X11_asks x s1 hs2 hFC) rfl (by decide) (by decide) rfl (Nat.le_of_ble_eq_true rfl) (Nat.le_of_succ_le hc1) (by omega) dl_1279 (fun z5 c4 w6 p7 => ?_)
  obtain ⟨p7_0, p7_1, p7_2, p7_3⟩ := p7
  refine lr_aload_n h rfl 2 rfl dl_1282 ?_
  refine lr_aload_n h rfl 0 rfl dl_1283 ?_
  refine lr_iload h 4 rfl dl_1284 ?_
  refine lr_iconst h dl_1286 ?_
  refine lr_iadd h dl_1287 ?_
  refine lr_sld h (Nat.le_of_ble_eq_true rfl) (by omega) (by omega) dl_1288 (fun s8 hs9 es10 => ?_)
  rw [show s8 = s1 from es10.trans es3.symm]
  refine lr_cMI (as := [vi s1]) (k := 0) h kX12 at_0M wX12_asks ll_158 (f_X12_asks y s1 hs2 hG hFM) rfl (by decide) (by decide) rfl (Nat.le_of_ble_eq_true rfl) (Nat.le_of_succ_le hc1) (by omega) dl_1289 (fun z12 m11 w13 p14 => ?_)
  obtain ⟨p14_0, p14_1, p14_2, p14_3, p14_4⟩ := p14
  have heq : z5 = z12 := by
    by_cases hv : (0 ≤ s1 ∧ s1 < 5)
    · have k1 := p7_1 hv; have k2 := p7_2 hv; have k4 := p14_1 hv; have k5 := p14_2 hv; clear p7_0 p7_1 p7_2 p14_0 p14_1 p14_2; omega
    · have k0 := p7_0 hv; have k3 := p14_0 hv; clear p7_0 p7_1 p7_2 p14_0 p14_1 p14_2; omega
  refine lr_icmp_eq (tgt := 1551) h dl_1292 (by decide) w6 w13 (fun q1292 => ?_) (fun q1292 => absurd heq q1292)
  refine lr_mono (ce2 := 149 + n + 1) (sl2 := 24032 + 6 * n + 6) (Nat.le_succ _) (Nat.le_add_right _ 6) ?_
  exact next c4 m11 (fun q9 => absurd q9 (by omega))
set_option maxHeartbeats 1000000 in
theorem lb_1297 {C : LC} (h : LOK C 5) {x y : Mm} {n : Nat} {at9 : Int} (hI : LI x y n) (h0 : 0 ≤ at9) (e9 : at9 = 5 * n) (h1 : at9 + 5 ≤ lc_L C) (hn : n ≤ 511) (hc1 : 149 + n + 1 ≤ room_1.cells) (hsl1 : 24032 + 6 * n + 6 ≤ room_1.slots) (next : ∀ x' y' : Mm, LI x' y' ((n : Int) + 1) → LW C (149 + n + 1) (24032 + 6 * n + 6) x' y' 1551 [(0, .ref (lc_b C)), (1, vr (lc_GC C) 0), (2, vr (lc_GM C) 0), (3, vr (lc_GC C) 120), (4, vi at9)] []) : LW C (149 + n) (24032 + 6 * n) x y 1297 [(0, .ref (lc_b C)), (1, vr (lc_GC C) 0), (2, vr (lc_GM C) 0), (3, vr (lc_GC C) 120), (4, vi at9)] [] := by
  obtain ⟨hFC, hFM, hB, hG, h21, hT, hT2, hK, hF⟩ := hI (by have := LOK_hLN h; omega)
  refine lr_aload_n h rfl 1 rfl dl_1297 ?_
  refine lr_aload_n h rfl 0 rfl dl_1298 ?_
  refine lr_iload h 4 rfl dl_1299 ?_
  refine lr_iconst h dl_1301 ?_
  refine lr_iadd h dl_1302 ?_
  refine lr_sld h (Nat.le_of_ble_eq_true rfl) (by omega) (by omega) dl_1303 (fun s1 hs2 es3 => ?_)
  refine lr_aload_n h rfl 0 rfl dl_1304 ?_
  refine lr_iload h 4 rfl dl_1305 ?_
  refine lr_iconst h dl_1307 ?_
  refine lr_iadd h dl_1308 ?_
  refine lr_sld h (Nat.le_of_ble_eq_true rfl) (by omega) (by omega) dl_1309 (fun s4 hs5 es6 => ?_)
  refine lr_aload_n h rfl 0 rfl dl_1310 ?_
  refine lr_iload h 4 rfl dl_1311 ?_
  refine lr_iconst h dl_1313 ?_
  refine lr_iadd h dl_1314 ?_
  refine lr_sld h (Nat.le_of_ble_eq_true rfl) (by omega) (by omega) dl_1315 (fun s7 hs8 es9 => ?_)
  refine lr_cCI (as := [vi s1, vi s4, vi s7]) (k := 0) h kX11 at_0 wX11_odds ll_159 (f_X11_odds x s1 s4 s7 hs2 hs5 hs8 hFC) rfl (by decide) (by decide) rfl (Nat.le_of_ble_eq_true rfl) (Nat.le_of_succ_le hc1) (by omega) dl_1316 (fun z11 c10 w12 p13 => ?_)
  obtain ⟨p13_0, p13_1, p13_2, p13_3⟩ := p13
  refine lr_aload_n h rfl 2 rfl dl_1319 ?_
  refine lr_aload_n h rfl 0 rfl dl_1320 ?_
  refine lr_iload h 4 rfl dl_1321 ?_
  refine lr_iconst h dl_1323 ?_
  refine lr_iadd h dl_1324 ?_
  refine lr_sld h (Nat.le_of_ble_eq_true rfl) (by omega) (by omega) dl_1325 (fun s14 hs15 es16 => ?_)
  rw [show s14 = s1 from es16.trans es3.symm]
  refine lr_aload_n h rfl 0 rfl dl_1326 ?_
  refine lr_iload h 4 rfl dl_1327 ?_
  refine lr_iconst h dl_1329 ?_
  refine lr_iadd h dl_1330 ?_
  refine lr_sld h (Nat.le_of_ble_eq_true rfl) (by omega) (by omega) dl_1331 (fun s17 hs18 es19 => ?_)
  rw [show s17 = s4 from es19.trans es6.symm]
  refine lr_aload_n h rfl 0 rfl dl_1332 ?_
  refine lr_iload h 4 rfl dl_1333 ?_
  refine lr_iconst h dl_1335 ?_
  refine lr_iadd h dl_1336 ?_
  refine lr_sld h (Nat.le_of_ble_eq_true rfl) (by omega) (by omega) dl_1337 (fun s20 hs21 es22 => ?_)
  rw [show s20 = s7 from es22.trans es9.symm]
  refine lr_cMI (as := [vi s1, vi s4, vi s7]) (k := 0) h kX12 at_0M wX12_odds ll_162 (f_X12_odds y s1 s4 s7 hs2 hs5 hs8 hG hFM) rfl (by decide) (by decide) rfl (Nat.le_of_ble_eq_true rfl) (Nat.le_of_succ_le hc1) (by omega) dl_1338 (fun z24 m23 w25 p26 => ?_)
  obtain ⟨p26_0, p26_1, p26_2, p26_3, p26_4⟩ := p26
  have heq : z11 = z24 := by
    by_cases hv : (0 ≤ s1 ∧ s1 < 5 ∧ 1 ≤ s7 ∧ s7 ≤ 3)
    · have k1 := p13_1 hv; have k2 := p13_2 hv; have k4 := p26_1 hv; have k5 := p26_2 hv; clear p13_0 p13_1 p13_2 p26_0 p26_1 p26_2; omega
    · have k0 := p13_0 hv; have k3 := p26_0 hv; clear p13_0 p13_1 p13_2 p26_0 p26_1 p26_2; omega
  refine lr_icmp_eq (tgt := 1551) h dl_1341 (by decide) w12 w25 (fun q1341 => ?_) (fun q1341 => absurd heq q1341)
  refine lr_mono (ce2 := 149 + n + 1) (sl2 := 24032 + 6 * n + 6) (Nat.le_succ _) (Nat.le_add_right _ 6) ?_
  exact next c10 m23 (fun q9 => absurd q9 (by omega))
set_option maxHeartbeats 1000000 in
theorem lb_1346 {C : LC} (h : LOK C 5) {x y : Mm} {n : Nat} {at9 : Int} (hI : LI x y n) (h0 : 0 ≤ at9) (e9 : at9 = 5 * n) (h1 : at9 + 5 ≤ lc_L C) (hn : n ≤ 511) (hc1 : 149 + n + 1 ≤ room_1.cells) (hsl1 : 24032 + 6 * n + 6 ≤ room_1.slots) (next : ∀ x' y' : Mm, LI x' y' ((n : Int) + 1) → LW C (149 + n + 1) (24032 + 6 * n + 6) x' y' 1551 [(0, .ref (lc_b C)), (1, vr (lc_GC C) 0), (2, vr (lc_GM C) 0), (3, vr (lc_GC C) 120), (4, vi at9)] []) : LW C (149 + n) (24032 + 6 * n) x y 1346 [(0, .ref (lc_b C)), (1, vr (lc_GC C) 0), (2, vr (lc_GM C) 0), (3, vr (lc_GC C) 120), (4, vi at9)] [] := by
  obtain ⟨hFC, hFM, hB, hG, h21, hT, hT2, hK, hF⟩ := hI (by have := LOK_hLN h; omega)
  refine lr_aload_n h rfl 1 rfl dl_1346 ?_
  refine lr_aload_n h rfl 0 rfl dl_1347 ?_
  refine lr_iload h 4 rfl dl_1348 ?_
  refine lr_iconst h dl_1350 ?_
  refine lr_iadd h dl_1351 ?_
  refine lr_sld h (Nat.le_of_ble_eq_true rfl) (by omega) (by omega) dl_1352 (fun s1 hs2 es3 => ?_)
  refine lr_cCI (as := [vi s1]) (k := 0) h kX11 at_0 wX11_duel ll_163 (f_X11_duel x s1 hs2 hFC) rfl (by decide) (by decide) rfl (Nat.le_of_ble_eq_true rfl) (Nat.le_of_succ_le hc1) (by omega) dl_1353 (fun z5 c4 w6 p7 => ?_)
  obtain ⟨p7_0, p7_1, p7_2⟩ := p7
  refine lr_aload_n h rfl 2 rfl dl_1356 ?_
  refine lr_aload_n h rfl 0 rfl dl_1357 ?_
  refine lr_iload h 4 rfl dl_1358 ?_
  refine lr_iconst h dl_1360 ?_
  refine lr_iadd h dl_1361 ?_
  refine lr_sld h (Nat.le_of_ble_eq_true rfl) (by omega) (by omega) dl_1362 (fun s8 hs9 es10 => ?_)
  rw [show s8 = s1 from es10.trans es3.symm]
  refine lr_cMI (as := [vi s1]) (k := 0) h kX12 at_0M wX12_duel ll_166 (f_X12_duel y s1 hs2 hG hFM) rfl (by decide) (by decide) rfl (Nat.le_of_ble_eq_true rfl) (Nat.le_of_succ_le hc1) (by omega) dl_1363 (fun z12 m11 w13 p14 => ?_)
  obtain ⟨p14_0, p14_1, p14_2, p14_3⟩ := p14
  have heq : z5 = z12 := by
    by_cases hv : (0 ≤ s1 ∧ s1 < 4)
    · clear p7_0 p14_0; omega
    · have k0 := p7_0 hv; have k1 := p14_0 hv; clear p7_0 p14_0; omega
  refine lr_icmp_eq (tgt := 1551) h dl_1366 (by decide) w6 w13 (fun q1366 => ?_) (fun q1366 => absurd heq q1366)
  refine lr_mono (ce2 := 149 + n + 1) (sl2 := 24032 + 6 * n + 6) (Nat.le_succ _) (Nat.le_add_right _ 6) ?_
  exact next c4 m11 (fun q9 => absurd q9 (by omega))
set_option maxHeartbeats 1000000 in
theorem lb_1371 {C : LC} (h : LOK C 5) {x y : Mm} {n : Nat} {at9 : Int} (hI : LI x y n) (h0 : 0 ≤ at9) (e9 : at9 = 5 * n) (h1 : at9 + 5 ≤ lc_L C) (hn : n ≤ 511) (hc1 : 149 + n + 1 ≤ room_1.cells) (hsl1 : 24032 + 6 * n + 6 ≤ room_1.slots) (next : ∀ x' y' : Mm, LI x' y' ((n : Int) + 1) → LW C (149 + n + 1) (24032 + 6 * n + 6) x' y' 1551 [(0, .ref (lc_b C)), (1, vr (lc_GC C) 0), (2, vr (lc_GM C) 0), (3, vr (lc_GC C) 120), (4, vi at9)] []) : LW C (149 + n) (24032 + 6 * n) x y 1371 [(0, .ref (lc_b C)), (1, vr (lc_GC C) 0), (2, vr (lc_GM C) 0), (3, vr (lc_GC C) 120), (4, vi at9)] [] := by
  obtain ⟨hFC, hFM, hB, hG, h21, hT, hT2, hK, hF⟩ := hI (by have := LOK_hLN h; omega)
  refine lr_aload_n h rfl 1 rfl dl_1371 ?_
  refine lr_cCI (as := []) (k := 0) h kX11 at_0 wX11_law ll_167 (f_X11_law x hFC) rfl (by decide) (by decide) rfl (Nat.le_of_ble_eq_true rfl) (Nat.le_of_succ_le hc1) (by omega) dl_1372 (fun z2 c1 w3 p4 => ?_)
  obtain ⟨p4_0, p4_1⟩ := p4
  refine lr_aload_n h rfl 2 rfl dl_1375 ?_
  refine lr_cMI (as := []) (k := 0) h kX12 at_0M wX12_law ll_170 (f_X12_law y hG hFM) rfl (by decide) (by decide) rfl (Nat.le_of_ble_eq_true rfl) (Nat.le_of_succ_le hc1) (by omega) dl_1376 (fun z6 m5 w7 p8 => ?_)
  obtain ⟨p8_0, p8_1, p8_2⟩ := p8
  refine lr_icmp_eq (tgt := 1551) h dl_1379 (by decide) w3 w7 (fun q1379 => ?_) (fun q1379 => absurd (show z2 = z6 by omega) q1379)
  refine lr_mono (ce2 := 149 + n + 1) (sl2 := 24032 + 6 * n + 6) (Nat.le_succ _) (Nat.le_add_right _ 6) ?_
  exact next c1 m5 (fun q9 => absurd q9 (by omega))
set_option maxHeartbeats 1000000 in
theorem lb_1384 {C : LC} (h : LOK C 5) {x y : Mm} {n : Nat} {at9 : Int} (hI : LI x y n) (h0 : 0 ≤ at9) (e9 : at9 = 5 * n) (h1 : at9 + 5 ≤ lc_L C) (hn : n ≤ 511) (hc1 : 149 + n + 1 ≤ room_1.cells) (hsl1 : 24032 + 6 * n + 6 ≤ room_1.slots) (next : ∀ x' y' : Mm, LI x' y' ((n : Int) + 1) → LW C (149 + n + 1) (24032 + 6 * n + 6) x' y' 1551 [(0, .ref (lc_b C)), (1, vr (lc_GC C) 0), (2, vr (lc_GM C) 0), (3, vr (lc_GC C) 120), (4, vi at9)] []) : LW C (149 + n) (24032 + 6 * n) x y 1384 [(0, .ref (lc_b C)), (1, vr (lc_GC C) 0), (2, vr (lc_GM C) 0), (3, vr (lc_GC C) 120), (4, vi at9)] [] := by
  obtain ⟨hFC, hFM, hB, hG, h21, hT, hT2, hK, hF⟩ := hI (by have := LOK_hLN h; omega)
  refine lr_aload_n h rfl 1 rfl dl_1384 ?_
  refine lr_aload_n h rfl 0 rfl dl_1385 ?_
  refine lr_iload h 4 rfl dl_1386 ?_
  refine lr_iconst h dl_1388 ?_
  refine lr_iadd h dl_1389 ?_
  refine lr_sld h (Nat.le_of_ble_eq_true rfl) (by omega) (by omega) dl_1390 (fun s1 hs2 es3 => ?_)
  refine lr_aload_n h rfl 0 rfl dl_1391 ?_
  refine lr_iload h 4 rfl dl_1392 ?_
  refine lr_iconst h dl_1394 ?_
  refine lr_iadd h dl_1395 ?_
  refine lr_sld h (Nat.le_of_ble_eq_true rfl) (by omega) (by omega) dl_1396 (fun s4 hs5 es6 => ?_)
  refine lr_cCI (as := [vi s1, vi s4]) (k := 0) h kX11 at_0 wX11_years ll_171 (g_X11_years x s1 s4 hs2 hs5 hFC hB) rfl (by decide) (by decide) rfl (Nat.le_of_ble_eq_true rfl) (Nat.le_of_succ_le hc1) (by omega) dl_1397 (fun z8 c7 w9 p10 => ?_)
  obtain ⟨p10_0, p10_1, p10_2⟩ := p10
  refine lr_aload_n h rfl 2 rfl dl_1400 ?_
  refine lr_aload_n h rfl 0 rfl dl_1401 ?_
  refine lr_iload h 4 rfl dl_1402 ?_
  refine lr_iconst h dl_1404 ?_
  refine lr_iadd h dl_1405 ?_
  refine lr_sld h (Nat.le_of_ble_eq_true rfl) (by omega) (by omega) dl_1406 (fun s11 hs12 es13 => ?_)
  rw [show s11 = s1 from es13.trans es3.symm]
  refine lr_aload_n h rfl 0 rfl dl_1407 ?_
  refine lr_iload h 4 rfl dl_1408 ?_
  refine lr_iconst h dl_1410 ?_
  refine lr_iadd h dl_1411 ?_
  refine lr_sld h (Nat.le_of_ble_eq_true rfl) (by omega) (by omega) dl_1412 (fun s14 hs15 es16 => ?_)
  rw [show s14 = s4 from es16.trans es6.symm]
  refine lr_cMI (as := [vi s1, vi s4]) (k := 0) h kX12 at_0M wX12_years ll_174 (g_X12_years y s1 s4 hs2 hs5 hG hFM) rfl (by decide) (by decide) rfl (Nat.le_of_ble_eq_true rfl) (Nat.le_of_succ_le hc1) (by omega) dl_1413 (fun z18 m17 w19 p20 => ?_)
  obtain ⟨p20_0, p20_1, p20_2, p20_3⟩ := p20
  have heq : z8 = z18 := by
    by_cases hv : (1 ≤ s4 ∧ s4 ≤ 40)
    · clear p10_0 p20_0; omega
    · have k0 := p10_0 hv; have k1 := p20_0 hv; clear p10_0 p20_0; omega
  refine lr_icmp_eq (tgt := 1551) h dl_1416 (by decide) w9 w19 (fun q1416 => ?_) (fun q1416 => absurd heq q1416)
  refine lr_mono (ce2 := 149 + n + 1) (sl2 := 24032 + 6 * n + 6) (Nat.le_succ _) (Nat.le_add_right _ 6) ?_
  exact next c7 m17 (fun q9 => absurd q9 (by omega))
set_option maxHeartbeats 1000000 in
theorem lb_1421 {C : LC} (h : LOK C 5) {x y : Mm} {n : Nat} {at9 : Int} (hI : LI x y n) (h0 : 0 ≤ at9) (e9 : at9 = 5 * n) (h1 : at9 + 5 ≤ lc_L C) (hn : n ≤ 511) (hc1 : 149 + n + 1 ≤ room_1.cells) (hsl1 : 24032 + 6 * n + 6 ≤ room_1.slots) (next : ∀ x' y' : Mm, LI x' y' ((n : Int) + 1) → LW C (149 + n + 1) (24032 + 6 * n + 6) x' y' 1551 [(0, .ref (lc_b C)), (1, vr (lc_GC C) 0), (2, vr (lc_GM C) 0), (3, vr (lc_GC C) 120), (4, vi at9)] []) : LW C (149 + n) (24032 + 6 * n) x y 1421 [(0, .ref (lc_b C)), (1, vr (lc_GC C) 0), (2, vr (lc_GM C) 0), (3, vr (lc_GC C) 120), (4, vi at9)] [] := by
  obtain ⟨hFC, hFM, hB, hG, h21, hT, hT2, hK, hF⟩ := hI (by have := LOK_hLN h; omega)
  refine lr_aload_n h rfl 1 rfl dl_1421 ?_
  refine lr_aload_n h rfl 0 rfl dl_1422 ?_
  refine lr_iload h 4 rfl dl_1423 ?_
  refine lr_iconst h dl_1425 ?_
  refine lr_iadd h dl_1426 ?_
  refine lr_sld h (Nat.le_of_ble_eq_true rfl) (by omega) (by omega) dl_1427 (fun s1 hs2 es3 => ?_)
  refine lr_cCI (as := [vi s1]) (k := 0) h kX11 at_0 wX11_keep ll_175 (c_X11_keep x s1 hs2) rfl (by decide) (by decide) rfl (Nat.le_of_ble_eq_true rfl) (Nat.le_of_succ_le hc1) (by omega) dl_1428 (fun z5 c4 w6 p7 => ?_)
  obtain ⟨p7_0, p7_1, p7_2, p7_3, p7_4⟩ := p7
  refine lr_aload_n h rfl 2 rfl dl_1431 ?_
  refine lr_aload_n h rfl 0 rfl dl_1432 ?_
  refine lr_iload h 4 rfl dl_1433 ?_
  refine lr_iconst h dl_1435 ?_
  refine lr_iadd h dl_1436 ?_
  refine lr_sld h (Nat.le_of_ble_eq_true rfl) (by omega) (by omega) dl_1437 (fun s8 hs9 es10 => ?_)
  rw [show s8 = s1 from es10.trans es3.symm]
  refine lr_cMI (as := [vi s1]) (k := 0) h kX12 at_0M wX12_keep ll_178 (c_X12_keep y s1 hs2 hG) rfl (by decide) (by decide) rfl (Nat.le_of_ble_eq_true rfl) (Nat.le_of_succ_le hc1) (by omega) dl_1438 (fun z12 m11 w13 p14 => ?_)
  obtain ⟨p14_0, p14_1, p14_2, p14_3, p14_4, p14_5, p14_6, p14_7⟩ := p14
  refine lr_icmp_eq (tgt := 1551) h dl_1441 (by decide) w6 w13 (fun q1441 => ?_) (fun q1441 => absurd (show z5 = z12 by omega) q1441)
  refine lr_mono (ce2 := 149 + n + 1) (sl2 := 24032 + 6 * n + 6) (Nat.le_succ _) (Nat.le_add_right _ 6) ?_
  exact next c4 m11 (fun q9 => absurd q9 (by omega))
set_option maxHeartbeats 1000000 in
theorem lb_1446 {C : LC} (h : LOK C 5) {x y : Mm} {n : Nat} {at9 : Int} (hI : LI x y n) (h0 : 0 ≤ at9) (e9 : at9 = 5 * n) (h1 : at9 + 5 ≤ lc_L C) (hn : n ≤ 511) (hc1 : 149 + n + 1 ≤ room_1.cells) (hsl1 : 24032 + 6 * n + 6 ≤ room_1.slots) (next : ∀ x' y' : Mm, LI x' y' ((n : Int) + 1) → LW C (149 + n + 1) (24032 + 6 * n + 6) x' y' 1551 [(0, .ref (lc_b C)), (1, vr (lc_GC C) 0), (2, vr (lc_GM C) 0), (3, vr (lc_GC C) 120), (4, vi at9)] []) : LW C (149 + n) (24032 + 6 * n) x y 1446 [(0, .ref (lc_b C)), (1, vr (lc_GC C) 0), (2, vr (lc_GM C) 0), (3, vr (lc_GC C) 120), (4, vi at9)] [] := by
  obtain ⟨hFC, hFM, hB, hG, h21, hT, hT2, hK, hF⟩ := hI (by have := LOK_hLN h; omega)
  refine lr_aload_n h rfl 1 rfl dl_1446 ?_
  refine lr_aload_n h rfl 0 rfl dl_1447 ?_
  refine lr_iload h 4 rfl dl_1448 ?_
  refine lr_iconst h dl_1450 ?_
  refine lr_iadd h dl_1451 ?_
  refine lr_sld h (Nat.le_of_ble_eq_true rfl) (by omega) (by omega) dl_1452 (fun s1 hs2 es3 => ?_)
  refine lr_cCI (as := [vi s1]) (k := 0) h kX11 at_0 wX11_again ll_179 (c_X11_again x s1 hs2) rfl (by decide) (by decide) rfl (Nat.le_of_ble_eq_true rfl) (Nat.le_of_succ_le hc1) (by omega) dl_1453 (fun z5 c4 w6 p7 => ?_)
  obtain ⟨p7_0, p7_1, p7_2⟩ := p7
  refine lr_aload_n h rfl 2 rfl dl_1456 ?_
  refine lr_aload_n h rfl 0 rfl dl_1457 ?_
  refine lr_iload h 4 rfl dl_1458 ?_
  refine lr_iconst h dl_1460 ?_
  refine lr_iadd h dl_1461 ?_
  refine lr_sld h (Nat.le_of_ble_eq_true rfl) (by omega) (by omega) dl_1462 (fun s8 hs9 es10 => ?_)
  rw [show s8 = s1 from es10.trans es3.symm]
  refine lr_cMI (as := [vi s1]) (k := 0) h kX12 at_0M wX12_again ll_182 (c_X12_again y s1 hs2 hG (by omega)) rfl (by decide) (by decide) rfl (Nat.le_of_ble_eq_true rfl) (Nat.le_of_succ_le hc1) (by omega) dl_1463 (fun z12 m11 w13 p14 => ?_)
  obtain ⟨p14_0, p14_1, p14_2, p14_3, p14_4, p14_5, p14_6⟩ := p14
  have hF9 : x 77 s1 = y 27 s1 := hF s1
  refine lr_icmp_eq (tgt := 1551) h dl_1466 (by decide) w6 w13 (fun q1466 => ?_) (fun q1466 => absurd (show z5 = z12 by omega) q1466)
  refine lr_mono (ce2 := 149 + n + 1) (sl2 := 24032 + 6 * n + 6) (Nat.le_succ _) (Nat.le_add_right _ 6) ?_
  exact next c4 m11 (fun q9 => absurd q9 (by omega))
set_option maxHeartbeats 1000000 in
theorem lb_1471 {C : LC} (h : LOK C 5) {x y : Mm} {n : Nat} {at9 : Int} (hI : LI x y n) (h0 : 0 ≤ at9) (e9 : at9 = 5 * n) (h1 : at9 + 5 ≤ lc_L C) (hn : n ≤ 511) (hc1 : 149 + n + 1 ≤ room_1.cells) (hsl1 : 24032 + 6 * n + 6 ≤ room_1.slots) (next : ∀ x' y' : Mm, LI x' y' ((n : Int) + 1) → LW C (149 + n + 1) (24032 + 6 * n + 6) x' y' 1551 [(0, .ref (lc_b C)), (1, vr (lc_GC C) 0), (2, vr (lc_GM C) 0), (3, vr (lc_GC C) 120), (4, vi at9)] []) : LW C (149 + n) (24032 + 6 * n) x y 1471 [(0, .ref (lc_b C)), (1, vr (lc_GC C) 0), (2, vr (lc_GM C) 0), (3, vr (lc_GC C) 120), (4, vi at9)] [] := by
  obtain ⟨hFC, hFM, hB, hG, h21, hT, hT2, hK, hF⟩ := hI (by have := LOK_hLN h; omega)
  refine lr_aload_n h rfl 1 rfl dl_1471 ?_
  refine lr_aload_n h rfl 0 rfl dl_1472 ?_
  refine lr_iload h 4 rfl dl_1473 ?_
  refine lr_iconst h dl_1475 ?_
  refine lr_iadd h dl_1476 ?_
  refine lr_sld h (Nat.le_of_ble_eq_true rfl) (by omega) (by omega) dl_1477 (fun s1 hs2 es3 => ?_)
  refine lr_cCI (as := [vi s1]) (k := 0) h kX11 at_0 wX11_count ll_183 (f_X11_count x s1 hs2 hFC) rfl (by decide) (by decide) rfl (Nat.le_of_ble_eq_true rfl) (Nat.le_of_succ_le hc1) (by omega) dl_1478 (fun z5 c4 w6 p7 => ?_)
  obtain ⟨p7_0, p7_1, p7_2, p7_3⟩ := p7
  have e_p7 : x = c4 := p7_3.symm
  subst e_p7
  refine lr_aload_n h rfl 2 rfl dl_1481 ?_
  refine lr_aload_n h rfl 0 rfl dl_1482 ?_
  refine lr_iload h 4 rfl dl_1483 ?_
  refine lr_iconst h dl_1485 ?_
  refine lr_iadd h dl_1486 ?_
  refine lr_sld h (Nat.le_of_ble_eq_true rfl) (by omega) (by omega) dl_1487 (fun s8 hs9 es10 => ?_)
  rw [show s8 = s1 from es10.trans es3.symm]
  refine lr_cMI (as := [vi s1]) (k := 0) h kX12 at_0M wX12_count ll_186 (f_X12_count y s1 hs2 hG hFM) rfl (by decide) (by decide) rfl (Nat.le_of_ble_eq_true rfl) (Nat.le_of_succ_le hc1) (by omega) dl_1488 (fun z12 m11 w13 p14 => ?_)
  obtain ⟨p14_0, p14_1, p14_2, p14_3, p14_4⟩ := p14
  have heq : z5 = z12 := by
    by_cases hv : (0 ≤ s1 ∧ s1 ≤ 9)
    · clear p7_2 p14_2; omega
    · have k0 := p7_2 hv; have k1 := p14_2 hv; clear p7_2 p14_2; omega
  refine lr_icmp_eq (tgt := 1551) h dl_1491 (by decide) w6 w13 (fun q1491 => ?_) (fun q1491 => absurd heq q1491)
  refine lr_mono (ce2 := 149 + n + 1) (sl2 := 24032 + 6 * n + 6) (Nat.le_succ _) (Nat.le_add_right _ 6) ?_
  exact next x m11 (fun q9 => absurd q9 (by omega))
set_option maxHeartbeats 1000000 in
theorem lb_1496 {C : LC} (h : LOK C 5) {x y : Mm} {n : Nat} {at9 : Int} (hI : LI x y n) (h0 : 0 ≤ at9) (e9 : at9 = 5 * n) (h1 : at9 + 5 ≤ lc_L C) (hn : n ≤ 511) (hc1 : 149 + n + 1 ≤ room_1.cells) (hsl1 : 24032 + 6 * n + 6 ≤ room_1.slots) (next : ∀ x' y' : Mm, LI x' y' ((n : Int) + 1) → LW C (149 + n + 1) (24032 + 6 * n + 6) x' y' 1551 [(0, .ref (lc_b C)), (1, vr (lc_GC C) 0), (2, vr (lc_GM C) 0), (3, vr (lc_GC C) 120), (4, vi at9)] []) : LW C (149 + n) (24032 + 6 * n) x y 1496 [(0, .ref (lc_b C)), (1, vr (lc_GC C) 0), (2, vr (lc_GM C) 0), (3, vr (lc_GC C) 120), (4, vi at9)] [] := by
  obtain ⟨hFC, hFM, hB, hG, h21, hT, hT2, hK, hF⟩ := hI (by have := LOK_hLN h; omega)
  refine lr_aload_n h rfl 1 rfl dl_1496 ?_
  refine lr_aload_n h rfl 0 rfl dl_1497 ?_
  refine lr_iload h 4 rfl dl_1498 ?_
  refine lr_iconst h dl_1500 ?_
  refine lr_iadd h dl_1501 ?_
  refine lr_sld h (Nat.le_of_ble_eq_true rfl) (by omega) (by omega) dl_1502 (fun s1 hs2 es3 => ?_)
  refine lr_aload_n h rfl 3 rfl dl_1503 ?_
  refine lr_cW (np := 3) (as := fun G => [vr G 0, vi s1, vr G 120]) h wcL_row wsL_row iL ll_187 ⟨by decide, by decide, by decide +kernel⟩ (f_L_row x hFC hs2) rfl (by decide) (by decide) rfl (Nat.le_of_ble_eq_true rfl) (by show 149 + n + 1 ≤ room_1.cells; exact hc1) hsl1 dl_1504 (fun z5 c4 w6 p7 => ?_)
  obtain ⟨p7_0, p7_1⟩ := p7
  refine lr_istore (L' := [(0, .ref (lc_b C)), (1, vr (lc_GC C) 0), (2, vr (lc_GM C) 0), (3, vr (lc_GC C) 120), (4, vi at9), (5, vi z5)]) h dl_1507 (by decide) [1, 2, 3, 4, 5, 0] rfl ?_
  refine lr_aload_n h rfl 2 rfl dl_1509 ?_
  refine lr_aload_n h rfl 0 rfl dl_1510 ?_
  refine lr_iload h 4 rfl dl_1511 ?_
  refine lr_iconst h dl_1513 ?_
  refine lr_iadd h dl_1514 ?_
  refine lr_sld h (Nat.le_of_ble_eq_true rfl) (by omega) (by omega) dl_1515 (fun s8 hs9 es10 => ?_)
  rw [show s8 = s1 from es10.trans es3.symm]
  refine lr_cML (as := [vi s1]) (k := 0) h kX12 at_0M wX12_row ll_190 (f_X12_row y s1 hs2 hG hFM) rfl (by decide) (by decide) rfl (Nat.le_of_ble_eq_true rfl) hc1 hsl1 dl_1516 (fun z12 m11 w13 p14 => ?_)
  obtain ⟨p14_0, p14_1, p14_2⟩ := p14
  refine lr_lstore (L' := [(0, .ref (lc_b C)), (1, vr (lc_GC C) 0), (2, vr (lc_GM C) 0), (3, vr (lc_GC C) 120), (4, vi at9), (5, vi z5), (6, vj z12)]) h dl_1519 (by decide) [1, 2, 3, 4, 5, 6, 0] rfl ?_
  refine lr_aload_n h rfl 2 rfl dl_1521 ?_
  refine lr_cMI (as := []) (k := 0) h kX12 at_0M wX12_thrown ll_51 (c_X12_thrown m11) rfl (by decide) (by decide) rfl (Nat.le_of_ble_eq_true rfl) hc1 hsl1 dl_1522 (fun z16 m15 w17 p18 => ?_)
  obtain ⟨p18_0, p18_1, p18_2, p18_3⟩ := p18
  have e_p18 : m11 = m15 := p18_3.symm
  subst e_p18
  refine lr_iload h 5 rfl dl_1525 ?_
  refine lr_icmp_eq (tgt := 1532) h dl_1527 (by decide) w17 w6 (fun q1527 => ?_) (fun q1527 => absurd (show z16 = z5 by omega) q1527)
  refine lr_iload h 5 rfl dl_1532 ?_
  refine lr_if_ne (tgt := 1548) h dl_1534 (by decide) w6 (fun q1534 => ?_) (fun q1534 => absurd q1534 (by omega))
  refine lr_goto (tgt := 1551) h dl_1548 (by decide) ?_
  refine lr_sub [0, 1, 2, 3, 4] rfl ?_
  exact next c4 m11 (fun q9 => absurd q9 (by omega))
set_option maxHeartbeats 4000000 in
theorem law_head {C : LC} (h : LOK C 5) {x y : Mm} {n : Nat} {at9 : Int} (hI : LI x y n) (h0 : 0 ≤ at9) (e9 : at9 = 5 * n) (hn : n ≤ 512) (hc1 : 149 + n + 1 ≤ room_1.cells) (hsl1 : 24032 + 6 * n + 6 ≤ room_1.slots) (nx : at9 + 5 ≤ (lc_L C : Int) → ∀ x' y' : Mm, LI x' y' ((n : Int) + 1) → LW C (149 + n + 1) (24032 + 6 * n + 6) x' y' 23 [(0, .ref (lc_b C)), (1, vr (lc_GC C) 0), (2, vr (lc_GM C) 0), (3, vr (lc_GC C) 120), (4, vi (at9 + 5))] []) : LW C (149 + n) (24032 + 6 * n) x y 23 [(0, .ref (lc_b C)), (1, vr (lc_GC C) 0), (2, vr (lc_GM C) 0), (3, vr (lc_GC C) 120), (4, vi at9)] [] := by
  skip
  have hLN : lc_L C ≤ 5 := LOK_hLN h
  refine lr_iload h 4 rfl dl_23 ?_
  refine lr_aload_n h rfl 0 rfl dl_25 ?_
  refine lr_len h (Nat.le_of_ble_eq_true rfl) dl_26 ?_
  refine lr_iconst h dl_27 ?_
  refine lr_isub h dl_28 ?_
  refine lr_icmp_gt (tgt := 1557) h dl_29 (by decide) (by omega) (by omega) (fun q => ?_) (fun q => ?_)
  · refine lr_sub [] rfl ?_
    refine lr_iconst h dl_1557 ?_
    exact lr_one h (by omega) (by omega) dl_1558
  · have nj : ∀ x' y' : Mm, LI x' y' ((n : Int) + 1) → LW C (149 + n + 1) (24032 + 6 * n + 6) x' y' 1551 [(0, .ref (lc_b C)), (1, vr (lc_GC C) 0), (2, vr (lc_GM C) 0), (3, vr (lc_GC C) 120), (4, vi at9)] [] := fun x' y' hI1 => by
      refine lr_iinc (j := 4) (L' := [(0, .ref (lc_b C)), (1, vr (lc_GC C) 0), (2, vr (lc_GM C) 0), (3, vr (lc_GC C) 120), (4, vi (at9 + 5))]) h dl_1551 rfl (by decide) [1, 2, 3, 4, 0] rfl ?_
      exact lr_goto (tgt := 23) h dl_1554 (by decide) (nx (by omega) x' y' hI1)
    refine lr_aload_n h rfl 0 rfl dl_32 ?_
    refine lr_iload h 4 rfl dl_33 ?_
    refine lr_sld h (Nat.le_of_ble_eq_true rfl) (by omega) (by omega) dl_35 (fun s1 hs1 es1 => ?_)
    refine lr_bipush h (by decide) dl_36 ?_
    refine lr_iand h dl_38 (fun z hz ez bz => ?_)
    have bz1 := bz (by omega) (by omega)
    clear ez
    by_cases c : z ≤ 38
    · have cs : z = 0 ∨ z = 1 ∨ z = 2 ∨ z = 3 ∨ z = 4 ∨ z = 5 ∨ z = 6 ∨ z = 7 ∨ z = 8 ∨ z = 9 ∨ z = 10 ∨ z = 11 ∨ z = 12 ∨ z = 13 ∨ z = 14 ∨ z = 15 ∨ z = 16 ∨ z = 17 ∨ z = 18 ∨ z = 19 ∨ z = 20 ∨ z = 21 ∨ z = 22 ∨ z = 23 ∨ z = 24 ∨ z = 25 ∨ z = 26 ∨ z = 27 ∨ z = 28 ∨ z = 29 ∨ z = 30 ∨ z = 31 ∨ z = 32 ∨ z = 33 ∨ z = 34 ∨ z = 35 ∨ z = 36 ∨ z = 37 ∨ z = 38 := by omega
      rcases cs with rfl | rfl | rfl | rfl | rfl | rfl | rfl | rfl | rfl | rfl | rfl | rfl | rfl | rfl | rfl | rfl | rfl | rfl | rfl | rfl | rfl | rfl | rfl | rfl | rfl | rfl | rfl | rfl | rfl | rfl | rfl | rfl | rfl | rfl | rfl | rfl | rfl | rfl | rfl
      · exact lr_tab_in (off := 169) (tgt := 208) h dl_39 (by omega) (by omega) (by omega) rfl (by decide) (lb_208 h hI h0 e9 (by omega) (by omega) hc1 hsl1 nj)
      · exact lr_tab_in (off := 194) (tgt := 233) h dl_39 (by omega) (by omega) (by omega) rfl (by decide) (lb_233 h hI h0 e9 (by omega) (by omega) hc1 hsl1 nj)
      · exact lr_tab_in (off := 219) (tgt := 258) h dl_39 (by omega) (by omega) (by omega) rfl (by decide) (lb_258 h hI h0 e9 (by omega) (by omega) hc1 hsl1 nj)
      · exact lr_tab_in (off := 244) (tgt := 283) h dl_39 (by omega) (by omega) (by omega) rfl (by decide) (lb_283 h hI h0 e9 (by omega) (by omega) hc1 hsl1 nj)
      · exact lr_tab_in (off := 257) (tgt := 296) h dl_39 (by omega) (by omega) (by omega) rfl (by decide) (lb_296 h hI h0 e9 (by omega) (by omega) hc1 hsl1 nj)
      · exact lr_tab_in (off := 325) (tgt := 364) h dl_39 (by omega) (by omega) (by omega) rfl (by decide) (lb_364 h hI h0 e9 (by omega) (by omega) hc1 hsl1 nj)
      · exact lr_tab_in (off := 393) (tgt := 432) h dl_39 (by omega) (by omega) (by omega) rfl (by decide) (lb_432 h hI h0 e9 (by omega) (by omega) hc1 hsl1 nj)
      · exact lr_tab_in (off := 454) (tgt := 493) h dl_39 (by omega) (by omega) (by omega) rfl (by decide) (lb_493 h hI h0 e9 (by omega) (by omega) hc1 hsl1 nj)
      · exact lr_tab_in (off := 491) (tgt := 530) h dl_39 (by omega) (by omega) (by omega) rfl (by decide) (lb_530 h hI h0 e9 (by omega) (by omega) hc1 hsl1 nj)
      · exact lr_tab_in (off := 528) (tgt := 567) h dl_39 (by omega) (by omega) (by omega) rfl (by decide) (lb_567 h hI h0 e9 (by omega) (by omega) hc1 hsl1 nj)
      · exact lr_tab_in (off := 577) (tgt := 616) h dl_39 (by omega) (by omega) (by omega) rfl (by decide) (lb_616 h hI h0 e9 (by omega) (by omega) hc1 hsl1 nj)
      · exact lr_tab_in (off := 626) (tgt := 665) h dl_39 (by omega) (by omega) (by omega) rfl (by decide) (lb_665 h hI h0 e9 (by omega) (by omega) hc1 hsl1 nj)
      · exact lr_tab_in (off := 663) (tgt := 702) h dl_39 (by omega) (by omega) (by omega) rfl (by decide) (lb_702 h hI h0 e9 (by omega) (by omega) hc1 hsl1 nj)
      · exact lr_tab_in (off := 700) (tgt := 739) h dl_39 (by omega) (by omega) (by omega) rfl (by decide) (lb_739 h hI h0 e9 (by omega) (by omega) hc1 hsl1 nj)
      · exact lr_tab_in (off := 713) (tgt := 752) h dl_39 (by omega) (by omega) (by omega) rfl (by decide) (lb_752 h hI h0 e9 (by omega) (by omega) hc1 hsl1 nj)
      · exact lr_tab_in (off := 726) (tgt := 765) h dl_39 (by omega) (by omega) (by omega) rfl (by decide) (lb_765 h hI h0 e9 (by omega) (by omega) hc1 hsl1 nj)
      · exact lr_tab_in (off := 763) (tgt := 802) h dl_39 (by omega) (by omega) (by omega) rfl (by decide) (lb_802 h hI h0 e9 (by omega) (by omega) hc1 hsl1 nj)
      · exact lr_tab_in (off := 788) (tgt := 827) h dl_39 (by omega) (by omega) (by omega) rfl (by decide) (lb_827 h hI h0 e9 (by omega) (by omega) hc1 hsl1 nj)
      · exact lr_tab_in (off := 825) (tgt := 864) h dl_39 (by omega) (by omega) (by omega) rfl (by decide) (lb_864 h hI h0 e9 (by omega) (by omega) hc1 hsl1 nj)
      · exact lr_tab_in (off := 850) (tgt := 889) h dl_39 (by omega) (by omega) (by omega) rfl (by decide) (lb_889 h hI h0 e9 (by omega) (by omega) hc1 hsl1 nj)
      · exact lr_tab_in (off := 887) (tgt := 926) h dl_39 (by omega) (by omega) (by omega) rfl (by decide) (lb_926 h hI h0 e9 (by omega) (by omega) hc1 hsl1 nj)
      · exact lr_tab_in (off := 912) (tgt := 951) h dl_39 (by omega) (by omega) (by omega) rfl (by decide) (lb_951 h hI h0 e9 (by omega) (by omega) hc1 hsl1 nj)
      · exact lr_tab_in (off := 973) (tgt := 1012) h dl_39 (by omega) (by omega) (by omega) rfl (by decide) (lb_1012 h hI h0 e9 (by omega) (by omega) hc1 hsl1 nj)
      · exact lr_tab_in (off := 1022) (tgt := 1061) h dl_39 (by omega) (by omega) (by omega) rfl (by decide) (lb_1061 h hI h0 e9 (by omega) (by omega) hc1 hsl1 nj)
      · exact lr_tab_in (off := 1059) (tgt := 1098) h dl_39 (by omega) (by omega) (by omega) rfl (by decide) (lb_1098 h hI h0 e9 (by omega) (by omega) hc1 hsl1 nj)
      · exact lr_tab_in (off := 1096) (tgt := 1135) h dl_39 (by omega) (by omega) (by omega) rfl (by decide) (lb_1135 h hI h0 e9 (by omega) (by omega) hc1 hsl1 nj)
      · exact lr_tab_in (off := 1121) (tgt := 1160) h dl_39 (by omega) (by omega) (by omega) rfl (by decide) (lb_1160 h hI h0 e9 (by omega) (by omega) hc1 hsl1 nj)
      · exact lr_tab_in (off := 1158) (tgt := 1197) h dl_39 (by omega) (by omega) (by omega) rfl (by decide) (lb_1197 h hI h0 e9 (by omega) (by omega) hc1 hsl1 nj)
      · exact lr_tab_in (off := 1195) (tgt := 1234) h dl_39 (by omega) (by omega) (by omega) rfl (by decide) (lb_1234 h hI h0 e9 (by omega) (by omega) hc1 hsl1 nj)
      · exact lr_tab_in (off := 1208) (tgt := 1247) h dl_39 (by omega) (by omega) (by omega) rfl (by decide) (lb_1247 h hI h0 e9 (by omega) (by omega) hc1 hsl1 nj)
      · exact lr_tab_in (off := 1233) (tgt := 1272) h dl_39 (by omega) (by omega) (by omega) rfl (by decide) (lb_1272 h hI h0 e9 (by omega) (by omega) hc1 hsl1 nj)
      · exact lr_tab_in (off := 1258) (tgt := 1297) h dl_39 (by omega) (by omega) (by omega) rfl (by decide) (lb_1297 h hI h0 e9 (by omega) (by omega) hc1 hsl1 nj)
      · exact lr_tab_in (off := 1307) (tgt := 1346) h dl_39 (by omega) (by omega) (by omega) rfl (by decide) (lb_1346 h hI h0 e9 (by omega) (by omega) hc1 hsl1 nj)
      · exact lr_tab_in (off := 1332) (tgt := 1371) h dl_39 (by omega) (by omega) (by omega) rfl (by decide) (lb_1371 h hI h0 e9 (by omega) (by omega) hc1 hsl1 nj)
      · exact lr_tab_in (off := 1345) (tgt := 1384) h dl_39 (by omega) (by omega) (by omega) rfl (by decide) (lb_1384 h hI h0 e9 (by omega) (by omega) hc1 hsl1 nj)
      · exact lr_tab_in (off := 1382) (tgt := 1421) h dl_39 (by omega) (by omega) (by omega) rfl (by decide) (lb_1421 h hI h0 e9 (by omega) (by omega) hc1 hsl1 nj)
      · exact lr_tab_in (off := 1407) (tgt := 1446) h dl_39 (by omega) (by omega) (by omega) rfl (by decide) (lb_1446 h hI h0 e9 (by omega) (by omega) hc1 hsl1 nj)
      · exact lr_tab_in (off := 1432) (tgt := 1471) h dl_39 (by omega) (by omega) (by omega) rfl (by decide) (lb_1471 h hI h0 e9 (by omega) (by omega) hc1 hsl1 nj)
      · exact lr_tab_in (off := 1457) (tgt := 1496) h dl_39 (by omega) (by omega) (by omega) rfl (by decide) (lb_1496 h hI h0 e9 (by omega) (by omega) hc1 hsl1 nj)
    · exact lr_tab_out (tgt := 1551) h dl_39 (by omega) (Or.inr (by omega)) (by decide) (lr_mono (ce2 := 149 + n + 1) (sl2 := 24032 + 6 * n + 6) (Nat.le_succ _) (Nat.le_add_right _ 6) (nj x y (fun q9 => absurd q9 (by omega))))
theorem law_loop {C : LC} (h : LOK C 5) : ∀ (k : Nat) (x y : Mm) (n : Nat) (at9 : Int), LI x y n → 0 ≤ at9 → at9 = 5 * n → (n : Int) ≤ 512 → (lc_L C : Int) - at9 ≤ k → LW C (149 + n) (24032 + 6 * n) x y 23 [(0, .ref (lc_b C)), (1, vr (lc_GC C) 0), (2, vr (lc_GM C) 0), (3, vr (lc_GC C) 120), (4, vi at9)] [] := by
  have hLN : lc_L C ≤ 5 := LOK_hLN h
  intro k
  induction k with
  | zero =>
    intro x y n at9 hI h0 e9 hn hk
    exact law_head h hI h0 e9 (by omega) (by show 149 + n + 1 ≤ 600002; omega) (by show 24032 + 6 * n + 6 ≤ 7302232; omega) (fun q => by exfalso; omega)
  | succ k ih =>
    intro x y n at9 hI h0 e9 hn hk
    refine law_head h hI h0 e9 (by omega) (by show 149 + n + 1 ≤ 600002; omega) (by show 24032 + 6 * n + 6 ≤ 7302232; omega) (fun q x' y' hI1 => ?_)
    have hI2 : LI x' y' ((n + 1 : Nat) : Int) := by rw [show ((n + 1 : Nat) : Int) = (n : Int) + 1 by omega]; exact hI1
    have r := ih x' y' (n + 1) (at9 + 5) hI2 (by omega) (by omega) (by omega) (by omega)
    rw [show 24032 + 6 * (n + 1) = 24032 + 6 * n + 6 by omega] at r
    exact r
