def LI (x y : Mm) (t : Int) : Prop := ((x 0 13 = 110 ∧ x 0 14 = 115) ∨ (x 0 13 = 115 ∧ x 0 14 = 110)) ∧ GI y ∧ CU t y ∧ y 0 21 ≤ 3 * t ∧ x 1 1 = y 0 2 ∧ x 98 3 = y 0 37 ∧ (∀ j : Int, x 77 j = y 27 j) ∧ (∀ j : Int, 0 ≤ j → j < x 1 1 → uch (y 2 j) = x 2 j)
theorem keepF {x y x' y' : Mm} {p z w : Int} (a1 : z = 1 → x' 77 p = 1) (a2 : ∀ j : Int, ¬ (z = 1 ∧ j = p) → x' 77 j = x 77 j) (b1 : w = 1 → y' 27 p = 1) (b2 : ∀ j : Int, ¬ (w = 1 ∧ j = p) → y' 27 j = y 27 j) (e : z = w) (h : ∀ j : Int, x 77 j = y 27 j) : ∀ j : Int, x' 77 j = y' 27 j := by
  intro j
  by_cases c : z = 1 ∧ j = p
  · obtain ⟨c1, rfl⟩ := c
    rw [a1 c1, b1 (e ▸ c1)]
  · rw [a2 j c, b2 j (by rw [← e]; exact c)]
    exact h j
theorem lr_mono {C : LC} {ce sl ce2 sl2 : Nat} {x y : Mm} {pc : Nat} {L : List (Nat × Value)} {st : List Value} (h1 : ce ≤ ce2) (h2 : sl ≤ sl2) (k : LW C ce2 sl2 x y pc L st) : LW C ce sl x y pc L st := by
  intro hR hR2 H locs ls hP hP2 hS hl
  exact fun T hT X => k hR hR2 H locs ls hP hP2 hS hl T hT (X.mono h1 h2)
theorem lr_rngM {C : LC} {ce sl : Nat} {x y : Mm} {pc : Nat} {L : List (Nat × Value)} {st : List Value} (k : fm_R YM y → LW C ce sl x y pc L st) : LW C ce sl x y pc L st := fun h1 h2 => k h2 h1 h2
theorem ll_26 : Cond.methodLink R_law 26 yX11_sign ∈ TB := tb_2 (i := 60) (by decide +kernel) (by decide +kernel)
theorem ll_30 : Cond.methodLink R_law 30 yX12_sign ∈ TB := tb_6 (i := 95) (by decide +kernel) (by decide +kernel)
theorem ll_31 : Cond.methodLink R_law 31 yX11_end ∈ TB := tb_2 (i := 72) (by decide +kernel) (by decide +kernel)
theorem ll_35 : Cond.methodLink R_law 35 yX12_end ∈ TB := tb_6 (i := 99) (by decide +kernel) (by decide +kernel)
theorem ll_36 : Cond.methodLink R_law 36 yX11_lists ∈ TB := tb_2 (i := 80) (by decide +kernel) (by decide +kernel)
theorem ll_39 : Cond.methodLink R_law 39 yX12_lists ∈ TB := tb_6 (i := 106) (by decide +kernel) (by decide +kernel)
theorem ll_40 : Cond.methodLink R_law 40 yX11_rule ∈ TB := tb_2 (i := 143) (by decide +kernel) (by decide +kernel)
theorem ll_44 : Cond.methodLink R_law 44 yX12_rule ∈ TB := tb_6 (i := 159) (by decide +kernel) (by decide +kernel)
theorem ll_45 : Cond.methodLink R_law 45 yL_number ∈ TB := tb_5 (i := 104) (by decide +kernel) (by decide +kernel)
theorem ll_50 : Cond.methodLink R_law 50 yX12_number_ ∈ TB := tb_6 (i := 190) (by decide +kernel) (by decide +kernel)
theorem ll_51 : Cond.methodLink R_law 51 yL_edge ∈ TB := tb_5 (i := 177) (by decide +kernel) (by decide +kernel)
theorem ll_53 : Cond.methodLink R_law 53 yX12_edge ∈ TB := tb_6 (i := 198) (by decide +kernel) (by decide +kernel)
theorem ll_54 : Cond.methodLink R_law 54 yX11_sheet ∈ TB := tb_2 (i := 196) (by decide +kernel) (by decide +kernel)
theorem ll_58 : Cond.methodLink R_law 58 yX12_sheet ∈ TB := tb_6 (i := 211) (by decide +kernel) (by decide +kernel)
theorem ll_59 : Cond.methodLink R_law 59 yX11_puts ∈ TB := tb_2 (i := 209) (by decide +kernel) (by decide +kernel)
theorem ll_62 : Cond.methodLink R_law 62 yX12_puts ∈ TB := tb_6 (i := 220) (by decide +kernel) (by decide +kernel)
theorem ll_63 : Cond.methodLink R_law 63 yX11_takes ∈ TB := tb_2 (i := 214) (by decide +kernel) (by decide +kernel)
theorem ll_66 : Cond.methodLink R_law 66 yX12_takes ∈ TB := tb_6 (i := 227) (by decide +kernel) (by decide +kernel)
theorem ll_67 : Cond.methodLink R_law 67 yX11_joins ∈ TB := tb_2 (i := 230) (by decide +kernel) (by decide +kernel)
theorem ll_71 : Cond.methodLink R_law 71 yX12_joins ∈ TB := tb_6 (i := 237) (by decide +kernel) (by decide +kernel)
theorem ll_72 : Cond.methodLink R_law 72 yX11_costs ∈ TB := tb_3 (i := 8) (by decide +kernel) (by decide +kernel)
theorem ll_75 : Cond.methodLink R_law 75 yX12_costs ∈ TB := tb_7 (i := 4) (by decide +kernel) (by decide +kernel)
theorem ll_76 : Cond.methodLink R_law 76 yX11_sets ∈ TB := tb_3 (i := 16) (by decide +kernel) (by decide +kernel)
theorem ll_79 : Cond.methodLink R_law 79 yX12_sets ∈ TB := tb_7 (i := 11) (by decide +kernel) (by decide +kernel)
theorem ll_80 : Cond.methodLink R_law 80 yX11_ends ∈ TB := tb_3 (i := 24) (by decide +kernel) (by decide +kernel)
theorem ll_83 : Cond.methodLink R_law 83 yX12_ends ∈ TB := tb_7 (i := 18) (by decide +kernel) (by decide +kernel)
theorem ll_84 : Cond.methodLink R_law 84 yX11_day ∈ TB := tb_3 (i := 36) (by decide +kernel) (by decide +kernel)
theorem ll_87 : Cond.methodLink R_law 87 yX12_day ∈ TB := tb_7 (i := 28) (by decide +kernel) (by decide +kernel)
theorem ll_88 : Cond.methodLink R_law 88 yX11_undo ∈ TB := tb_3 (i := 150) (by decide +kernel) (by decide +kernel)
theorem ll_91 : Cond.methodLink R_law 91 yX12_undo ∈ TB := tb_7 (i := 48) (by decide +kernel) (by decide +kernel)
theorem ll_92 : Cond.methodLink R_law 92 yX11_best ∈ TB := tb_3 (i := 162) (by decide +kernel) (by decide +kernel)
theorem ll_95 : Cond.methodLink R_law 95 yX12_best ∈ TB := tb_7 (i := 52) (by decide +kernel) (by decide +kernel)
theorem ll_96 : Cond.methodLink R_law 96 yX11_many ∈ TB := tb_4 (i := 88) (by decide +kernel) (by decide +kernel)
theorem ll_99 : Cond.methodLink R_law 99 yX12_many ∈ TB := tb_7 (i := 114) (by decide +kernel) (by decide +kernel)
theorem ll_100 : Cond.methodLink R_law 100 yX11_below ∈ TB := tb_4 (i := 97) (by decide +kernel) (by decide +kernel)
theorem ll_103 : Cond.methodLink R_law 103 yX12_below ∈ TB := tb_7 (i := 126) (by decide +kernel) (by decide +kernel)
theorem ll_104 : Cond.methodLink R_law 104 yX11_rank ∈ TB := tb_4 (i := 101) (by decide +kernel) (by decide +kernel)
theorem ll_107 : Cond.methodLink R_law 107 yX12_rank ∈ TB := tb_7 (i := 130) (by decide +kernel) (by decide +kernel)
theorem ll_108 : Cond.methodLink R_law 108 yX11_alike ∈ TB := tb_4 (i := 120) (by decide +kernel) (by decide +kernel)
theorem ll_111 : Cond.methodLink R_law 111 yX12_alike ∈ TB := tb_7 (i := 138) (by decide +kernel) (by decide +kernel)
theorem ll_112 : Cond.methodLink R_law 112 yX11_surely ∈ TB := tb_4 (i := 129) (by decide +kernel) (by decide +kernel)
theorem ll_115 : Cond.methodLink R_law 115 yX12_surely ∈ TB := tb_7 (i := 142) (by decide +kernel) (by decide +kernel)
theorem ll_116 : Cond.methodLink R_law 116 yX11_having ∈ TB := tb_4 (i := 142) (by decide +kernel) (by decide +kernel)
theorem ll_119 : Cond.methodLink R_law 119 yX12_having ∈ TB := tb_7 (i := 146) (by decide +kernel) (by decide +kernel)
theorem ll_120 : Cond.methodLink R_law 120 yX11_differ ∈ TB := tb_4 (i := 146) (by decide +kernel) (by decide +kernel)
theorem ll_123 : Cond.methodLink R_law 123 yX12_differ ∈ TB := tb_7 (i := 150) (by decide +kernel) (by decide +kernel)
theorem ll_124 : Cond.methodLink R_law 124 yX11_gap ∈ TB := tb_4 (i := 154) (by decide +kernel) (by decide +kernel)
theorem ll_127 : Cond.methodLink R_law 127 yX12_gap ∈ TB := tb_7 (i := 154) (by decide +kernel) (by decide +kernel)
theorem ll_128 : Cond.methodLink R_law 128 yX11_opens ∈ TB := tb_4 (i := 158) (by decide +kernel) (by decide +kernel)
theorem ll_131 : Cond.methodLink R_law 131 yX12_opens ∈ TB := tb_7 (i := 158) (by decide +kernel) (by decide +kernel)
theorem ll_132 : Cond.methodLink R_law 132 yX11_goes ∈ TB := tb_4 (i := 166) (by decide +kernel) (by decide +kernel)
theorem ll_135 : Cond.methodLink R_law 135 yX12_goes ∈ TB := tb_7 (i := 162) (by decide +kernel) (by decide +kernel)
theorem ll_136 : Cond.methodLink R_law 136 yX11_skips ∈ TB := tb_4 (i := 191) (by decide +kernel) (by decide +kernel)
theorem ll_139 : Cond.methodLink R_law 139 yX12_skips ∈ TB := tb_7 (i := 170) (by decide +kernel) (by decide +kernel)
theorem ll_140 : Cond.methodLink R_law 140 yX11_heard ∈ TB := tb_4 (i := 195) (by decide +kernel) (by decide +kernel)
theorem ll_143 : Cond.methodLink R_law 143 yX12_heard ∈ TB := tb_7 (i := 174) (by decide +kernel) (by decide +kernel)
theorem ll_144 : Cond.methodLink R_law 144 yX11_forget ∈ TB := tb_4 (i := 209) (by decide +kernel) (by decide +kernel)
theorem ll_147 : Cond.methodLink R_law 147 yX12_forget ∈ TB := tb_7 (i := 181) (by decide +kernel) (by decide +kernel)
theorem ll_148 : Cond.methodLink R_law 148 yX11_fits ∈ TB := tb_4 (i := 217) (by decide +kernel) (by decide +kernel)
theorem ll_151 : Cond.methodLink R_law 151 yX12_fits ∈ TB := tb_7 (i := 185) (by decide +kernel) (by decide +kernel)
theorem ll_152 : Cond.methodLink R_law 152 yX11_asks ∈ TB := tb_4 (i := 237) (by decide +kernel) (by decide +kernel)
theorem ll_155 : Cond.methodLink R_law 155 yX12_asks ∈ TB := tb_7 (i := 197) (by decide +kernel) (by decide +kernel)
theorem ll_156 : Cond.methodLink R_law 156 yX11_odds ∈ TB := tb_5 (i := 28) (by decide +kernel) (by decide +kernel)
theorem ll_159 : Cond.methodLink R_law 159 yX12_odds ∈ TB := tb_7 (i := 202) (by decide +kernel) (by decide +kernel)
theorem ll_160 : Cond.methodLink R_law 160 yX11_duel ∈ TB := tb_5 (i := 36) (by decide +kernel) (by decide +kernel)
theorem ll_163 : Cond.methodLink R_law 163 yX12_duel ∈ TB := tb_7 (i := 209) (by decide +kernel) (by decide +kernel)
theorem ll_164 : Cond.methodLink R_law 164 yX11_law ∈ TB := tb_5 (i := 46) (by decide +kernel) (by decide +kernel)
theorem ll_167 : Cond.methodLink R_law 167 yX12_law ∈ TB := tb_7 (i := 217) (by decide +kernel) (by decide +kernel)
theorem ll_168 : Cond.methodLink R_law 168 yX11_years ∈ TB := tb_5 (i := 58) (by decide +kernel) (by decide +kernel)
theorem ll_171 : Cond.methodLink R_law 171 yX12_years ∈ TB := tb_7 (i := 221) (by decide +kernel) (by decide +kernel)
theorem ll_172 : Cond.methodLink R_law 172 yX11_keep ∈ TB := tb_5 (i := 75) (by decide +kernel) (by decide +kernel)
theorem ll_175 : Cond.methodLink R_law 175 yX12_keep ∈ TB := tb_7 (i := 234) (by decide +kernel) (by decide +kernel)
theorem ll_176 : Cond.methodLink R_law 176 yX11_again ∈ TB := tb_5 (i := 79) (by decide +kernel) (by decide +kernel)
theorem ll_179 : Cond.methodLink R_law 179 yX12_again ∈ TB := tb_7 (i := 238) (by decide +kernel) (by decide +kernel)
theorem ll_180 : Cond.methodLink R_law 180 yX11_count ∈ TB := tb_5 (i := 87) (by decide +kernel) (by decide +kernel)
theorem ll_183 : Cond.methodLink R_law 183 yX12_count ∈ TB := tb_8 (i := 2) (by decide +kernel) (by decide +kernel)
theorem ll_184 : Cond.methodLink R_law 184 yL_row ∈ TB := tb_5 (i := 190) (by decide +kernel) (by decide +kernel)
theorem ll_187 : Cond.methodLink R_law 187 yX12_row ∈ TB := tb_8 (i := 10) (by decide +kernel) (by decide +kernel)
set_option maxHeartbeats 1000000 in
theorem lb_208 {C : LC} (h : LOK C 2560) {x y : Mm} {n : Nat} {at9 : Int} (hI : LI x y n) (h0 : 0 ≤ at9) (h1 : at9 + 5 ≤ lc_L C) (hn : n ≤ 511) (hc1 : 149 + n + 1 ≤ room_1.cells) (hsl1 : 24032 + 6 * n + 6 ≤ room_1.slots) (next : ∀ x' y' : Mm, LI x' y' ((n : Int) + 1) → LW C (149 + n + 1) (24032 + 6 * n + 6) x' y' 1468 [(0, .ref (lc_b C)), (1, vr (lc_GC C) 0), (2, vr (lc_GM C) 0), (3, vr (lc_GC C) 120), (4, vi at9)] []) : LW C (149 + n) (24032 + 6 * n) x y 208 [(0, .ref (lc_b C)), (1, vr (lc_GC C) 0), (2, vr (lc_GM C) 0), (3, vr (lc_GC C) 120), (4, vi at9)] [] := by
  obtain ⟨hB, hG, hU, h21, hT, hK, hF, hX⟩ := hI
  refine lr_rngM (fun hRM => ?_)
  have h02 : 0 ≤ y 0 2 := by have q := hRM 0 2; rw [rfM_2] at q; exact q.1
  refine lr_aload_n h rfl 1 rfl dl_208 ?_
  refine lr_aload_n h rfl 0 rfl dl_209 ?_
  refine lr_iload h 4 rfl dl_210 ?_
  refine lr_iconst h dl_212 ?_
  refine lr_iadd h dl_213 ?_
  refine lr_sld h (Nat.le_of_ble_eq_true rfl) (by omega) (by omega) dl_214 (fun s1 hs2 es3 => ?_)
  refine lr_cCI (as := [vi s1]) (k := 0) h kX11 at_0 wX11_sign ll_26 (d_X11_sign x s1 hs2) rfl (by decide) (by decide) rfl (Nat.le_of_ble_eq_true rfl) (Nat.le_of_succ_le hc1) (by omega) dl_215 (fun z5 c4 w6 p7 => ?_)
  obtain ⟨p7_0, p7_1, p7_2, p7_3, p7_4⟩ := p7
  have : c4 98 3 = x 98 3 := congrFun (p7_4 98 (by omega)) 3
  have : c4 0 13 = x 0 13 := congrFun (p7_4 0 (by omega)) 13
  have : c4 0 14 = x 0 14 := congrFun (p7_4 0 (by omega)) 14
  have f_c4 : ∀ j : Int, c4 77 j = x 77 j := fun j => congrFun (p7_4 77 (by omega)) j
  have hB8 : (c4 0 13 = 110 ∧ c4 0 14 = 115) ∨ (c4 0 13 = 115 ∧ c4 0 14 = 110) := by omega
  refine lr_pop h rfl dl_218 ?_
  refine lr_aload_n h rfl 2 rfl dl_219 ?_
  refine lr_aload_n h rfl 0 rfl dl_220 ?_
  refine lr_iload h 4 rfl dl_221 ?_
  refine lr_iconst h dl_223 ?_
  refine lr_iadd h dl_224 ?_
  refine lr_sld h (Nat.le_of_ble_eq_true rfl) (by omega) (by omega) dl_225 (fun s9 hs10 es11 => ?_)
  rw [show s9 = s1 from es11.trans es3.symm]
  refine lr_cMI (as := [vi s1]) (k := 0) h kX12 at_0M wX12_sign ll_30 (d_X12_sign y s1 hs2) rfl (by decide) (by decide) rfl (Nat.le_of_ble_eq_true rfl) (Nat.le_of_succ_le hc1) (by omega) dl_226 (fun z13 m12 w14 p15 => ?_)
  obtain ⟨p15_0, p15_1, p15_2, p15_3, p15_4, p15_5, p15_6⟩ := p15
  have g37_m12 : m12 0 37 = y 0 37 := (p15_6 37 (by omega) (by omega))
  have g21_m12 : m12 0 21 = y 0 21 := (p15_6 21 (by omega) (by omega))
  have f_m12 : ∀ j : Int, m12 27 j = y 27 j := fun j => congrFun (p15_5 27 (by omega) (by omega)) j
  have hG : GI m12 := ⟨by rw [(p15_5 1 (by omega) (by omega))]; exact hG.1, by rw [(p15_5 8 (by omega) (by omega))]; exact hG.2.1, by rw [(p15_5 26 (by omega) (by omega))]; exact hG.2.2.1, by rw [(p15_6 12 (by omega) (by omega))]; exact hG.2.2.2⟩
  have hU1 : CU ((n : Int) + 1) m12 := CU_id hU g21_m12 (p15_5 1 (by omega) (by omega)) (p15_5 20 (by omega) (by omega)) (p15_5 21 (by omega) (by omega)) (p15_5 22 (by omega) (by omega))
  refine lr_pop h rfl dl_229 ?_
  refine lr_goto (tgt := 1468) h dl_230 (by decide) ?_
  refine lr_mono (ce2 := 149 + n + 1) (sl2 := 24032 + 6 * n + 6) (Nat.le_succ _) (Nat.le_add_right _ 6) ?_
  have hX1 : ∀ j : Int, 0 ≤ j → j < c4 1 1 → uch (m12 2 j) = c4 2 j := by
    intro j a b
    by_cases c : j < x 1 1
    · rw [p15_3 j a (by omega), p7_2 j a c]
      exact hX j a c
    · have e1 := p7_3 (by omega) (j - x 1 1) (by omega) (by omega)
      have e2 := p15_4 (by omega) (j - y 0 2) (by omega) (by omega)
      rw [show x 1 1 + (j - x 1 1) = j by omega] at e1
      rw [show y 0 2 + (j - y 0 2) = j by omega] at e2
      rw [e2, e1, hT]
  exact next c4 m12 ⟨hB8, hG, hU1, by omega, by omega, by omega, (fun j => ((f_c4 j).trans (hF j)).trans (f_m12 j).symm), hX1⟩
set_option maxHeartbeats 1000000 in
theorem lb_233 {C : LC} (h : LOK C 2560) {x y : Mm} {n : Nat} {at9 : Int} (hI : LI x y n) (h0 : 0 ≤ at9) (h1 : at9 + 5 ≤ lc_L C) (hn : n ≤ 511) (hc1 : 149 + n + 1 ≤ room_1.cells) (hsl1 : 24032 + 6 * n + 6 ≤ room_1.slots) (next : ∀ x' y' : Mm, LI x' y' ((n : Int) + 1) → LW C (149 + n + 1) (24032 + 6 * n + 6) x' y' 1468 [(0, .ref (lc_b C)), (1, vr (lc_GC C) 0), (2, vr (lc_GM C) 0), (3, vr (lc_GC C) 120), (4, vi at9)] []) : LW C (149 + n) (24032 + 6 * n) x y 233 [(0, .ref (lc_b C)), (1, vr (lc_GC C) 0), (2, vr (lc_GM C) 0), (3, vr (lc_GC C) 120), (4, vi at9)] [] := by
  obtain ⟨hB, hG, hU, h21, hT, hK, hF, hX⟩ := hI
  refine lr_rngM (fun hRM => ?_)
  have h02 : 0 ≤ y 0 2 := by have q := hRM 0 2; rw [rfM_2] at q; exact q.1
  refine lr_aload_n h rfl 1 rfl dl_233 ?_
  refine lr_aload_n h rfl 0 rfl dl_234 ?_
  refine lr_iload h 4 rfl dl_235 ?_
  refine lr_iconst h dl_237 ?_
  refine lr_iadd h dl_238 ?_
  refine lr_sld h (Nat.le_of_ble_eq_true rfl) (by omega) (by omega) dl_239 (fun s1 hs2 es3 => ?_)
  refine lr_cCI (as := [vi s1]) (k := 0) h kX11 at_0 wX11_end ll_31 (d_X11_end x s1 hs2) rfl (by decide) (by decide) rfl (Nat.le_of_ble_eq_true rfl) (Nat.le_of_succ_le hc1) (by omega) dl_240 (fun z5 c4 w6 p7 => ?_)
  obtain ⟨p7_0, p7_1, p7_2, p7_3, p7_4⟩ := p7
  have : c4 98 3 = x 98 3 := congrFun (p7_4 98 (by omega)) 3
  have : c4 0 13 = x 0 13 := congrFun (p7_4 0 (by omega)) 13
  have : c4 0 14 = x 0 14 := congrFun (p7_4 0 (by omega)) 14
  have f_c4 : ∀ j : Int, c4 77 j = x 77 j := fun j => congrFun (p7_4 77 (by omega)) j
  have hB8 : (c4 0 13 = 110 ∧ c4 0 14 = 115) ∨ (c4 0 13 = 115 ∧ c4 0 14 = 110) := by omega
  refine lr_pop h rfl dl_243 ?_
  refine lr_aload_n h rfl 2 rfl dl_244 ?_
  refine lr_aload_n h rfl 0 rfl dl_245 ?_
  refine lr_iload h 4 rfl dl_246 ?_
  refine lr_iconst h dl_248 ?_
  refine lr_iadd h dl_249 ?_
  refine lr_sld h (Nat.le_of_ble_eq_true rfl) (by omega) (by omega) dl_250 (fun s9 hs10 es11 => ?_)
  rw [show s9 = s1 from es11.trans es3.symm]
  refine lr_cMI (as := [vi s1]) (k := 0) h kX12 at_0M wX12_end ll_35 (c_X12_end y s1 hs2) rfl (by decide) (by decide) rfl (Nat.le_of_ble_eq_true rfl) (Nat.le_of_succ_le hc1) (by omega) dl_251 (fun z13 m12 w14 p15 => ?_)
  obtain ⟨p15_0, p15_1, p15_2, p15_3, p15_4, p15_5, p15_6⟩ := p15
  have g37_m12 : m12 0 37 = y 0 37 := (p15_6 37 (by omega) (by omega))
  have g21_m12 : m12 0 21 = y 0 21 := (p15_6 21 (by omega) (by omega))
  have f_m12 : ∀ j : Int, m12 27 j = y 27 j := fun j => congrFun (p15_5 27 (by omega)) j
  have hG : GI m12 := ⟨by rw [(p15_5 1 (by omega))]; exact hG.1, by rw [(p15_5 8 (by omega))]; exact hG.2.1, by rw [(p15_5 26 (by omega))]; exact hG.2.2.1, by rw [(p15_6 12 (by omega) (by omega))]; exact hG.2.2.2⟩
  have hU1 : CU ((n : Int) + 1) m12 := CU_id hU g21_m12 (p15_5 1 (by omega)) (p15_5 20 (by omega)) (p15_5 21 (by omega)) (p15_5 22 (by omega))
  refine lr_pop h rfl dl_254 ?_
  refine lr_goto (tgt := 1468) h dl_255 (by decide) ?_
  refine lr_mono (ce2 := 149 + n + 1) (sl2 := 24032 + 6 * n + 6) (Nat.le_succ _) (Nat.le_add_right _ 6) ?_
  exact next c4 m12 ⟨hB8, hG, hU1, by omega, by omega, by omega, (fun j => ((f_c4 j).trans (hF j)).trans (f_m12 j).symm), (fun j a b => ((congrArg uch (congrFun (p15_5 2 (by omega)) j)).trans ((hX j a (by omega)).trans (congrFun (p7_4 2 (by omega)) j).symm)))⟩
set_option maxHeartbeats 1000000 in
theorem lb_258 {C : LC} (h : LOK C 2560) {x y : Mm} {n : Nat} {at9 : Int} (hI : LI x y n) (h0 : 0 ≤ at9) (h1 : at9 + 5 ≤ lc_L C) (hn : n ≤ 511) (hc1 : 149 + n + 1 ≤ room_1.cells) (hsl1 : 24032 + 6 * n + 6 ≤ room_1.slots) (next : ∀ x' y' : Mm, LI x' y' ((n : Int) + 1) → LW C (149 + n + 1) (24032 + 6 * n + 6) x' y' 1468 [(0, .ref (lc_b C)), (1, vr (lc_GC C) 0), (2, vr (lc_GM C) 0), (3, vr (lc_GC C) 120), (4, vi at9)] []) : LW C (149 + n) (24032 + 6 * n) x y 258 [(0, .ref (lc_b C)), (1, vr (lc_GC C) 0), (2, vr (lc_GM C) 0), (3, vr (lc_GC C) 120), (4, vi at9)] [] := by
  obtain ⟨hB, hG, hU, h21, hT, hK, hF, hX⟩ := hI
  refine lr_rngM (fun hRM => ?_)
  have h02 : 0 ≤ y 0 2 := by have q := hRM 0 2; rw [rfM_2] at q; exact q.1
  refine lr_aload_n h rfl 1 rfl dl_258 ?_
  refine lr_aload_n h rfl 0 rfl dl_259 ?_
  refine lr_iload h 4 rfl dl_260 ?_
  refine lr_iconst h dl_262 ?_
  refine lr_iadd h dl_263 ?_
  refine lr_sld h (Nat.le_of_ble_eq_true rfl) (by omega) (by omega) dl_264 (fun s1 hs2 es3 => ?_)
  refine lr_cCI (as := [vi s1]) (k := 0) h kX11 at_0 wX11_lists ll_36 (d_X11_lists x s1 hs2) rfl (by decide) (by decide) rfl (Nat.le_of_ble_eq_true rfl) (Nat.le_of_succ_le hc1) (by omega) dl_265 (fun z5 c4 w6 p7 => ?_)
  obtain ⟨p7_0, p7_1, p7_2, p7_3⟩ := p7
  have : c4 98 3 = x 98 3 := congrFun (p7_3 98 (by omega) (by omega) (by omega) (by omega) (by omega)) 3
  have : c4 0 13 = x 0 13 := congrFun (p7_3 0 (by omega) (by omega) (by omega) (by omega) (by omega)) 13
  have : c4 0 14 = x 0 14 := congrFun (p7_3 0 (by omega) (by omega) (by omega) (by omega) (by omega)) 14
  have f_c4 : ∀ j : Int, c4 77 j = x 77 j := fun j => congrFun (p7_3 77 (by omega) (by omega) (by omega) (by omega) (by omega)) j
  have hB8 : (c4 0 13 = 110 ∧ c4 0 14 = 115) ∨ (c4 0 13 = 115 ∧ c4 0 14 = 110) := by omega
  refine lr_aload_n h rfl 2 rfl dl_268 ?_
  refine lr_aload_n h rfl 0 rfl dl_269 ?_
  refine lr_iload h 4 rfl dl_270 ?_
  refine lr_iconst h dl_272 ?_
  refine lr_iadd h dl_273 ?_
  refine lr_sld h (Nat.le_of_ble_eq_true rfl) (by omega) (by omega) dl_274 (fun s9 hs10 es11 => ?_)
  rw [show s9 = s1 from es11.trans es3.symm]
  refine lr_cMI (as := [vi s1]) (k := 0) h kX12 at_0M wX12_lists ll_39 (d_X12_lists y s1 (fun j => uch (y 2 j)) hs2 hG (fun _ => rfl) (by omega)) rfl (by decide) (by decide) rfl (Nat.le_of_ble_eq_true rfl) (Nat.le_of_succ_le hc1) (by omega) dl_275 (fun z13 m12 w14 p15 => ?_)
  obtain ⟨p15_0, p15_1, p15_2, p15_3, p15_4, p15_5, p15_6, p15_7⟩ := p15
  have g37_m12 : m12 0 37 = y 0 37 := (p15_7 37 (by omega) (by omega) (by omega) (by omega) (by omega) (by omega) (by omega) (by omega) (by omega))
  have f_m12 : ∀ j : Int, m12 27 j = y 27 j := fun j => congrFun (p15_6 27 (by omega) (by omega) (by omega) (by omega)) j
  have hG := p15_5
  have hU1 : CU ((n : Int) + 1) m12 := CU_chg hU p15_4 (p15_6 20 (by omega) (by omega) (by omega) (by omega)) (p15_6 21 (by omega) (by omega) (by omega) (by omega)) (p15_6 22 (by omega) (by omega) (by omega) (by omega))
  have h21 : m12 0 21 ≤ y 0 21 + 3 := by rcases p15_4 with ⟨q, _⟩ | ⟨_, q⟩ <;> omega
  have hL : LSi (x 2) (x 1 1) 0 0 = LSi (fun j => uch (y 2 j)) (y 0 2) 0 0 := by rw [hT]; exact LSi_c (fun j a b => (hX j a (by omega)).symm) (by decide)
  refine lr_icmp_eq (tgt := 1468) h dl_278 (by decide) w6 w14 (fun q278 => ?_) (fun q278 => absurd (show z5 = z13 by omega) q278)
  refine lr_mono (ce2 := 149 + n + 1) (sl2 := 24032 + 6 * n + 6) (Nat.le_succ _) (Nat.le_add_right _ 6) ?_
  exact next c4 m12 ⟨hB8, hG, hU1, by omega, by omega, by omega, (fun j => ((f_c4 j).trans (hF j)).trans (f_m12 j).symm), (fun j a b => by exfalso; omega)⟩
set_option maxHeartbeats 1000000 in
theorem lb_283 {C : LC} (h : LOK C 2560) {x y : Mm} {n : Nat} {at9 : Int} (hI : LI x y n) (h0 : 0 ≤ at9) (h1 : at9 + 5 ≤ lc_L C) (hn : n ≤ 511) (hc1 : 149 + n + 1 ≤ room_1.cells) (hsl1 : 24032 + 6 * n + 6 ≤ room_1.slots) (next : ∀ x' y' : Mm, LI x' y' ((n : Int) + 1) → LW C (149 + n + 1) (24032 + 6 * n + 6) x' y' 1468 [(0, .ref (lc_b C)), (1, vr (lc_GC C) 0), (2, vr (lc_GM C) 0), (3, vr (lc_GC C) 120), (4, vi at9)] []) : LW C (149 + n) (24032 + 6 * n) x y 283 [(0, .ref (lc_b C)), (1, vr (lc_GC C) 0), (2, vr (lc_GM C) 0), (3, vr (lc_GC C) 120), (4, vi at9)] [] := by
  obtain ⟨hB, hG, hU, h21, hT, hK, hF, hX⟩ := hI
  refine lr_rngM (fun hRM => ?_)
  have h02 : 0 ≤ y 0 2 := by have q := hRM 0 2; rw [rfM_2] at q; exact q.1
  refine lr_aload_n h rfl 1 rfl dl_283 ?_
  refine lr_cCI (as := []) (k := 0) h kX11 at_0 wX11_rule ll_40 (c_X11_rule x hB) rfl (by decide) (by decide) rfl (Nat.le_of_ble_eq_true rfl) (Nat.le_of_succ_le hc1) (by omega) dl_284 (fun z2 c1 w3 p4 => ?_)
  obtain ⟨p4_0, p4_1, p4_2⟩ := p4
  have : c1 98 3 = x 98 3 := congrFun (p4_2 98 (by omega) (by omega) (by omega) (by omega)) 3
  have f_c1 : ∀ j : Int, c1 77 j = x 77 j := fun j => congrFun (p4_2 77 (by omega) (by omega) (by omega) (by omega)) j
  have hB5 : (c1 0 13 = 110 ∧ c1 0 14 = 115) ∨ (c1 0 13 = 115 ∧ c1 0 14 = 110) := by omega
  refine lr_pop h rfl dl_287 ?_
  refine lr_aload_n h rfl 2 rfl dl_288 ?_
  refine lr_cMI (as := []) (k := 0) h kX12 at_0M wX12_rule ll_44 (c_X12_rule y hG (by omega)) rfl (by decide) (by decide) rfl (Nat.le_of_ble_eq_true rfl) (Nat.le_of_succ_le hc1) (by omega) dl_289 (fun z7 m6 w8 p9 => ?_)
  obtain ⟨p9_0, p9_1, p9_2, p9_3, p9_4, p9_5⟩ := p9
  have g37_m6 : m6 0 37 = y 0 37 := (p9_5 37 (by omega) (by omega) (by omega) (by omega) (by omega) (by omega) (by omega) (by omega) (by omega) (by omega))
  have f_m6 : ∀ j : Int, m6 27 j = y 27 j := fun j => congrFun (p9_4 27 (by omega) (by omega)) j
  have hG := p9_3
  have hU1 : CU ((n : Int) + 1) m6 := CU_chg hU p9_2 (p9_4 20 (by omega) (by omega)) (p9_4 21 (by omega) (by omega)) (p9_4 22 (by omega) (by omega))
  have h21 : m6 0 21 ≤ y 0 21 + 3 := by rcases p9_2 with ⟨q, _⟩ | ⟨_, q⟩ <;> omega
  refine lr_pop h rfl dl_292 ?_
  refine lr_goto (tgt := 1468) h dl_293 (by decide) ?_
  refine lr_mono (ce2 := 149 + n + 1) (sl2 := 24032 + 6 * n + 6) (Nat.le_succ _) (Nat.le_add_right _ 6) ?_
  exact next c1 m6 ⟨hB5, hG, hU1, by omega, by omega, by omega, (fun j => ((f_c1 j).trans (hF j)).trans (f_m6 j).symm), (fun j a b => by exfalso; omega)⟩
set_option maxHeartbeats 1000000 in
theorem lb_296 {C : LC} (h : LOK C 2560) {x y : Mm} {n : Nat} {at9 : Int} (hI : LI x y n) (h0 : 0 ≤ at9) (h1 : at9 + 5 ≤ lc_L C) (hn : n ≤ 511) (hc1 : 149 + n + 1 ≤ room_1.cells) (hsl1 : 24032 + 6 * n + 6 ≤ room_1.slots) (next : ∀ x' y' : Mm, LI x' y' ((n : Int) + 1) → LW C (149 + n + 1) (24032 + 6 * n + 6) x' y' 1468 [(0, .ref (lc_b C)), (1, vr (lc_GC C) 0), (2, vr (lc_GM C) 0), (3, vr (lc_GC C) 120), (4, vi at9)] []) : LW C (149 + n) (24032 + 6 * n) x y 296 [(0, .ref (lc_b C)), (1, vr (lc_GC C) 0), (2, vr (lc_GM C) 0), (3, vr (lc_GC C) 120), (4, vi at9)] [] := by
  obtain ⟨hB, hG, hU, h21, hT, hK, hF, hX⟩ := hI
  refine lr_rngM (fun hRM => ?_)
  have h02 : 0 ≤ y 0 2 := by have q := hRM 0 2; rw [rfM_2] at q; exact q.1
  refine lr_aload_n h rfl 1 rfl dl_296 ?_
  refine lr_aload_n h rfl 0 rfl dl_297 ?_
  refine lr_iload h 4 rfl dl_298 ?_
  refine lr_iconst h dl_300 ?_
  refine lr_iadd h dl_301 ?_
  refine lr_sld h (Nat.le_of_ble_eq_true rfl) (by omega) (by omega) dl_302 (fun s1 hs2 es3 => ?_)
  refine lr_aload_n h rfl 0 rfl dl_303 ?_
  refine lr_iload h 4 rfl dl_304 ?_
  refine lr_iconst h dl_306 ?_
  refine lr_iadd h dl_307 ?_
  refine lr_sld h (Nat.le_of_ble_eq_true rfl) (by omega) (by omega) dl_308 (fun s4 hs5 es6 => ?_)
  refine lr_aload_n h rfl 3 rfl dl_309 ?_
  refine lr_cW (np := 4) (as := fun G => [vr G 0, vi s1, vi s4, vr G 120]) h wcL_number wsL_number iL ll_45 ⟨by decide, by decide, by decide +kernel⟩ (c_L_number x hs2 hs5) rfl (by decide) (by decide) rfl (Nat.le_of_ble_eq_true rfl) (by show 149 + n + 1 ≤ room_1.cells; exact hc1) hsl1 dl_310 (fun z8 c7 w9 p10 => ?_)
  obtain ⟨p10_0, p10_1⟩ := p10
  have : c7 1 1 = x 1 1 := congrFun (p10_1 1 (by omega)) 1
  have : c7 98 3 = x 98 3 := congrFun (p10_1 98 (by omega)) 3
  have : c7 0 13 = x 0 13 := congrFun (p10_1 0 (by omega)) 13
  have : c7 0 14 = x 0 14 := congrFun (p10_1 0 (by omega)) 14
  have f_c7 : ∀ j : Int, c7 77 j = x 77 j := fun j => congrFun (p10_1 77 (by omega)) j
  have hB11 : (c7 0 13 = 110 ∧ c7 0 14 = 115) ∨ (c7 0 13 = 115 ∧ c7 0 14 = 110) := by omega
  refine lr_istore (L' := [(0, .ref (lc_b C)), (1, vr (lc_GC C) 0), (2, vr (lc_GM C) 0), (3, vr (lc_GC C) 120), (4, vi at9), (5, vi z8)]) h dl_313 (by decide) [1, 2, 3, 4, 5, 0] rfl ?_
  refine lr_aload_n h rfl 2 rfl dl_315 ?_
  refine lr_aload_n h rfl 0 rfl dl_316 ?_
  refine lr_iload h 4 rfl dl_317 ?_
  refine lr_iconst h dl_319 ?_
  refine lr_iadd h dl_320 ?_
  refine lr_sld h (Nat.le_of_ble_eq_true rfl) (by omega) (by omega) dl_321 (fun s12 hs13 es14 => ?_)
  rw [show s12 = s1 from es14.trans es3.symm]
  refine lr_aload_n h rfl 0 rfl dl_322 ?_
  refine lr_iload h 4 rfl dl_323 ?_
  refine lr_iconst h dl_325 ?_
  refine lr_iadd h dl_326 ?_
  refine lr_sld h (Nat.le_of_ble_eq_true rfl) (by omega) (by omega) dl_327 (fun s15 hs16 es17 => ?_)
  rw [show s15 = s4 from es17.trans es6.symm]
  refine lr_cMI (as := [vi s1, vi s4]) (k := 0) h kX12 at_0M wX12_number_ ll_50 (c_X12_number_ y s1 s4 hs2 hs5 hG) rfl (by decide) (by decide) rfl (Nat.le_of_ble_eq_true rfl) hc1 hsl1 dl_328 (fun z19 m18 w20 p21 => ?_)
  obtain ⟨p21_0, p21_1, p21_2⟩ := p21
  have g2_m18 : m18 0 2 = y 0 2 := (p21_2 2 (by omega))
  have g37_m18 : m18 0 37 = y 0 37 := (p21_2 37 (by omega))
  have g21_m18 : m18 0 21 = y 0 21 := (p21_2 21 (by omega))
  have f_m18 : ∀ j : Int, m18 27 j = y 27 j := fun j => congrFun (p21_1 27 (by omega)) j
  have hG := p21_0
  have hU1 : CU ((n : Int) + 1) m18 := CU_id hU g21_m18 (p21_1 1 (by omega)) (p21_1 20 (by omega)) (p21_1 21 (by omega)) (p21_1 22 (by omega))
  refine lr_istore (L' := [(0, .ref (lc_b C)), (1, vr (lc_GC C) 0), (2, vr (lc_GM C) 0), (3, vr (lc_GC C) 120), (4, vi at9), (5, vi z8), (6, vi z19)]) h dl_331 (by decide) [1, 2, 3, 4, 5, 6, 0] rfl ?_
  refine lr_goto (tgt := 1468) h dl_333 (by decide) ?_
  refine lr_sub [0, 1, 2, 3, 4] rfl ?_
  exact next c7 m18 ⟨hB11, hG, hU1, by omega, by omega, by omega, (fun j => ((f_c7 j).trans (hF j)).trans (f_m18 j).symm), (fun j a b => ((congrArg uch (congrFun (p21_1 2 (by omega)) j)).trans ((hX j a (by omega)).trans (congrFun (p10_1 2 (by omega)) j).symm)))⟩
set_option maxHeartbeats 1000000 in
theorem lb_336 {C : LC} (h : LOK C 2560) {x y : Mm} {n : Nat} {at9 : Int} (hI : LI x y n) (h0 : 0 ≤ at9) (h1 : at9 + 5 ≤ lc_L C) (hn : n ≤ 511) (hc1 : 149 + n + 1 ≤ room_1.cells) (hsl1 : 24032 + 6 * n + 6 ≤ room_1.slots) (next : ∀ x' y' : Mm, LI x' y' ((n : Int) + 1) → LW C (149 + n + 1) (24032 + 6 * n + 6) x' y' 1468 [(0, .ref (lc_b C)), (1, vr (lc_GC C) 0), (2, vr (lc_GM C) 0), (3, vr (lc_GC C) 120), (4, vi at9)] []) : LW C (149 + n) (24032 + 6 * n) x y 336 [(0, .ref (lc_b C)), (1, vr (lc_GC C) 0), (2, vr (lc_GM C) 0), (3, vr (lc_GC C) 120), (4, vi at9)] [] := by
  obtain ⟨hB, hG, hU, h21, hT, hK, hF, hX⟩ := hI
  refine lr_rngM (fun hRM => ?_)
  have h02 : 0 ≤ y 0 2 := by have q := hRM 0 2; rw [rfM_2] at q; exact q.1
  refine lr_aload_n h rfl 1 rfl dl_336 ?_
  refine lr_aload_n h rfl 0 rfl dl_337 ?_
  refine lr_iload h 4 rfl dl_338 ?_
  refine lr_iconst h dl_340 ?_
  refine lr_iadd h dl_341 ?_
  refine lr_sld h (Nat.le_of_ble_eq_true rfl) (by omega) (by omega) dl_342 (fun s1 hs2 es3 => ?_)
  refine lr_aload_n h rfl 0 rfl dl_343 ?_
  refine lr_iload h 4 rfl dl_344 ?_
  refine lr_iconst h dl_346 ?_
  refine lr_iadd h dl_347 ?_
  refine lr_sld h (Nat.le_of_ble_eq_true rfl) (by omega) (by omega) dl_348 (fun s4 hs5 es6 => ?_)
  refine lr_aload_n h rfl 3 rfl dl_349 ?_
  refine lr_cW (np := 4) (as := fun G => [vr G 0, vi s1, vi s4, vr G 120]) h wcL_edge wsL_edge iL ll_51 ⟨by decide, by decide, by decide +kernel⟩ (c_L_edge x hs2 hs5) rfl (by decide) (by decide) rfl (Nat.le_of_ble_eq_true rfl) (by show 149 + n + 1 ≤ room_1.cells; exact hc1) hsl1 dl_350 (fun z8 c7 w9 p10 => ?_)
  obtain ⟨p10_0, p10_1⟩ := p10
  have : c7 1 1 = x 1 1 := congrFun (p10_1 1 (by omega)) 1
  have : c7 98 3 = x 98 3 := congrFun (p10_1 98 (by omega)) 3
  have : c7 0 13 = x 0 13 := congrFun (p10_1 0 (by omega)) 13
  have : c7 0 14 = x 0 14 := congrFun (p10_1 0 (by omega)) 14
  have f_c7 : ∀ j : Int, c7 77 j = x 77 j := fun j => congrFun (p10_1 77 (by omega)) j
  have hB11 : (c7 0 13 = 110 ∧ c7 0 14 = 115) ∨ (c7 0 13 = 115 ∧ c7 0 14 = 110) := by omega
  refine lr_istore (L' := [(0, .ref (lc_b C)), (1, vr (lc_GC C) 0), (2, vr (lc_GM C) 0), (3, vr (lc_GC C) 120), (4, vi at9), (5, vi z8)]) h dl_353 (by decide) [1, 2, 3, 4, 5, 0] rfl ?_
  refine lr_aload_n h rfl 2 rfl dl_355 ?_
  refine lr_aload_n h rfl 0 rfl dl_356 ?_
  refine lr_iload h 4 rfl dl_357 ?_
  refine lr_iconst h dl_359 ?_
  refine lr_iadd h dl_360 ?_
  refine lr_sld h (Nat.le_of_ble_eq_true rfl) (by omega) (by omega) dl_361 (fun s12 hs13 es14 => ?_)
  rw [show s12 = s1 from es14.trans es3.symm]
  refine lr_aload_n h rfl 0 rfl dl_362 ?_
  refine lr_iload h 4 rfl dl_363 ?_
  refine lr_iconst h dl_365 ?_
  refine lr_iadd h dl_366 ?_
  refine lr_sld h (Nat.le_of_ble_eq_true rfl) (by omega) (by omega) dl_367 (fun s15 hs16 es17 => ?_)
  rw [show s15 = s4 from es17.trans es6.symm]
  refine lr_cMI (as := [vi s1, vi s4]) (k := 0) h kX12 at_0M wX12_edge ll_53 (c_X12_edge y s1 s4 hs2 hs5 hG) rfl (by decide) (by decide) rfl (Nat.le_of_ble_eq_true rfl) hc1 hsl1 dl_368 (fun z19 m18 w20 p21 => ?_)
  obtain ⟨p21_0, p21_1, p21_2⟩ := p21
  have g2_m18 : m18 0 2 = y 0 2 := (p21_2 2 (by omega))
  have g37_m18 : m18 0 37 = y 0 37 := (p21_2 37 (by omega))
  have g21_m18 : m18 0 21 = y 0 21 := (p21_2 21 (by omega))
  have f_m18 : ∀ j : Int, m18 27 j = y 27 j := fun j => congrFun (p21_1 27 (by omega)) j
  have hG := p21_0
  have hU1 : CU ((n : Int) + 1) m18 := CU_id hU g21_m18 (p21_1 1 (by omega)) (p21_1 20 (by omega)) (p21_1 21 (by omega)) (p21_1 22 (by omega))
  refine lr_istore (L' := [(0, .ref (lc_b C)), (1, vr (lc_GC C) 0), (2, vr (lc_GM C) 0), (3, vr (lc_GC C) 120), (4, vi at9), (5, vi z8), (6, vi z19)]) h dl_371 (by decide) [1, 2, 3, 4, 5, 6, 0] rfl ?_
  refine lr_goto (tgt := 1468) h dl_373 (by decide) ?_
  refine lr_sub [0, 1, 2, 3, 4] rfl ?_
  exact next c7 m18 ⟨hB11, hG, hU1, by omega, by omega, by omega, (fun j => ((f_c7 j).trans (hF j)).trans (f_m18 j).symm), (fun j a b => ((congrArg uch (congrFun (p21_1 2 (by omega)) j)).trans ((hX j a (by omega)).trans (congrFun (p10_1 2 (by omega)) j).symm)))⟩
set_option maxHeartbeats 1000000 in
theorem lb_376 {C : LC} (h : LOK C 2560) {x y : Mm} {n : Nat} {at9 : Int} (hI : LI x y n) (h0 : 0 ≤ at9) (h1 : at9 + 5 ≤ lc_L C) (hn : n ≤ 511) (hc1 : 149 + n + 1 ≤ room_1.cells) (hsl1 : 24032 + 6 * n + 6 ≤ room_1.slots) (next : ∀ x' y' : Mm, LI x' y' ((n : Int) + 1) → LW C (149 + n + 1) (24032 + 6 * n + 6) x' y' 1468 [(0, .ref (lc_b C)), (1, vr (lc_GC C) 0), (2, vr (lc_GM C) 0), (3, vr (lc_GC C) 120), (4, vi at9)] []) : LW C (149 + n) (24032 + 6 * n) x y 376 [(0, .ref (lc_b C)), (1, vr (lc_GC C) 0), (2, vr (lc_GM C) 0), (3, vr (lc_GC C) 120), (4, vi at9)] [] := by
  obtain ⟨hB, hG, hU, h21, hT, hK, hF, hX⟩ := hI
  refine lr_rngM (fun hRM => ?_)
  have h02 : 0 ≤ y 0 2 := by have q := hRM 0 2; rw [rfM_2] at q; exact q.1
  refine lr_aload_n h rfl 1 rfl dl_376 ?_
  refine lr_aload_n h rfl 0 rfl dl_377 ?_
  refine lr_iload h 4 rfl dl_378 ?_
  refine lr_iconst h dl_380 ?_
  refine lr_iadd h dl_381 ?_
  refine lr_sld h (Nat.le_of_ble_eq_true rfl) (by omega) (by omega) dl_382 (fun s1 hs2 es3 => ?_)
  refine lr_aload_n h rfl 0 rfl dl_383 ?_
  refine lr_iload h 4 rfl dl_384 ?_
  refine lr_iconst h dl_386 ?_
  refine lr_iadd h dl_387 ?_
  refine lr_sld h (Nat.le_of_ble_eq_true rfl) (by omega) (by omega) dl_388 (fun s4 hs5 es6 => ?_)
  refine lr_aload_n h rfl 0 rfl dl_389 ?_
  refine lr_iload h 4 rfl dl_390 ?_
  refine lr_iconst h dl_392 ?_
  refine lr_iadd h dl_393 ?_
  refine lr_sld h (Nat.le_of_ble_eq_true rfl) (by omega) (by omega) dl_394 (fun s7 hs8 es9 => ?_)
  refine lr_aload_n h rfl 0 rfl dl_395 ?_
  refine lr_iload h 4 rfl dl_396 ?_
  refine lr_iconst h dl_398 ?_
  refine lr_iadd h dl_399 ?_
  refine lr_sld h (Nat.le_of_ble_eq_true rfl) (by omega) (by omega) dl_400 (fun s10 hs11 es12 => ?_)
  refine lr_cCI (as := [vi s1, vi s4, vi s7, vi s10]) (k := 0) h kX11 at_0 wX11_sheet ll_54 (c_X11_sheet x s1 s4 s7 s10 hs2 hs5 hs8 hs11) rfl (by decide) (by decide) rfl (Nat.le_of_ble_eq_true rfl) (Nat.le_of_succ_le hc1) (by omega) dl_401 (fun z14 c13 w15 p16 => ?_)
  have p16_0 := p16
  have : c13 1 1 = x 1 1 := congrFun (p16_0 1 (by omega) (by omega) (by omega)) 1
  have : c13 98 3 = x 98 3 := congrFun (p16_0 98 (by omega) (by omega) (by omega)) 3
  have : c13 0 13 = x 0 13 := congrFun (p16_0 0 (by omega) (by omega) (by omega)) 13
  have : c13 0 14 = x 0 14 := congrFun (p16_0 0 (by omega) (by omega) (by omega)) 14
  have f_c13 : ∀ j : Int, c13 77 j = x 77 j := fun j => congrFun (p16_0 77 (by omega) (by omega) (by omega)) j
  have hB17 : (c13 0 13 = 110 ∧ c13 0 14 = 115) ∨ (c13 0 13 = 115 ∧ c13 0 14 = 110) := by omega
  refine lr_pop h rfl dl_404 ?_
  refine lr_aload_n h rfl 2 rfl dl_405 ?_
  refine lr_aload_n h rfl 0 rfl dl_406 ?_
  refine lr_iload h 4 rfl dl_407 ?_
  refine lr_iconst h dl_409 ?_
  refine lr_iadd h dl_410 ?_
  refine lr_sld h (Nat.le_of_ble_eq_true rfl) (by omega) (by omega) dl_411 (fun s18 hs19 es20 => ?_)
  rw [show s18 = s1 from es20.trans es3.symm]
  refine lr_aload_n h rfl 0 rfl dl_412 ?_
  refine lr_iload h 4 rfl dl_413 ?_
  refine lr_iconst h dl_415 ?_
  refine lr_iadd h dl_416 ?_
  refine lr_sld h (Nat.le_of_ble_eq_true rfl) (by omega) (by omega) dl_417 (fun s21 hs22 es23 => ?_)
  rw [show s21 = s4 from es23.trans es6.symm]
  refine lr_aload_n h rfl 0 rfl dl_418 ?_
  refine lr_iload h 4 rfl dl_419 ?_
  refine lr_iconst h dl_421 ?_
  refine lr_iadd h dl_422 ?_
  refine lr_sld h (Nat.le_of_ble_eq_true rfl) (by omega) (by omega) dl_423 (fun s24 hs25 es26 => ?_)
  rw [show s24 = s7 from es26.trans es9.symm]
  refine lr_aload_n h rfl 0 rfl dl_424 ?_
  refine lr_iload h 4 rfl dl_425 ?_
  refine lr_iconst h dl_427 ?_
  refine lr_iadd h dl_428 ?_
  refine lr_sld h (Nat.le_of_ble_eq_true rfl) (by omega) (by omega) dl_429 (fun s27 hs28 es29 => ?_)
  rw [show s27 = s10 from es29.trans es12.symm]
  refine lr_cMI (as := [vi s1, vi s4, vi s7, vi s10]) (k := 0) h kX12 at_0M wX12_sheet ll_58 (c_X12_sheet y s1 s4 s7 s10 hs2 hs5 hs8 hs11 hG (by omega)) rfl (by decide) (by decide) rfl (Nat.le_of_ble_eq_true rfl) (Nat.le_of_succ_le hc1) (by omega) dl_430 (fun z31 m30 w32 p33 => ?_)
  obtain ⟨p33_0, p33_1, p33_2, p33_3, p33_4⟩ := p33
  have g2_m30 : m30 0 2 = y 0 2 := (p33_4 2 (by omega) (by omega))
  have g37_m30 : m30 0 37 = y 0 37 := (p33_4 37 (by omega) (by omega))
  have f_m30 : ∀ j : Int, m30 27 j = y 27 j := fun j => congrFun (p33_3 27 (by omega) (by omega)) j
  have hG := p33_2
  have hU1 : CU ((n : Int) + 1) m30 := CU_chg hU p33_1 (p33_3 20 (by omega) (by omega)) (p33_3 21 (by omega) (by omega)) (p33_3 22 (by omega) (by omega))
  have h21 : m30 0 21 ≤ y 0 21 + 3 := by rcases p33_1 with ⟨q, _⟩ | ⟨_, q⟩ <;> omega
  refine lr_pop h rfl dl_433 ?_
  refine lr_goto (tgt := 1468) h dl_434 (by decide) ?_
  refine lr_mono (ce2 := 149 + n + 1) (sl2 := 24032 + 6 * n + 6) (Nat.le_succ _) (Nat.le_add_right _ 6) ?_
  exact next c13 m30 ⟨hB17, hG, hU1, by omega, by omega, by omega, (fun j => ((f_c13 j).trans (hF j)).trans (f_m30 j).symm), (fun j a b => ((congrArg uch (congrFun (p33_3 2 (by omega) (by omega)) j)).trans ((hX j a (by omega)).trans (congrFun (p16_0 2 (by omega) (by omega) (by omega)) j).symm)))⟩
set_option maxHeartbeats 1000000 in
theorem lb_437 {C : LC} (h : LOK C 2560) {x y : Mm} {n : Nat} {at9 : Int} (hI : LI x y n) (h0 : 0 ≤ at9) (h1 : at9 + 5 ≤ lc_L C) (hn : n ≤ 511) (hc1 : 149 + n + 1 ≤ room_1.cells) (hsl1 : 24032 + 6 * n + 6 ≤ room_1.slots) (next : ∀ x' y' : Mm, LI x' y' ((n : Int) + 1) → LW C (149 + n + 1) (24032 + 6 * n + 6) x' y' 1468 [(0, .ref (lc_b C)), (1, vr (lc_GC C) 0), (2, vr (lc_GM C) 0), (3, vr (lc_GC C) 120), (4, vi at9)] []) : LW C (149 + n) (24032 + 6 * n) x y 437 [(0, .ref (lc_b C)), (1, vr (lc_GC C) 0), (2, vr (lc_GM C) 0), (3, vr (lc_GC C) 120), (4, vi at9)] [] := by
  obtain ⟨hB, hG, hU, h21, hT, hK, hF, hX⟩ := hI
  refine lr_rngM (fun hRM => ?_)
  have h02 : 0 ≤ y 0 2 := by have q := hRM 0 2; rw [rfM_2] at q; exact q.1
  refine lr_aload_n h rfl 1 rfl dl_437 ?_
  refine lr_aload_n h rfl 0 rfl dl_438 ?_
  refine lr_iload h 4 rfl dl_439 ?_
  refine lr_iconst h dl_441 ?_
  refine lr_iadd h dl_442 ?_
  refine lr_sld h (Nat.le_of_ble_eq_true rfl) (by omega) (by omega) dl_443 (fun s1 hs2 es3 => ?_)
  refine lr_aload_n h rfl 0 rfl dl_444 ?_
  refine lr_iload h 4 rfl dl_445 ?_
  refine lr_iconst h dl_447 ?_
  refine lr_iadd h dl_448 ?_
  refine lr_sld h (Nat.le_of_ble_eq_true rfl) (by omega) (by omega) dl_449 (fun s4 hs5 es6 => ?_)
  refine lr_cCI (as := [vi s1, vi s4]) (k := 0) h kX11 at_0 wX11_puts ll_59 (c_X11_puts x s1 s4 hs2 hs5) rfl (by decide) (by decide) rfl (Nat.le_of_ble_eq_true rfl) (Nat.le_of_succ_le hc1) (by omega) dl_450 (fun z8 c7 w9 p10 => ?_)
  have p10_0 := p10
  have : c7 1 1 = x 1 1 := congrFun (p10_0 1 (by omega) (by omega) (by omega) (by omega)) 1
  have : c7 98 3 = x 98 3 := congrFun (p10_0 98 (by omega) (by omega) (by omega) (by omega)) 3
  have : c7 0 13 = x 0 13 := congrFun (p10_0 0 (by omega) (by omega) (by omega) (by omega)) 13
  have : c7 0 14 = x 0 14 := congrFun (p10_0 0 (by omega) (by omega) (by omega) (by omega)) 14
  have f_c7 : ∀ j : Int, c7 77 j = x 77 j := fun j => congrFun (p10_0 77 (by omega) (by omega) (by omega) (by omega)) j
  have hB11 : (c7 0 13 = 110 ∧ c7 0 14 = 115) ∨ (c7 0 13 = 115 ∧ c7 0 14 = 110) := by omega
  refine lr_pop h rfl dl_453 ?_
  refine lr_aload_n h rfl 2 rfl dl_454 ?_
  refine lr_aload_n h rfl 0 rfl dl_455 ?_
  refine lr_iload h 4 rfl dl_456 ?_
  refine lr_iconst h dl_458 ?_
  refine lr_iadd h dl_459 ?_
  refine lr_sld h (Nat.le_of_ble_eq_true rfl) (by omega) (by omega) dl_460 (fun s12 hs13 es14 => ?_)
  rw [show s12 = s1 from es14.trans es3.symm]
  refine lr_aload_n h rfl 0 rfl dl_461 ?_
  refine lr_iload h 4 rfl dl_462 ?_
  refine lr_iconst h dl_464 ?_
  refine lr_iadd h dl_465 ?_
  refine lr_sld h (Nat.le_of_ble_eq_true rfl) (by omega) (by omega) dl_466 (fun s15 hs16 es17 => ?_)
  rw [show s15 = s4 from es17.trans es6.symm]
  refine lr_cMI (as := [vi s1, vi s4]) (k := 0) h kX12 at_0M wX12_puts ll_62 (c_X12_puts y s1 s4 hs2 hs5 hG (by omega)) rfl (by decide) (by decide) rfl (Nat.le_of_ble_eq_true rfl) (Nat.le_of_succ_le hc1) (by omega) dl_467 (fun z19 m18 w20 p21 => ?_)
  obtain ⟨p21_0, p21_1, p21_2, p21_3, p21_4⟩ := p21
  have g2_m18 : m18 0 2 = y 0 2 := (p21_4 2 (by omega) (by omega) (by omega))
  have g37_m18 : m18 0 37 = y 0 37 := (p21_4 37 (by omega) (by omega) (by omega))
  have f_m18 : ∀ j : Int, m18 27 j = y 27 j := fun j => congrFun (p21_3 27 (by omega) (by omega) (by omega)) j
  have hG := p21_2
  have hU1 : CU ((n : Int) + 1) m18 := CU_chg hU p21_1 (p21_3 20 (by omega) (by omega) (by omega)) (p21_3 21 (by omega) (by omega) (by omega)) (p21_3 22 (by omega) (by omega) (by omega))
  have h21 : m18 0 21 ≤ y 0 21 + 3 := by rcases p21_1 with ⟨q, _⟩ | ⟨_, q⟩ <;> omega
  refine lr_pop h rfl dl_470 ?_
  refine lr_goto (tgt := 1468) h dl_471 (by decide) ?_
  refine lr_mono (ce2 := 149 + n + 1) (sl2 := 24032 + 6 * n + 6) (Nat.le_succ _) (Nat.le_add_right _ 6) ?_
  exact next c7 m18 ⟨hB11, hG, hU1, by omega, by omega, by omega, (fun j => ((f_c7 j).trans (hF j)).trans (f_m18 j).symm), (fun j a b => ((congrArg uch (congrFun (p21_3 2 (by omega) (by omega) (by omega)) j)).trans ((hX j a (by omega)).trans (congrFun (p10_0 2 (by omega) (by omega) (by omega) (by omega)) j).symm)))⟩
set_option maxHeartbeats 1000000 in
theorem lb_474 {C : LC} (h : LOK C 2560) {x y : Mm} {n : Nat} {at9 : Int} (hI : LI x y n) (h0 : 0 ≤ at9) (h1 : at9 + 5 ≤ lc_L C) (hn : n ≤ 511) (hc1 : 149 + n + 1 ≤ room_1.cells) (hsl1 : 24032 + 6 * n + 6 ≤ room_1.slots) (next : ∀ x' y' : Mm, LI x' y' ((n : Int) + 1) → LW C (149 + n + 1) (24032 + 6 * n + 6) x' y' 1468 [(0, .ref (lc_b C)), (1, vr (lc_GC C) 0), (2, vr (lc_GM C) 0), (3, vr (lc_GC C) 120), (4, vi at9)] []) : LW C (149 + n) (24032 + 6 * n) x y 474 [(0, .ref (lc_b C)), (1, vr (lc_GC C) 0), (2, vr (lc_GM C) 0), (3, vr (lc_GC C) 120), (4, vi at9)] [] := by
  obtain ⟨hB, hG, hU, h21, hT, hK, hF, hX⟩ := hI
  refine lr_rngM (fun hRM => ?_)
  have h02 : 0 ≤ y 0 2 := by have q := hRM 0 2; rw [rfM_2] at q; exact q.1
  refine lr_aload_n h rfl 1 rfl dl_474 ?_
  refine lr_aload_n h rfl 0 rfl dl_475 ?_
  refine lr_iload h 4 rfl dl_476 ?_
  refine lr_iconst h dl_478 ?_
  refine lr_iadd h dl_479 ?_
  refine lr_sld h (Nat.le_of_ble_eq_true rfl) (by omega) (by omega) dl_480 (fun s1 hs2 es3 => ?_)
  refine lr_aload_n h rfl 0 rfl dl_481 ?_
  refine lr_iload h 4 rfl dl_482 ?_
  refine lr_iconst h dl_484 ?_
  refine lr_iadd h dl_485 ?_
  refine lr_sld h (Nat.le_of_ble_eq_true rfl) (by omega) (by omega) dl_486 (fun s4 hs5 es6 => ?_)
  refine lr_cCI (as := [vi s1, vi s4]) (k := 0) h kX11 at_0 wX11_takes ll_63 (c_X11_takes x s1 s4 hs2 hs5) rfl (by decide) (by decide) rfl (Nat.le_of_ble_eq_true rfl) (Nat.le_of_succ_le hc1) (by omega) dl_487 (fun z8 c7 w9 p10 => ?_)
  have p10_0 := p10
  have : c7 1 1 = x 1 1 := congrFun (p10_0 1 (by omega) (by omega) (by omega) (by omega)) 1
  have : c7 98 3 = x 98 3 := congrFun (p10_0 98 (by omega) (by omega) (by omega) (by omega)) 3
  have : c7 0 13 = x 0 13 := congrFun (p10_0 0 (by omega) (by omega) (by omega) (by omega)) 13
  have : c7 0 14 = x 0 14 := congrFun (p10_0 0 (by omega) (by omega) (by omega) (by omega)) 14
  have f_c7 : ∀ j : Int, c7 77 j = x 77 j := fun j => congrFun (p10_0 77 (by omega) (by omega) (by omega) (by omega)) j
  have hB11 : (c7 0 13 = 110 ∧ c7 0 14 = 115) ∨ (c7 0 13 = 115 ∧ c7 0 14 = 110) := by omega
  refine lr_pop h rfl dl_490 ?_
  refine lr_aload_n h rfl 2 rfl dl_491 ?_
  refine lr_aload_n h rfl 0 rfl dl_492 ?_
  refine lr_iload h 4 rfl dl_493 ?_
  refine lr_iconst h dl_495 ?_
  refine lr_iadd h dl_496 ?_
  refine lr_sld h (Nat.le_of_ble_eq_true rfl) (by omega) (by omega) dl_497 (fun s12 hs13 es14 => ?_)
  rw [show s12 = s1 from es14.trans es3.symm]
  refine lr_aload_n h rfl 0 rfl dl_498 ?_
  refine lr_iload h 4 rfl dl_499 ?_
  refine lr_iconst h dl_501 ?_
  refine lr_iadd h dl_502 ?_
  refine lr_sld h (Nat.le_of_ble_eq_true rfl) (by omega) (by omega) dl_503 (fun s15 hs16 es17 => ?_)
  rw [show s15 = s4 from es17.trans es6.symm]
  refine lr_cMI (as := [vi s1, vi s4]) (k := 0) h kX12 at_0M wX12_takes ll_66 (c_X12_takes y s1 s4 hs2 hs5 hG (by omega)) rfl (by decide) (by decide) rfl (Nat.le_of_ble_eq_true rfl) (Nat.le_of_succ_le hc1) (by omega) dl_504 (fun z19 m18 w20 p21 => ?_)
  obtain ⟨p21_0, p21_1, p21_2, p21_3, p21_4⟩ := p21
  have g2_m18 : m18 0 2 = y 0 2 := (p21_4 2 (by omega) (by omega) (by omega))
  have g37_m18 : m18 0 37 = y 0 37 := (p21_4 37 (by omega) (by omega) (by omega))
  have f_m18 : ∀ j : Int, m18 27 j = y 27 j := fun j => congrFun (p21_3 27 (by omega) (by omega) (by omega)) j
  have hG := p21_2
  have hU1 : CU ((n : Int) + 1) m18 := CU_chg hU p21_1 (p21_3 20 (by omega) (by omega) (by omega)) (p21_3 21 (by omega) (by omega) (by omega)) (p21_3 22 (by omega) (by omega) (by omega))
  have h21 : m18 0 21 ≤ y 0 21 + 3 := by rcases p21_1 with ⟨q, _⟩ | ⟨_, q⟩ <;> omega
  refine lr_pop h rfl dl_507 ?_
  refine lr_goto (tgt := 1468) h dl_508 (by decide) ?_
  refine lr_mono (ce2 := 149 + n + 1) (sl2 := 24032 + 6 * n + 6) (Nat.le_succ _) (Nat.le_add_right _ 6) ?_
  exact next c7 m18 ⟨hB11, hG, hU1, by omega, by omega, by omega, (fun j => ((f_c7 j).trans (hF j)).trans (f_m18 j).symm), (fun j a b => ((congrArg uch (congrFun (p21_3 2 (by omega) (by omega) (by omega)) j)).trans ((hX j a (by omega)).trans (congrFun (p10_0 2 (by omega) (by omega) (by omega) (by omega)) j).symm)))⟩
set_option maxHeartbeats 1000000 in
theorem lb_511 {C : LC} (h : LOK C 2560) {x y : Mm} {n : Nat} {at9 : Int} (hI : LI x y n) (h0 : 0 ≤ at9) (h1 : at9 + 5 ≤ lc_L C) (hn : n ≤ 511) (hc1 : 149 + n + 1 ≤ room_1.cells) (hsl1 : 24032 + 6 * n + 6 ≤ room_1.slots) (next : ∀ x' y' : Mm, LI x' y' ((n : Int) + 1) → LW C (149 + n + 1) (24032 + 6 * n + 6) x' y' 1468 [(0, .ref (lc_b C)), (1, vr (lc_GC C) 0), (2, vr (lc_GM C) 0), (3, vr (lc_GC C) 120), (4, vi at9)] []) : LW C (149 + n) (24032 + 6 * n) x y 511 [(0, .ref (lc_b C)), (1, vr (lc_GC C) 0), (2, vr (lc_GM C) 0), (3, vr (lc_GC C) 120), (4, vi at9)] [] := by
  obtain ⟨hB, hG, hU, h21, hT, hK, hF, hX⟩ := hI
  refine lr_rngM (fun hRM => ?_)
  have h02 : 0 ≤ y 0 2 := by have q := hRM 0 2; rw [rfM_2] at q; exact q.1
  refine lr_aload_n h rfl 1 rfl dl_511 ?_
  refine lr_aload_n h rfl 0 rfl dl_512 ?_
  refine lr_iload h 4 rfl dl_513 ?_
  refine lr_iconst h dl_515 ?_
  refine lr_iadd h dl_516 ?_
  refine lr_sld h (Nat.le_of_ble_eq_true rfl) (by omega) (by omega) dl_517 (fun s1 hs2 es3 => ?_)
  refine lr_aload_n h rfl 0 rfl dl_518 ?_
  refine lr_iload h 4 rfl dl_519 ?_
  refine lr_iconst h dl_521 ?_
  refine lr_iadd h dl_522 ?_
  refine lr_sld h (Nat.le_of_ble_eq_true rfl) (by omega) (by omega) dl_523 (fun s4 hs5 es6 => ?_)
  refine lr_aload_n h rfl 0 rfl dl_524 ?_
  refine lr_iload h 4 rfl dl_525 ?_
  refine lr_iconst h dl_527 ?_
  refine lr_iadd h dl_528 ?_
  refine lr_sld h (Nat.le_of_ble_eq_true rfl) (by omega) (by omega) dl_529 (fun s7 hs8 es9 => ?_)
  refine lr_cCI (as := [vi s1, vi s4, vi s7]) (k := 0) h kX11 at_0 wX11_joins ll_67 (c_X11_joins x s1 s4 s7 hs2 hs5 hs8) rfl (by decide) (by decide) rfl (Nat.le_of_ble_eq_true rfl) (Nat.le_of_succ_le hc1) (by omega) dl_530 (fun z11 c10 w12 p13 => ?_)
  have p13_0 := p13
  have : c10 1 1 = x 1 1 := congrFun (p13_0 1 (by omega) (by omega) (by omega) (by omega)) 1
  have : c10 98 3 = x 98 3 := congrFun (p13_0 98 (by omega) (by omega) (by omega) (by omega)) 3
  have : c10 0 13 = x 0 13 := congrFun (p13_0 0 (by omega) (by omega) (by omega) (by omega)) 13
  have : c10 0 14 = x 0 14 := congrFun (p13_0 0 (by omega) (by omega) (by omega) (by omega)) 14
  have f_c10 : ∀ j : Int, c10 77 j = x 77 j := fun j => congrFun (p13_0 77 (by omega) (by omega) (by omega) (by omega)) j
  have hB14 : (c10 0 13 = 110 ∧ c10 0 14 = 115) ∨ (c10 0 13 = 115 ∧ c10 0 14 = 110) := by omega
  refine lr_pop h rfl dl_533 ?_
  refine lr_aload_n h rfl 2 rfl dl_534 ?_
  refine lr_aload_n h rfl 0 rfl dl_535 ?_
  refine lr_iload h 4 rfl dl_536 ?_
  refine lr_iconst h dl_538 ?_
  refine lr_iadd h dl_539 ?_
  refine lr_sld h (Nat.le_of_ble_eq_true rfl) (by omega) (by omega) dl_540 (fun s15 hs16 es17 => ?_)
  rw [show s15 = s1 from es17.trans es3.symm]
  refine lr_aload_n h rfl 0 rfl dl_541 ?_
  refine lr_iload h 4 rfl dl_542 ?_
  refine lr_iconst h dl_544 ?_
  refine lr_iadd h dl_545 ?_
  refine lr_sld h (Nat.le_of_ble_eq_true rfl) (by omega) (by omega) dl_546 (fun s18 hs19 es20 => ?_)
  rw [show s18 = s4 from es20.trans es6.symm]
  refine lr_aload_n h rfl 0 rfl dl_547 ?_
  refine lr_iload h 4 rfl dl_548 ?_
  refine lr_iconst h dl_550 ?_
  refine lr_iadd h dl_551 ?_
  refine lr_sld h (Nat.le_of_ble_eq_true rfl) (by omega) (by omega) dl_552 (fun s21 hs22 es23 => ?_)
  rw [show s21 = s7 from es23.trans es9.symm]
  refine lr_cMI (as := [vi s1, vi s4, vi s7]) (k := 0) h kX12 at_0M wX12_joins ll_71 (c_X12_joins y s1 s4 s7 hs2 hs5 hs8 hG (by omega)) rfl (by decide) (by decide) rfl (Nat.le_of_ble_eq_true rfl) (Nat.le_of_succ_le hc1) (by omega) dl_553 (fun z25 m24 w26 p27 => ?_)
  obtain ⟨p27_0, p27_1, p27_2, p27_3, p27_4⟩ := p27
  have g2_m24 : m24 0 2 = y 0 2 := (p27_4 2 (by omega) (by omega) (by omega))
  have g37_m24 : m24 0 37 = y 0 37 := (p27_4 37 (by omega) (by omega) (by omega))
  have f_m24 : ∀ j : Int, m24 27 j = y 27 j := fun j => congrFun (p27_3 27 (by omega) (by omega) (by omega)) j
  have hG := p27_2
  have hU1 : CU ((n : Int) + 1) m24 := CU_chg hU p27_1 (p27_3 20 (by omega) (by omega) (by omega)) (p27_3 21 (by omega) (by omega) (by omega)) (p27_3 22 (by omega) (by omega) (by omega))
  have h21 : m24 0 21 ≤ y 0 21 + 3 := by rcases p27_1 with ⟨q, _⟩ | ⟨_, q⟩ <;> omega
  refine lr_pop h rfl dl_556 ?_
  refine lr_goto (tgt := 1468) h dl_557 (by decide) ?_
  refine lr_mono (ce2 := 149 + n + 1) (sl2 := 24032 + 6 * n + 6) (Nat.le_succ _) (Nat.le_add_right _ 6) ?_
  exact next c10 m24 ⟨hB14, hG, hU1, by omega, by omega, by omega, (fun j => ((f_c10 j).trans (hF j)).trans (f_m24 j).symm), (fun j a b => ((congrArg uch (congrFun (p27_3 2 (by omega) (by omega) (by omega)) j)).trans ((hX j a (by omega)).trans (congrFun (p13_0 2 (by omega) (by omega) (by omega) (by omega)) j).symm)))⟩
set_option maxHeartbeats 1000000 in
theorem lb_560 {C : LC} (h : LOK C 2560) {x y : Mm} {n : Nat} {at9 : Int} (hI : LI x y n) (h0 : 0 ≤ at9) (h1 : at9 + 5 ≤ lc_L C) (hn : n ≤ 511) (hc1 : 149 + n + 1 ≤ room_1.cells) (hsl1 : 24032 + 6 * n + 6 ≤ room_1.slots) (next : ∀ x' y' : Mm, LI x' y' ((n : Int) + 1) → LW C (149 + n + 1) (24032 + 6 * n + 6) x' y' 1468 [(0, .ref (lc_b C)), (1, vr (lc_GC C) 0), (2, vr (lc_GM C) 0), (3, vr (lc_GC C) 120), (4, vi at9)] []) : LW C (149 + n) (24032 + 6 * n) x y 560 [(0, .ref (lc_b C)), (1, vr (lc_GC C) 0), (2, vr (lc_GM C) 0), (3, vr (lc_GC C) 120), (4, vi at9)] [] := by
  obtain ⟨hB, hG, hU, h21, hT, hK, hF, hX⟩ := hI
  refine lr_rngM (fun hRM => ?_)
  have h02 : 0 ≤ y 0 2 := by have q := hRM 0 2; rw [rfM_2] at q; exact q.1
  refine lr_aload_n h rfl 1 rfl dl_560 ?_
  refine lr_aload_n h rfl 0 rfl dl_561 ?_
  refine lr_iload h 4 rfl dl_562 ?_
  refine lr_iconst h dl_564 ?_
  refine lr_iadd h dl_565 ?_
  refine lr_sld h (Nat.le_of_ble_eq_true rfl) (by omega) (by omega) dl_566 (fun s1 hs2 es3 => ?_)
  refine lr_aload_n h rfl 0 rfl dl_567 ?_
  refine lr_iload h 4 rfl dl_568 ?_
  refine lr_iconst h dl_570 ?_
  refine lr_iadd h dl_571 ?_
  refine lr_sld h (Nat.le_of_ble_eq_true rfl) (by omega) (by omega) dl_572 (fun s4 hs5 es6 => ?_)
  refine lr_aload_n h rfl 0 rfl dl_573 ?_
  refine lr_iload h 4 rfl dl_574 ?_
  refine lr_iconst h dl_576 ?_
  refine lr_iadd h dl_577 ?_
  refine lr_sld h (Nat.le_of_ble_eq_true rfl) (by omega) (by omega) dl_578 (fun s7 hs8 es9 => ?_)
  refine lr_cCI (as := [vi s1, vi s4, vi s7]) (k := 0) h kX11 at_0 wX11_costs ll_72 (c_X11_costs x s1 s4 s7 hs2 hs5 hs8) rfl (by decide) (by decide) rfl (Nat.le_of_ble_eq_true rfl) (Nat.le_of_succ_le hc1) (by omega) dl_579 (fun z11 c10 w12 p13 => ?_)
  have p13_0 := p13
  have : c10 1 1 = x 1 1 := congrFun (p13_0 1 (by omega) (by omega) (by omega) (by omega)) 1
  have : c10 98 3 = x 98 3 := congrFun (p13_0 98 (by omega) (by omega) (by omega) (by omega)) 3
  have : c10 0 13 = x 0 13 := congrFun (p13_0 0 (by omega) (by omega) (by omega) (by omega)) 13
  have : c10 0 14 = x 0 14 := congrFun (p13_0 0 (by omega) (by omega) (by omega) (by omega)) 14
  have f_c10 : ∀ j : Int, c10 77 j = x 77 j := fun j => congrFun (p13_0 77 (by omega) (by omega) (by omega) (by omega)) j
  have hB14 : (c10 0 13 = 110 ∧ c10 0 14 = 115) ∨ (c10 0 13 = 115 ∧ c10 0 14 = 110) := by omega
  refine lr_pop h rfl dl_582 ?_
  refine lr_aload_n h rfl 2 rfl dl_583 ?_
  refine lr_aload_n h rfl 0 rfl dl_584 ?_
  refine lr_iload h 4 rfl dl_585 ?_
  refine lr_iconst h dl_587 ?_
  refine lr_iadd h dl_588 ?_
  refine lr_sld h (Nat.le_of_ble_eq_true rfl) (by omega) (by omega) dl_589 (fun s15 hs16 es17 => ?_)
  rw [show s15 = s1 from es17.trans es3.symm]
  refine lr_aload_n h rfl 0 rfl dl_590 ?_
  refine lr_iload h 4 rfl dl_591 ?_
  refine lr_iconst h dl_593 ?_
  refine lr_iadd h dl_594 ?_
  refine lr_sld h (Nat.le_of_ble_eq_true rfl) (by omega) (by omega) dl_595 (fun s18 hs19 es20 => ?_)
  rw [show s18 = s4 from es20.trans es6.symm]
  refine lr_aload_n h rfl 0 rfl dl_596 ?_
  refine lr_iload h 4 rfl dl_597 ?_
  refine lr_iconst h dl_599 ?_
  refine lr_iadd h dl_600 ?_
  refine lr_sld h (Nat.le_of_ble_eq_true rfl) (by omega) (by omega) dl_601 (fun s21 hs22 es23 => ?_)
  rw [show s21 = s7 from es23.trans es9.symm]
  refine lr_cMI (as := [vi s1, vi s4, vi s7]) (k := 0) h kX12 at_0M wX12_costs ll_75 (c_X12_costs y s1 s4 s7 hs2 hs5 hs8 hG (by omega)) rfl (by decide) (by decide) rfl (Nat.le_of_ble_eq_true rfl) (Nat.le_of_succ_le hc1) (by omega) dl_602 (fun z25 m24 w26 p27 => ?_)
  obtain ⟨p27_0, p27_1, p27_2, p27_3, p27_4⟩ := p27
  have g2_m24 : m24 0 2 = y 0 2 := (p27_4 2 (by omega) (by omega) (by omega))
  have g37_m24 : m24 0 37 = y 0 37 := (p27_4 37 (by omega) (by omega) (by omega))
  have f_m24 : ∀ j : Int, m24 27 j = y 27 j := fun j => congrFun (p27_3 27 (by omega) (by omega) (by omega)) j
  have hG := p27_2
  have hU1 : CU ((n : Int) + 1) m24 := CU_chg hU p27_1 (p27_3 20 (by omega) (by omega) (by omega)) (p27_3 21 (by omega) (by omega) (by omega)) (p27_3 22 (by omega) (by omega) (by omega))
  have h21 : m24 0 21 ≤ y 0 21 + 3 := by rcases p27_1 with ⟨q, _⟩ | ⟨_, q⟩ <;> omega
  refine lr_pop h rfl dl_605 ?_
  refine lr_goto (tgt := 1468) h dl_606 (by decide) ?_
  refine lr_mono (ce2 := 149 + n + 1) (sl2 := 24032 + 6 * n + 6) (Nat.le_succ _) (Nat.le_add_right _ 6) ?_
  exact next c10 m24 ⟨hB14, hG, hU1, by omega, by omega, by omega, (fun j => ((f_c10 j).trans (hF j)).trans (f_m24 j).symm), (fun j a b => ((congrArg uch (congrFun (p27_3 2 (by omega) (by omega) (by omega)) j)).trans ((hX j a (by omega)).trans (congrFun (p13_0 2 (by omega) (by omega) (by omega) (by omega)) j).symm)))⟩
set_option maxHeartbeats 1000000 in
theorem lb_609 {C : LC} (h : LOK C 2560) {x y : Mm} {n : Nat} {at9 : Int} (hI : LI x y n) (h0 : 0 ≤ at9) (h1 : at9 + 5 ≤ lc_L C) (hn : n ≤ 511) (hc1 : 149 + n + 1 ≤ room_1.cells) (hsl1 : 24032 + 6 * n + 6 ≤ room_1.slots) (next : ∀ x' y' : Mm, LI x' y' ((n : Int) + 1) → LW C (149 + n + 1) (24032 + 6 * n + 6) x' y' 1468 [(0, .ref (lc_b C)), (1, vr (lc_GC C) 0), (2, vr (lc_GM C) 0), (3, vr (lc_GC C) 120), (4, vi at9)] []) : LW C (149 + n) (24032 + 6 * n) x y 609 [(0, .ref (lc_b C)), (1, vr (lc_GC C) 0), (2, vr (lc_GM C) 0), (3, vr (lc_GC C) 120), (4, vi at9)] [] := by
  obtain ⟨hB, hG, hU, h21, hT, hK, hF, hX⟩ := hI
  refine lr_rngM (fun hRM => ?_)
  have h02 : 0 ≤ y 0 2 := by have q := hRM 0 2; rw [rfM_2] at q; exact q.1
  refine lr_aload_n h rfl 1 rfl dl_609 ?_
  refine lr_aload_n h rfl 0 rfl dl_610 ?_
  refine lr_iload h 4 rfl dl_611 ?_
  refine lr_iconst h dl_613 ?_
  refine lr_iadd h dl_614 ?_
  refine lr_sld h (Nat.le_of_ble_eq_true rfl) (by omega) (by omega) dl_615 (fun s1 hs2 es3 => ?_)
  refine lr_aload_n h rfl 0 rfl dl_616 ?_
  refine lr_iload h 4 rfl dl_617 ?_
  refine lr_iconst h dl_619 ?_
  refine lr_iadd h dl_620 ?_
  refine lr_sld h (Nat.le_of_ble_eq_true rfl) (by omega) (by omega) dl_621 (fun s4 hs5 es6 => ?_)
  refine lr_cCI (as := [vi s1, vi s4]) (k := 0) h kX11 at_0 wX11_sets ll_76 (c_X11_sets x s1 s4 hs2 hs5) rfl (by decide) (by decide) rfl (Nat.le_of_ble_eq_true rfl) (Nat.le_of_succ_le hc1) (by omega) dl_622 (fun z8 c7 w9 p10 => ?_)
  have p10_0 := p10
  have : c7 1 1 = x 1 1 := congrFun (p10_0 1 (by omega) (by omega) (by omega) (by omega)) 1
  have : c7 98 3 = x 98 3 := congrFun (p10_0 98 (by omega) (by omega) (by omega) (by omega)) 3
  have : c7 0 13 = x 0 13 := congrFun (p10_0 0 (by omega) (by omega) (by omega) (by omega)) 13
  have : c7 0 14 = x 0 14 := congrFun (p10_0 0 (by omega) (by omega) (by omega) (by omega)) 14
  have f_c7 : ∀ j : Int, c7 77 j = x 77 j := fun j => congrFun (p10_0 77 (by omega) (by omega) (by omega) (by omega)) j
  have hB11 : (c7 0 13 = 110 ∧ c7 0 14 = 115) ∨ (c7 0 13 = 115 ∧ c7 0 14 = 110) := by omega
  refine lr_pop h rfl dl_625 ?_
  refine lr_aload_n h rfl 2 rfl dl_626 ?_
  refine lr_aload_n h rfl 0 rfl dl_627 ?_
  refine lr_iload h 4 rfl dl_628 ?_
  refine lr_iconst h dl_630 ?_
  refine lr_iadd h dl_631 ?_
  refine lr_sld h (Nat.le_of_ble_eq_true rfl) (by omega) (by omega) dl_632 (fun s12 hs13 es14 => ?_)
  rw [show s12 = s1 from es14.trans es3.symm]
  refine lr_aload_n h rfl 0 rfl dl_633 ?_
  refine lr_iload h 4 rfl dl_634 ?_
  refine lr_iconst h dl_636 ?_
  refine lr_iadd h dl_637 ?_
  refine lr_sld h (Nat.le_of_ble_eq_true rfl) (by omega) (by omega) dl_638 (fun s15 hs16 es17 => ?_)
  rw [show s15 = s4 from es17.trans es6.symm]
  refine lr_cMI (as := [vi s1, vi s4]) (k := 0) h kX12 at_0M wX12_sets ll_79 (c_X12_sets y s1 s4 hs2 hs5 hG (by omega)) rfl (by decide) (by decide) rfl (Nat.le_of_ble_eq_true rfl) (Nat.le_of_succ_le hc1) (by omega) dl_639 (fun z19 m18 w20 p21 => ?_)
  obtain ⟨p21_0, p21_1, p21_2, p21_3, p21_4⟩ := p21
  have g2_m18 : m18 0 2 = y 0 2 := (p21_4 2 (by omega) (by omega) (by omega))
  have g37_m18 : m18 0 37 = y 0 37 := (p21_4 37 (by omega) (by omega) (by omega))
  have f_m18 : ∀ j : Int, m18 27 j = y 27 j := fun j => congrFun (p21_3 27 (by omega) (by omega) (by omega)) j
  have hG := p21_2
  have hU1 : CU ((n : Int) + 1) m18 := CU_chg hU p21_1 (p21_3 20 (by omega) (by omega) (by omega)) (p21_3 21 (by omega) (by omega) (by omega)) (p21_3 22 (by omega) (by omega) (by omega))
  have h21 : m18 0 21 ≤ y 0 21 + 3 := by rcases p21_1 with ⟨q, _⟩ | ⟨_, q⟩ <;> omega
  refine lr_pop h rfl dl_642 ?_
  refine lr_goto (tgt := 1468) h dl_643 (by decide) ?_
  refine lr_mono (ce2 := 149 + n + 1) (sl2 := 24032 + 6 * n + 6) (Nat.le_succ _) (Nat.le_add_right _ 6) ?_
  exact next c7 m18 ⟨hB11, hG, hU1, by omega, by omega, by omega, (fun j => ((f_c7 j).trans (hF j)).trans (f_m18 j).symm), (fun j a b => ((congrArg uch (congrFun (p21_3 2 (by omega) (by omega) (by omega)) j)).trans ((hX j a (by omega)).trans (congrFun (p10_0 2 (by omega) (by omega) (by omega) (by omega)) j).symm)))⟩
set_option maxHeartbeats 1000000 in
theorem lb_646 {C : LC} (h : LOK C 2560) {x y : Mm} {n : Nat} {at9 : Int} (hI : LI x y n) (h0 : 0 ≤ at9) (h1 : at9 + 5 ≤ lc_L C) (hn : n ≤ 511) (hc1 : 149 + n + 1 ≤ room_1.cells) (hsl1 : 24032 + 6 * n + 6 ≤ room_1.slots) (next : ∀ x' y' : Mm, LI x' y' ((n : Int) + 1) → LW C (149 + n + 1) (24032 + 6 * n + 6) x' y' 1468 [(0, .ref (lc_b C)), (1, vr (lc_GC C) 0), (2, vr (lc_GM C) 0), (3, vr (lc_GC C) 120), (4, vi at9)] []) : LW C (149 + n) (24032 + 6 * n) x y 646 [(0, .ref (lc_b C)), (1, vr (lc_GC C) 0), (2, vr (lc_GM C) 0), (3, vr (lc_GC C) 120), (4, vi at9)] [] := by
  obtain ⟨hB, hG, hU, h21, hT, hK, hF, hX⟩ := hI
  refine lr_rngM (fun hRM => ?_)
  have h02 : 0 ≤ y 0 2 := by have q := hRM 0 2; rw [rfM_2] at q; exact q.1
  refine lr_aload_n h rfl 1 rfl dl_646 ?_
  refine lr_aload_n h rfl 0 rfl dl_647 ?_
  refine lr_iload h 4 rfl dl_648 ?_
  refine lr_iconst h dl_650 ?_
  refine lr_iadd h dl_651 ?_
  refine lr_sld h (Nat.le_of_ble_eq_true rfl) (by omega) (by omega) dl_652 (fun s1 hs2 es3 => ?_)
  refine lr_aload_n h rfl 0 rfl dl_653 ?_
  refine lr_iload h 4 rfl dl_654 ?_
  refine lr_iconst h dl_656 ?_
  refine lr_iadd h dl_657 ?_
  refine lr_sld h (Nat.le_of_ble_eq_true rfl) (by omega) (by omega) dl_658 (fun s4 hs5 es6 => ?_)
  refine lr_cCI (as := [vi s1, vi s4]) (k := 0) h kX11 at_0 wX11_ends ll_80 (c_X11_ends x s1 s4 hs2 hs5) rfl (by decide) (by decide) rfl (Nat.le_of_ble_eq_true rfl) (Nat.le_of_succ_le hc1) (by omega) dl_659 (fun z8 c7 w9 p10 => ?_)
  have p10_0 := p10
  have : c7 1 1 = x 1 1 := congrFun (p10_0 1 (by omega) (by omega) (by omega) (by omega)) 1
  have : c7 98 3 = x 98 3 := congrFun (p10_0 98 (by omega) (by omega) (by omega) (by omega)) 3
  have : c7 0 13 = x 0 13 := congrFun (p10_0 0 (by omega) (by omega) (by omega) (by omega)) 13
  have : c7 0 14 = x 0 14 := congrFun (p10_0 0 (by omega) (by omega) (by omega) (by omega)) 14
  have f_c7 : ∀ j : Int, c7 77 j = x 77 j := fun j => congrFun (p10_0 77 (by omega) (by omega) (by omega) (by omega)) j
  have hB11 : (c7 0 13 = 110 ∧ c7 0 14 = 115) ∨ (c7 0 13 = 115 ∧ c7 0 14 = 110) := by omega
  refine lr_pop h rfl dl_662 ?_
  refine lr_aload_n h rfl 2 rfl dl_663 ?_
  refine lr_aload_n h rfl 0 rfl dl_664 ?_
  refine lr_iload h 4 rfl dl_665 ?_
  refine lr_iconst h dl_667 ?_
  refine lr_iadd h dl_668 ?_
  refine lr_sld h (Nat.le_of_ble_eq_true rfl) (by omega) (by omega) dl_669 (fun s12 hs13 es14 => ?_)
  rw [show s12 = s1 from es14.trans es3.symm]
  refine lr_aload_n h rfl 0 rfl dl_670 ?_
  refine lr_iload h 4 rfl dl_671 ?_
  refine lr_iconst h dl_673 ?_
  refine lr_iadd h dl_674 ?_
  refine lr_sld h (Nat.le_of_ble_eq_true rfl) (by omega) (by omega) dl_675 (fun s15 hs16 es17 => ?_)
  rw [show s15 = s4 from es17.trans es6.symm]
  refine lr_cMI (as := [vi s1, vi s4]) (k := 0) h kX12 at_0M wX12_ends ll_83 (c_X12_ends y s1 s4 hs2 hs5 hG (by omega)) rfl (by decide) (by decide) rfl (Nat.le_of_ble_eq_true rfl) (Nat.le_of_succ_le hc1) (by omega) dl_676 (fun z19 m18 w20 p21 => ?_)
  obtain ⟨p21_0, p21_1, p21_2, p21_3, p21_4⟩ := p21
  have g2_m18 : m18 0 2 = y 0 2 := (p21_4 2 (by omega) (by omega) (by omega))
  have g37_m18 : m18 0 37 = y 0 37 := (p21_4 37 (by omega) (by omega) (by omega))
  have f_m18 : ∀ j : Int, m18 27 j = y 27 j := fun j => congrFun (p21_3 27 (by omega) (by omega) (by omega)) j
  have hG := p21_2
  have hU1 : CU ((n : Int) + 1) m18 := CU_chg hU p21_1 (p21_3 20 (by omega) (by omega) (by omega)) (p21_3 21 (by omega) (by omega) (by omega)) (p21_3 22 (by omega) (by omega) (by omega))
  have h21 : m18 0 21 ≤ y 0 21 + 3 := by rcases p21_1 with ⟨q, _⟩ | ⟨_, q⟩ <;> omega
  refine lr_pop h rfl dl_679 ?_
  refine lr_goto (tgt := 1468) h dl_680 (by decide) ?_
  refine lr_mono (ce2 := 149 + n + 1) (sl2 := 24032 + 6 * n + 6) (Nat.le_succ _) (Nat.le_add_right _ 6) ?_
  exact next c7 m18 ⟨hB11, hG, hU1, by omega, by omega, by omega, (fun j => ((f_c7 j).trans (hF j)).trans (f_m18 j).symm), (fun j a b => ((congrArg uch (congrFun (p21_3 2 (by omega) (by omega) (by omega)) j)).trans ((hX j a (by omega)).trans (congrFun (p10_0 2 (by omega) (by omega) (by omega) (by omega)) j).symm)))⟩
set_option maxHeartbeats 1000000 in
theorem lb_683 {C : LC} (h : LOK C 2560) {x y : Mm} {n : Nat} {at9 : Int} (hI : LI x y n) (h0 : 0 ≤ at9) (h1 : at9 + 5 ≤ lc_L C) (hn : n ≤ 511) (hc1 : 149 + n + 1 ≤ room_1.cells) (hsl1 : 24032 + 6 * n + 6 ≤ room_1.slots) (next : ∀ x' y' : Mm, LI x' y' ((n : Int) + 1) → LW C (149 + n + 1) (24032 + 6 * n + 6) x' y' 1468 [(0, .ref (lc_b C)), (1, vr (lc_GC C) 0), (2, vr (lc_GM C) 0), (3, vr (lc_GC C) 120), (4, vi at9)] []) : LW C (149 + n) (24032 + 6 * n) x y 683 [(0, .ref (lc_b C)), (1, vr (lc_GC C) 0), (2, vr (lc_GM C) 0), (3, vr (lc_GC C) 120), (4, vi at9)] [] := by
  obtain ⟨hB, hG, hU, h21, hT, hK, hF, hX⟩ := hI
  refine lr_rngM (fun hRM => ?_)
  have h02 : 0 ≤ y 0 2 := by have q := hRM 0 2; rw [rfM_2] at q; exact q.1
  refine lr_aload_n h rfl 1 rfl dl_683 ?_
  refine lr_cCI (as := []) (k := 0) h kX11 at_0 wX11_day ll_84 (c_X11_day x) rfl (by decide) (by decide) rfl (Nat.le_of_ble_eq_true rfl) (Nat.le_of_succ_le hc1) (by omega) dl_684 (fun z2 c1 w3 p4 => ?_)
  obtain ⟨p4_0, p4_1⟩ := p4
  have : c1 98 3 = x 98 3 := congrFun (p4_1 98 (by omega) (by omega) (by omega) (by omega) (by omega) (by omega)) 3
  have : c1 0 13 = x 0 13 := congrFun (p4_1 0 (by omega) (by omega) (by omega) (by omega) (by omega) (by omega)) 13
  have : c1 0 14 = x 0 14 := congrFun (p4_1 0 (by omega) (by omega) (by omega) (by omega) (by omega) (by omega)) 14
  have f_c1 : ∀ j : Int, c1 77 j = x 77 j := fun j => congrFun (p4_1 77 (by omega) (by omega) (by omega) (by omega) (by omega) (by omega)) j
  have hB5 : (c1 0 13 = 110 ∧ c1 0 14 = 115) ∨ (c1 0 13 = 115 ∧ c1 0 14 = 110) := by omega
  refine lr_pop h rfl dl_687 ?_
  refine lr_aload_n h rfl 2 rfl dl_688 ?_
  refine lr_cMI (as := []) (k := 0) h kX12 at_0M wX12_day ll_87 (c_X12_day y hG (by omega)) rfl (by decide) (by decide) rfl (Nat.le_of_ble_eq_true rfl) (Nat.le_of_succ_le hc1) (by omega) dl_689 (fun z7 m6 w8 p9 => ?_)
  obtain ⟨p9_0, p9_1, p9_2, p9_3, p9_4, p9_5⟩ := p9
  have g37_m6 : m6 0 37 = y 0 37 := (p9_5 37 (by omega) (by omega) (by omega) (by omega) (by omega) (by omega) (by omega) (by omega) (by omega) (by omega))
  have f_m6 : ∀ j : Int, m6 27 j = y 27 j := fun j => congrFun (p9_4 27 (by omega) (by omega) (by omega) (by omega) (by omega)) j
  have hG := p9_3
  have hU1 : CU ((n : Int) + 1) m6 := CU_chg hU p9_2 (p9_4 20 (by omega) (by omega) (by omega) (by omega) (by omega)) (p9_4 21 (by omega) (by omega) (by omega) (by omega) (by omega)) (p9_4 22 (by omega) (by omega) (by omega) (by omega) (by omega))
  have h21 : m6 0 21 ≤ y 0 21 + 3 := by rcases p9_2 with ⟨q, _⟩ | ⟨_, q⟩ <;> omega
  refine lr_pop h rfl dl_692 ?_
  refine lr_goto (tgt := 1468) h dl_693 (by decide) ?_
  refine lr_mono (ce2 := 149 + n + 1) (sl2 := 24032 + 6 * n + 6) (Nat.le_succ _) (Nat.le_add_right _ 6) ?_
  exact next c1 m6 ⟨hB5, hG, hU1, by omega, by omega, by omega, (fun j => ((f_c1 j).trans (hF j)).trans (f_m6 j).symm), (fun j a b => by exfalso; omega)⟩
set_option maxHeartbeats 1000000 in
theorem lb_696 {C : LC} (h : LOK C 2560) {x y : Mm} {n : Nat} {at9 : Int} (hI : LI x y n) (h0 : 0 ≤ at9) (h1 : at9 + 5 ≤ lc_L C) (hn : n ≤ 511) (hc1 : 149 + n + 1 ≤ room_1.cells) (hsl1 : 24032 + 6 * n + 6 ≤ room_1.slots) (next : ∀ x' y' : Mm, LI x' y' ((n : Int) + 1) → LW C (149 + n + 1) (24032 + 6 * n + 6) x' y' 1468 [(0, .ref (lc_b C)), (1, vr (lc_GC C) 0), (2, vr (lc_GM C) 0), (3, vr (lc_GC C) 120), (4, vi at9)] []) : LW C (149 + n) (24032 + 6 * n) x y 696 [(0, .ref (lc_b C)), (1, vr (lc_GC C) 0), (2, vr (lc_GM C) 0), (3, vr (lc_GC C) 120), (4, vi at9)] [] := by
  obtain ⟨hB, hG, hU, h21, hT, hK, hF, hX⟩ := hI
  refine lr_rngM (fun hRM => ?_)
  have h02 : 0 ≤ y 0 2 := by have q := hRM 0 2; rw [rfM_2] at q; exact q.1
  refine lr_aload_n h rfl 1 rfl dl_696 ?_
  refine lr_cCI (as := []) (k := 0) h kX11 at_0 wX11_undo ll_88 (c_X11_undo x) rfl (by decide) (by decide) rfl (Nat.le_of_ble_eq_true rfl) (Nat.le_of_succ_le hc1) (by omega) dl_697 (fun z2 c1 w3 p4 => ?_)
  have p4_0 := p4
  have : c1 1 1 = x 1 1 := congrFun (p4_0 1 (by omega) (by omega) (by omega) (by omega)) 1
  have : c1 98 3 = x 98 3 := congrFun (p4_0 98 (by omega) (by omega) (by omega) (by omega)) 3
  have : c1 0 13 = x 0 13 := congrFun (p4_0 0 (by omega) (by omega) (by omega) (by omega)) 13
  have : c1 0 14 = x 0 14 := congrFun (p4_0 0 (by omega) (by omega) (by omega) (by omega)) 14
  have f_c1 : ∀ j : Int, c1 77 j = x 77 j := fun j => congrFun (p4_0 77 (by omega) (by omega) (by omega) (by omega)) j
  have hB5 : (c1 0 13 = 110 ∧ c1 0 14 = 115) ∨ (c1 0 13 = 115 ∧ c1 0 14 = 110) := by omega
  refine lr_pop h rfl dl_700 ?_
  refine lr_aload_n h rfl 2 rfl dl_701 ?_
  refine lr_cMI (as := []) (k := 0) h kX12 at_0M wX12_undo ll_91 (c_X12_undo y hG (by omega)) rfl (by decide) (by decide) rfl (Nat.le_of_ble_eq_true rfl) (Nat.le_of_succ_le hc1) (by omega) dl_702 (fun z7 m6 w8 p9 => ?_)
  obtain ⟨p9_0, p9_1, p9_2, p9_3, p9_4⟩ := p9
  have g2_m6 : m6 0 2 = y 0 2 := (p9_4 2 (by omega) (by omega) (by omega))
  have g37_m6 : m6 0 37 = y 0 37 := (p9_4 37 (by omega) (by omega) (by omega))
  have f_m6 : ∀ j : Int, m6 27 j = y 27 j := fun j => congrFun (p9_3 27 (by omega) (by omega)) j
  have hG := p9_2
  have hU1 : CU ((n : Int) + 1) m6 := CU_chg hU p9_1 (p9_3 20 (by omega) (by omega)) (p9_3 21 (by omega) (by omega)) (p9_3 22 (by omega) (by omega))
  have h21 : m6 0 21 ≤ y 0 21 + 3 := by rcases p9_1 with ⟨q, _⟩ | ⟨_, q⟩ <;> omega
  refine lr_pop h rfl dl_705 ?_
  refine lr_goto (tgt := 1468) h dl_706 (by decide) ?_
  refine lr_mono (ce2 := 149 + n + 1) (sl2 := 24032 + 6 * n + 6) (Nat.le_succ _) (Nat.le_add_right _ 6) ?_
  exact next c1 m6 ⟨hB5, hG, hU1, by omega, by omega, by omega, (fun j => ((f_c1 j).trans (hF j)).trans (f_m6 j).symm), (fun j a b => ((congrArg uch (congrFun (p9_3 2 (by omega) (by omega)) j)).trans ((hX j a (by omega)).trans (congrFun (p4_0 2 (by omega) (by omega) (by omega) (by omega)) j).symm)))⟩
set_option maxHeartbeats 1000000 in
theorem lb_709 {C : LC} (h : LOK C 2560) {x y : Mm} {n : Nat} {at9 : Int} (hI : LI x y n) (h0 : 0 ≤ at9) (h1 : at9 + 5 ≤ lc_L C) (hn : n ≤ 511) (hc1 : 149 + n + 1 ≤ room_1.cells) (hsl1 : 24032 + 6 * n + 6 ≤ room_1.slots) (next : ∀ x' y' : Mm, LI x' y' ((n : Int) + 1) → LW C (149 + n + 1) (24032 + 6 * n + 6) x' y' 1468 [(0, .ref (lc_b C)), (1, vr (lc_GC C) 0), (2, vr (lc_GM C) 0), (3, vr (lc_GC C) 120), (4, vi at9)] []) : LW C (149 + n) (24032 + 6 * n) x y 709 [(0, .ref (lc_b C)), (1, vr (lc_GC C) 0), (2, vr (lc_GM C) 0), (3, vr (lc_GC C) 120), (4, vi at9)] [] := by
  obtain ⟨hB, hG, hU, h21, hT, hK, hF, hX⟩ := hI
  refine lr_rngM (fun hRM => ?_)
  have h02 : 0 ≤ y 0 2 := by have q := hRM 0 2; rw [rfM_2] at q; exact q.1
  refine lr_aload_n h rfl 1 rfl dl_709 ?_
  refine lr_aload_n h rfl 0 rfl dl_710 ?_
  refine lr_iload h 4 rfl dl_711 ?_
  refine lr_iconst h dl_713 ?_
  refine lr_iadd h dl_714 ?_
  refine lr_sld h (Nat.le_of_ble_eq_true rfl) (by omega) (by omega) dl_715 (fun s1 hs2 es3 => ?_)
  refine lr_aload_n h rfl 0 rfl dl_716 ?_
  refine lr_iload h 4 rfl dl_717 ?_
  refine lr_iconst h dl_719 ?_
  refine lr_iadd h dl_720 ?_
  refine lr_sld h (Nat.le_of_ble_eq_true rfl) (by omega) (by omega) dl_721 (fun s4 hs5 es6 => ?_)
  refine lr_cCI (as := [vi s1, vi s4]) (k := 0) h kX11 at_0 wX11_best ll_92 (c_X11_best x s1 s4 hs2 hs5 hB) rfl (by decide) (by decide) rfl (Nat.le_of_ble_eq_true rfl) (Nat.le_of_succ_le hc1) (by omega) dl_722 (fun z8 c7 w9 p10 => ?_)
  have p10_0 := p10
  have : c7 1 1 = x 1 1 := congrFun (p10_0 1 (by omega) (by omega) (by omega)) 1
  have : c7 98 3 = x 98 3 := congrFun (p10_0 98 (by omega) (by omega) (by omega)) 3
  have : c7 0 13 = x 0 13 := congrFun (p10_0 0 (by omega) (by omega) (by omega)) 13
  have : c7 0 14 = x 0 14 := congrFun (p10_0 0 (by omega) (by omega) (by omega)) 14
  have f_c7 : ∀ j : Int, c7 77 j = x 77 j := fun j => congrFun (p10_0 77 (by omega) (by omega) (by omega)) j
  have hB11 : (c7 0 13 = 110 ∧ c7 0 14 = 115) ∨ (c7 0 13 = 115 ∧ c7 0 14 = 110) := by omega
  refine lr_pop h rfl dl_725 ?_
  refine lr_aload_n h rfl 2 rfl dl_726 ?_
  refine lr_aload_n h rfl 0 rfl dl_727 ?_
  refine lr_iload h 4 rfl dl_728 ?_
  refine lr_iconst h dl_730 ?_
  refine lr_iadd h dl_731 ?_
  refine lr_sld h (Nat.le_of_ble_eq_true rfl) (by omega) (by omega) dl_732 (fun s12 hs13 es14 => ?_)
  rw [show s12 = s1 from es14.trans es3.symm]
  refine lr_aload_n h rfl 0 rfl dl_733 ?_
  refine lr_iload h 4 rfl dl_734 ?_
  refine lr_iconst h dl_736 ?_
  refine lr_iadd h dl_737 ?_
  refine lr_sld h (Nat.le_of_ble_eq_true rfl) (by omega) (by omega) dl_738 (fun s15 hs16 es17 => ?_)
  rw [show s15 = s4 from es17.trans es6.symm]
  refine lr_cMI (as := [vi s1, vi s4]) (k := 0) h kX12 at_0M wX12_best ll_95 (c_X12_best y s1 s4 hs2 hs5 hG) rfl (by decide) (by decide) rfl (Nat.le_of_ble_eq_true rfl) (Nat.le_of_succ_le hc1) (by omega) dl_739 (fun z19 m18 w20 p21 => ?_)
  obtain ⟨p21_0, p21_1, p21_2, p21_3⟩ := p21
  have g2_m18 : m18 0 2 = y 0 2 := (p21_3 2 (by omega) (by omega) (by omega) (by omega) (by omega) (by omega) (by omega) (by omega) (by omega))
  have g37_m18 : m18 0 37 = y 0 37 := (p21_3 37 (by omega) (by omega) (by omega) (by omega) (by omega) (by omega) (by omega) (by omega) (by omega))
  have g21_m18 : m18 0 21 = y 0 21 := (p21_3 21 (by omega) (by omega) (by omega) (by omega) (by omega) (by omega) (by omega) (by omega) (by omega))
  have f_m18 : ∀ j : Int, m18 27 j = y 27 j := fun j => congrFun (p21_2 27 (by omega) (by omega) (by omega) (by omega)) j
  have hG := p21_1
  have hU1 : CU ((n : Int) + 1) m18 := CU_id hU g21_m18 (p21_2 1 (by omega) (by omega) (by omega) (by omega)) (p21_2 20 (by omega) (by omega) (by omega) (by omega)) (p21_2 21 (by omega) (by omega) (by omega) (by omega)) (p21_2 22 (by omega) (by omega) (by omega) (by omega))
  refine lr_pop h rfl dl_742 ?_
  refine lr_goto (tgt := 1468) h dl_743 (by decide) ?_
  refine lr_mono (ce2 := 149 + n + 1) (sl2 := 24032 + 6 * n + 6) (Nat.le_succ _) (Nat.le_add_right _ 6) ?_
  exact next c7 m18 ⟨hB11, hG, hU1, by omega, by omega, by omega, (fun j => ((f_c7 j).trans (hF j)).trans (f_m18 j).symm), (fun j a b => ((congrArg uch (congrFun (p21_2 2 (by omega) (by omega) (by omega) (by omega)) j)).trans ((hX j a (by omega)).trans (congrFun (p10_0 2 (by omega) (by omega) (by omega)) j).symm)))⟩
set_option maxHeartbeats 1000000 in
theorem lb_746 {C : LC} (h : LOK C 2560) {x y : Mm} {n : Nat} {at9 : Int} (hI : LI x y n) (h0 : 0 ≤ at9) (h1 : at9 + 5 ≤ lc_L C) (hn : n ≤ 511) (hc1 : 149 + n + 1 ≤ room_1.cells) (hsl1 : 24032 + 6 * n + 6 ≤ room_1.slots) (next : ∀ x' y' : Mm, LI x' y' ((n : Int) + 1) → LW C (149 + n + 1) (24032 + 6 * n + 6) x' y' 1468 [(0, .ref (lc_b C)), (1, vr (lc_GC C) 0), (2, vr (lc_GM C) 0), (3, vr (lc_GC C) 120), (4, vi at9)] []) : LW C (149 + n) (24032 + 6 * n) x y 746 [(0, .ref (lc_b C)), (1, vr (lc_GC C) 0), (2, vr (lc_GM C) 0), (3, vr (lc_GC C) 120), (4, vi at9)] [] := by
  obtain ⟨hB, hG, hU, h21, hT, hK, hF, hX⟩ := hI
  refine lr_rngM (fun hRM => ?_)
  have h02 : 0 ≤ y 0 2 := by have q := hRM 0 2; rw [rfM_2] at q; exact q.1
  refine lr_aload_n h rfl 1 rfl dl_746 ?_
  refine lr_aload_n h rfl 0 rfl dl_747 ?_
  refine lr_iload h 4 rfl dl_748 ?_
  refine lr_iconst h dl_750 ?_
  refine lr_iadd h dl_751 ?_
  refine lr_sld h (Nat.le_of_ble_eq_true rfl) (by omega) (by omega) dl_752 (fun s1 hs2 es3 => ?_)
  refine lr_cCI (as := [vi s1]) (k := 0) h kX11 at_0 wX11_many ll_96 (c_X11_many x s1 hs2 hB) rfl (by decide) (by decide) rfl (Nat.le_of_ble_eq_true rfl) (Nat.le_of_succ_le hc1) (by omega) dl_753 (fun z5 c4 w6 p7 => ?_)
  have p7_0 := p7
  have : c4 1 1 = x 1 1 := congrFun (p7_0 1 (by omega) (by omega) (by omega)) 1
  have : c4 98 3 = x 98 3 := congrFun (p7_0 98 (by omega) (by omega) (by omega)) 3
  have : c4 0 13 = x 0 13 := congrFun (p7_0 0 (by omega) (by omega) (by omega)) 13
  have : c4 0 14 = x 0 14 := congrFun (p7_0 0 (by omega) (by omega) (by omega)) 14
  have f_c4 : ∀ j : Int, c4 77 j = x 77 j := fun j => congrFun (p7_0 77 (by omega) (by omega) (by omega)) j
  have hB8 : (c4 0 13 = 110 ∧ c4 0 14 = 115) ∨ (c4 0 13 = 115 ∧ c4 0 14 = 110) := by omega
  refine lr_pop h rfl dl_756 ?_
  refine lr_aload_n h rfl 2 rfl dl_757 ?_
  refine lr_aload_n h rfl 0 rfl dl_758 ?_
  refine lr_iload h 4 rfl dl_759 ?_
  refine lr_iconst h dl_761 ?_
  refine lr_iadd h dl_762 ?_
  refine lr_sld h (Nat.le_of_ble_eq_true rfl) (by omega) (by omega) dl_763 (fun s9 hs10 es11 => ?_)
  rw [show s9 = s1 from es11.trans es3.symm]
  refine lr_cMI (as := [vi s1]) (k := 0) h kX12 at_0M wX12_many ll_99 (c_X12_many y s1 hs2 hG) rfl (by decide) (by decide) rfl (Nat.le_of_ble_eq_true rfl) (Nat.le_of_succ_le hc1) (by omega) dl_764 (fun z13 m12 w14 p15 => ?_)
  obtain ⟨p15_0, p15_1, p15_2, p15_3⟩ := p15
  have g2_m12 : m12 0 2 = y 0 2 := (p15_3 2 (by omega) (by omega) (by omega) (by omega) (by omega) (by omega) (by omega) (by omega) (by omega))
  have g37_m12 : m12 0 37 = y 0 37 := (p15_3 37 (by omega) (by omega) (by omega) (by omega) (by omega) (by omega) (by omega) (by omega) (by omega))
  have g21_m12 : m12 0 21 = y 0 21 := (p15_3 21 (by omega) (by omega) (by omega) (by omega) (by omega) (by omega) (by omega) (by omega) (by omega))
  have f_m12 : ∀ j : Int, m12 27 j = y 27 j := fun j => congrFun (p15_2 27 (by omega) (by omega) (by omega) (by omega)) j
  have hG := p15_1
  have hU1 : CU ((n : Int) + 1) m12 := CU_id hU g21_m12 (p15_2 1 (by omega) (by omega) (by omega) (by omega)) (p15_2 20 (by omega) (by omega) (by omega) (by omega)) (p15_2 21 (by omega) (by omega) (by omega) (by omega)) (p15_2 22 (by omega) (by omega) (by omega) (by omega))
  refine lr_pop h rfl dl_767 ?_
  refine lr_goto (tgt := 1468) h dl_768 (by decide) ?_
  refine lr_mono (ce2 := 149 + n + 1) (sl2 := 24032 + 6 * n + 6) (Nat.le_succ _) (Nat.le_add_right _ 6) ?_
  exact next c4 m12 ⟨hB8, hG, hU1, by omega, by omega, by omega, (fun j => ((f_c4 j).trans (hF j)).trans (f_m12 j).symm), (fun j a b => ((congrArg uch (congrFun (p15_2 2 (by omega) (by omega) (by omega) (by omega)) j)).trans ((hX j a (by omega)).trans (congrFun (p7_0 2 (by omega) (by omega) (by omega)) j).symm)))⟩
set_option maxHeartbeats 1000000 in
theorem lb_771 {C : LC} (h : LOK C 2560) {x y : Mm} {n : Nat} {at9 : Int} (hI : LI x y n) (h0 : 0 ≤ at9) (h1 : at9 + 5 ≤ lc_L C) (hn : n ≤ 511) (hc1 : 149 + n + 1 ≤ room_1.cells) (hsl1 : 24032 + 6 * n + 6 ≤ room_1.slots) (next : ∀ x' y' : Mm, LI x' y' ((n : Int) + 1) → LW C (149 + n + 1) (24032 + 6 * n + 6) x' y' 1468 [(0, .ref (lc_b C)), (1, vr (lc_GC C) 0), (2, vr (lc_GM C) 0), (3, vr (lc_GC C) 120), (4, vi at9)] []) : LW C (149 + n) (24032 + 6 * n) x y 771 [(0, .ref (lc_b C)), (1, vr (lc_GC C) 0), (2, vr (lc_GM C) 0), (3, vr (lc_GC C) 120), (4, vi at9)] [] := by
  obtain ⟨hB, hG, hU, h21, hT, hK, hF, hX⟩ := hI
  refine lr_rngM (fun hRM => ?_)
  have h02 : 0 ≤ y 0 2 := by have q := hRM 0 2; rw [rfM_2] at q; exact q.1
  refine lr_aload_n h rfl 1 rfl dl_771 ?_
  refine lr_aload_n h rfl 0 rfl dl_772 ?_
  refine lr_iload h 4 rfl dl_773 ?_
  refine lr_iconst h dl_775 ?_
  refine lr_iadd h dl_776 ?_
  refine lr_sld h (Nat.le_of_ble_eq_true rfl) (by omega) (by omega) dl_777 (fun s1 hs2 es3 => ?_)
  refine lr_aload_n h rfl 0 rfl dl_778 ?_
  refine lr_iload h 4 rfl dl_779 ?_
  refine lr_iconst h dl_781 ?_
  refine lr_iadd h dl_782 ?_
  refine lr_sld h (Nat.le_of_ble_eq_true rfl) (by omega) (by omega) dl_783 (fun s4 hs5 es6 => ?_)
  refine lr_cCI (as := [vi s1, vi s4]) (k := 0) h kX11 at_0 wX11_below ll_100 (c_X11_below x s1 s4 hs2 hs5 hB) rfl (by decide) (by decide) rfl (Nat.le_of_ble_eq_true rfl) (Nat.le_of_succ_le hc1) (by omega) dl_784 (fun z8 c7 w9 p10 => ?_)
  have p10_0 := p10
  have : c7 1 1 = x 1 1 := congrFun (p10_0 1 (by omega) (by omega) (by omega)) 1
  have : c7 98 3 = x 98 3 := congrFun (p10_0 98 (by omega) (by omega) (by omega)) 3
  have : c7 0 13 = x 0 13 := congrFun (p10_0 0 (by omega) (by omega) (by omega)) 13
  have : c7 0 14 = x 0 14 := congrFun (p10_0 0 (by omega) (by omega) (by omega)) 14
  have f_c7 : ∀ j : Int, c7 77 j = x 77 j := fun j => congrFun (p10_0 77 (by omega) (by omega) (by omega)) j
  have hB11 : (c7 0 13 = 110 ∧ c7 0 14 = 115) ∨ (c7 0 13 = 115 ∧ c7 0 14 = 110) := by omega
  refine lr_pop h rfl dl_787 ?_
  refine lr_aload_n h rfl 2 rfl dl_788 ?_
  refine lr_aload_n h rfl 0 rfl dl_789 ?_
  refine lr_iload h 4 rfl dl_790 ?_
  refine lr_iconst h dl_792 ?_
  refine lr_iadd h dl_793 ?_
  refine lr_sld h (Nat.le_of_ble_eq_true rfl) (by omega) (by omega) dl_794 (fun s12 hs13 es14 => ?_)
  rw [show s12 = s1 from es14.trans es3.symm]
  refine lr_aload_n h rfl 0 rfl dl_795 ?_
  refine lr_iload h 4 rfl dl_796 ?_
  refine lr_iconst h dl_798 ?_
  refine lr_iadd h dl_799 ?_
  refine lr_sld h (Nat.le_of_ble_eq_true rfl) (by omega) (by omega) dl_800 (fun s15 hs16 es17 => ?_)
  rw [show s15 = s4 from es17.trans es6.symm]
  refine lr_cMI (as := [vi s1, vi s4]) (k := 0) h kX12 at_0M wX12_below ll_103 (c_X12_below y s1 s4 hs2 hs5 hG) rfl (by decide) (by decide) rfl (Nat.le_of_ble_eq_true rfl) (Nat.le_of_succ_le hc1) (by omega) dl_801 (fun z19 m18 w20 p21 => ?_)
  obtain ⟨p21_0, p21_1, p21_2, p21_3⟩ := p21
  have g2_m18 : m18 0 2 = y 0 2 := (p21_3 2 (by omega) (by omega) (by omega) (by omega) (by omega) (by omega) (by omega) (by omega) (by omega))
  have g37_m18 : m18 0 37 = y 0 37 := (p21_3 37 (by omega) (by omega) (by omega) (by omega) (by omega) (by omega) (by omega) (by omega) (by omega))
  have g21_m18 : m18 0 21 = y 0 21 := (p21_3 21 (by omega) (by omega) (by omega) (by omega) (by omega) (by omega) (by omega) (by omega) (by omega))
  have f_m18 : ∀ j : Int, m18 27 j = y 27 j := fun j => congrFun (p21_2 27 (by omega) (by omega) (by omega) (by omega)) j
  have hG := p21_1
  have hU1 : CU ((n : Int) + 1) m18 := CU_id hU g21_m18 (p21_2 1 (by omega) (by omega) (by omega) (by omega)) (p21_2 20 (by omega) (by omega) (by omega) (by omega)) (p21_2 21 (by omega) (by omega) (by omega) (by omega)) (p21_2 22 (by omega) (by omega) (by omega) (by omega))
  refine lr_pop h rfl dl_804 ?_
  refine lr_goto (tgt := 1468) h dl_805 (by decide) ?_
  refine lr_mono (ce2 := 149 + n + 1) (sl2 := 24032 + 6 * n + 6) (Nat.le_succ _) (Nat.le_add_right _ 6) ?_
  exact next c7 m18 ⟨hB11, hG, hU1, by omega, by omega, by omega, (fun j => ((f_c7 j).trans (hF j)).trans (f_m18 j).symm), (fun j a b => ((congrArg uch (congrFun (p21_2 2 (by omega) (by omega) (by omega) (by omega)) j)).trans ((hX j a (by omega)).trans (congrFun (p10_0 2 (by omega) (by omega) (by omega)) j).symm)))⟩
set_option maxHeartbeats 1000000 in
theorem lb_808 {C : LC} (h : LOK C 2560) {x y : Mm} {n : Nat} {at9 : Int} (hI : LI x y n) (h0 : 0 ≤ at9) (h1 : at9 + 5 ≤ lc_L C) (hn : n ≤ 511) (hc1 : 149 + n + 1 ≤ room_1.cells) (hsl1 : 24032 + 6 * n + 6 ≤ room_1.slots) (next : ∀ x' y' : Mm, LI x' y' ((n : Int) + 1) → LW C (149 + n + 1) (24032 + 6 * n + 6) x' y' 1468 [(0, .ref (lc_b C)), (1, vr (lc_GC C) 0), (2, vr (lc_GM C) 0), (3, vr (lc_GC C) 120), (4, vi at9)] []) : LW C (149 + n) (24032 + 6 * n) x y 808 [(0, .ref (lc_b C)), (1, vr (lc_GC C) 0), (2, vr (lc_GM C) 0), (3, vr (lc_GC C) 120), (4, vi at9)] [] := by
  obtain ⟨hB, hG, hU, h21, hT, hK, hF, hX⟩ := hI
  refine lr_rngM (fun hRM => ?_)
  have h02 : 0 ≤ y 0 2 := by have q := hRM 0 2; rw [rfM_2] at q; exact q.1
  refine lr_aload_n h rfl 1 rfl dl_808 ?_
  refine lr_aload_n h rfl 0 rfl dl_809 ?_
  refine lr_iload h 4 rfl dl_810 ?_
  refine lr_iconst h dl_812 ?_
  refine lr_iadd h dl_813 ?_
  refine lr_sld h (Nat.le_of_ble_eq_true rfl) (by omega) (by omega) dl_814 (fun s1 hs2 es3 => ?_)
  refine lr_cCI (as := [vi s1]) (k := 0) h kX11 at_0 wX11_rank ll_104 (c_X11_rank x s1 hs2 hB) rfl (by decide) (by decide) rfl (Nat.le_of_ble_eq_true rfl) (Nat.le_of_succ_le hc1) (by omega) dl_815 (fun z5 c4 w6 p7 => ?_)
  obtain ⟨p7_0, p7_1⟩ := p7
  have : c4 98 3 = x 98 3 := congrFun (p7_1 98 (by omega) (by omega) (by omega) (by omega)) 3
  have : c4 0 13 = x 0 13 := congrFun (p7_1 0 (by omega) (by omega) (by omega) (by omega)) 13
  have : c4 0 14 = x 0 14 := congrFun (p7_1 0 (by omega) (by omega) (by omega) (by omega)) 14
  have f_c4 : ∀ j : Int, c4 77 j = x 77 j := fun j => congrFun (p7_1 77 (by omega) (by omega) (by omega) (by omega)) j
  have hB8 : (c4 0 13 = 110 ∧ c4 0 14 = 115) ∨ (c4 0 13 = 115 ∧ c4 0 14 = 110) := by omega
  refine lr_pop h rfl dl_818 ?_
  refine lr_aload_n h rfl 2 rfl dl_819 ?_
  refine lr_aload_n h rfl 0 rfl dl_820 ?_
  refine lr_iload h 4 rfl dl_821 ?_
  refine lr_iconst h dl_823 ?_
  refine lr_iadd h dl_824 ?_
  refine lr_sld h (Nat.le_of_ble_eq_true rfl) (by omega) (by omega) dl_825 (fun s9 hs10 es11 => ?_)
  rw [show s9 = s1 from es11.trans es3.symm]
  refine lr_cMI (as := [vi s1]) (k := 0) h kX12 at_0M wX12_rank ll_107 (c_X12_rank y s1 hs2 hG) rfl (by decide) (by decide) rfl (Nat.le_of_ble_eq_true rfl) (Nat.le_of_succ_le hc1) (by omega) dl_826 (fun z13 m12 w14 p15 => ?_)
  obtain ⟨p15_0, p15_1, p15_2, p15_3, p15_4⟩ := p15
  have g37_m12 : m12 0 37 = y 0 37 := (p15_4 37 (by omega) (by omega) (by omega) (by omega) (by omega) (by omega) (by omega) (by omega) (by omega) (by omega))
  have g21_m12 : m12 0 21 = y 0 21 := (p15_4 21 (by omega) (by omega) (by omega) (by omega) (by omega) (by omega) (by omega) (by omega) (by omega) (by omega))
  have f_m12 : ∀ j : Int, m12 27 j = y 27 j := fun j => congrFun (p15_3 27 (by omega) (by omega) (by omega) (by omega) (by omega)) j
  have hG := p15_2
  have hU1 : CU ((n : Int) + 1) m12 := CU_id hU g21_m12 (p15_3 1 (by omega) (by omega) (by omega) (by omega) (by omega)) (p15_3 20 (by omega) (by omega) (by omega) (by omega) (by omega)) (p15_3 21 (by omega) (by omega) (by omega) (by omega) (by omega)) (p15_3 22 (by omega) (by omega) (by omega) (by omega) (by omega))
  refine lr_pop h rfl dl_829 ?_
  refine lr_goto (tgt := 1468) h dl_830 (by decide) ?_
  refine lr_mono (ce2 := 149 + n + 1) (sl2 := 24032 + 6 * n + 6) (Nat.le_succ _) (Nat.le_add_right _ 6) ?_
  exact next c4 m12 ⟨hB8, hG, hU1, by omega, by omega, by omega, (fun j => ((f_c4 j).trans (hF j)).trans (f_m12 j).symm), (fun j a b => by exfalso; omega)⟩
set_option maxHeartbeats 1000000 in
theorem lb_833 {C : LC} (h : LOK C 2560) {x y : Mm} {n : Nat} {at9 : Int} (hI : LI x y n) (h0 : 0 ≤ at9) (h1 : at9 + 5 ≤ lc_L C) (hn : n ≤ 511) (hc1 : 149 + n + 1 ≤ room_1.cells) (hsl1 : 24032 + 6 * n + 6 ≤ room_1.slots) (next : ∀ x' y' : Mm, LI x' y' ((n : Int) + 1) → LW C (149 + n + 1) (24032 + 6 * n + 6) x' y' 1468 [(0, .ref (lc_b C)), (1, vr (lc_GC C) 0), (2, vr (lc_GM C) 0), (3, vr (lc_GC C) 120), (4, vi at9)] []) : LW C (149 + n) (24032 + 6 * n) x y 833 [(0, .ref (lc_b C)), (1, vr (lc_GC C) 0), (2, vr (lc_GM C) 0), (3, vr (lc_GC C) 120), (4, vi at9)] [] := by
  obtain ⟨hB, hG, hU, h21, hT, hK, hF, hX⟩ := hI
  refine lr_rngM (fun hRM => ?_)
  have h02 : 0 ≤ y 0 2 := by have q := hRM 0 2; rw [rfM_2] at q; exact q.1
  refine lr_aload_n h rfl 1 rfl dl_833 ?_
  refine lr_aload_n h rfl 0 rfl dl_834 ?_
  refine lr_iload h 4 rfl dl_835 ?_
  refine lr_iconst h dl_837 ?_
  refine lr_iadd h dl_838 ?_
  refine lr_sld h (Nat.le_of_ble_eq_true rfl) (by omega) (by omega) dl_839 (fun s1 hs2 es3 => ?_)
  refine lr_aload_n h rfl 0 rfl dl_840 ?_
  refine lr_iload h 4 rfl dl_841 ?_
  refine lr_iconst h dl_843 ?_
  refine lr_iadd h dl_844 ?_
  refine lr_sld h (Nat.le_of_ble_eq_true rfl) (by omega) (by omega) dl_845 (fun s4 hs5 es6 => ?_)
  refine lr_cCI (as := [vi s1, vi s4]) (k := 0) h kX11 at_0 wX11_alike ll_108 (c_X11_alike x s1 s4 hs2 hs5 hB) rfl (by decide) (by decide) rfl (Nat.le_of_ble_eq_true rfl) (Nat.le_of_succ_le hc1) (by omega) dl_846 (fun z8 c7 w9 p10 => ?_)
  have p10_0 := p10
  have : c7 1 1 = x 1 1 := congrFun (p10_0 1 (by omega) (by omega) (by omega)) 1
  have : c7 98 3 = x 98 3 := congrFun (p10_0 98 (by omega) (by omega) (by omega)) 3
  have : c7 0 13 = x 0 13 := congrFun (p10_0 0 (by omega) (by omega) (by omega)) 13
  have : c7 0 14 = x 0 14 := congrFun (p10_0 0 (by omega) (by omega) (by omega)) 14
  have f_c7 : ∀ j : Int, c7 77 j = x 77 j := fun j => congrFun (p10_0 77 (by omega) (by omega) (by omega)) j
  have hB11 : (c7 0 13 = 110 ∧ c7 0 14 = 115) ∨ (c7 0 13 = 115 ∧ c7 0 14 = 110) := by omega
  refine lr_pop h rfl dl_849 ?_
  refine lr_aload_n h rfl 2 rfl dl_850 ?_
  refine lr_aload_n h rfl 0 rfl dl_851 ?_
  refine lr_iload h 4 rfl dl_852 ?_
  refine lr_iconst h dl_854 ?_
  refine lr_iadd h dl_855 ?_
  refine lr_sld h (Nat.le_of_ble_eq_true rfl) (by omega) (by omega) dl_856 (fun s12 hs13 es14 => ?_)
  rw [show s12 = s1 from es14.trans es3.symm]
  refine lr_aload_n h rfl 0 rfl dl_857 ?_
  refine lr_iload h 4 rfl dl_858 ?_
  refine lr_iconst h dl_860 ?_
  refine lr_iadd h dl_861 ?_
  refine lr_sld h (Nat.le_of_ble_eq_true rfl) (by omega) (by omega) dl_862 (fun s15 hs16 es17 => ?_)
  rw [show s15 = s4 from es17.trans es6.symm]
  refine lr_cMI (as := [vi s1, vi s4]) (k := 0) h kX12 at_0M wX12_alike ll_111 (c_X12_alike y s1 s4 hs2 hs5 hG) rfl (by decide) (by decide) rfl (Nat.le_of_ble_eq_true rfl) (Nat.le_of_succ_le hc1) (by omega) dl_863 (fun z19 m18 w20 p21 => ?_)
  obtain ⟨p21_0, p21_1, p21_2, p21_3⟩ := p21
  have g2_m18 : m18 0 2 = y 0 2 := (p21_3 2 (by omega) (by omega) (by omega) (by omega) (by omega) (by omega) (by omega) (by omega) (by omega))
  have g37_m18 : m18 0 37 = y 0 37 := (p21_3 37 (by omega) (by omega) (by omega) (by omega) (by omega) (by omega) (by omega) (by omega) (by omega))
  have g21_m18 : m18 0 21 = y 0 21 := (p21_3 21 (by omega) (by omega) (by omega) (by omega) (by omega) (by omega) (by omega) (by omega) (by omega))
  have f_m18 : ∀ j : Int, m18 27 j = y 27 j := fun j => congrFun (p21_2 27 (by omega) (by omega) (by omega) (by omega)) j
  have hG := p21_1
  have hU1 : CU ((n : Int) + 1) m18 := CU_id hU g21_m18 (p21_2 1 (by omega) (by omega) (by omega) (by omega)) (p21_2 20 (by omega) (by omega) (by omega) (by omega)) (p21_2 21 (by omega) (by omega) (by omega) (by omega)) (p21_2 22 (by omega) (by omega) (by omega) (by omega))
  refine lr_pop h rfl dl_866 ?_
  refine lr_goto (tgt := 1468) h dl_867 (by decide) ?_
  refine lr_mono (ce2 := 149 + n + 1) (sl2 := 24032 + 6 * n + 6) (Nat.le_succ _) (Nat.le_add_right _ 6) ?_
  exact next c7 m18 ⟨hB11, hG, hU1, by omega, by omega, by omega, (fun j => ((f_c7 j).trans (hF j)).trans (f_m18 j).symm), (fun j a b => ((congrArg uch (congrFun (p21_2 2 (by omega) (by omega) (by omega) (by omega)) j)).trans ((hX j a (by omega)).trans (congrFun (p10_0 2 (by omega) (by omega) (by omega)) j).symm)))⟩
set_option maxHeartbeats 1000000 in
theorem lb_870 {C : LC} (h : LOK C 2560) {x y : Mm} {n : Nat} {at9 : Int} (hI : LI x y n) (h0 : 0 ≤ at9) (h1 : at9 + 5 ≤ lc_L C) (hn : n ≤ 511) (hc1 : 149 + n + 1 ≤ room_1.cells) (hsl1 : 24032 + 6 * n + 6 ≤ room_1.slots) (next : ∀ x' y' : Mm, LI x' y' ((n : Int) + 1) → LW C (149 + n + 1) (24032 + 6 * n + 6) x' y' 1468 [(0, .ref (lc_b C)), (1, vr (lc_GC C) 0), (2, vr (lc_GM C) 0), (3, vr (lc_GC C) 120), (4, vi at9)] []) : LW C (149 + n) (24032 + 6 * n) x y 870 [(0, .ref (lc_b C)), (1, vr (lc_GC C) 0), (2, vr (lc_GM C) 0), (3, vr (lc_GC C) 120), (4, vi at9)] [] := by
  obtain ⟨hB, hG, hU, h21, hT, hK, hF, hX⟩ := hI
  refine lr_rngM (fun hRM => ?_)
  have h02 : 0 ≤ y 0 2 := by have q := hRM 0 2; rw [rfM_2] at q; exact q.1
  refine lr_aload_n h rfl 1 rfl dl_870 ?_
  refine lr_aload_n h rfl 0 rfl dl_871 ?_
  refine lr_iload h 4 rfl dl_872 ?_
  refine lr_iconst h dl_874 ?_
  refine lr_iadd h dl_875 ?_
  refine lr_sld h (Nat.le_of_ble_eq_true rfl) (by omega) (by omega) dl_876 (fun s1 hs2 es3 => ?_)
  refine lr_cCI (as := [vi s1]) (k := 0) h kX11 at_0 wX11_surely ll_112 (c_X11_surely x s1 hs2 hB) rfl (by decide) (by decide) rfl (Nat.le_of_ble_eq_true rfl) (Nat.le_of_succ_le hc1) (by omega) dl_877 (fun z5 c4 w6 p7 => ?_)
  have p7_0 := p7
  have : c4 1 1 = x 1 1 := congrFun (p7_0 1 (by omega) (by omega) (by omega)) 1
  have : c4 98 3 = x 98 3 := congrFun (p7_0 98 (by omega) (by omega) (by omega)) 3
  have : c4 0 13 = x 0 13 := congrFun (p7_0 0 (by omega) (by omega) (by omega)) 13
  have : c4 0 14 = x 0 14 := congrFun (p7_0 0 (by omega) (by omega) (by omega)) 14
  have f_c4 : ∀ j : Int, c4 77 j = x 77 j := fun j => congrFun (p7_0 77 (by omega) (by omega) (by omega)) j
  have hB8 : (c4 0 13 = 110 ∧ c4 0 14 = 115) ∨ (c4 0 13 = 115 ∧ c4 0 14 = 110) := by omega
  refine lr_pop h rfl dl_880 ?_
  refine lr_aload_n h rfl 2 rfl dl_881 ?_
  refine lr_aload_n h rfl 0 rfl dl_882 ?_
  refine lr_iload h 4 rfl dl_883 ?_
  refine lr_iconst h dl_885 ?_
  refine lr_iadd h dl_886 ?_
  refine lr_sld h (Nat.le_of_ble_eq_true rfl) (by omega) (by omega) dl_887 (fun s9 hs10 es11 => ?_)
  rw [show s9 = s1 from es11.trans es3.symm]
  refine lr_cMI (as := [vi s1]) (k := 0) h kX12 at_0M wX12_surely ll_115 (c_X12_surely y s1 hs2 hG) rfl (by decide) (by decide) rfl (Nat.le_of_ble_eq_true rfl) (Nat.le_of_succ_le hc1) (by omega) dl_888 (fun z13 m12 w14 p15 => ?_)
  obtain ⟨p15_0, p15_1, p15_2, p15_3⟩ := p15
  have g2_m12 : m12 0 2 = y 0 2 := (p15_3 2 (by omega) (by omega) (by omega) (by omega) (by omega) (by omega) (by omega) (by omega) (by omega))
  have g37_m12 : m12 0 37 = y 0 37 := (p15_3 37 (by omega) (by omega) (by omega) (by omega) (by omega) (by omega) (by omega) (by omega) (by omega))
  have g21_m12 : m12 0 21 = y 0 21 := (p15_3 21 (by omega) (by omega) (by omega) (by omega) (by omega) (by omega) (by omega) (by omega) (by omega))
  have f_m12 : ∀ j : Int, m12 27 j = y 27 j := fun j => congrFun (p15_2 27 (by omega) (by omega) (by omega) (by omega)) j
  have hG := p15_1
  have hU1 : CU ((n : Int) + 1) m12 := CU_id hU g21_m12 (p15_2 1 (by omega) (by omega) (by omega) (by omega)) (p15_2 20 (by omega) (by omega) (by omega) (by omega)) (p15_2 21 (by omega) (by omega) (by omega) (by omega)) (p15_2 22 (by omega) (by omega) (by omega) (by omega))
  refine lr_pop h rfl dl_891 ?_
  refine lr_goto (tgt := 1468) h dl_892 (by decide) ?_
  refine lr_mono (ce2 := 149 + n + 1) (sl2 := 24032 + 6 * n + 6) (Nat.le_succ _) (Nat.le_add_right _ 6) ?_
  exact next c4 m12 ⟨hB8, hG, hU1, by omega, by omega, by omega, (fun j => ((f_c4 j).trans (hF j)).trans (f_m12 j).symm), (fun j a b => ((congrArg uch (congrFun (p15_2 2 (by omega) (by omega) (by omega) (by omega)) j)).trans ((hX j a (by omega)).trans (congrFun (p7_0 2 (by omega) (by omega) (by omega)) j).symm)))⟩
set_option maxHeartbeats 1000000 in
theorem lb_895 {C : LC} (h : LOK C 2560) {x y : Mm} {n : Nat} {at9 : Int} (hI : LI x y n) (h0 : 0 ≤ at9) (h1 : at9 + 5 ≤ lc_L C) (hn : n ≤ 511) (hc1 : 149 + n + 1 ≤ room_1.cells) (hsl1 : 24032 + 6 * n + 6 ≤ room_1.slots) (next : ∀ x' y' : Mm, LI x' y' ((n : Int) + 1) → LW C (149 + n + 1) (24032 + 6 * n + 6) x' y' 1468 [(0, .ref (lc_b C)), (1, vr (lc_GC C) 0), (2, vr (lc_GM C) 0), (3, vr (lc_GC C) 120), (4, vi at9)] []) : LW C (149 + n) (24032 + 6 * n) x y 895 [(0, .ref (lc_b C)), (1, vr (lc_GC C) 0), (2, vr (lc_GM C) 0), (3, vr (lc_GC C) 120), (4, vi at9)] [] := by
  obtain ⟨hB, hG, hU, h21, hT, hK, hF, hX⟩ := hI
  refine lr_rngM (fun hRM => ?_)
  have h02 : 0 ≤ y 0 2 := by have q := hRM 0 2; rw [rfM_2] at q; exact q.1
  refine lr_aload_n h rfl 1 rfl dl_895 ?_
  refine lr_aload_n h rfl 0 rfl dl_896 ?_
  refine lr_iload h 4 rfl dl_897 ?_
  refine lr_iconst h dl_899 ?_
  refine lr_iadd h dl_900 ?_
  refine lr_sld h (Nat.le_of_ble_eq_true rfl) (by omega) (by omega) dl_901 (fun s1 hs2 es3 => ?_)
  refine lr_aload_n h rfl 0 rfl dl_902 ?_
  refine lr_iload h 4 rfl dl_903 ?_
  refine lr_iconst h dl_905 ?_
  refine lr_iadd h dl_906 ?_
  refine lr_sld h (Nat.le_of_ble_eq_true rfl) (by omega) (by omega) dl_907 (fun s4 hs5 es6 => ?_)
  refine lr_aload_n h rfl 0 rfl dl_908 ?_
  refine lr_iload h 4 rfl dl_909 ?_
  refine lr_iconst h dl_911 ?_
  refine lr_iadd h dl_912 ?_
  refine lr_sld h (Nat.le_of_ble_eq_true rfl) (by omega) (by omega) dl_913 (fun s7 hs8 es9 => ?_)
  refine lr_aload_n h rfl 0 rfl dl_914 ?_
  refine lr_iload h 4 rfl dl_915 ?_
  refine lr_iconst h dl_917 ?_
  refine lr_iadd h dl_918 ?_
  refine lr_sld h (Nat.le_of_ble_eq_true rfl) (by omega) (by omega) dl_919 (fun s10 hs11 es12 => ?_)
  refine lr_cCI (as := [vi s1, vi s4, vi s7, vi s10]) (k := 0) h kX11 at_0 wX11_having ll_116 (c_X11_having x s1 s4 s7 s10 hs2 hs5 hs8 hs11 hB) rfl (by decide) (by decide) rfl (Nat.le_of_ble_eq_true rfl) (Nat.le_of_succ_le hc1) (by omega) dl_920 (fun z14 c13 w15 p16 => ?_)
  have p16_0 := p16
  have : c13 1 1 = x 1 1 := congrFun (p16_0 1 (by omega) (by omega) (by omega)) 1
  have : c13 98 3 = x 98 3 := congrFun (p16_0 98 (by omega) (by omega) (by omega)) 3
  have : c13 0 13 = x 0 13 := congrFun (p16_0 0 (by omega) (by omega) (by omega)) 13
  have : c13 0 14 = x 0 14 := congrFun (p16_0 0 (by omega) (by omega) (by omega)) 14
  have f_c13 : ∀ j : Int, c13 77 j = x 77 j := fun j => congrFun (p16_0 77 (by omega) (by omega) (by omega)) j
  have hB17 : (c13 0 13 = 110 ∧ c13 0 14 = 115) ∨ (c13 0 13 = 115 ∧ c13 0 14 = 110) := by omega
  refine lr_pop h rfl dl_923 ?_
  refine lr_aload_n h rfl 2 rfl dl_924 ?_
  refine lr_aload_n h rfl 0 rfl dl_925 ?_
  refine lr_iload h 4 rfl dl_926 ?_
  refine lr_iconst h dl_928 ?_
  refine lr_iadd h dl_929 ?_
  refine lr_sld h (Nat.le_of_ble_eq_true rfl) (by omega) (by omega) dl_930 (fun s18 hs19 es20 => ?_)
  rw [show s18 = s1 from es20.trans es3.symm]
  refine lr_aload_n h rfl 0 rfl dl_931 ?_
  refine lr_iload h 4 rfl dl_932 ?_
  refine lr_iconst h dl_934 ?_
  refine lr_iadd h dl_935 ?_
  refine lr_sld h (Nat.le_of_ble_eq_true rfl) (by omega) (by omega) dl_936 (fun s21 hs22 es23 => ?_)
  rw [show s21 = s4 from es23.trans es6.symm]
  refine lr_aload_n h rfl 0 rfl dl_937 ?_
  refine lr_iload h 4 rfl dl_938 ?_
  refine lr_iconst h dl_940 ?_
  refine lr_iadd h dl_941 ?_
  refine lr_sld h (Nat.le_of_ble_eq_true rfl) (by omega) (by omega) dl_942 (fun s24 hs25 es26 => ?_)
  rw [show s24 = s7 from es26.trans es9.symm]
  refine lr_aload_n h rfl 0 rfl dl_943 ?_
  refine lr_iload h 4 rfl dl_944 ?_
  refine lr_iconst h dl_946 ?_
  refine lr_iadd h dl_947 ?_
  refine lr_sld h (Nat.le_of_ble_eq_true rfl) (by omega) (by omega) dl_948 (fun s27 hs28 es29 => ?_)
  rw [show s27 = s10 from es29.trans es12.symm]
  refine lr_cMI (as := [vi s1, vi s4, vi s7, vi s10]) (k := 0) h kX12 at_0M wX12_having ll_119 (c_X12_having y s1 s4 s7 s10 hs2 hs5 hs8 hs11 hG) rfl (by decide) (by decide) rfl (Nat.le_of_ble_eq_true rfl) (Nat.le_of_succ_le hc1) (by omega) dl_949 (fun z31 m30 w32 p33 => ?_)
  obtain ⟨p33_0, p33_1, p33_2, p33_3⟩ := p33
  have g2_m30 : m30 0 2 = y 0 2 := (p33_3 2 (by omega) (by omega) (by omega) (by omega) (by omega) (by omega) (by omega) (by omega) (by omega))
  have g37_m30 : m30 0 37 = y 0 37 := (p33_3 37 (by omega) (by omega) (by omega) (by omega) (by omega) (by omega) (by omega) (by omega) (by omega))
  have g21_m30 : m30 0 21 = y 0 21 := (p33_3 21 (by omega) (by omega) (by omega) (by omega) (by omega) (by omega) (by omega) (by omega) (by omega))
  have f_m30 : ∀ j : Int, m30 27 j = y 27 j := fun j => congrFun (p33_2 27 (by omega) (by omega) (by omega) (by omega)) j
  have hG := p33_1
  have hU1 : CU ((n : Int) + 1) m30 := CU_id hU g21_m30 (p33_2 1 (by omega) (by omega) (by omega) (by omega)) (p33_2 20 (by omega) (by omega) (by omega) (by omega)) (p33_2 21 (by omega) (by omega) (by omega) (by omega)) (p33_2 22 (by omega) (by omega) (by omega) (by omega))
  refine lr_pop h rfl dl_952 ?_
  refine lr_goto (tgt := 1468) h dl_953 (by decide) ?_
  refine lr_mono (ce2 := 149 + n + 1) (sl2 := 24032 + 6 * n + 6) (Nat.le_succ _) (Nat.le_add_right _ 6) ?_
  exact next c13 m30 ⟨hB17, hG, hU1, by omega, by omega, by omega, (fun j => ((f_c13 j).trans (hF j)).trans (f_m30 j).symm), (fun j a b => ((congrArg uch (congrFun (p33_2 2 (by omega) (by omega) (by omega) (by omega)) j)).trans ((hX j a (by omega)).trans (congrFun (p16_0 2 (by omega) (by omega) (by omega)) j).symm)))⟩
set_option maxHeartbeats 1000000 in
theorem lb_956 {C : LC} (h : LOK C 2560) {x y : Mm} {n : Nat} {at9 : Int} (hI : LI x y n) (h0 : 0 ≤ at9) (h1 : at9 + 5 ≤ lc_L C) (hn : n ≤ 511) (hc1 : 149 + n + 1 ≤ room_1.cells) (hsl1 : 24032 + 6 * n + 6 ≤ room_1.slots) (next : ∀ x' y' : Mm, LI x' y' ((n : Int) + 1) → LW C (149 + n + 1) (24032 + 6 * n + 6) x' y' 1468 [(0, .ref (lc_b C)), (1, vr (lc_GC C) 0), (2, vr (lc_GM C) 0), (3, vr (lc_GC C) 120), (4, vi at9)] []) : LW C (149 + n) (24032 + 6 * n) x y 956 [(0, .ref (lc_b C)), (1, vr (lc_GC C) 0), (2, vr (lc_GM C) 0), (3, vr (lc_GC C) 120), (4, vi at9)] [] := by
  obtain ⟨hB, hG, hU, h21, hT, hK, hF, hX⟩ := hI
  refine lr_rngM (fun hRM => ?_)
  have h02 : 0 ≤ y 0 2 := by have q := hRM 0 2; rw [rfM_2] at q; exact q.1
  refine lr_aload_n h rfl 1 rfl dl_956 ?_
  refine lr_aload_n h rfl 0 rfl dl_957 ?_
  refine lr_iload h 4 rfl dl_958 ?_
  refine lr_iconst h dl_960 ?_
  refine lr_iadd h dl_961 ?_
  refine lr_sld h (Nat.le_of_ble_eq_true rfl) (by omega) (by omega) dl_962 (fun s1 hs2 es3 => ?_)
  refine lr_aload_n h rfl 0 rfl dl_963 ?_
  refine lr_iload h 4 rfl dl_964 ?_
  refine lr_iconst h dl_966 ?_
  refine lr_iadd h dl_967 ?_
  refine lr_sld h (Nat.le_of_ble_eq_true rfl) (by omega) (by omega) dl_968 (fun s4 hs5 es6 => ?_)
  refine lr_aload_n h rfl 0 rfl dl_969 ?_
  refine lr_iload h 4 rfl dl_970 ?_
  refine lr_iconst h dl_972 ?_
  refine lr_iadd h dl_973 ?_
  refine lr_sld h (Nat.le_of_ble_eq_true rfl) (by omega) (by omega) dl_974 (fun s7 hs8 es9 => ?_)
  refine lr_cCI (as := [vi s1, vi s4, vi s7]) (k := 0) h kX11 at_0 wX11_differ ll_120 (c_X11_differ x s1 s4 s7 hs2 hs5 hs8 hB) rfl (by decide) (by decide) rfl (Nat.le_of_ble_eq_true rfl) (Nat.le_of_succ_le hc1) (by omega) dl_975 (fun z11 c10 w12 p13 => ?_)
  have p13_0 := p13
  have : c10 1 1 = x 1 1 := congrFun (p13_0 1 (by omega) (by omega) (by omega)) 1
  have : c10 98 3 = x 98 3 := congrFun (p13_0 98 (by omega) (by omega) (by omega)) 3
  have : c10 0 13 = x 0 13 := congrFun (p13_0 0 (by omega) (by omega) (by omega)) 13
  have : c10 0 14 = x 0 14 := congrFun (p13_0 0 (by omega) (by omega) (by omega)) 14
  have f_c10 : ∀ j : Int, c10 77 j = x 77 j := fun j => congrFun (p13_0 77 (by omega) (by omega) (by omega)) j
  have hB14 : (c10 0 13 = 110 ∧ c10 0 14 = 115) ∨ (c10 0 13 = 115 ∧ c10 0 14 = 110) := by omega
  refine lr_pop h rfl dl_978 ?_
  refine lr_aload_n h rfl 2 rfl dl_979 ?_
  refine lr_aload_n h rfl 0 rfl dl_980 ?_
  refine lr_iload h 4 rfl dl_981 ?_
  refine lr_iconst h dl_983 ?_
  refine lr_iadd h dl_984 ?_
  refine lr_sld h (Nat.le_of_ble_eq_true rfl) (by omega) (by omega) dl_985 (fun s15 hs16 es17 => ?_)
  rw [show s15 = s1 from es17.trans es3.symm]
  refine lr_aload_n h rfl 0 rfl dl_986 ?_
  refine lr_iload h 4 rfl dl_987 ?_
  refine lr_iconst h dl_989 ?_
  refine lr_iadd h dl_990 ?_
  refine lr_sld h (Nat.le_of_ble_eq_true rfl) (by omega) (by omega) dl_991 (fun s18 hs19 es20 => ?_)
  rw [show s18 = s4 from es20.trans es6.symm]
  refine lr_aload_n h rfl 0 rfl dl_992 ?_
  refine lr_iload h 4 rfl dl_993 ?_
  refine lr_iconst h dl_995 ?_
  refine lr_iadd h dl_996 ?_
  refine lr_sld h (Nat.le_of_ble_eq_true rfl) (by omega) (by omega) dl_997 (fun s21 hs22 es23 => ?_)
  rw [show s21 = s7 from es23.trans es9.symm]
  refine lr_cMI (as := [vi s1, vi s4, vi s7]) (k := 0) h kX12 at_0M wX12_differ ll_123 (c_X12_differ y s1 s4 s7 hs2 hs5 hs8 hG) rfl (by decide) (by decide) rfl (Nat.le_of_ble_eq_true rfl) (Nat.le_of_succ_le hc1) (by omega) dl_998 (fun z25 m24 w26 p27 => ?_)
  obtain ⟨p27_0, p27_1, p27_2, p27_3⟩ := p27
  have g2_m24 : m24 0 2 = y 0 2 := (p27_3 2 (by omega) (by omega) (by omega) (by omega) (by omega) (by omega) (by omega) (by omega) (by omega))
  have g37_m24 : m24 0 37 = y 0 37 := (p27_3 37 (by omega) (by omega) (by omega) (by omega) (by omega) (by omega) (by omega) (by omega) (by omega))
  have g21_m24 : m24 0 21 = y 0 21 := (p27_3 21 (by omega) (by omega) (by omega) (by omega) (by omega) (by omega) (by omega) (by omega) (by omega))
  have f_m24 : ∀ j : Int, m24 27 j = y 27 j := fun j => congrFun (p27_2 27 (by omega) (by omega) (by omega) (by omega)) j
  have hG := p27_1
  have hU1 : CU ((n : Int) + 1) m24 := CU_id hU g21_m24 (p27_2 1 (by omega) (by omega) (by omega) (by omega)) (p27_2 20 (by omega) (by omega) (by omega) (by omega)) (p27_2 21 (by omega) (by omega) (by omega) (by omega)) (p27_2 22 (by omega) (by omega) (by omega) (by omega))
  refine lr_pop h rfl dl_1001 ?_
  refine lr_goto (tgt := 1468) h dl_1002 (by decide) ?_
  refine lr_mono (ce2 := 149 + n + 1) (sl2 := 24032 + 6 * n + 6) (Nat.le_succ _) (Nat.le_add_right _ 6) ?_
  exact next c10 m24 ⟨hB14, hG, hU1, by omega, by omega, by omega, (fun j => ((f_c10 j).trans (hF j)).trans (f_m24 j).symm), (fun j a b => ((congrArg uch (congrFun (p27_2 2 (by omega) (by omega) (by omega) (by omega)) j)).trans ((hX j a (by omega)).trans (congrFun (p13_0 2 (by omega) (by omega) (by omega)) j).symm)))⟩
set_option maxHeartbeats 1000000 in
theorem lb_1005 {C : LC} (h : LOK C 2560) {x y : Mm} {n : Nat} {at9 : Int} (hI : LI x y n) (h0 : 0 ≤ at9) (h1 : at9 + 5 ≤ lc_L C) (hn : n ≤ 511) (hc1 : 149 + n + 1 ≤ room_1.cells) (hsl1 : 24032 + 6 * n + 6 ≤ room_1.slots) (next : ∀ x' y' : Mm, LI x' y' ((n : Int) + 1) → LW C (149 + n + 1) (24032 + 6 * n + 6) x' y' 1468 [(0, .ref (lc_b C)), (1, vr (lc_GC C) 0), (2, vr (lc_GM C) 0), (3, vr (lc_GC C) 120), (4, vi at9)] []) : LW C (149 + n) (24032 + 6 * n) x y 1005 [(0, .ref (lc_b C)), (1, vr (lc_GC C) 0), (2, vr (lc_GM C) 0), (3, vr (lc_GC C) 120), (4, vi at9)] [] := by
  obtain ⟨hB, hG, hU, h21, hT, hK, hF, hX⟩ := hI
  refine lr_rngM (fun hRM => ?_)
  have h02 : 0 ≤ y 0 2 := by have q := hRM 0 2; rw [rfM_2] at q; exact q.1
  refine lr_aload_n h rfl 1 rfl dl_1005 ?_
  refine lr_aload_n h rfl 0 rfl dl_1006 ?_
  refine lr_iload h 4 rfl dl_1007 ?_
  refine lr_iconst h dl_1009 ?_
  refine lr_iadd h dl_1010 ?_
  refine lr_sld h (Nat.le_of_ble_eq_true rfl) (by omega) (by omega) dl_1011 (fun s1 hs2 es3 => ?_)
  refine lr_aload_n h rfl 0 rfl dl_1012 ?_
  refine lr_iload h 4 rfl dl_1013 ?_
  refine lr_iconst h dl_1015 ?_
  refine lr_iadd h dl_1016 ?_
  refine lr_sld h (Nat.le_of_ble_eq_true rfl) (by omega) (by omega) dl_1017 (fun s4 hs5 es6 => ?_)
  refine lr_cCI (as := [vi s1, vi s4]) (k := 0) h kX11 at_0 wX11_gap ll_124 (c_X11_gap x s1 s4 hs2 hs5 hB) rfl (by decide) (by decide) rfl (Nat.le_of_ble_eq_true rfl) (Nat.le_of_succ_le hc1) (by omega) dl_1018 (fun z8 c7 w9 p10 => ?_)
  have p10_0 := p10
  have : c7 1 1 = x 1 1 := congrFun (p10_0 1 (by omega) (by omega) (by omega)) 1
  have : c7 98 3 = x 98 3 := congrFun (p10_0 98 (by omega) (by omega) (by omega)) 3
  have : c7 0 13 = x 0 13 := congrFun (p10_0 0 (by omega) (by omega) (by omega)) 13
  have : c7 0 14 = x 0 14 := congrFun (p10_0 0 (by omega) (by omega) (by omega)) 14
  have f_c7 : ∀ j : Int, c7 77 j = x 77 j := fun j => congrFun (p10_0 77 (by omega) (by omega) (by omega)) j
  have hB11 : (c7 0 13 = 110 ∧ c7 0 14 = 115) ∨ (c7 0 13 = 115 ∧ c7 0 14 = 110) := by omega
  refine lr_pop h rfl dl_1021 ?_
  refine lr_aload_n h rfl 2 rfl dl_1022 ?_
  refine lr_aload_n h rfl 0 rfl dl_1023 ?_
  refine lr_iload h 4 rfl dl_1024 ?_
  refine lr_iconst h dl_1026 ?_
  refine lr_iadd h dl_1027 ?_
  refine lr_sld h (Nat.le_of_ble_eq_true rfl) (by omega) (by omega) dl_1028 (fun s12 hs13 es14 => ?_)
  rw [show s12 = s1 from es14.trans es3.symm]
  refine lr_aload_n h rfl 0 rfl dl_1029 ?_
  refine lr_iload h 4 rfl dl_1030 ?_
  refine lr_iconst h dl_1032 ?_
  refine lr_iadd h dl_1033 ?_
  refine lr_sld h (Nat.le_of_ble_eq_true rfl) (by omega) (by omega) dl_1034 (fun s15 hs16 es17 => ?_)
  rw [show s15 = s4 from es17.trans es6.symm]
  refine lr_cMI (as := [vi s1, vi s4]) (k := 0) h kX12 at_0M wX12_gap ll_127 (c_X12_gap y s1 s4 hs2 hs5 hG) rfl (by decide) (by decide) rfl (Nat.le_of_ble_eq_true rfl) (Nat.le_of_succ_le hc1) (by omega) dl_1035 (fun z19 m18 w20 p21 => ?_)
  obtain ⟨p21_0, p21_1, p21_2, p21_3⟩ := p21
  have g2_m18 : m18 0 2 = y 0 2 := (p21_3 2 (by omega) (by omega) (by omega) (by omega) (by omega) (by omega) (by omega) (by omega) (by omega))
  have g37_m18 : m18 0 37 = y 0 37 := (p21_3 37 (by omega) (by omega) (by omega) (by omega) (by omega) (by omega) (by omega) (by omega) (by omega))
  have g21_m18 : m18 0 21 = y 0 21 := (p21_3 21 (by omega) (by omega) (by omega) (by omega) (by omega) (by omega) (by omega) (by omega) (by omega))
  have f_m18 : ∀ j : Int, m18 27 j = y 27 j := fun j => congrFun (p21_2 27 (by omega) (by omega) (by omega) (by omega)) j
  have hG := p21_1
  have hU1 : CU ((n : Int) + 1) m18 := CU_id hU g21_m18 (p21_2 1 (by omega) (by omega) (by omega) (by omega)) (p21_2 20 (by omega) (by omega) (by omega) (by omega)) (p21_2 21 (by omega) (by omega) (by omega) (by omega)) (p21_2 22 (by omega) (by omega) (by omega) (by omega))
  refine lr_pop h rfl dl_1038 ?_
  refine lr_goto (tgt := 1468) h dl_1039 (by decide) ?_
  refine lr_mono (ce2 := 149 + n + 1) (sl2 := 24032 + 6 * n + 6) (Nat.le_succ _) (Nat.le_add_right _ 6) ?_
  exact next c7 m18 ⟨hB11, hG, hU1, by omega, by omega, by omega, (fun j => ((f_c7 j).trans (hF j)).trans (f_m18 j).symm), (fun j a b => ((congrArg uch (congrFun (p21_2 2 (by omega) (by omega) (by omega) (by omega)) j)).trans ((hX j a (by omega)).trans (congrFun (p10_0 2 (by omega) (by omega) (by omega)) j).symm)))⟩
set_option maxHeartbeats 1000000 in
theorem lb_1042 {C : LC} (h : LOK C 2560) {x y : Mm} {n : Nat} {at9 : Int} (hI : LI x y n) (h0 : 0 ≤ at9) (h1 : at9 + 5 ≤ lc_L C) (hn : n ≤ 511) (hc1 : 149 + n + 1 ≤ room_1.cells) (hsl1 : 24032 + 6 * n + 6 ≤ room_1.slots) (next : ∀ x' y' : Mm, LI x' y' ((n : Int) + 1) → LW C (149 + n + 1) (24032 + 6 * n + 6) x' y' 1468 [(0, .ref (lc_b C)), (1, vr (lc_GC C) 0), (2, vr (lc_GM C) 0), (3, vr (lc_GC C) 120), (4, vi at9)] []) : LW C (149 + n) (24032 + 6 * n) x y 1042 [(0, .ref (lc_b C)), (1, vr (lc_GC C) 0), (2, vr (lc_GM C) 0), (3, vr (lc_GC C) 120), (4, vi at9)] [] := by
  obtain ⟨hB, hG, hU, h21, hT, hK, hF, hX⟩ := hI
  refine lr_rngM (fun hRM => ?_)
  have h02 : 0 ≤ y 0 2 := by have q := hRM 0 2; rw [rfM_2] at q; exact q.1
  refine lr_aload_n h rfl 1 rfl dl_1042 ?_
  refine lr_aload_n h rfl 0 rfl dl_1043 ?_
  refine lr_iload h 4 rfl dl_1044 ?_
  refine lr_iconst h dl_1046 ?_
  refine lr_iadd h dl_1047 ?_
  refine lr_sld h (Nat.le_of_ble_eq_true rfl) (by omega) (by omega) dl_1048 (fun s1 hs2 es3 => ?_)
  refine lr_aload_n h rfl 0 rfl dl_1049 ?_
  refine lr_iload h 4 rfl dl_1050 ?_
  refine lr_iconst h dl_1052 ?_
  refine lr_iadd h dl_1053 ?_
  refine lr_sld h (Nat.le_of_ble_eq_true rfl) (by omega) (by omega) dl_1054 (fun s4 hs5 es6 => ?_)
  refine lr_cCI (as := [vi s1, vi s4]) (k := 0) h kX11 at_0 wX11_opens ll_128 (c_X11_opens x s1 s4 hs2 hs5 hB) rfl (by decide) (by decide) rfl (Nat.le_of_ble_eq_true rfl) (Nat.le_of_succ_le hc1) (by omega) dl_1055 (fun z8 c7 w9 p10 => ?_)
  have p10_0 := p10
  have : c7 1 1 = x 1 1 := congrFun (p10_0 1 (by omega) (by omega) (by omega)) 1
  have : c7 98 3 = x 98 3 := congrFun (p10_0 98 (by omega) (by omega) (by omega)) 3
  have : c7 0 13 = x 0 13 := congrFun (p10_0 0 (by omega) (by omega) (by omega)) 13
  have : c7 0 14 = x 0 14 := congrFun (p10_0 0 (by omega) (by omega) (by omega)) 14
  have f_c7 : ∀ j : Int, c7 77 j = x 77 j := fun j => congrFun (p10_0 77 (by omega) (by omega) (by omega)) j
  have hB11 : (c7 0 13 = 110 ∧ c7 0 14 = 115) ∨ (c7 0 13 = 115 ∧ c7 0 14 = 110) := by omega
  refine lr_pop h rfl dl_1058 ?_
  refine lr_aload_n h rfl 2 rfl dl_1059 ?_
  refine lr_aload_n h rfl 0 rfl dl_1060 ?_
  refine lr_iload h 4 rfl dl_1061 ?_
  refine lr_iconst h dl_1063 ?_
  refine lr_iadd h dl_1064 ?_
  refine lr_sld h (Nat.le_of_ble_eq_true rfl) (by omega) (by omega) dl_1065 (fun s12 hs13 es14 => ?_)
  rw [show s12 = s1 from es14.trans es3.symm]
  refine lr_aload_n h rfl 0 rfl dl_1066 ?_
  refine lr_iload h 4 rfl dl_1067 ?_
  refine lr_iconst h dl_1069 ?_
  refine lr_iadd h dl_1070 ?_
  refine lr_sld h (Nat.le_of_ble_eq_true rfl) (by omega) (by omega) dl_1071 (fun s15 hs16 es17 => ?_)
  rw [show s15 = s4 from es17.trans es6.symm]
  refine lr_cMI (as := [vi s1, vi s4]) (k := 0) h kX12 at_0M wX12_opens ll_131 (c_X12_opens y (n : Int) s1 s4 hs2 hs5 hG hU (by omega) (by omega)) rfl (by decide) (by decide) rfl (Nat.le_of_ble_eq_true rfl) (Nat.le_of_succ_le hc1) (by omega) dl_1072 (fun z19 m18 w20 p21 => ?_)
  obtain ⟨p21_0, p21_1, p21_2, p21_3, p21_4⟩ := p21
  have g2_m18 : m18 0 2 = y 0 2 := (p21_4 2 (by omega) (by omega) (by omega) (by omega) (by omega) (by omega) (by omega) (by omega))
  have g37_m18 : m18 0 37 = y 0 37 := (p21_4 37 (by omega) (by omega) (by omega) (by omega) (by omega) (by omega) (by omega) (by omega))
  have g21_m18 : m18 0 21 = y 0 21 := (p21_4 21 (by omega) (by omega) (by omega) (by omega) (by omega) (by omega) (by omega) (by omega))
  have f_m18 : ∀ j : Int, m18 27 j = y 27 j := fun j => congrFun (p21_3 27 (by omega) (by omega) (by omega) (by omega)) j
  have hG := p21_2
  have hU1 : CU ((n : Int) + 1) m18 := p21_1
  refine lr_pop h rfl dl_1075 ?_
  refine lr_goto (tgt := 1468) h dl_1076 (by decide) ?_
  refine lr_mono (ce2 := 149 + n + 1) (sl2 := 24032 + 6 * n + 6) (Nat.le_succ _) (Nat.le_add_right _ 6) ?_
  exact next c7 m18 ⟨hB11, hG, hU1, by omega, by omega, by omega, (fun j => ((f_c7 j).trans (hF j)).trans (f_m18 j).symm), (fun j a b => ((congrArg uch (congrFun (p21_3 2 (by omega) (by omega) (by omega) (by omega)) j)).trans ((hX j a (by omega)).trans (congrFun (p10_0 2 (by omega) (by omega) (by omega)) j).symm)))⟩
set_option maxHeartbeats 1000000 in
theorem lb_1079 {C : LC} (h : LOK C 2560) {x y : Mm} {n : Nat} {at9 : Int} (hI : LI x y n) (h0 : 0 ≤ at9) (h1 : at9 + 5 ≤ lc_L C) (hn : n ≤ 511) (hc1 : 149 + n + 1 ≤ room_1.cells) (hsl1 : 24032 + 6 * n + 6 ≤ room_1.slots) (next : ∀ x' y' : Mm, LI x' y' ((n : Int) + 1) → LW C (149 + n + 1) (24032 + 6 * n + 6) x' y' 1468 [(0, .ref (lc_b C)), (1, vr (lc_GC C) 0), (2, vr (lc_GM C) 0), (3, vr (lc_GC C) 120), (4, vi at9)] []) : LW C (149 + n) (24032 + 6 * n) x y 1079 [(0, .ref (lc_b C)), (1, vr (lc_GC C) 0), (2, vr (lc_GM C) 0), (3, vr (lc_GC C) 120), (4, vi at9)] [] := by
  obtain ⟨hB, hG, hU, h21, hT, hK, hF, hX⟩ := hI
  refine lr_rngM (fun hRM => ?_)
  have h02 : 0 ≤ y 0 2 := by have q := hRM 0 2; rw [rfM_2] at q; exact q.1
  refine lr_aload_n h rfl 1 rfl dl_1079 ?_
  refine lr_aload_n h rfl 0 rfl dl_1080 ?_
  refine lr_iload h 4 rfl dl_1081 ?_
  refine lr_iconst h dl_1083 ?_
  refine lr_iadd h dl_1084 ?_
  refine lr_sld h (Nat.le_of_ble_eq_true rfl) (by omega) (by omega) dl_1085 (fun s1 hs2 es3 => ?_)
  refine lr_cCI (as := [vi s1]) (k := 0) h kX11 at_0 wX11_goes ll_132 (c_X11_goes x s1 hs2 hB) rfl (by decide) (by decide) rfl (Nat.le_of_ble_eq_true rfl) (Nat.le_of_succ_le hc1) (by omega) dl_1086 (fun z5 c4 w6 p7 => ?_)
  have p7_0 := p7
  have : c4 1 1 = x 1 1 := congrFun (p7_0 1 (by omega) (by omega) (by omega) (by omega)) 1
  have : c4 98 3 = x 98 3 := congrFun (p7_0 98 (by omega) (by omega) (by omega) (by omega)) 3
  have : c4 0 13 = x 0 13 := congrFun (p7_0 0 (by omega) (by omega) (by omega) (by omega)) 13
  have : c4 0 14 = x 0 14 := congrFun (p7_0 0 (by omega) (by omega) (by omega) (by omega)) 14
  have f_c4 : ∀ j : Int, c4 77 j = x 77 j := fun j => congrFun (p7_0 77 (by omega) (by omega) (by omega) (by omega)) j
  have hB8 : (c4 0 13 = 110 ∧ c4 0 14 = 115) ∨ (c4 0 13 = 115 ∧ c4 0 14 = 110) := by omega
  refine lr_pop h rfl dl_1089 ?_
  refine lr_aload_n h rfl 2 rfl dl_1090 ?_
  refine lr_aload_n h rfl 0 rfl dl_1091 ?_
  refine lr_iload h 4 rfl dl_1092 ?_
  refine lr_iconst h dl_1094 ?_
  refine lr_iadd h dl_1095 ?_
  refine lr_sld h (Nat.le_of_ble_eq_true rfl) (by omega) (by omega) dl_1096 (fun s9 hs10 es11 => ?_)
  rw [show s9 = s1 from es11.trans es3.symm]
  refine lr_cMI (as := [vi s1]) (k := 0) h kX12 at_0M wX12_goes ll_135 (c_X12_goes y (n : Int) s1 hs2 hG hU (by omega) (by omega)) rfl (by decide) (by decide) rfl (Nat.le_of_ble_eq_true rfl) (Nat.le_of_succ_le hc1) (by omega) dl_1097 (fun z13 m12 w14 p15 => ?_)
  obtain ⟨p15_0, p15_1, p15_2, p15_3, p15_4⟩ := p15
  have g2_m12 : m12 0 2 = y 0 2 := (p15_4 2 (by omega) (by omega) (by omega) (by omega) (by omega) (by omega) (by omega) (by omega) (by omega))
  have g37_m12 : m12 0 37 = y 0 37 := (p15_4 37 (by omega) (by omega) (by omega) (by omega) (by omega) (by omega) (by omega) (by omega) (by omega))
  have g21_m12 : m12 0 21 = y 0 21 := (p15_4 21 (by omega) (by omega) (by omega) (by omega) (by omega) (by omega) (by omega) (by omega) (by omega))
  have f_m12 : ∀ j : Int, m12 27 j = y 27 j := fun j => congrFun (p15_3 27 (by omega) (by omega) (by omega) (by omega) (by omega)) j
  have hG := p15_2
  have hU1 : CU ((n : Int) + 1) m12 := p15_1
  refine lr_pop h rfl dl_1100 ?_
  refine lr_goto (tgt := 1468) h dl_1101 (by decide) ?_
  refine lr_mono (ce2 := 149 + n + 1) (sl2 := 24032 + 6 * n + 6) (Nat.le_succ _) (Nat.le_add_right _ 6) ?_
  exact next c4 m12 ⟨hB8, hG, hU1, by omega, by omega, by omega, (fun j => ((f_c4 j).trans (hF j)).trans (f_m12 j).symm), (fun j a b => ((congrArg uch (congrFun (p15_3 2 (by omega) (by omega) (by omega) (by omega) (by omega)) j)).trans ((hX j a (by omega)).trans (congrFun (p7_0 2 (by omega) (by omega) (by omega) (by omega)) j).symm)))⟩
set_option maxHeartbeats 1000000 in
theorem lb_1104 {C : LC} (h : LOK C 2560) {x y : Mm} {n : Nat} {at9 : Int} (hI : LI x y n) (h0 : 0 ≤ at9) (h1 : at9 + 5 ≤ lc_L C) (hn : n ≤ 511) (hc1 : 149 + n + 1 ≤ room_1.cells) (hsl1 : 24032 + 6 * n + 6 ≤ room_1.slots) (next : ∀ x' y' : Mm, LI x' y' ((n : Int) + 1) → LW C (149 + n + 1) (24032 + 6 * n + 6) x' y' 1468 [(0, .ref (lc_b C)), (1, vr (lc_GC C) 0), (2, vr (lc_GM C) 0), (3, vr (lc_GC C) 120), (4, vi at9)] []) : LW C (149 + n) (24032 + 6 * n) x y 1104 [(0, .ref (lc_b C)), (1, vr (lc_GC C) 0), (2, vr (lc_GM C) 0), (3, vr (lc_GC C) 120), (4, vi at9)] [] := by
  obtain ⟨hB, hG, hU, h21, hT, hK, hF, hX⟩ := hI
  refine lr_rngM (fun hRM => ?_)
  have h02 : 0 ≤ y 0 2 := by have q := hRM 0 2; rw [rfM_2] at q; exact q.1
  refine lr_aload_n h rfl 1 rfl dl_1104 ?_
  refine lr_aload_n h rfl 0 rfl dl_1105 ?_
  refine lr_iload h 4 rfl dl_1106 ?_
  refine lr_iconst h dl_1108 ?_
  refine lr_iadd h dl_1109 ?_
  refine lr_sld h (Nat.le_of_ble_eq_true rfl) (by omega) (by omega) dl_1110 (fun s1 hs2 es3 => ?_)
  refine lr_aload_n h rfl 0 rfl dl_1111 ?_
  refine lr_iload h 4 rfl dl_1112 ?_
  refine lr_iconst h dl_1114 ?_
  refine lr_iadd h dl_1115 ?_
  refine lr_sld h (Nat.le_of_ble_eq_true rfl) (by omega) (by omega) dl_1116 (fun s4 hs5 es6 => ?_)
  refine lr_cCI (as := [vi s1, vi s4]) (k := 0) h kX11 at_0 wX11_skips ll_136 (c_X11_skips x s1 s4 hs2 hs5 hB) rfl (by decide) (by decide) rfl (Nat.le_of_ble_eq_true rfl) (Nat.le_of_succ_le hc1) (by omega) dl_1117 (fun z8 c7 w9 p10 => ?_)
  have p10_0 := p10
  have : c7 1 1 = x 1 1 := congrFun (p10_0 1 (by omega) (by omega) (by omega)) 1
  have : c7 98 3 = x 98 3 := congrFun (p10_0 98 (by omega) (by omega) (by omega)) 3
  have : c7 0 13 = x 0 13 := congrFun (p10_0 0 (by omega) (by omega) (by omega)) 13
  have : c7 0 14 = x 0 14 := congrFun (p10_0 0 (by omega) (by omega) (by omega)) 14
  have f_c7 : ∀ j : Int, c7 77 j = x 77 j := fun j => congrFun (p10_0 77 (by omega) (by omega) (by omega)) j
  have hB11 : (c7 0 13 = 110 ∧ c7 0 14 = 115) ∨ (c7 0 13 = 115 ∧ c7 0 14 = 110) := by omega
  refine lr_pop h rfl dl_1120 ?_
  refine lr_aload_n h rfl 2 rfl dl_1121 ?_
  refine lr_aload_n h rfl 0 rfl dl_1122 ?_
  refine lr_iload h 4 rfl dl_1123 ?_
  refine lr_iconst h dl_1125 ?_
  refine lr_iadd h dl_1126 ?_
  refine lr_sld h (Nat.le_of_ble_eq_true rfl) (by omega) (by omega) dl_1127 (fun s12 hs13 es14 => ?_)
  rw [show s12 = s1 from es14.trans es3.symm]
  refine lr_aload_n h rfl 0 rfl dl_1128 ?_
  refine lr_iload h 4 rfl dl_1129 ?_
  refine lr_iconst h dl_1131 ?_
  refine lr_iadd h dl_1132 ?_
  refine lr_sld h (Nat.le_of_ble_eq_true rfl) (by omega) (by omega) dl_1133 (fun s15 hs16 es17 => ?_)
  rw [show s15 = s4 from es17.trans es6.symm]
  refine lr_cMI (as := [vi s1, vi s4]) (k := 0) h kX12 at_0M wX12_skips ll_139 (c_X12_skips y (n : Int) s1 s4 hs2 hs5 hG hU (by omega) (by omega)) rfl (by decide) (by decide) rfl (Nat.le_of_ble_eq_true rfl) (Nat.le_of_succ_le hc1) (by omega) dl_1134 (fun z19 m18 w20 p21 => ?_)
  obtain ⟨p21_0, p21_1, p21_2, p21_3, p21_4⟩ := p21
  have g2_m18 : m18 0 2 = y 0 2 := (p21_4 2 (by omega) (by omega) (by omega) (by omega) (by omega) (by omega) (by omega) (by omega))
  have g37_m18 : m18 0 37 = y 0 37 := (p21_4 37 (by omega) (by omega) (by omega) (by omega) (by omega) (by omega) (by omega) (by omega))
  have g21_m18 : m18 0 21 = y 0 21 := (p21_4 21 (by omega) (by omega) (by omega) (by omega) (by omega) (by omega) (by omega) (by omega))
  have f_m18 : ∀ j : Int, m18 27 j = y 27 j := fun j => congrFun (p21_3 27 (by omega) (by omega) (by omega) (by omega)) j
  have hG := p21_2
  have hU1 : CU ((n : Int) + 1) m18 := p21_1
  refine lr_pop h rfl dl_1137 ?_
  refine lr_goto (tgt := 1468) h dl_1138 (by decide) ?_
  refine lr_mono (ce2 := 149 + n + 1) (sl2 := 24032 + 6 * n + 6) (Nat.le_succ _) (Nat.le_add_right _ 6) ?_
  exact next c7 m18 ⟨hB11, hG, hU1, by omega, by omega, by omega, (fun j => ((f_c7 j).trans (hF j)).trans (f_m18 j).symm), (fun j a b => ((congrArg uch (congrFun (p21_3 2 (by omega) (by omega) (by omega) (by omega)) j)).trans ((hX j a (by omega)).trans (congrFun (p10_0 2 (by omega) (by omega) (by omega)) j).symm)))⟩
set_option maxHeartbeats 1000000 in
theorem lb_1141 {C : LC} (h : LOK C 2560) {x y : Mm} {n : Nat} {at9 : Int} (hI : LI x y n) (h0 : 0 ≤ at9) (h1 : at9 + 5 ≤ lc_L C) (hn : n ≤ 511) (hc1 : 149 + n + 1 ≤ room_1.cells) (hsl1 : 24032 + 6 * n + 6 ≤ room_1.slots) (next : ∀ x' y' : Mm, LI x' y' ((n : Int) + 1) → LW C (149 + n + 1) (24032 + 6 * n + 6) x' y' 1468 [(0, .ref (lc_b C)), (1, vr (lc_GC C) 0), (2, vr (lc_GM C) 0), (3, vr (lc_GC C) 120), (4, vi at9)] []) : LW C (149 + n) (24032 + 6 * n) x y 1141 [(0, .ref (lc_b C)), (1, vr (lc_GC C) 0), (2, vr (lc_GM C) 0), (3, vr (lc_GC C) 120), (4, vi at9)] [] := by
  obtain ⟨hB, hG, hU, h21, hT, hK, hF, hX⟩ := hI
  refine lr_rngM (fun hRM => ?_)
  have h02 : 0 ≤ y 0 2 := by have q := hRM 0 2; rw [rfM_2] at q; exact q.1
  refine lr_aload_n h rfl 1 rfl dl_1141 ?_
  refine lr_aload_n h rfl 0 rfl dl_1142 ?_
  refine lr_iload h 4 rfl dl_1143 ?_
  refine lr_iconst h dl_1145 ?_
  refine lr_iadd h dl_1146 ?_
  refine lr_sld h (Nat.le_of_ble_eq_true rfl) (by omega) (by omega) dl_1147 (fun s1 hs2 es3 => ?_)
  refine lr_aload_n h rfl 0 rfl dl_1148 ?_
  refine lr_iload h 4 rfl dl_1149 ?_
  refine lr_iconst h dl_1151 ?_
  refine lr_iadd h dl_1152 ?_
  refine lr_sld h (Nat.le_of_ble_eq_true rfl) (by omega) (by omega) dl_1153 (fun s4 hs5 es6 => ?_)
  refine lr_cCI (as := [vi s1, vi s4]) (k := 0) h kX11 at_0 wX11_heard ll_140 (c_X11_heard x s1 s4 hs2 hs5) rfl (by decide) (by decide) rfl (Nat.le_of_ble_eq_true rfl) (Nat.le_of_succ_le hc1) (by omega) dl_1154 (fun z8 c7 w9 p10 => ?_)
  obtain ⟨p10_0, p10_1⟩ := p10
  have : c7 1 1 = x 1 1 := congrFun (p10_1 1 (by omega)) 1
  have : c7 0 13 = x 0 13 := congrFun (p10_1 0 (by omega)) 13
  have : c7 0 14 = x 0 14 := congrFun (p10_1 0 (by omega)) 14
  have f_c7 : ∀ j : Int, c7 77 j = x 77 j := fun j => congrFun (p10_1 77 (by omega)) j
  have hB11 : (c7 0 13 = 110 ∧ c7 0 14 = 115) ∨ (c7 0 13 = 115 ∧ c7 0 14 = 110) := by omega
  refine lr_pop h rfl dl_1157 ?_
  refine lr_aload_n h rfl 2 rfl dl_1158 ?_
  refine lr_aload_n h rfl 0 rfl dl_1159 ?_
  refine lr_iload h 4 rfl dl_1160 ?_
  refine lr_iconst h dl_1162 ?_
  refine lr_iadd h dl_1163 ?_
  refine lr_sld h (Nat.le_of_ble_eq_true rfl) (by omega) (by omega) dl_1164 (fun s12 hs13 es14 => ?_)
  rw [show s12 = s1 from es14.trans es3.symm]
  refine lr_aload_n h rfl 0 rfl dl_1165 ?_
  refine lr_iload h 4 rfl dl_1166 ?_
  refine lr_iconst h dl_1168 ?_
  refine lr_iadd h dl_1169 ?_
  refine lr_sld h (Nat.le_of_ble_eq_true rfl) (by omega) (by omega) dl_1170 (fun s15 hs16 es17 => ?_)
  rw [show s15 = s4 from es17.trans es6.symm]
  refine lr_cMI (as := [vi s1, vi s4]) (k := 0) h kX12 at_0M wX12_heard ll_143 (c_X12_heard y s1 s4 hs2 hs5 hG) rfl (by decide) (by decide) rfl (Nat.le_of_ble_eq_true rfl) (Nat.le_of_succ_le hc1) (by omega) dl_1171 (fun z19 m18 w20 p21 => ?_)
  obtain ⟨p21_0, p21_1, p21_2, p21_3, p21_4⟩ := p21
  have g2_m18 : m18 0 2 = y 0 2 := (p21_4 2 (by omega) (by omega))
  have g21_m18 : m18 0 21 = y 0 21 := (p21_4 21 (by omega) (by omega))
  have f_m18 : ∀ j : Int, m18 27 j = y 27 j := fun j => congrFun (p21_3 27 (by omega) (by omega)) j
  have hG := p21_2
  have hU1 : CU ((n : Int) + 1) m18 := CU_id hU g21_m18 (p21_3 1 (by omega) (by omega)) (p21_3 20 (by omega) (by omega)) (p21_3 21 (by omega) (by omega)) (p21_3 22 (by omega) (by omega))
  refine lr_pop h rfl dl_1174 ?_
  refine lr_goto (tgt := 1468) h dl_1175 (by decide) ?_
  refine lr_mono (ce2 := 149 + n + 1) (sl2 := 24032 + 6 * n + 6) (Nat.le_succ _) (Nat.le_add_right _ 6) ?_
  exact next c7 m18 ⟨hB11, hG, hU1, by omega, by omega, by omega, (fun j => ((f_c7 j).trans (hF j)).trans (f_m18 j).symm), (fun j a b => ((congrArg uch (congrFun (p21_3 2 (by omega) (by omega)) j)).trans ((hX j a (by omega)).trans (congrFun (p10_1 2 (by omega)) j).symm)))⟩
set_option maxHeartbeats 1000000 in
theorem lb_1178 {C : LC} (h : LOK C 2560) {x y : Mm} {n : Nat} {at9 : Int} (hI : LI x y n) (h0 : 0 ≤ at9) (h1 : at9 + 5 ≤ lc_L C) (hn : n ≤ 511) (hc1 : 149 + n + 1 ≤ room_1.cells) (hsl1 : 24032 + 6 * n + 6 ≤ room_1.slots) (next : ∀ x' y' : Mm, LI x' y' ((n : Int) + 1) → LW C (149 + n + 1) (24032 + 6 * n + 6) x' y' 1468 [(0, .ref (lc_b C)), (1, vr (lc_GC C) 0), (2, vr (lc_GM C) 0), (3, vr (lc_GC C) 120), (4, vi at9)] []) : LW C (149 + n) (24032 + 6 * n) x y 1178 [(0, .ref (lc_b C)), (1, vr (lc_GC C) 0), (2, vr (lc_GM C) 0), (3, vr (lc_GC C) 120), (4, vi at9)] [] := by
  obtain ⟨hB, hG, hU, h21, hT, hK, hF, hX⟩ := hI
  refine lr_rngM (fun hRM => ?_)
  have h02 : 0 ≤ y 0 2 := by have q := hRM 0 2; rw [rfM_2] at q; exact q.1
  refine lr_aload_n h rfl 1 rfl dl_1178 ?_
  refine lr_cCI (as := []) (k := 0) h kX11 at_0 wX11_forget ll_144 (c_X11_forget x) rfl (by decide) (by decide) rfl (Nat.le_of_ble_eq_true rfl) (Nat.le_of_succ_le hc1) (by omega) dl_1179 (fun z2 c1 w3 p4 => ?_)
  obtain ⟨p4_0, p4_1, p4_2⟩ := p4
  have : c1 1 1 = x 1 1 := congrFun (p4_2 1 (by omega)) 1
  have : c1 0 13 = x 0 13 := congrFun (p4_2 0 (by omega)) 13
  have : c1 0 14 = x 0 14 := congrFun (p4_2 0 (by omega)) 14
  have f_c1 : ∀ j : Int, c1 77 j = x 77 j := fun j => congrFun (p4_2 77 (by omega)) j
  have hB5 : (c1 0 13 = 110 ∧ c1 0 14 = 115) ∨ (c1 0 13 = 115 ∧ c1 0 14 = 110) := by omega
  refine lr_pop h rfl dl_1182 ?_
  refine lr_aload_n h rfl 2 rfl dl_1183 ?_
  refine lr_cMI (as := []) (k := 0) h kX12 at_0M wX12_forget ll_147 (c_X12_forget y hG) rfl (by decide) (by decide) rfl (Nat.le_of_ble_eq_true rfl) (Nat.le_of_succ_le hc1) (by omega) dl_1184 (fun z7 m6 w8 p9 => ?_)
  obtain ⟨p9_0, p9_1, p9_2, p9_3, p9_4, p9_5⟩ := p9
  have g2_m6 : m6 0 2 = y 0 2 := (p9_5 2 (by omega) (by omega))
  have g21_m6 : m6 0 21 = y 0 21 := (p9_5 21 (by omega) (by omega))
  have f_m6 : ∀ j : Int, m6 27 j = y 27 j := fun j => congrFun (p9_4 27 (by omega)) j
  have hG := p9_3
  have hU1 : CU ((n : Int) + 1) m6 := CU_id hU g21_m6 (p9_4 1 (by omega)) (p9_4 20 (by omega)) (p9_4 21 (by omega)) (p9_4 22 (by omega))
  refine lr_pop h rfl dl_1187 ?_
  refine lr_goto (tgt := 1468) h dl_1188 (by decide) ?_
  refine lr_mono (ce2 := 149 + n + 1) (sl2 := 24032 + 6 * n + 6) (Nat.le_succ _) (Nat.le_add_right _ 6) ?_
  exact next c1 m6 ⟨hB5, hG, hU1, by omega, by omega, by omega, (fun j => ((f_c1 j).trans (hF j)).trans (f_m6 j).symm), (fun j a b => ((congrArg uch (congrFun (p9_4 2 (by omega)) j)).trans ((hX j a (by omega)).trans (congrFun (p4_2 2 (by omega)) j).symm)))⟩
set_option maxHeartbeats 1000000 in
theorem lb_1191 {C : LC} (h : LOK C 2560) {x y : Mm} {n : Nat} {at9 : Int} (hI : LI x y n) (h0 : 0 ≤ at9) (h1 : at9 + 5 ≤ lc_L C) (hn : n ≤ 511) (hc1 : 149 + n + 1 ≤ room_1.cells) (hsl1 : 24032 + 6 * n + 6 ≤ room_1.slots) (next : ∀ x' y' : Mm, LI x' y' ((n : Int) + 1) → LW C (149 + n + 1) (24032 + 6 * n + 6) x' y' 1468 [(0, .ref (lc_b C)), (1, vr (lc_GC C) 0), (2, vr (lc_GM C) 0), (3, vr (lc_GC C) 120), (4, vi at9)] []) : LW C (149 + n) (24032 + 6 * n) x y 1191 [(0, .ref (lc_b C)), (1, vr (lc_GC C) 0), (2, vr (lc_GM C) 0), (3, vr (lc_GC C) 120), (4, vi at9)] [] := by
  obtain ⟨hB, hG, hU, h21, hT, hK, hF, hX⟩ := hI
  refine lr_rngM (fun hRM => ?_)
  have h02 : 0 ≤ y 0 2 := by have q := hRM 0 2; rw [rfM_2] at q; exact q.1
  refine lr_aload_n h rfl 1 rfl dl_1191 ?_
  refine lr_aload_n h rfl 0 rfl dl_1192 ?_
  refine lr_iload h 4 rfl dl_1193 ?_
  refine lr_iconst h dl_1195 ?_
  refine lr_iadd h dl_1196 ?_
  refine lr_sld h (Nat.le_of_ble_eq_true rfl) (by omega) (by omega) dl_1197 (fun s1 hs2 es3 => ?_)
  refine lr_cCI (as := [vi s1]) (k := 0) h kX11 at_0 wX11_fits ll_148 (c_X11_fits x s1 hs2 hB) rfl (by decide) (by decide) rfl (Nat.le_of_ble_eq_true rfl) (Nat.le_of_succ_le hc1) (by omega) dl_1198 (fun z5 c4 w6 p7 => ?_)
  have p7_0 := p7
  have : c4 1 1 = x 1 1 := congrFun (p7_0 1 (by omega) (by omega) (by omega)) 1
  have : c4 98 3 = x 98 3 := congrFun (p7_0 98 (by omega) (by omega) (by omega)) 3
  have : c4 0 13 = x 0 13 := congrFun (p7_0 0 (by omega) (by omega) (by omega)) 13
  have : c4 0 14 = x 0 14 := congrFun (p7_0 0 (by omega) (by omega) (by omega)) 14
  have f_c4 : ∀ j : Int, c4 77 j = x 77 j := fun j => congrFun (p7_0 77 (by omega) (by omega) (by omega)) j
  have hB8 : (c4 0 13 = 110 ∧ c4 0 14 = 115) ∨ (c4 0 13 = 115 ∧ c4 0 14 = 110) := by omega
  refine lr_pop h rfl dl_1201 ?_
  refine lr_aload_n h rfl 2 rfl dl_1202 ?_
  refine lr_aload_n h rfl 0 rfl dl_1203 ?_
  refine lr_iload h 4 rfl dl_1204 ?_
  refine lr_iconst h dl_1206 ?_
  refine lr_iadd h dl_1207 ?_
  refine lr_sld h (Nat.le_of_ble_eq_true rfl) (by omega) (by omega) dl_1208 (fun s9 hs10 es11 => ?_)
  rw [show s9 = s1 from es11.trans es3.symm]
  refine lr_cMI (as := [vi s1]) (k := 0) h kX12 at_0M wX12_fits ll_151 (c_X12_fits y s1 hs2 hG) rfl (by decide) (by decide) rfl (Nat.le_of_ble_eq_true rfl) (Nat.le_of_succ_le hc1) (by omega) dl_1209 (fun z13 m12 w14 p15 => ?_)
  obtain ⟨p15_0, p15_1, p15_2, p15_3⟩ := p15
  have g2_m12 : m12 0 2 = y 0 2 := (p15_3 2 (by omega) (by omega) (by omega) (by omega) (by omega) (by omega) (by omega) (by omega) (by omega))
  have g37_m12 : m12 0 37 = y 0 37 := (p15_3 37 (by omega) (by omega) (by omega) (by omega) (by omega) (by omega) (by omega) (by omega) (by omega))
  have g21_m12 : m12 0 21 = y 0 21 := (p15_3 21 (by omega) (by omega) (by omega) (by omega) (by omega) (by omega) (by omega) (by omega) (by omega))
  have f_m12 : ∀ j : Int, m12 27 j = y 27 j := fun j => congrFun (p15_2 27 (by omega) (by omega) (by omega) (by omega) (by omega)) j
  have hG := p15_1
  have hU1 : CU ((n : Int) + 1) m12 := CU_id hU g21_m12 (p15_2 1 (by omega) (by omega) (by omega) (by omega) (by omega)) (p15_2 20 (by omega) (by omega) (by omega) (by omega) (by omega)) (p15_2 21 (by omega) (by omega) (by omega) (by omega) (by omega)) (p15_2 22 (by omega) (by omega) (by omega) (by omega) (by omega))
  refine lr_pop h rfl dl_1212 ?_
  refine lr_goto (tgt := 1468) h dl_1213 (by decide) ?_
  refine lr_mono (ce2 := 149 + n + 1) (sl2 := 24032 + 6 * n + 6) (Nat.le_succ _) (Nat.le_add_right _ 6) ?_
  exact next c4 m12 ⟨hB8, hG, hU1, by omega, by omega, by omega, (fun j => ((f_c4 j).trans (hF j)).trans (f_m12 j).symm), (fun j a b => ((congrArg uch (congrFun (p15_2 2 (by omega) (by omega) (by omega) (by omega) (by omega)) j)).trans ((hX j a (by omega)).trans (congrFun (p7_0 2 (by omega) (by omega) (by omega)) j).symm)))⟩
set_option maxHeartbeats 1000000 in
theorem lb_1216 {C : LC} (h : LOK C 2560) {x y : Mm} {n : Nat} {at9 : Int} (hI : LI x y n) (h0 : 0 ≤ at9) (h1 : at9 + 5 ≤ lc_L C) (hn : n ≤ 511) (hc1 : 149 + n + 1 ≤ room_1.cells) (hsl1 : 24032 + 6 * n + 6 ≤ room_1.slots) (next : ∀ x' y' : Mm, LI x' y' ((n : Int) + 1) → LW C (149 + n + 1) (24032 + 6 * n + 6) x' y' 1468 [(0, .ref (lc_b C)), (1, vr (lc_GC C) 0), (2, vr (lc_GM C) 0), (3, vr (lc_GC C) 120), (4, vi at9)] []) : LW C (149 + n) (24032 + 6 * n) x y 1216 [(0, .ref (lc_b C)), (1, vr (lc_GC C) 0), (2, vr (lc_GM C) 0), (3, vr (lc_GC C) 120), (4, vi at9)] [] := by
  obtain ⟨hB, hG, hU, h21, hT, hK, hF, hX⟩ := hI
  refine lr_rngM (fun hRM => ?_)
  have h02 : 0 ≤ y 0 2 := by have q := hRM 0 2; rw [rfM_2] at q; exact q.1
  refine lr_aload_n h rfl 1 rfl dl_1216 ?_
  refine lr_aload_n h rfl 0 rfl dl_1217 ?_
  refine lr_iload h 4 rfl dl_1218 ?_
  refine lr_iconst h dl_1220 ?_
  refine lr_iadd h dl_1221 ?_
  refine lr_sld h (Nat.le_of_ble_eq_true rfl) (by omega) (by omega) dl_1222 (fun s1 hs2 es3 => ?_)
  refine lr_cCI (as := [vi s1]) (k := 0) h kX11 at_0 wX11_asks ll_152 (c_X11_asks x s1 hs2 hB) rfl (by decide) (by decide) rfl (Nat.le_of_ble_eq_true rfl) (Nat.le_of_succ_le hc1) (by omega) dl_1223 (fun z5 c4 w6 p7 => ?_)
  obtain ⟨p7_0, p7_1⟩ := p7
  have : c4 1 1 = x 1 1 := congrFun (p7_1 1 (by omega) (by omega) (by omega) (by omega)) 1
  have : c4 0 13 = x 0 13 := congrFun (p7_1 0 (by omega) (by omega) (by omega) (by omega)) 13
  have : c4 0 14 = x 0 14 := congrFun (p7_1 0 (by omega) (by omega) (by omega) (by omega)) 14
  have f_c4 : ∀ j : Int, c4 77 j = x 77 j := fun j => congrFun (p7_1 77 (by omega) (by omega) (by omega) (by omega)) j
  have hB8 : (c4 0 13 = 110 ∧ c4 0 14 = 115) ∨ (c4 0 13 = 115 ∧ c4 0 14 = 110) := by omega
  refine lr_pop h rfl dl_1226 ?_
  refine lr_aload_n h rfl 2 rfl dl_1227 ?_
  refine lr_aload_n h rfl 0 rfl dl_1228 ?_
  refine lr_iload h 4 rfl dl_1229 ?_
  refine lr_iconst h dl_1231 ?_
  refine lr_iadd h dl_1232 ?_
  refine lr_sld h (Nat.le_of_ble_eq_true rfl) (by omega) (by omega) dl_1233 (fun s9 hs10 es11 => ?_)
  rw [show s9 = s1 from es11.trans es3.symm]
  refine lr_cMI (as := [vi s1]) (k := 0) h kX12 at_0M wX12_asks ll_155 (c_X12_asks y s1 hs2 hG) rfl (by decide) (by decide) rfl (Nat.le_of_ble_eq_true rfl) (Nat.le_of_succ_le hc1) (by omega) dl_1234 (fun z13 m12 w14 p15 => ?_)
  obtain ⟨p15_0, p15_1, p15_2, p15_3⟩ := p15
  have g2_m12 : m12 0 2 = y 0 2 := (p15_3 2 (by omega) (by omega) (by omega) (by omega) (by omega) (by omega) (by omega) (by omega) (by omega))
  have g37_m12 : m12 0 37 = y 0 37 := (p15_3 37 (by omega) (by omega) (by omega) (by omega) (by omega) (by omega) (by omega) (by omega) (by omega))
  have g21_m12 : m12 0 21 = y 0 21 := (p15_3 21 (by omega) (by omega) (by omega) (by omega) (by omega) (by omega) (by omega) (by omega) (by omega))
  have f_m12 : ∀ j : Int, m12 27 j = y 27 j := fun j => congrFun (p15_2 27 (by omega) (by omega) (by omega) (by omega) (by omega)) j
  have hG := p15_1
  have hU1 : CU ((n : Int) + 1) m12 := CU_id hU g21_m12 (p15_2 1 (by omega) (by omega) (by omega) (by omega) (by omega)) (p15_2 20 (by omega) (by omega) (by omega) (by omega) (by omega)) (p15_2 21 (by omega) (by omega) (by omega) (by omega) (by omega)) (p15_2 22 (by omega) (by omega) (by omega) (by omega) (by omega))
  refine lr_pop h rfl dl_1237 ?_
  refine lr_goto (tgt := 1468) h dl_1238 (by decide) ?_
  refine lr_mono (ce2 := 149 + n + 1) (sl2 := 24032 + 6 * n + 6) (Nat.le_succ _) (Nat.le_add_right _ 6) ?_
  exact next c4 m12 ⟨hB8, hG, hU1, by omega, by omega, by omega, (fun j => ((f_c4 j).trans (hF j)).trans (f_m12 j).symm), (fun j a b => ((congrArg uch (congrFun (p15_2 2 (by omega) (by omega) (by omega) (by omega) (by omega)) j)).trans ((hX j a (by omega)).trans (congrFun (p7_1 2 (by omega) (by omega) (by omega) (by omega)) j).symm)))⟩
set_option maxHeartbeats 1000000 in
theorem lb_1241 {C : LC} (h : LOK C 2560) {x y : Mm} {n : Nat} {at9 : Int} (hI : LI x y n) (h0 : 0 ≤ at9) (h1 : at9 + 5 ≤ lc_L C) (hn : n ≤ 511) (hc1 : 149 + n + 1 ≤ room_1.cells) (hsl1 : 24032 + 6 * n + 6 ≤ room_1.slots) (next : ∀ x' y' : Mm, LI x' y' ((n : Int) + 1) → LW C (149 + n + 1) (24032 + 6 * n + 6) x' y' 1468 [(0, .ref (lc_b C)), (1, vr (lc_GC C) 0), (2, vr (lc_GM C) 0), (3, vr (lc_GC C) 120), (4, vi at9)] []) : LW C (149 + n) (24032 + 6 * n) x y 1241 [(0, .ref (lc_b C)), (1, vr (lc_GC C) 0), (2, vr (lc_GM C) 0), (3, vr (lc_GC C) 120), (4, vi at9)] [] := by
  obtain ⟨hB, hG, hU, h21, hT, hK, hF, hX⟩ := hI
  refine lr_rngM (fun hRM => ?_)
  have h02 : 0 ≤ y 0 2 := by have q := hRM 0 2; rw [rfM_2] at q; exact q.1
  refine lr_aload_n h rfl 1 rfl dl_1241 ?_
  refine lr_aload_n h rfl 0 rfl dl_1242 ?_
  refine lr_iload h 4 rfl dl_1243 ?_
  refine lr_iconst h dl_1245 ?_
  refine lr_iadd h dl_1246 ?_
  refine lr_sld h (Nat.le_of_ble_eq_true rfl) (by omega) (by omega) dl_1247 (fun s1 hs2 es3 => ?_)
  refine lr_aload_n h rfl 0 rfl dl_1248 ?_
  refine lr_iload h 4 rfl dl_1249 ?_
  refine lr_iconst h dl_1251 ?_
  refine lr_iadd h dl_1252 ?_
  refine lr_sld h (Nat.le_of_ble_eq_true rfl) (by omega) (by omega) dl_1253 (fun s4 hs5 es6 => ?_)
  refine lr_aload_n h rfl 0 rfl dl_1254 ?_
  refine lr_iload h 4 rfl dl_1255 ?_
  refine lr_iconst h dl_1257 ?_
  refine lr_iadd h dl_1258 ?_
  refine lr_sld h (Nat.le_of_ble_eq_true rfl) (by omega) (by omega) dl_1259 (fun s7 hs8 es9 => ?_)
  refine lr_cCI (as := [vi s1, vi s4, vi s7]) (k := 0) h kX11 at_0 wX11_odds ll_156 (c_X11_odds x s1 s4 s7 hs2 hs5 hs8 hB) rfl (by decide) (by decide) rfl (Nat.le_of_ble_eq_true rfl) (Nat.le_of_succ_le hc1) (by omega) dl_1260 (fun z11 c10 w12 p13 => ?_)
  have p13_0 := p13
  have : c10 1 1 = x 1 1 := congrFun (p13_0 1 (by omega) (by omega) (by omega)) 1
  have : c10 98 3 = x 98 3 := congrFun (p13_0 98 (by omega) (by omega) (by omega)) 3
  have : c10 0 13 = x 0 13 := congrFun (p13_0 0 (by omega) (by omega) (by omega)) 13
  have : c10 0 14 = x 0 14 := congrFun (p13_0 0 (by omega) (by omega) (by omega)) 14
  have f_c10 : ∀ j : Int, c10 77 j = x 77 j := fun j => congrFun (p13_0 77 (by omega) (by omega) (by omega)) j
  have hB14 : (c10 0 13 = 110 ∧ c10 0 14 = 115) ∨ (c10 0 13 = 115 ∧ c10 0 14 = 110) := by omega
  refine lr_pop h rfl dl_1263 ?_
  refine lr_aload_n h rfl 2 rfl dl_1264 ?_
  refine lr_aload_n h rfl 0 rfl dl_1265 ?_
  refine lr_iload h 4 rfl dl_1266 ?_
  refine lr_iconst h dl_1268 ?_
  refine lr_iadd h dl_1269 ?_
  refine lr_sld h (Nat.le_of_ble_eq_true rfl) (by omega) (by omega) dl_1270 (fun s15 hs16 es17 => ?_)
  rw [show s15 = s1 from es17.trans es3.symm]
  refine lr_aload_n h rfl 0 rfl dl_1271 ?_
  refine lr_iload h 4 rfl dl_1272 ?_
  refine lr_iconst h dl_1274 ?_
  refine lr_iadd h dl_1275 ?_
  refine lr_sld h (Nat.le_of_ble_eq_true rfl) (by omega) (by omega) dl_1276 (fun s18 hs19 es20 => ?_)
  rw [show s18 = s4 from es20.trans es6.symm]
  refine lr_aload_n h rfl 0 rfl dl_1277 ?_
  refine lr_iload h 4 rfl dl_1278 ?_
  refine lr_iconst h dl_1280 ?_
  refine lr_iadd h dl_1281 ?_
  refine lr_sld h (Nat.le_of_ble_eq_true rfl) (by omega) (by omega) dl_1282 (fun s21 hs22 es23 => ?_)
  rw [show s21 = s7 from es23.trans es9.symm]
  refine lr_cMI (as := [vi s1, vi s4, vi s7]) (k := 0) h kX12 at_0M wX12_odds ll_159 (c_X12_odds y s1 s4 s7 hs2 hs5 hs8 hG) rfl (by decide) (by decide) rfl (Nat.le_of_ble_eq_true rfl) (Nat.le_of_succ_le hc1) (by omega) dl_1283 (fun z25 m24 w26 p27 => ?_)
  obtain ⟨p27_0, p27_1, p27_2, p27_3⟩ := p27
  have g2_m24 : m24 0 2 = y 0 2 := (p27_3 2 (by omega) (by omega) (by omega) (by omega) (by omega) (by omega) (by omega) (by omega) (by omega))
  have g37_m24 : m24 0 37 = y 0 37 := (p27_3 37 (by omega) (by omega) (by omega) (by omega) (by omega) (by omega) (by omega) (by omega) (by omega))
  have g21_m24 : m24 0 21 = y 0 21 := (p27_3 21 (by omega) (by omega) (by omega) (by omega) (by omega) (by omega) (by omega) (by omega) (by omega))
  have f_m24 : ∀ j : Int, m24 27 j = y 27 j := fun j => congrFun (p27_2 27 (by omega) (by omega) (by omega) (by omega)) j
  have hG := p27_1
  have hU1 : CU ((n : Int) + 1) m24 := CU_id hU g21_m24 (p27_2 1 (by omega) (by omega) (by omega) (by omega)) (p27_2 20 (by omega) (by omega) (by omega) (by omega)) (p27_2 21 (by omega) (by omega) (by omega) (by omega)) (p27_2 22 (by omega) (by omega) (by omega) (by omega))
  refine lr_pop h rfl dl_1286 ?_
  refine lr_goto (tgt := 1468) h dl_1287 (by decide) ?_
  refine lr_mono (ce2 := 149 + n + 1) (sl2 := 24032 + 6 * n + 6) (Nat.le_succ _) (Nat.le_add_right _ 6) ?_
  exact next c10 m24 ⟨hB14, hG, hU1, by omega, by omega, by omega, (fun j => ((f_c10 j).trans (hF j)).trans (f_m24 j).symm), (fun j a b => ((congrArg uch (congrFun (p27_2 2 (by omega) (by omega) (by omega) (by omega)) j)).trans ((hX j a (by omega)).trans (congrFun (p13_0 2 (by omega) (by omega) (by omega)) j).symm)))⟩
set_option maxHeartbeats 1000000 in
theorem lb_1290 {C : LC} (h : LOK C 2560) {x y : Mm} {n : Nat} {at9 : Int} (hI : LI x y n) (h0 : 0 ≤ at9) (h1 : at9 + 5 ≤ lc_L C) (hn : n ≤ 511) (hc1 : 149 + n + 1 ≤ room_1.cells) (hsl1 : 24032 + 6 * n + 6 ≤ room_1.slots) (next : ∀ x' y' : Mm, LI x' y' ((n : Int) + 1) → LW C (149 + n + 1) (24032 + 6 * n + 6) x' y' 1468 [(0, .ref (lc_b C)), (1, vr (lc_GC C) 0), (2, vr (lc_GM C) 0), (3, vr (lc_GC C) 120), (4, vi at9)] []) : LW C (149 + n) (24032 + 6 * n) x y 1290 [(0, .ref (lc_b C)), (1, vr (lc_GC C) 0), (2, vr (lc_GM C) 0), (3, vr (lc_GC C) 120), (4, vi at9)] [] := by
  obtain ⟨hB, hG, hU, h21, hT, hK, hF, hX⟩ := hI
  refine lr_rngM (fun hRM => ?_)
  have h02 : 0 ≤ y 0 2 := by have q := hRM 0 2; rw [rfM_2] at q; exact q.1
  refine lr_aload_n h rfl 1 rfl dl_1290 ?_
  refine lr_aload_n h rfl 0 rfl dl_1291 ?_
  refine lr_iload h 4 rfl dl_1292 ?_
  refine lr_iconst h dl_1294 ?_
  refine lr_iadd h dl_1295 ?_
  refine lr_sld h (Nat.le_of_ble_eq_true rfl) (by omega) (by omega) dl_1296 (fun s1 hs2 es3 => ?_)
  refine lr_cCI (as := [vi s1]) (k := 0) h kX11 at_0 wX11_duel ll_160 (c_X11_duel x s1 hs2) rfl (by decide) (by decide) rfl (Nat.le_of_ble_eq_true rfl) (Nat.le_of_succ_le hc1) (by omega) dl_1297 (fun z5 c4 w6 p7 => ?_)
  have p7_0 := p7
  have : c4 1 1 = x 1 1 := congrFun (p7_0 1 (by omega)) 1
  have : c4 98 3 = x 98 3 := congrFun (p7_0 98 (by omega)) 3
  have : c4 0 13 = x 0 13 := congrFun (p7_0 0 (by omega)) 13
  have : c4 0 14 = x 0 14 := congrFun (p7_0 0 (by omega)) 14
  have f_c4 : ∀ j : Int, c4 77 j = x 77 j := fun j => congrFun (p7_0 77 (by omega)) j
  have hB8 : (c4 0 13 = 110 ∧ c4 0 14 = 115) ∨ (c4 0 13 = 115 ∧ c4 0 14 = 110) := by omega
  refine lr_pop h rfl dl_1300 ?_
  refine lr_aload_n h rfl 2 rfl dl_1301 ?_
  refine lr_aload_n h rfl 0 rfl dl_1302 ?_
  refine lr_iload h 4 rfl dl_1303 ?_
  refine lr_iconst h dl_1305 ?_
  refine lr_iadd h dl_1306 ?_
  refine lr_sld h (Nat.le_of_ble_eq_true rfl) (by omega) (by omega) dl_1307 (fun s9 hs10 es11 => ?_)
  rw [show s9 = s1 from es11.trans es3.symm]
  refine lr_cMI (as := [vi s1]) (k := 0) h kX12 at_0M wX12_duel ll_163 (c_X12_duel y s1 hs2 hG) rfl (by decide) (by decide) rfl (Nat.le_of_ble_eq_true rfl) (Nat.le_of_succ_le hc1) (by omega) dl_1308 (fun z13 m12 w14 p15 => ?_)
  obtain ⟨p15_0, p15_1, p15_2, p15_3⟩ := p15
  have g2_m12 : m12 0 2 = y 0 2 := (p15_3 2 (by omega) (by omega))
  have g37_m12 : m12 0 37 = y 0 37 := (p15_3 37 (by omega) (by omega))
  have g21_m12 : m12 0 21 = y 0 21 := (p15_3 21 (by omega) (by omega))
  have f_m12 : ∀ j : Int, m12 27 j = y 27 j := fun j => congrFun (p15_2 27 (by omega) (by omega)) j
  have hG := p15_1
  have hU1 : CU ((n : Int) + 1) m12 := CU_id hU g21_m12 (p15_2 1 (by omega) (by omega)) (p15_2 20 (by omega) (by omega)) (p15_2 21 (by omega) (by omega)) (p15_2 22 (by omega) (by omega))
  refine lr_pop h rfl dl_1311 ?_
  refine lr_goto (tgt := 1468) h dl_1312 (by decide) ?_
  refine lr_mono (ce2 := 149 + n + 1) (sl2 := 24032 + 6 * n + 6) (Nat.le_succ _) (Nat.le_add_right _ 6) ?_
  exact next c4 m12 ⟨hB8, hG, hU1, by omega, by omega, by omega, (fun j => ((f_c4 j).trans (hF j)).trans (f_m12 j).symm), (fun j a b => ((congrArg uch (congrFun (p15_2 2 (by omega) (by omega)) j)).trans ((hX j a (by omega)).trans (congrFun (p7_0 2 (by omega)) j).symm)))⟩
set_option maxHeartbeats 1000000 in
theorem lb_1315 {C : LC} (h : LOK C 2560) {x y : Mm} {n : Nat} {at9 : Int} (hI : LI x y n) (h0 : 0 ≤ at9) (h1 : at9 + 5 ≤ lc_L C) (hn : n ≤ 511) (hc1 : 149 + n + 1 ≤ room_1.cells) (hsl1 : 24032 + 6 * n + 6 ≤ room_1.slots) (next : ∀ x' y' : Mm, LI x' y' ((n : Int) + 1) → LW C (149 + n + 1) (24032 + 6 * n + 6) x' y' 1468 [(0, .ref (lc_b C)), (1, vr (lc_GC C) 0), (2, vr (lc_GM C) 0), (3, vr (lc_GC C) 120), (4, vi at9)] []) : LW C (149 + n) (24032 + 6 * n) x y 1315 [(0, .ref (lc_b C)), (1, vr (lc_GC C) 0), (2, vr (lc_GM C) 0), (3, vr (lc_GC C) 120), (4, vi at9)] [] := by
  obtain ⟨hB, hG, hU, h21, hT, hK, hF, hX⟩ := hI
  refine lr_rngM (fun hRM => ?_)
  have h02 : 0 ≤ y 0 2 := by have q := hRM 0 2; rw [rfM_2] at q; exact q.1
  refine lr_aload_n h rfl 1 rfl dl_1315 ?_
  refine lr_cCI (as := []) (k := 0) h kX11 at_0 wX11_law ll_164 (c_X11_law x hB) rfl (by decide) (by decide) rfl (Nat.le_of_ble_eq_true rfl) (Nat.le_of_succ_le hc1) (by omega) dl_1316 (fun z2 c1 w3 p4 => ?_)
  obtain ⟨p4_0, p4_1⟩ := p4
  have : c1 98 3 = x 98 3 := congrFun (p4_1 98 (by omega) (by omega) (by omega) (by omega)) 3
  have : c1 0 13 = x 0 13 := congrFun (p4_1 0 (by omega) (by omega) (by omega) (by omega)) 13
  have : c1 0 14 = x 0 14 := congrFun (p4_1 0 (by omega) (by omega) (by omega) (by omega)) 14
  have f_c1 : ∀ j : Int, c1 77 j = x 77 j := fun j => congrFun (p4_1 77 (by omega) (by omega) (by omega) (by omega)) j
  have hB5 : (c1 0 13 = 110 ∧ c1 0 14 = 115) ∨ (c1 0 13 = 115 ∧ c1 0 14 = 110) := by omega
  refine lr_pop h rfl dl_1319 ?_
  refine lr_aload_n h rfl 2 rfl dl_1320 ?_
  refine lr_cMI (as := []) (k := 0) h kX12 at_0M wX12_law ll_167 (c_X12_law y hG) rfl (by decide) (by decide) rfl (Nat.le_of_ble_eq_true rfl) (Nat.le_of_succ_le hc1) (by omega) dl_1321 (fun z7 m6 w8 p9 => ?_)
  obtain ⟨p9_0, p9_1, p9_2, p9_3, p9_4⟩ := p9
  have g37_m6 : m6 0 37 = y 0 37 := (p9_4 37 (by omega) (by omega) (by omega) (by omega) (by omega) (by omega) (by omega) (by omega) (by omega) (by omega) (by omega) (by omega))
  have g21_m6 : m6 0 21 = y 0 21 := (p9_4 21 (by omega) (by omega) (by omega) (by omega) (by omega) (by omega) (by omega) (by omega) (by omega) (by omega) (by omega) (by omega))
  have f_m6 : ∀ j : Int, m6 27 j = y 27 j := fun j => congrFun (p9_3 27 (by omega) (by omega) (by omega) (by omega) (by omega)) j
  have hG := p9_2
  have hU1 : CU ((n : Int) + 1) m6 := CU_id hU g21_m6 (p9_3 1 (by omega) (by omega) (by omega) (by omega) (by omega)) (p9_3 20 (by omega) (by omega) (by omega) (by omega) (by omega)) (p9_3 21 (by omega) (by omega) (by omega) (by omega) (by omega)) (p9_3 22 (by omega) (by omega) (by omega) (by omega) (by omega))
  refine lr_pop h rfl dl_1324 ?_
  refine lr_goto (tgt := 1468) h dl_1325 (by decide) ?_
  refine lr_mono (ce2 := 149 + n + 1) (sl2 := 24032 + 6 * n + 6) (Nat.le_succ _) (Nat.le_add_right _ 6) ?_
  exact next c1 m6 ⟨hB5, hG, hU1, by omega, by omega, by omega, (fun j => ((f_c1 j).trans (hF j)).trans (f_m6 j).symm), (fun j a b => by exfalso; omega)⟩
set_option maxHeartbeats 1000000 in
theorem lb_1328 {C : LC} (h : LOK C 2560) {x y : Mm} {n : Nat} {at9 : Int} (hI : LI x y n) (h0 : 0 ≤ at9) (h1 : at9 + 5 ≤ lc_L C) (hn : n ≤ 511) (hc1 : 149 + n + 1 ≤ room_1.cells) (hsl1 : 24032 + 6 * n + 6 ≤ room_1.slots) (next : ∀ x' y' : Mm, LI x' y' ((n : Int) + 1) → LW C (149 + n + 1) (24032 + 6 * n + 6) x' y' 1468 [(0, .ref (lc_b C)), (1, vr (lc_GC C) 0), (2, vr (lc_GM C) 0), (3, vr (lc_GC C) 120), (4, vi at9)] []) : LW C (149 + n) (24032 + 6 * n) x y 1328 [(0, .ref (lc_b C)), (1, vr (lc_GC C) 0), (2, vr (lc_GM C) 0), (3, vr (lc_GC C) 120), (4, vi at9)] [] := by
  obtain ⟨hB, hG, hU, h21, hT, hK, hF, hX⟩ := hI
  refine lr_rngM (fun hRM => ?_)
  have h02 : 0 ≤ y 0 2 := by have q := hRM 0 2; rw [rfM_2] at q; exact q.1
  refine lr_aload_n h rfl 1 rfl dl_1328 ?_
  refine lr_aload_n h rfl 0 rfl dl_1329 ?_
  refine lr_iload h 4 rfl dl_1330 ?_
  refine lr_iconst h dl_1332 ?_
  refine lr_iadd h dl_1333 ?_
  refine lr_sld h (Nat.le_of_ble_eq_true rfl) (by omega) (by omega) dl_1334 (fun s1 hs2 es3 => ?_)
  refine lr_aload_n h rfl 0 rfl dl_1335 ?_
  refine lr_iload h 4 rfl dl_1336 ?_
  refine lr_iconst h dl_1338 ?_
  refine lr_iadd h dl_1339 ?_
  refine lr_sld h (Nat.le_of_ble_eq_true rfl) (by omega) (by omega) dl_1340 (fun s4 hs5 es6 => ?_)
  refine lr_cCI (as := [vi s1, vi s4]) (k := 0) h kX11 at_0 wX11_years ll_168 (c_X11_years x s1 s4 hs2 hs5 hB) rfl (by decide) (by decide) rfl (Nat.le_of_ble_eq_true rfl) (Nat.le_of_succ_le hc1) (by omega) dl_1341 (fun z8 c7 w9 p10 => ?_)
  obtain ⟨p10_0, p10_1⟩ := p10
  have : c7 1 1 = x 1 1 := congrFun (p10_1 1 (by omega) (by omega) (by omega) (by omega) (by omega) (by omega) (by omega)) 1
  have : c7 98 3 = x 98 3 := congrFun (p10_1 98 (by omega) (by omega) (by omega) (by omega) (by omega) (by omega) (by omega)) 3
  have f_c7 : ∀ j : Int, c7 77 j = x 77 j := fun j => congrFun (p10_1 77 (by omega) (by omega) (by omega) (by omega) (by omega) (by omega) (by omega)) j
  have hB11 : (c7 0 13 = 110 ∧ c7 0 14 = 115) ∨ (c7 0 13 = 115 ∧ c7 0 14 = 110) := by omega
  refine lr_pop h rfl dl_1344 ?_
  refine lr_aload_n h rfl 2 rfl dl_1345 ?_
  refine lr_aload_n h rfl 0 rfl dl_1346 ?_
  refine lr_iload h 4 rfl dl_1347 ?_
  refine lr_iconst h dl_1349 ?_
  refine lr_iadd h dl_1350 ?_
  refine lr_sld h (Nat.le_of_ble_eq_true rfl) (by omega) (by omega) dl_1351 (fun s12 hs13 es14 => ?_)
  rw [show s12 = s1 from es14.trans es3.symm]
  refine lr_aload_n h rfl 0 rfl dl_1352 ?_
  refine lr_iload h 4 rfl dl_1353 ?_
  refine lr_iconst h dl_1355 ?_
  refine lr_iadd h dl_1356 ?_
  refine lr_sld h (Nat.le_of_ble_eq_true rfl) (by omega) (by omega) dl_1357 (fun s15 hs16 es17 => ?_)
  rw [show s15 = s4 from es17.trans es6.symm]
  refine lr_cMI (as := [vi s1, vi s4]) (k := 0) h kX12 at_0M wX12_years ll_171 (c_X12_years y s1 s4 hs2 hs5 hG) rfl (by decide) (by decide) rfl (Nat.le_of_ble_eq_true rfl) (Nat.le_of_succ_le hc1) (by omega) dl_1358 (fun z19 m18 w20 p21 => ?_)
  obtain ⟨p21_0, p21_1, p21_2, p21_3⟩ := p21
  have g2_m18 : m18 0 2 = y 0 2 := (p21_3 2 (by omega) (by omega) (by omega) (by omega) (by omega) (by omega) (by omega) (by omega) (by omega) (by omega))
  have g37_m18 : m18 0 37 = y 0 37 := (p21_3 37 (by omega) (by omega) (by omega) (by omega) (by omega) (by omega) (by omega) (by omega) (by omega) (by omega))
  have g21_m18 : m18 0 21 = y 0 21 := (p21_3 21 (by omega) (by omega) (by omega) (by omega) (by omega) (by omega) (by omega) (by omega) (by omega) (by omega))
  have f_m18 : ∀ j : Int, m18 27 j = y 27 j := fun j => congrFun (p21_2 27 (by omega) (by omega) (by omega) (by omega) (by omega)) j
  have hG := p21_1
  have hU1 : CU ((n : Int) + 1) m18 := CU_id hU g21_m18 (p21_2 1 (by omega) (by omega) (by omega) (by omega) (by omega)) (p21_2 20 (by omega) (by omega) (by omega) (by omega) (by omega)) (p21_2 21 (by omega) (by omega) (by omega) (by omega) (by omega)) (p21_2 22 (by omega) (by omega) (by omega) (by omega) (by omega))
  refine lr_pop h rfl dl_1361 ?_
  refine lr_goto (tgt := 1468) h dl_1362 (by decide) ?_
  refine lr_mono (ce2 := 149 + n + 1) (sl2 := 24032 + 6 * n + 6) (Nat.le_succ _) (Nat.le_add_right _ 6) ?_
  exact next c7 m18 ⟨hB11, hG, hU1, by omega, by omega, by omega, (fun j => ((f_c7 j).trans (hF j)).trans (f_m18 j).symm), (fun j a b => ((congrArg uch (congrFun (p21_2 2 (by omega) (by omega) (by omega) (by omega) (by omega)) j)).trans ((hX j a (by omega)).trans (congrFun (p10_1 2 (by omega) (by omega) (by omega) (by omega) (by omega) (by omega) (by omega)) j).symm)))⟩
set_option maxHeartbeats 1000000 in
theorem lb_1365 {C : LC} (h : LOK C 2560) {x y : Mm} {n : Nat} {at9 : Int} (hI : LI x y n) (h0 : 0 ≤ at9) (h1 : at9 + 5 ≤ lc_L C) (hn : n ≤ 511) (hc1 : 149 + n + 1 ≤ room_1.cells) (hsl1 : 24032 + 6 * n + 6 ≤ room_1.slots) (next : ∀ x' y' : Mm, LI x' y' ((n : Int) + 1) → LW C (149 + n + 1) (24032 + 6 * n + 6) x' y' 1468 [(0, .ref (lc_b C)), (1, vr (lc_GC C) 0), (2, vr (lc_GM C) 0), (3, vr (lc_GC C) 120), (4, vi at9)] []) : LW C (149 + n) (24032 + 6 * n) x y 1365 [(0, .ref (lc_b C)), (1, vr (lc_GC C) 0), (2, vr (lc_GM C) 0), (3, vr (lc_GC C) 120), (4, vi at9)] [] := by
  obtain ⟨hB, hG, hU, h21, hT, hK, hF, hX⟩ := hI
  refine lr_rngM (fun hRM => ?_)
  have h02 : 0 ≤ y 0 2 := by have q := hRM 0 2; rw [rfM_2] at q; exact q.1
  refine lr_aload_n h rfl 1 rfl dl_1365 ?_
  refine lr_aload_n h rfl 0 rfl dl_1366 ?_
  refine lr_iload h 4 rfl dl_1367 ?_
  refine lr_iconst h dl_1369 ?_
  refine lr_iadd h dl_1370 ?_
  refine lr_sld h (Nat.le_of_ble_eq_true rfl) (by omega) (by omega) dl_1371 (fun s1 hs2 es3 => ?_)
  refine lr_cCI (as := [vi s1]) (k := 0) h kX11 at_0 wX11_keep ll_172 (c_X11_keep x s1 hs2) rfl (by decide) (by decide) rfl (Nat.le_of_ble_eq_true rfl) (Nat.le_of_succ_le hc1) (by omega) dl_1372 (fun z5 c4 w6 p7 => ?_)
  obtain ⟨p7_0, p7_1, p7_2, p7_3, p7_4⟩ := p7
  have : c4 1 1 = x 1 1 := congrFun (p7_4 1 (by omega)) 1
  have : c4 98 3 = x 98 3 := congrFun (p7_4 98 (by omega)) 3
  have : c4 0 13 = x 0 13 := congrFun (p7_4 0 (by omega)) 13
  have : c4 0 14 = x 0 14 := congrFun (p7_4 0 (by omega)) 14
  have hB8 : (c4 0 13 = 110 ∧ c4 0 14 = 115) ∨ (c4 0 13 = 115 ∧ c4 0 14 = 110) := by omega
  refine lr_pop h rfl dl_1375 ?_
  refine lr_aload_n h rfl 2 rfl dl_1376 ?_
  refine lr_aload_n h rfl 0 rfl dl_1377 ?_
  refine lr_iload h 4 rfl dl_1378 ?_
  refine lr_iconst h dl_1380 ?_
  refine lr_iadd h dl_1381 ?_
  refine lr_sld h (Nat.le_of_ble_eq_true rfl) (by omega) (by omega) dl_1382 (fun s9 hs10 es11 => ?_)
  rw [show s9 = s1 from es11.trans es3.symm]
  refine lr_cMI (as := [vi s1]) (k := 0) h kX12 at_0M wX12_keep ll_175 (c_X12_keep y s1 hs2 hG) rfl (by decide) (by decide) rfl (Nat.le_of_ble_eq_true rfl) (Nat.le_of_succ_le hc1) (by omega) dl_1383 (fun z13 m12 w14 p15 => ?_)
  obtain ⟨p15_0, p15_1, p15_2, p15_3, p15_4, p15_5, p15_6, p15_7⟩ := p15
  have g2_m12 : m12 0 2 = y 0 2 := (p15_7 2 (by omega))
  have g37_m12 : m12 0 37 = y 0 37 := (p15_7 37 (by omega))
  have g21_m12 : m12 0 21 = y 0 21 := (p15_7 21 (by omega))
  have hG := p15_5
  have hU1 : CU ((n : Int) + 1) m12 := CU_id hU g21_m12 (p15_6 1 (by omega) (by omega)) (p15_6 20 (by omega) (by omega)) (p15_6 21 (by omega) (by omega)) (p15_6 22 (by omega) (by omega))
  refine lr_pop h rfl dl_1386 ?_
  refine lr_goto (tgt := 1468) h dl_1387 (by decide) ?_
  refine lr_mono (ce2 := 149 + n + 1) (sl2 := 24032 + 6 * n + 6) (Nat.le_succ _) (Nat.le_add_right _ 6) ?_
  have hF1 : ∀ j : Int, c4 77 j = m12 27 j := keepF p7_2 p7_3 p15_3 p15_4 (by omega) hF
  exact next c4 m12 ⟨hB8, hG, hU1, by omega, by omega, by omega, hF1, (fun j a b => ((congrArg uch (congrFun (p15_6 2 (by omega) (by omega)) j)).trans ((hX j a (by omega)).trans (congrFun (p7_4 2 (by omega)) j).symm)))⟩
set_option maxHeartbeats 1000000 in
theorem lb_1390 {C : LC} (h : LOK C 2560) {x y : Mm} {n : Nat} {at9 : Int} (hI : LI x y n) (h0 : 0 ≤ at9) (h1 : at9 + 5 ≤ lc_L C) (hn : n ≤ 511) (hc1 : 149 + n + 1 ≤ room_1.cells) (hsl1 : 24032 + 6 * n + 6 ≤ room_1.slots) (next : ∀ x' y' : Mm, LI x' y' ((n : Int) + 1) → LW C (149 + n + 1) (24032 + 6 * n + 6) x' y' 1468 [(0, .ref (lc_b C)), (1, vr (lc_GC C) 0), (2, vr (lc_GM C) 0), (3, vr (lc_GC C) 120), (4, vi at9)] []) : LW C (149 + n) (24032 + 6 * n) x y 1390 [(0, .ref (lc_b C)), (1, vr (lc_GC C) 0), (2, vr (lc_GM C) 0), (3, vr (lc_GC C) 120), (4, vi at9)] [] := by
  obtain ⟨hB, hG, hU, h21, hT, hK, hF, hX⟩ := hI
  refine lr_rngM (fun hRM => ?_)
  have h02 : 0 ≤ y 0 2 := by have q := hRM 0 2; rw [rfM_2] at q; exact q.1
  refine lr_aload_n h rfl 1 rfl dl_1390 ?_
  refine lr_aload_n h rfl 0 rfl dl_1391 ?_
  refine lr_iload h 4 rfl dl_1392 ?_
  refine lr_iconst h dl_1394 ?_
  refine lr_iadd h dl_1395 ?_
  refine lr_sld h (Nat.le_of_ble_eq_true rfl) (by omega) (by omega) dl_1396 (fun s1 hs2 es3 => ?_)
  refine lr_cCI (as := [vi s1]) (k := 0) h kX11 at_0 wX11_again ll_176 (c_X11_again x s1 hs2) rfl (by decide) (by decide) rfl (Nat.le_of_ble_eq_true rfl) (Nat.le_of_succ_le hc1) (by omega) dl_1397 (fun z5 c4 w6 p7 => ?_)
  obtain ⟨p7_0, p7_1, p7_2⟩ := p7
  have : c4 1 1 = x 1 1 := congrFun (p7_2 1 (by omega) (by omega) (by omega) (by omega)) 1
  have : c4 98 3 = x 98 3 := congrFun (p7_2 98 (by omega) (by omega) (by omega) (by omega)) 3
  have : c4 0 13 = x 0 13 := congrFun (p7_2 0 (by omega) (by omega) (by omega) (by omega)) 13
  have : c4 0 14 = x 0 14 := congrFun (p7_2 0 (by omega) (by omega) (by omega) (by omega)) 14
  have f_c4 : ∀ j : Int, c4 77 j = x 77 j := fun j => congrFun (p7_2 77 (by omega) (by omega) (by omega) (by omega)) j
  have hB8 : (c4 0 13 = 110 ∧ c4 0 14 = 115) ∨ (c4 0 13 = 115 ∧ c4 0 14 = 110) := by omega
  refine lr_pop h rfl dl_1400 ?_
  refine lr_aload_n h rfl 2 rfl dl_1401 ?_
  refine lr_aload_n h rfl 0 rfl dl_1402 ?_
  refine lr_iload h 4 rfl dl_1403 ?_
  refine lr_iconst h dl_1405 ?_
  refine lr_iadd h dl_1406 ?_
  refine lr_sld h (Nat.le_of_ble_eq_true rfl) (by omega) (by omega) dl_1407 (fun s9 hs10 es11 => ?_)
  rw [show s9 = s1 from es11.trans es3.symm]
  refine lr_cMI (as := [vi s1]) (k := 0) h kX12 at_0M wX12_again ll_179 (c_X12_again y s1 hs2 hG (by omega)) rfl (by decide) (by decide) rfl (Nat.le_of_ble_eq_true rfl) (Nat.le_of_succ_le hc1) (by omega) dl_1408 (fun z13 m12 w14 p15 => ?_)
  obtain ⟨p15_0, p15_1, p15_2, p15_3, p15_4, p15_5, p15_6⟩ := p15
  have g2_m12 : m12 0 2 = y 0 2 := (p15_6 2 (by omega) (by omega) (by omega))
  have g37_m12 : m12 0 37 = y 0 37 := (p15_6 37 (by omega) (by omega) (by omega))
  have f_m12 : ∀ j : Int, m12 27 j = y 27 j := fun j => congrFun (p15_5 27 (by omega) (by omega)) j
  have hG := p15_4
  have hU1 : CU ((n : Int) + 1) m12 := CU_chg hU p15_3 (p15_5 20 (by omega) (by omega)) (p15_5 21 (by omega) (by omega)) (p15_5 22 (by omega) (by omega))
  have h21 : m12 0 21 ≤ y 0 21 + 3 := by rcases p15_3 with ⟨q, _⟩ | ⟨_, q⟩ <;> omega
  refine lr_pop h rfl dl_1411 ?_
  refine lr_goto (tgt := 1468) h dl_1412 (by decide) ?_
  refine lr_mono (ce2 := 149 + n + 1) (sl2 := 24032 + 6 * n + 6) (Nat.le_succ _) (Nat.le_add_right _ 6) ?_
  exact next c4 m12 ⟨hB8, hG, hU1, by omega, by omega, by omega, (fun j => ((f_c4 j).trans (hF j)).trans (f_m12 j).symm), (fun j a b => ((congrArg uch (congrFun (p15_5 2 (by omega) (by omega)) j)).trans ((hX j a (by omega)).trans (congrFun (p7_2 2 (by omega) (by omega) (by omega) (by omega)) j).symm)))⟩
set_option maxHeartbeats 1000000 in
theorem lb_1415 {C : LC} (h : LOK C 2560) {x y : Mm} {n : Nat} {at9 : Int} (hI : LI x y n) (h0 : 0 ≤ at9) (h1 : at9 + 5 ≤ lc_L C) (hn : n ≤ 511) (hc1 : 149 + n + 1 ≤ room_1.cells) (hsl1 : 24032 + 6 * n + 6 ≤ room_1.slots) (next : ∀ x' y' : Mm, LI x' y' ((n : Int) + 1) → LW C (149 + n + 1) (24032 + 6 * n + 6) x' y' 1468 [(0, .ref (lc_b C)), (1, vr (lc_GC C) 0), (2, vr (lc_GM C) 0), (3, vr (lc_GC C) 120), (4, vi at9)] []) : LW C (149 + n) (24032 + 6 * n) x y 1415 [(0, .ref (lc_b C)), (1, vr (lc_GC C) 0), (2, vr (lc_GM C) 0), (3, vr (lc_GC C) 120), (4, vi at9)] [] := by
  obtain ⟨hB, hG, hU, h21, hT, hK, hF, hX⟩ := hI
  refine lr_rngM (fun hRM => ?_)
  have h02 : 0 ≤ y 0 2 := by have q := hRM 0 2; rw [rfM_2] at q; exact q.1
  refine lr_aload_n h rfl 1 rfl dl_1415 ?_
  refine lr_aload_n h rfl 0 rfl dl_1416 ?_
  refine lr_iload h 4 rfl dl_1417 ?_
  refine lr_iconst h dl_1419 ?_
  refine lr_iadd h dl_1420 ?_
  refine lr_sld h (Nat.le_of_ble_eq_true rfl) (by omega) (by omega) dl_1421 (fun s1 hs2 es3 => ?_)
  refine lr_cCI (as := [vi s1]) (k := 0) h kX11 at_0 wX11_count ll_180 (c_X11_count x s1 hs2) rfl (by decide) (by decide) rfl (Nat.le_of_ble_eq_true rfl) (Nat.le_of_succ_le hc1) (by omega) dl_1422 (fun z5 c4 w6 p7 => ?_)
  have p7_0 := p7
  have e_p7 : x = c4 := p7_0.symm
  subst e_p7
  refine lr_pop h rfl dl_1425 ?_
  refine lr_aload_n h rfl 2 rfl dl_1426 ?_
  refine lr_aload_n h rfl 0 rfl dl_1427 ?_
  refine lr_iload h 4 rfl dl_1428 ?_
  refine lr_iconst h dl_1430 ?_
  refine lr_iadd h dl_1431 ?_
  refine lr_sld h (Nat.le_of_ble_eq_true rfl) (by omega) (by omega) dl_1432 (fun s8 hs9 es10 => ?_)
  rw [show s8 = s1 from es10.trans es3.symm]
  refine lr_cMI (as := [vi s1]) (k := 0) h kX12 at_0M wX12_count ll_183 (c_X12_count y s1 hs2 hG) rfl (by decide) (by decide) rfl (Nat.le_of_ble_eq_true rfl) (Nat.le_of_succ_le hc1) (by omega) dl_1433 (fun z12 m11 w13 p14 => ?_)
  obtain ⟨p14_0, p14_1, p14_2, p14_3⟩ := p14
  have g2_m11 : m11 0 2 = y 0 2 := (p14_3 2 (by omega))
  have g37_m11 : m11 0 37 = y 0 37 := (p14_3 37 (by omega))
  have g21_m11 : m11 0 21 = y 0 21 := (p14_3 21 (by omega))
  have f_m11 : ∀ j : Int, m11 27 j = y 27 j := fun j => congrFun (p14_2 27 (by omega)) j
  have hG := p14_1
  have hU1 : CU ((n : Int) + 1) m11 := CU_id hU g21_m11 (p14_2 1 (by omega)) (p14_2 20 (by omega)) (p14_2 21 (by omega)) (p14_2 22 (by omega))
  refine lr_pop h rfl dl_1436 ?_
  refine lr_goto (tgt := 1468) h dl_1437 (by decide) ?_
  refine lr_mono (ce2 := 149 + n + 1) (sl2 := 24032 + 6 * n + 6) (Nat.le_succ _) (Nat.le_add_right _ 6) ?_
  exact next x m11 ⟨hB, hG, hU1, by omega, by omega, by omega, (fun j => (hF j).trans (f_m11 j).symm), (fun j a b => ((congrArg uch (congrFun (p14_2 2 (by omega)) j)).trans (hX j a (by omega))))⟩
set_option maxHeartbeats 1000000 in
theorem lb_1440 {C : LC} (h : LOK C 2560) {x y : Mm} {n : Nat} {at9 : Int} (hI : LI x y n) (h0 : 0 ≤ at9) (h1 : at9 + 5 ≤ lc_L C) (hn : n ≤ 511) (hc1 : 149 + n + 1 ≤ room_1.cells) (hsl1 : 24032 + 6 * n + 6 ≤ room_1.slots) (next : ∀ x' y' : Mm, LI x' y' ((n : Int) + 1) → LW C (149 + n + 1) (24032 + 6 * n + 6) x' y' 1468 [(0, .ref (lc_b C)), (1, vr (lc_GC C) 0), (2, vr (lc_GM C) 0), (3, vr (lc_GC C) 120), (4, vi at9)] []) : LW C (149 + n) (24032 + 6 * n) x y 1440 [(0, .ref (lc_b C)), (1, vr (lc_GC C) 0), (2, vr (lc_GM C) 0), (3, vr (lc_GC C) 120), (4, vi at9)] [] := by
  obtain ⟨hB, hG, hU, h21, hT, hK, hF, hX⟩ := hI
  refine lr_rngM (fun hRM => ?_)
  have h02 : 0 ≤ y 0 2 := by have q := hRM 0 2; rw [rfM_2] at q; exact q.1
  refine lr_aload_n h rfl 1 rfl dl_1440 ?_
  refine lr_aload_n h rfl 0 rfl dl_1441 ?_
  refine lr_iload h 4 rfl dl_1442 ?_
  refine lr_iconst h dl_1444 ?_
  refine lr_iadd h dl_1445 ?_
  refine lr_sld h (Nat.le_of_ble_eq_true rfl) (by omega) (by omega) dl_1446 (fun s1 hs2 es3 => ?_)
  refine lr_aload_n h rfl 3 rfl dl_1447 ?_
  refine lr_cW (np := 3) (as := fun G => [vr G 0, vi s1, vr G 120]) h wcL_row wsL_row iL ll_184 ⟨by decide, by decide, by decide +kernel⟩ (c_L_row x hs2) rfl (by decide) (by decide) rfl (Nat.le_of_ble_eq_true rfl) (by show 149 + n + 1 ≤ room_1.cells; exact hc1) hsl1 dl_1448 (fun z5 c4 w6 p7 => ?_)
  obtain ⟨p7_0, p7_1⟩ := p7
  have : c4 1 1 = x 1 1 := congrFun (p7_1 1 (by omega)) 1
  have : c4 98 3 = x 98 3 := congrFun (p7_1 98 (by omega)) 3
  have : c4 0 13 = x 0 13 := congrFun (p7_1 0 (by omega)) 13
  have : c4 0 14 = x 0 14 := congrFun (p7_1 0 (by omega)) 14
  have f_c4 : ∀ j : Int, c4 77 j = x 77 j := fun j => congrFun (p7_1 77 (by omega)) j
  have hB8 : (c4 0 13 = 110 ∧ c4 0 14 = 115) ∨ (c4 0 13 = 115 ∧ c4 0 14 = 110) := by omega
  refine lr_istore (L' := [(0, .ref (lc_b C)), (1, vr (lc_GC C) 0), (2, vr (lc_GM C) 0), (3, vr (lc_GC C) 120), (4, vi at9), (5, vi z5)]) h dl_1451 (by decide) [1, 2, 3, 4, 5, 0] rfl ?_
  refine lr_aload_n h rfl 2 rfl dl_1453 ?_
  refine lr_aload_n h rfl 0 rfl dl_1454 ?_
  refine lr_iload h 4 rfl dl_1455 ?_
  refine lr_iconst h dl_1457 ?_
  refine lr_iadd h dl_1458 ?_
  refine lr_sld h (Nat.le_of_ble_eq_true rfl) (by omega) (by omega) dl_1459 (fun s9 hs10 es11 => ?_)
  rw [show s9 = s1 from es11.trans es3.symm]
  refine lr_cML (as := [vi s1]) (k := 0) h kX12 at_0M wX12_row ll_187 (c_X12_row y s1 hs2 hG) rfl (by decide) (by decide) rfl (Nat.le_of_ble_eq_true rfl) hc1 hsl1 dl_1460 (fun z13 m12 w14 p15 => ?_)
  obtain ⟨p15_0, p15_1, p15_2⟩ := p15
  have g2_m12 : m12 0 2 = y 0 2 := (p15_2 2 (by omega))
  have g37_m12 : m12 0 37 = y 0 37 := (p15_2 37 (by omega))
  have g21_m12 : m12 0 21 = y 0 21 := (p15_2 21 (by omega))
  have f_m12 : ∀ j : Int, m12 27 j = y 27 j := fun j => congrFun (p15_1 27 (by omega)) j
  have hG := p15_0
  have hU1 : CU ((n : Int) + 1) m12 := CU_id hU g21_m12 (p15_1 1 (by omega)) (p15_1 20 (by omega)) (p15_1 21 (by omega)) (p15_1 22 (by omega))
  refine lr_lstore (L' := [(0, .ref (lc_b C)), (1, vr (lc_GC C) 0), (2, vr (lc_GM C) 0), (3, vr (lc_GC C) 120), (4, vi at9), (5, vi z5), (6, vj z13)]) h dl_1463 (by decide) [1, 2, 3, 4, 5, 6, 0] rfl ?_
  refine lr_goto (tgt := 1468) h dl_1465 (by decide) ?_
  refine lr_sub [0, 1, 2, 3, 4] rfl ?_
  exact next c4 m12 ⟨hB8, hG, hU1, by omega, by omega, by omega, (fun j => ((f_c4 j).trans (hF j)).trans (f_m12 j).symm), (fun j a b => ((congrArg uch (congrFun (p15_1 2 (by omega)) j)).trans ((hX j a (by omega)).trans (congrFun (p7_1 2 (by omega)) j).symm)))⟩
set_option maxHeartbeats 4000000 in
theorem law_head {C : LC} (h : LOK C 2560) {x y : Mm} {n : Nat} {at9 : Int} (hI : LI x y n) (h0 : 0 ≤ at9) (e9 : at9 = 5 * n) (hn : n ≤ 512) (hc1 : 149 + n + 1 ≤ room_1.cells) (hsl1 : 24032 + 6 * n + 6 ≤ room_1.slots) (nx : at9 + 5 ≤ (lc_L C : Int) → ∀ x' y' : Mm, LI x' y' ((n : Int) + 1) → LW C (149 + n + 1) (24032 + 6 * n + 6) x' y' 23 [(0, .ref (lc_b C)), (1, vr (lc_GC C) 0), (2, vr (lc_GM C) 0), (3, vr (lc_GC C) 120), (4, vi (at9 + 5))] []) : LW C (149 + n) (24032 + 6 * n) x y 23 [(0, .ref (lc_b C)), (1, vr (lc_GC C) 0), (2, vr (lc_GM C) 0), (3, vr (lc_GC C) 120), (4, vi at9)] [] := by
  obtain ⟨hB, hG, hU, h21, hT, hK, hF, hX⟩ := hI
  have hLN : lc_L C ≤ 2560 := LOK_hLN h
  refine lr_iload h 4 rfl dl_23 ?_
  refine lr_aload_n h rfl 0 rfl dl_25 ?_
  refine lr_len h (Nat.le_of_ble_eq_true rfl) dl_26 ?_
  refine lr_iconst h dl_27 ?_
  refine lr_isub h dl_28 ?_
  refine lr_icmp_gt (tgt := 1474) h dl_29 (by decide) (by omega) (by omega) (fun q => ?_) (fun q => ?_)
  · refine lr_sub [] rfl ?_
    refine lr_iconst h dl_1474 ?_
    exact lr_one h (by omega) (by omega) dl_1475
  · have nj : ∀ x' y' : Mm, LI x' y' ((n : Int) + 1) → LW C (149 + n + 1) (24032 + 6 * n + 6) x' y' 1468 [(0, .ref (lc_b C)), (1, vr (lc_GC C) 0), (2, vr (lc_GM C) 0), (3, vr (lc_GC C) 120), (4, vi at9)] [] := fun x' y' hI1 => by
      refine lr_iinc (j := 4) (L' := [(0, .ref (lc_b C)), (1, vr (lc_GC C) 0), (2, vr (lc_GM C) 0), (3, vr (lc_GC C) 120), (4, vi (at9 + 5))]) h dl_1468 rfl (by decide) [1, 2, 3, 4, 0] rfl ?_
      exact lr_goto (tgt := 23) h dl_1471 (by decide) (nx (by omega) x' y' hI1)
    refine lr_aload_n h rfl 0 rfl dl_32 ?_
    refine lr_iload h 4 rfl dl_33 ?_
    refine lr_sld h (Nat.le_of_ble_eq_true rfl) (by omega) (by omega) dl_35 (fun s1 hs1 es1 => ?_)
    refine lr_bipush h (by decide) dl_36 ?_
    refine lr_iand h dl_38 (fun z hz ez bz => ?_)
    have bz1 := bz (by omega) (by omega)
    clear ez
    by_cases c : z ≤ 38
    · have cs : z = 0 ∨ z = 1 ∨ z = 2 ∨ z = 3 ∨ z = 4 ∨ z = 5 ∨ z = 6 ∨ z = 7 ∨ z = 8 ∨ z = 9 ∨ z = 10 ∨ z = 11 ∨ z = 12 ∨ z = 13 ∨ z = 14 ∨ z = 15 ∨ z = 16 ∨ z = 17 ∨ z = 18 ∨ z = 19 ∨ z = 20 ∨ z = 21 ∨ z = 22 ∨ z = 23 ∨ z = 24 ∨ z = 25 ∨ z = 26 ∨ z = 27 ∨ z = 28 ∨ z = 29 ∨ z = 30 ∨ z = 31 ∨ z = 32 ∨ z = 33 ∨ z = 34 ∨ z = 35 ∨ z = 36 ∨ z = 37 ∨ z = 38 := by omega
      rcases cs with rfl | rfl | rfl | rfl | rfl | rfl | rfl | rfl | rfl | rfl | rfl | rfl | rfl | rfl | rfl | rfl | rfl | rfl | rfl | rfl | rfl | rfl | rfl | rfl | rfl | rfl | rfl | rfl | rfl | rfl | rfl | rfl | rfl | rfl | rfl | rfl | rfl | rfl | rfl
      · exact lr_tab_in (off := 169) (tgt := 208) h dl_39 (by omega) (by omega) (by omega) rfl (by decide) (lb_208 h ⟨hB, hG, hU, h21, hT, hK, hF, hX⟩ h0 (by omega) (by omega) hc1 hsl1 nj)
      · exact lr_tab_in (off := 194) (tgt := 233) h dl_39 (by omega) (by omega) (by omega) rfl (by decide) (lb_233 h ⟨hB, hG, hU, h21, hT, hK, hF, hX⟩ h0 (by omega) (by omega) hc1 hsl1 nj)
      · exact lr_tab_in (off := 219) (tgt := 258) h dl_39 (by omega) (by omega) (by omega) rfl (by decide) (lb_258 h ⟨hB, hG, hU, h21, hT, hK, hF, hX⟩ h0 (by omega) (by omega) hc1 hsl1 nj)
      · exact lr_tab_in (off := 244) (tgt := 283) h dl_39 (by omega) (by omega) (by omega) rfl (by decide) (lb_283 h ⟨hB, hG, hU, h21, hT, hK, hF, hX⟩ h0 (by omega) (by omega) hc1 hsl1 nj)
      · exact lr_tab_in (off := 257) (tgt := 296) h dl_39 (by omega) (by omega) (by omega) rfl (by decide) (lb_296 h ⟨hB, hG, hU, h21, hT, hK, hF, hX⟩ h0 (by omega) (by omega) hc1 hsl1 nj)
      · exact lr_tab_in (off := 297) (tgt := 336) h dl_39 (by omega) (by omega) (by omega) rfl (by decide) (lb_336 h ⟨hB, hG, hU, h21, hT, hK, hF, hX⟩ h0 (by omega) (by omega) hc1 hsl1 nj)
      · exact lr_tab_in (off := 337) (tgt := 376) h dl_39 (by omega) (by omega) (by omega) rfl (by decide) (lb_376 h ⟨hB, hG, hU, h21, hT, hK, hF, hX⟩ h0 (by omega) (by omega) hc1 hsl1 nj)
      · exact lr_tab_in (off := 398) (tgt := 437) h dl_39 (by omega) (by omega) (by omega) rfl (by decide) (lb_437 h ⟨hB, hG, hU, h21, hT, hK, hF, hX⟩ h0 (by omega) (by omega) hc1 hsl1 nj)
      · exact lr_tab_in (off := 435) (tgt := 474) h dl_39 (by omega) (by omega) (by omega) rfl (by decide) (lb_474 h ⟨hB, hG, hU, h21, hT, hK, hF, hX⟩ h0 (by omega) (by omega) hc1 hsl1 nj)
      · exact lr_tab_in (off := 472) (tgt := 511) h dl_39 (by omega) (by omega) (by omega) rfl (by decide) (lb_511 h ⟨hB, hG, hU, h21, hT, hK, hF, hX⟩ h0 (by omega) (by omega) hc1 hsl1 nj)
      · exact lr_tab_in (off := 521) (tgt := 560) h dl_39 (by omega) (by omega) (by omega) rfl (by decide) (lb_560 h ⟨hB, hG, hU, h21, hT, hK, hF, hX⟩ h0 (by omega) (by omega) hc1 hsl1 nj)
      · exact lr_tab_in (off := 570) (tgt := 609) h dl_39 (by omega) (by omega) (by omega) rfl (by decide) (lb_609 h ⟨hB, hG, hU, h21, hT, hK, hF, hX⟩ h0 (by omega) (by omega) hc1 hsl1 nj)
      · exact lr_tab_in (off := 607) (tgt := 646) h dl_39 (by omega) (by omega) (by omega) rfl (by decide) (lb_646 h ⟨hB, hG, hU, h21, hT, hK, hF, hX⟩ h0 (by omega) (by omega) hc1 hsl1 nj)
      · exact lr_tab_in (off := 644) (tgt := 683) h dl_39 (by omega) (by omega) (by omega) rfl (by decide) (lb_683 h ⟨hB, hG, hU, h21, hT, hK, hF, hX⟩ h0 (by omega) (by omega) hc1 hsl1 nj)
      · exact lr_tab_in (off := 657) (tgt := 696) h dl_39 (by omega) (by omega) (by omega) rfl (by decide) (lb_696 h ⟨hB, hG, hU, h21, hT, hK, hF, hX⟩ h0 (by omega) (by omega) hc1 hsl1 nj)
      · exact lr_tab_in (off := 670) (tgt := 709) h dl_39 (by omega) (by omega) (by omega) rfl (by decide) (lb_709 h ⟨hB, hG, hU, h21, hT, hK, hF, hX⟩ h0 (by omega) (by omega) hc1 hsl1 nj)
      · exact lr_tab_in (off := 707) (tgt := 746) h dl_39 (by omega) (by omega) (by omega) rfl (by decide) (lb_746 h ⟨hB, hG, hU, h21, hT, hK, hF, hX⟩ h0 (by omega) (by omega) hc1 hsl1 nj)
      · exact lr_tab_in (off := 732) (tgt := 771) h dl_39 (by omega) (by omega) (by omega) rfl (by decide) (lb_771 h ⟨hB, hG, hU, h21, hT, hK, hF, hX⟩ h0 (by omega) (by omega) hc1 hsl1 nj)
      · exact lr_tab_in (off := 769) (tgt := 808) h dl_39 (by omega) (by omega) (by omega) rfl (by decide) (lb_808 h ⟨hB, hG, hU, h21, hT, hK, hF, hX⟩ h0 (by omega) (by omega) hc1 hsl1 nj)
      · exact lr_tab_in (off := 794) (tgt := 833) h dl_39 (by omega) (by omega) (by omega) rfl (by decide) (lb_833 h ⟨hB, hG, hU, h21, hT, hK, hF, hX⟩ h0 (by omega) (by omega) hc1 hsl1 nj)
      · exact lr_tab_in (off := 831) (tgt := 870) h dl_39 (by omega) (by omega) (by omega) rfl (by decide) (lb_870 h ⟨hB, hG, hU, h21, hT, hK, hF, hX⟩ h0 (by omega) (by omega) hc1 hsl1 nj)
      · exact lr_tab_in (off := 856) (tgt := 895) h dl_39 (by omega) (by omega) (by omega) rfl (by decide) (lb_895 h ⟨hB, hG, hU, h21, hT, hK, hF, hX⟩ h0 (by omega) (by omega) hc1 hsl1 nj)
      · exact lr_tab_in (off := 917) (tgt := 956) h dl_39 (by omega) (by omega) (by omega) rfl (by decide) (lb_956 h ⟨hB, hG, hU, h21, hT, hK, hF, hX⟩ h0 (by omega) (by omega) hc1 hsl1 nj)
      · exact lr_tab_in (off := 966) (tgt := 1005) h dl_39 (by omega) (by omega) (by omega) rfl (by decide) (lb_1005 h ⟨hB, hG, hU, h21, hT, hK, hF, hX⟩ h0 (by omega) (by omega) hc1 hsl1 nj)
      · exact lr_tab_in (off := 1003) (tgt := 1042) h dl_39 (by omega) (by omega) (by omega) rfl (by decide) (lb_1042 h ⟨hB, hG, hU, h21, hT, hK, hF, hX⟩ h0 (by omega) (by omega) hc1 hsl1 nj)
      · exact lr_tab_in (off := 1040) (tgt := 1079) h dl_39 (by omega) (by omega) (by omega) rfl (by decide) (lb_1079 h ⟨hB, hG, hU, h21, hT, hK, hF, hX⟩ h0 (by omega) (by omega) hc1 hsl1 nj)
      · exact lr_tab_in (off := 1065) (tgt := 1104) h dl_39 (by omega) (by omega) (by omega) rfl (by decide) (lb_1104 h ⟨hB, hG, hU, h21, hT, hK, hF, hX⟩ h0 (by omega) (by omega) hc1 hsl1 nj)
      · exact lr_tab_in (off := 1102) (tgt := 1141) h dl_39 (by omega) (by omega) (by omega) rfl (by decide) (lb_1141 h ⟨hB, hG, hU, h21, hT, hK, hF, hX⟩ h0 (by omega) (by omega) hc1 hsl1 nj)
      · exact lr_tab_in (off := 1139) (tgt := 1178) h dl_39 (by omega) (by omega) (by omega) rfl (by decide) (lb_1178 h ⟨hB, hG, hU, h21, hT, hK, hF, hX⟩ h0 (by omega) (by omega) hc1 hsl1 nj)
      · exact lr_tab_in (off := 1152) (tgt := 1191) h dl_39 (by omega) (by omega) (by omega) rfl (by decide) (lb_1191 h ⟨hB, hG, hU, h21, hT, hK, hF, hX⟩ h0 (by omega) (by omega) hc1 hsl1 nj)
      · exact lr_tab_in (off := 1177) (tgt := 1216) h dl_39 (by omega) (by omega) (by omega) rfl (by decide) (lb_1216 h ⟨hB, hG, hU, h21, hT, hK, hF, hX⟩ h0 (by omega) (by omega) hc1 hsl1 nj)
      · exact lr_tab_in (off := 1202) (tgt := 1241) h dl_39 (by omega) (by omega) (by omega) rfl (by decide) (lb_1241 h ⟨hB, hG, hU, h21, hT, hK, hF, hX⟩ h0 (by omega) (by omega) hc1 hsl1 nj)
      · exact lr_tab_in (off := 1251) (tgt := 1290) h dl_39 (by omega) (by omega) (by omega) rfl (by decide) (lb_1290 h ⟨hB, hG, hU, h21, hT, hK, hF, hX⟩ h0 (by omega) (by omega) hc1 hsl1 nj)
      · exact lr_tab_in (off := 1276) (tgt := 1315) h dl_39 (by omega) (by omega) (by omega) rfl (by decide) (lb_1315 h ⟨hB, hG, hU, h21, hT, hK, hF, hX⟩ h0 (by omega) (by omega) hc1 hsl1 nj)
      · exact lr_tab_in (off := 1289) (tgt := 1328) h dl_39 (by omega) (by omega) (by omega) rfl (by decide) (lb_1328 h ⟨hB, hG, hU, h21, hT, hK, hF, hX⟩ h0 (by omega) (by omega) hc1 hsl1 nj)
      · exact lr_tab_in (off := 1326) (tgt := 1365) h dl_39 (by omega) (by omega) (by omega) rfl (by decide) (lb_1365 h ⟨hB, hG, hU, h21, hT, hK, hF, hX⟩ h0 (by omega) (by omega) hc1 hsl1 nj)
      · exact lr_tab_in (off := 1351) (tgt := 1390) h dl_39 (by omega) (by omega) (by omega) rfl (by decide) (lb_1390 h ⟨hB, hG, hU, h21, hT, hK, hF, hX⟩ h0 (by omega) (by omega) hc1 hsl1 nj)
      · exact lr_tab_in (off := 1376) (tgt := 1415) h dl_39 (by omega) (by omega) (by omega) rfl (by decide) (lb_1415 h ⟨hB, hG, hU, h21, hT, hK, hF, hX⟩ h0 (by omega) (by omega) hc1 hsl1 nj)
      · exact lr_tab_in (off := 1401) (tgt := 1440) h dl_39 (by omega) (by omega) (by omega) rfl (by decide) (lb_1440 h ⟨hB, hG, hU, h21, hT, hK, hF, hX⟩ h0 (by omega) (by omega) hc1 hsl1 nj)
    · exact lr_tab_out (tgt := 1468) h dl_39 (by omega) (Or.inr (by omega)) (by decide) (lr_mono (ce2 := 149 + n + 1) (sl2 := 24032 + 6 * n + 6) (Nat.le_succ _) (Nat.le_add_right _ 6) (nj x y ⟨hB, hG, CU_id hU rfl rfl rfl rfl rfl, by omega, hT, hK, hF, hX⟩))
theorem law_loop {C : LC} (h : LOK C 2560) : ∀ (k : Nat) (x y : Mm) (n : Nat) (at9 : Int), LI x y n → 0 ≤ at9 → at9 = 5 * n → (n : Int) ≤ 512 → (lc_L C : Int) - at9 ≤ k → LW C (149 + n) (24032 + 6 * n) x y 23 [(0, .ref (lc_b C)), (1, vr (lc_GC C) 0), (2, vr (lc_GM C) 0), (3, vr (lc_GC C) 120), (4, vi at9)] [] := by
  have hLN : lc_L C ≤ 2560 := LOK_hLN h
  intro k
  induction k with
  | zero =>
    intro x y n at9 hI h0 e9 hn hk
    exact law_head h hI h0 e9 (by omega) (by show 149 + n + 1 ≤ 601024; omega) (by show 24032 + 6 * n + 6 ≤ 7293034; omega) (fun q => by exfalso; omega)
  | succ k ih =>
    intro x y n at9 hI h0 e9 hn hk
    refine law_head h hI h0 e9 (by omega) (by show 149 + n + 1 ≤ 601024; omega) (by show 24032 + 6 * n + 6 ≤ 7293034; omega) (fun q x' y' hI1 => ?_)
    have hI2 : LI x' y' ((n + 1 : Nat) : Int) := by rw [show ((n + 1 : Nat) : Int) = (n : Int) + 1 by omega]; exact hI1
    have r := ih x' y' (n + 1) (at9 + 5) hI2 (by omega) (by omega) (by omega) (by omega)
    rw [show 24032 + 6 * (n + 1) = 24032 + 6 * n + 6 by omega] at r
    exact r
