/-! the class system: its static tables, its layout -/
def zs_l : List (String × Nat × String) := [("BestWalks$Acts", 84, "399"), ("BestWalks$Acts", 86, "39"), ("BestWalks$Acts", 88, "gg99"), ("BestWalks$Acts", 90, "4499"), ("BestWalks$Acts", 92, "9"), ("BestWalks$Acts", 94, "gg"), ("BestWalks$Acts", 96, ""), ("BestWalks", 145, "no such number"), ("BestWalks", 153, "no such edge"), ("BestWalks", 358, "no such number of the row")]
def zs_n : List Nat := [3, 2, 4, 4, 1, 2, 0]
def zs_b : List (List Int32) := [[51, 57, 57], [51, 57], [103, 103, 57, 57], [52, 52, 57, 57], [57], [103, 103], []]
def zt_0 : List Int := [1296, 924, 120, 64, 326]
def zf_0 (A : Nat → Prop) (U : State) : Prop := ∃ t : Nat, va_Z "BestWalks" "MOST_OF_KIND" "[I" (.ref t) A U U.heap ∧ va_T .int t 5 (fun j => vi (zt_0.getD j 0)) A U U.heap
def zt_1 : List Int := [701, 301, 132, 57, 23, 10, 4, 1]
def zf_1 (A : Nat → Prop) (U : State) : Prop := ∃ t : Nat, va_Z "BestWalks" "SORT_STEPS" "[I" (.ref t) A U U.heap ∧ va_T .int t 8 (fun j => vi (zt_1.getD j 0)) A U U.heap
def zt_2 : List Int := [30, 11, 11, 8, 11]
def zf_2 (A : Nat → Prop) (U : State) : Prop := ∃ t : Nat, va_Z "BestWalks" "CLUE_GREATEST" "[I" (.ref t) A U U.heap ∧ va_T .int t 5 (fun j => vi (zt_2.getD j 0)) A U U.heap
def zf_s (G : Gx) (A : Nat → Prop) (U : State) : Prop := vk_S 7 zs_n zs_b (fun i => G.2.2 (200 + (i : Int))) (fun i => G.2.2 (300 + (i : Int))) A U U.heap ∧ (∀ i : Nat, i < 10 → ∀ q : String × Nat × String, zs_l[i]? = some q → vk_R q.1 q.2.1 q.2.2 (G.2.2 (200 + (i : Int))) U) ∧ va_Zq "jdk/internal/util/Preconditions" "SIOOBE_FORMATTER" "Ljava/util/function/BiFunction;" A U U.heap ∧ vx_Zq Bundle.tN "UNASSIGNED_STACK" Bundle.steD A U U.heap ∧ vx_Zq Bundle.tN "SUPPRESSED_SENTINEL" Bundle.listD A U U.heap ∧ va_Nw (.castable "java/util/NoSuchElementException" "java/util/NoSuchElementException") U
def ZC : Gx → (Nat → Prop) → State → Prop := fun G A U => zf_0 A U ∧ zf_1 A U ∧ zf_2 A U ∧ va_Z "java/lang/String" "COMPACT_STRINGS" "Z" (.int 1) A U U.heap ∧ zf_s G A U ∧ va_Nw (.fieldLinkNest "BestWalks$Order" 31 "BestWalks" "SORT_STEPS" "[I" "BestWalks") U ∧ va_Nw (.fieldLinkNest "BestWalks$Clues" 27 "BestWalks" "CLUE_GREATEST" "[I" "BestWalks") U
theorem zf_0_c {A : Nat → Prop} {s U : State} (hW : s.WarmedH U.vm) (hq : ∀ q : Nat, q < s.heap.size → ¬ A q → U.heap[q]? = s.heap[q]?) (h : zf_0 A s) : zf_0 A U := by
  obtain ⟨t, h1, h2⟩ := h
  exact ⟨t, va_Z.moved hW.alike (h1.kept hq), va_T.moved hW.alike (h2.kept hq)⟩
theorem zf_1_c {A : Nat → Prop} {s U : State} (hW : s.WarmedH U.vm) (hq : ∀ q : Nat, q < s.heap.size → ¬ A q → U.heap[q]? = s.heap[q]?) (h : zf_1 A s) : zf_1 A U := by
  obtain ⟨t, h1, h2⟩ := h
  exact ⟨t, va_Z.moved hW.alike (h1.kept hq), va_T.moved hW.alike (h2.kept hq)⟩
theorem zf_2_c {A : Nat → Prop} {s U : State} (hW : s.WarmedH U.vm) (hq : ∀ q : Nat, q < s.heap.size → ¬ A q → U.heap[q]? = s.heap[q]?) (h : zf_2 A s) : zf_2 A U := by
  obtain ⟨t, h1, h2⟩ := h
  exact ⟨t, va_Z.moved hW.alike (h1.kept hq), va_T.moved hW.alike (h2.kept hq)⟩
theorem zf_s_c {G : Gx} {A : Nat → Prop} {s U : State} (hW : s.WarmedH U.vm) (hq : ∀ q : Nat, q < s.heap.size → ¬ A q → U.heap[q]? = s.heap[q]?) (h : zf_s G A s) : zf_s G A U := by
  obtain ⟨h1, h2, h3, h4, h5, h6⟩ := h
  exact ⟨vk_S.moved hW.alike (h1.kept hq), fun i hi q hq2 => vk_R.warm hW (h2 i hi q hq2), va_Zq.moved hW.alike (h3.kept hq), vx_Zq.moved hW.alike (h4.kept hq), vx_Zq.moved hW.alike (h5.kept hq), va_Nw.warmC hW h6⟩
def YC_l : List (Ds × List (Int × Int)) := [(.inr (11, [5, 5, 5, 5, 5, 5, 5, 5, 5, 5, 5, 5, 5, 5, 5, 0]), [(1, 1), (3, 3), (8, 8), (13, 13), (14, 14), (66, 66), (77, 77), (78, 78), (89, 89), (94, 94), (98, 98), (107, 107), (109, 109), (110, 115), (110, 115), (-2147483648, 2147483647)]),
  (.inr (9, [5, 0]), [(2, 2), (0, 80)]),
  (.inl (2, 80), [(0, 255)]),
  (.inr (8, [5, 5, 5, 5, 0, 0, 0, 0]), [(4, 4), (5, 5), (6, 6), (7, 7), (0, 5), (0, 3), (0, 6), (0, 6)]),
  (.inl (0, 4), [(0, 6)]),
  (.inl (0, 24), [(0, 99)]),
  (.inl (0, 49), [(0, 99)]),
  (.inl (0, 25), [(0, 99)]),
  (.inr (8, [5, 5, 5, 5, 0, 0, 0, 0]), [(9, 9), (10, 10), (11, 11), (12, 12), (0, 5), (0, 3), (0, 6), (0, 6)]),
  (.inl (0, 4), [(0, 6)]),
  (.inl (0, 24), [(0, 99)]),
  (.inl (0, 49), [(0, 99)]),
  (.inl (0, 25), [(0, 99)]),
  (.inr (0, [0]), [(0, 1)]),
  (.inr (5, [5, 0, 0]), [(15, 15), (0, 9), (0, 10)]),
  (.inl (5, 10), [(16, 16), (21, 21), (26, 26), (31, 31), (36, 36), (41, 41), (46, 46), (51, 51), (56, 56), (61, 61)]),
  (.inr (8, [5, 5, 5, 5, 0, 0, 0, 0]), [(17, 17), (18, 18), (19, 19), (20, 20), (0, 5), (0, 3), (0, 6), (0, 6)]),
  (.inl (0, 4), [(0, 6)]),
  (.inl (0, 24), [(0, 99)]),
  (.inl (0, 49), [(0, 99)]),
  (.inl (0, 25), [(0, 99)]),
  (.inr (8, [5, 5, 5, 5, 0, 0, 0, 0]), [(22, 22), (23, 23), (24, 24), (25, 25), (0, 5), (0, 3), (0, 6), (0, 6)]),
  (.inl (0, 4), [(0, 6)]),
  (.inl (0, 24), [(0, 99)]),
  (.inl (0, 49), [(0, 99)]),
  (.inl (0, 25), [(0, 99)]),
  (.inr (8, [5, 5, 5, 5, 0, 0, 0, 0]), [(27, 27), (28, 28), (29, 29), (30, 30), (0, 5), (0, 3), (0, 6), (0, 6)]),
  (.inl (0, 4), [(0, 6)]),
  (.inl (0, 24), [(0, 99)]),
  (.inl (0, 49), [(0, 99)]),
  (.inl (0, 25), [(0, 99)]),
  (.inr (8, [5, 5, 5, 5, 0, 0, 0, 0]), [(32, 32), (33, 33), (34, 34), (35, 35), (0, 5), (0, 3), (0, 6), (0, 6)]),
  (.inl (0, 4), [(0, 6)]),
  (.inl (0, 24), [(0, 99)]),
  (.inl (0, 49), [(0, 99)]),
  (.inl (0, 25), [(0, 99)]),
  (.inr (8, [5, 5, 5, 5, 0, 0, 0, 0]), [(37, 37), (38, 38), (39, 39), (40, 40), (0, 5), (0, 3), (0, 6), (0, 6)]),
  (.inl (0, 4), [(0, 6)]),
  (.inl (0, 24), [(0, 99)]),
  (.inl (0, 49), [(0, 99)]),
  (.inl (0, 25), [(0, 99)]),
  (.inr (8, [5, 5, 5, 5, 0, 0, 0, 0]), [(42, 42), (43, 43), (44, 44), (45, 45), (0, 5), (0, 3), (0, 6), (0, 6)]),
  (.inl (0, 4), [(0, 6)]),
  (.inl (0, 24), [(0, 99)]),
  (.inl (0, 49), [(0, 99)]),
  (.inl (0, 25), [(0, 99)]),
  (.inr (8, [5, 5, 5, 5, 0, 0, 0, 0]), [(47, 47), (48, 48), (49, 49), (50, 50), (0, 5), (0, 3), (0, 6), (0, 6)]),
  (.inl (0, 4), [(0, 6)]),
  (.inl (0, 24), [(0, 99)]),
  (.inl (0, 49), [(0, 99)]),
  (.inl (0, 25), [(0, 99)]),
  (.inr (8, [5, 5, 5, 5, 0, 0, 0, 0]), [(52, 52), (53, 53), (54, 54), (55, 55), (0, 5), (0, 3), (0, 6), (0, 6)]),
  (.inl (0, 4), [(0, 6)]),
  (.inl (0, 24), [(0, 99)]),
  (.inl (0, 49), [(0, 99)]),
  (.inl (0, 25), [(0, 99)]),
  (.inr (8, [5, 5, 5, 5, 0, 0, 0, 0]), [(57, 57), (58, 58), (59, 59), (60, 60), (0, 5), (0, 3), (0, 6), (0, 6)]),
  (.inl (0, 4), [(0, 6)]),
  (.inl (0, 24), [(0, 99)]),
  (.inl (0, 49), [(0, 99)]),
  (.inl (0, 25), [(0, 99)]),
  (.inr (8, [5, 5, 5, 5, 0, 0, 0, 0]), [(62, 62), (63, 63), (64, 64), (65, 65), (0, 5), (0, 3), (0, 6), (0, 6)]),
  (.inl (0, 4), [(0, 6)]),
  (.inl (0, 24), [(0, 99)]),
  (.inl (0, 49), [(0, 99)]),
  (.inl (0, 25), [(0, 99)]),
  (.inl (5, 2), [(67, 67), (72, 72)]),
  (.inr (8, [5, 5, 5, 5, 0, 0, 0, 0]), [(68, 68), (69, 69), (70, 70), (71, 71), (0, 5), (0, 3), (0, 6), (0, 6)]),
  (.inl (0, 4), [(0, 6)]),
  (.inl (0, 24), [(0, 99)]),
  (.inl (0, 49), [(0, 99)]),
  (.inl (0, 25), [(0, 99)]),
  (.inr (8, [5, 5, 5, 5, 0, 0, 0, 0]), [(73, 73), (74, 74), (75, 75), (76, 76), (0, 5), (0, 3), (0, 6), (0, 6)]),
  (.inl (0, 4), [(0, 6)]),
  (.inl (0, 24), [(0, 99)]),
  (.inl (0, 49), [(0, 99)]),
  (.inl (0, 25), [(0, 99)]),
  (.inl (3, 2), [(0, 1)]),
  (.inl (6, 5), [(79, 79), (81, 81), (83, 83), (85, 85), (87, 87)]),
  (.inr (6, [5, 0, 0]), [(80, 80), (0, 1296), (0, 1)]),
  (.inl (4, 1296), [(-9223372036854775808, 9223372036854775807)]),
  (.inr (6, [5, 0, 0]), [(82, 82), (0, 924), (0, 1)]),
  (.inl (4, 924), [(-9223372036854775808, 9223372036854775807)]),
  (.inr (6, [5, 0, 0]), [(84, 84), (0, 120), (0, 1)]),
  (.inl (4, 120), [(-9223372036854775808, 9223372036854775807)]),
  (.inr (6, [5, 0, 0]), [(86, 86), (0, 64), (0, 1)]),
  (.inl (4, 64), [(-9223372036854775808, 9223372036854775807)]),
  (.inr (6, [5, 0, 0]), [(88, 88), (0, 326), (0, 1)]),
  (.inl (4, 326), [(-9223372036854775808, 9223372036854775807)]),
  (.inr (4, [5, 5, 5, 5, 0, 0, 5, 5, 5]), [(90, 90), (91, 91), (92, 92), (93, 93), (0, 12), (0, 2147483647), (-1, 72), (-1, 115), (-1, 87)]),
  (.inl (0, 4), [(-1, 99)]),
  (.inl (0, 12), [(0, 6)]),
  (.inl (0, 12), [(0, 6)]),
  (.inl (0, 12), [(0, 99)]),
  (.inl (7, 3), [(95, 95), (96, 96), (97, 97)]),
  (.inr (3, [0, 0, 0, 0]), [(0, 4), (0, 1296), (0, 1), (0, 1)]),
  (.inr (3, [0, 0, 0, 0]), [(0, 4), (0, 1296), (0, 1), (0, 1)]),
  (.inr (3, [0, 0, 0, 0]), [(0, 4), (0, 1296), (0, 1), (0, 1)]),
  (.inr (1, [5, 5, 5, 0]), [(99, 99), (100, 100), (101, 101), (0, 10)]),
  (.inl (0, 10), [(0, 4)]),
  (.inl (0, 10), [(0, 30)]),
  (.inl (8, 5), [(102, 102), (103, 103), (104, 104), (105, 105), (106, 106)]),
  (.inl (0, 31), [(-2147483648, 2147483647)]),
  (.inl (0, 31), [(-2147483648, 2147483647)]),
  (.inl (0, 31), [(-2147483648, 2147483647)]),
  (.inl (0, 31), [(-2147483648, 2147483647)]),
  (.inl (0, 31), [(-2147483648, 2147483647)]),
  (.inr (10, [5, 0]), [(108, 108), (0, 8)]),
  (.inl (4, 8), [(-9223372036854775808, 9223372036854775807)]),
  (.inl (0, 6), [(0, 99)]),
  (.inr (7, [5, 5, 5, 5, 0, 0, 0, 0]), [(111, 111), (112, 112), (113, 113), (114, 114), (0, 40), (0, 40), (0, 4), (0, 40)]),
  (.inl (0, 40), [(-2147483648, 2147483647)]),
  (.inl (0, 40), [(0, 256)]),
  (.inl (3, 5), [(0, 1)]),
  (.inl (0, 40), [(-2147483648, 2147483647)]),
  (.inr (7, [5, 5, 5, 5, 0, 0, 0, 0]), [(116, 116), (117, 117), (118, 118), (119, 119), (0, 40), (0, 40), (0, 4), (0, 40)]),
  (.inl (0, 40), [(-2147483648, 2147483647)]),
  (.inl (0, 40), [(0, 256)]),
  (.inl (3, 5), [(0, 1)]),
  (.inl (0, 40), [(-2147483648, 2147483647)]),
  (.inl (4, 1), [(-9223372036854775808, 9223372036854775807)])]
def YC_d (k : Int) : Ds := match YC_l[k.toNat]? with
  | some q => q.1
  | none => .inl (0, 0)
def YC_g (k i : Int) : Int × Int := match YC_l[k.toNat]? with
  | some (_, [q]) => q
  | some (_, l) => (l[i.toNat]?).getD (0, 0)
  | none => (0, 0)
def YC : Ly := (121, YC_d, YC_g, YC_cl, ZC)
theorem YC_x : fm_Xc YC := by
  intro G A s U hW h hq
  obtain ⟨h0, h1, h2, h3, h4, h5, h6⟩ := h
  exact ⟨zf_0_c hW hq h0, zf_1_c hW hq h1, zf_2_c hW hq h2, va_Z.moved hW.alike (h3.kept hq), zf_s_c hW hq h4, va_Nw.warmF hW h5, va_Nw.warmF hW h6⟩
theorem kX0 : fm_cls YC 0 RX0 TX0 1 tyX0 := ⟨rfl, ktX0, tyX0_ok, nmX0⟩
theorem kX1 : fm_cls YC 1 RX1 TX1 4 tyX1 := ⟨rfl, ktX1, tyX1_ok, nmX1⟩
theorem kX3 : fm_cls YC 3 RX3 TX3 4 tyX3 := ⟨rfl, ktX3, tyX3_ok, nmX3⟩
theorem kX4 : fm_cls YC 4 RX4 TX4 9 tyX4 := ⟨rfl, ktX4, tyX4_ok, nmX4⟩
theorem kX5 : fm_cls YC 5 RX5 TX5 3 tyX5 := ⟨rfl, ktX5, tyX5_ok, nmX5⟩
theorem kX6 : fm_cls YC 6 RX6 TX6 3 tyX6 := ⟨rfl, ktX6, tyX6_ok, nmX6⟩
theorem kX7 : fm_cls YC 7 RX7 TX7 8 tyX7 := ⟨rfl, ktX7, tyX7_ok, nmX7⟩
theorem kX8 : fm_cls YC 8 RX8 TX8 8 tyX8 := ⟨rfl, ktX8, tyX8_ok, nmX8⟩
theorem kX9 : fm_cls YC 9 RX9 TX9 2 tyX9 := ⟨rfl, ktX9, tyX9_ok, nmX9⟩
theorem kX10 : fm_cls YC 10 RX10 TX10 2 tyX10 := ⟨rfl, ktX10, tyX10_ok, nmX10⟩
theorem kX11 : fm_cls YC 11 RX11 TX11 16 tyX11 := ⟨rfl, ktX11, tyX11_ok, nmX11⟩
def isSt (b : Int) : Prop := b = 3 ∨ b = 8 ∨ b = 16 ∨ b = 21 ∨ b = 26 ∨ b = 31 ∨ b = 36 ∨ b = 41 ∨ b = 46 ∨ b = 51 ∨ b = 56 ∨ b = 61 ∨ b = 67 ∨ b = 72
theorem St_3 : isSt 3 := Or.inl rfl
theorem St_8 : isSt 8 := Or.inr (Or.inl rfl)
theorem St_16 : isSt 16 := Or.inr (Or.inr (Or.inl rfl))
theorem St_21 : isSt 21 := Or.inr (Or.inr (Or.inr (Or.inl rfl)))
theorem St_26 : isSt 26 := Or.inr (Or.inr (Or.inr (Or.inr (Or.inl rfl))))
theorem St_31 : isSt 31 := Or.inr (Or.inr (Or.inr (Or.inr (Or.inr (Or.inl rfl)))))
theorem St_36 : isSt 36 := Or.inr (Or.inr (Or.inr (Or.inr (Or.inr (Or.inr (Or.inl rfl))))))
theorem St_41 : isSt 41 := Or.inr (Or.inr (Or.inr (Or.inr (Or.inr (Or.inr (Or.inr (Or.inl rfl)))))))
theorem St_46 : isSt 46 := Or.inr (Or.inr (Or.inr (Or.inr (Or.inr (Or.inr (Or.inr (Or.inr (Or.inl rfl))))))))
theorem St_51 : isSt 51 := Or.inr (Or.inr (Or.inr (Or.inr (Or.inr (Or.inr (Or.inr (Or.inr (Or.inr (Or.inl rfl)))))))))
theorem St_56 : isSt 56 := Or.inr (Or.inr (Or.inr (Or.inr (Or.inr (Or.inr (Or.inr (Or.inr (Or.inr (Or.inr (Or.inl rfl))))))))))
theorem St_61 : isSt 61 := Or.inr (Or.inr (Or.inr (Or.inr (Or.inr (Or.inr (Or.inr (Or.inr (Or.inr (Or.inr (Or.inr (Or.inl rfl)))))))))))
theorem St_67 : isSt 67 := Or.inr (Or.inr (Or.inr (Or.inr (Or.inr (Or.inr (Or.inr (Or.inr (Or.inr (Or.inr (Or.inr (Or.inr (Or.inl rfl))))))))))))
theorem St_72 : isSt 72 := Or.inr (Or.inr (Or.inr (Or.inr (Or.inr (Or.inr (Or.inr (Or.inr (Or.inr (Or.inr (Or.inr (Or.inr (Or.inr (rfl)))))))))))))
theorem St_b {b : Int} (h : isSt b) : 3 ≤ b ∧ b ≤ 72 := by
  unfold isSt at h
  omega
theorem St_at {b : Int} (h : isSt b) : fm_at YC b 8 [5, 5, 5, 5, 0, 0, 0, 0] := by
  rcases h with rfl | rfl | rfl | rfl | rfl | rfl | rfl | rfl | rfl | rfl | rfl | rfl | rfl | rfl <;> exact ⟨by decide, by decide, rfl⟩
theorem St_f0 {b : Int} (h : isSt b) : YC.2.2.1 b 0 = (b + 1, b + 1) := by
  rcases h with rfl | rfl | rfl | rfl | rfl | rfl | rfl | rfl | rfl | rfl | rfl | rfl | rfl | rfl <;> rfl
theorem St_f1 {b : Int} (h : isSt b) : YC.2.2.1 b 1 = (b + 2, b + 2) := by
  rcases h with rfl | rfl | rfl | rfl | rfl | rfl | rfl | rfl | rfl | rfl | rfl | rfl | rfl | rfl <;> rfl
theorem St_f2 {b : Int} (h : isSt b) : YC.2.2.1 b 2 = (b + 3, b + 3) := by
  rcases h with rfl | rfl | rfl | rfl | rfl | rfl | rfl | rfl | rfl | rfl | rfl | rfl | rfl | rfl <;> rfl
theorem St_f3 {b : Int} (h : isSt b) : YC.2.2.1 b 3 = (b + 4, b + 4) := by
  rcases h with rfl | rfl | rfl | rfl | rfl | rfl | rfl | rfl | rfl | rfl | rfl | rfl | rfl | rfl <;> rfl
theorem St_f4 {b : Int} (h : isSt b) : YC.2.2.1 b 4 = (0, 5) := by
  rcases h with rfl | rfl | rfl | rfl | rfl | rfl | rfl | rfl | rfl | rfl | rfl | rfl | rfl | rfl <;> rfl
theorem St_f5 {b : Int} (h : isSt b) : YC.2.2.1 b 5 = (0, 3) := by
  rcases h with rfl | rfl | rfl | rfl | rfl | rfl | rfl | rfl | rfl | rfl | rfl | rfl | rfl | rfl <;> rfl
theorem St_f6 {b : Int} (h : isSt b) : YC.2.2.1 b 6 = (0, 6) := by
  rcases h with rfl | rfl | rfl | rfl | rfl | rfl | rfl | rfl | rfl | rfl | rfl | rfl | rfl | rfl <;> rfl
theorem St_f7 {b : Int} (h : isSt b) : YC.2.2.1 b 7 = (0, 6) := by
  rcases h with rfl | rfl | rfl | rfl | rfl | rfl | rfl | rfl | rfl | rfl | rfl | rfl | rfl | rfl <;> rfl
theorem St_a1 {b : Int} (h : isSt b) : fm_ar YC (b + 1) 0 4 := by
  rcases h with rfl | rfl | rfl | rfl | rfl | rfl | rfl | rfl | rfl | rfl | rfl | rfl | rfl | rfl <;> exact ⟨by decide, by decide, rfl, by decide⟩
theorem St_r1 {b : Int} (h : isSt b) (j : Int) : YC.2.2.1 (b + 1) j = (0, 6) := by
  rcases h with rfl | rfl | rfl | rfl | rfl | rfl | rfl | rfl | rfl | rfl | rfl | rfl | rfl | rfl <;> rfl
theorem St_a2 {b : Int} (h : isSt b) : fm_ar YC (b + 2) 0 24 := by
  rcases h with rfl | rfl | rfl | rfl | rfl | rfl | rfl | rfl | rfl | rfl | rfl | rfl | rfl | rfl <;> exact ⟨by decide, by decide, rfl, by decide⟩
theorem St_r2 {b : Int} (h : isSt b) (j : Int) : YC.2.2.1 (b + 2) j = (0, 99) := by
  rcases h with rfl | rfl | rfl | rfl | rfl | rfl | rfl | rfl | rfl | rfl | rfl | rfl | rfl | rfl <;> rfl
theorem St_a3 {b : Int} (h : isSt b) : fm_ar YC (b + 3) 0 49 := by
  rcases h with rfl | rfl | rfl | rfl | rfl | rfl | rfl | rfl | rfl | rfl | rfl | rfl | rfl | rfl <;> exact ⟨by decide, by decide, rfl, by decide⟩
theorem St_r3 {b : Int} (h : isSt b) (j : Int) : YC.2.2.1 (b + 3) j = (0, 99) := by
  rcases h with rfl | rfl | rfl | rfl | rfl | rfl | rfl | rfl | rfl | rfl | rfl | rfl | rfl | rfl <;> rfl
theorem St_a4 {b : Int} (h : isSt b) : fm_ar YC (b + 4) 0 25 := by
  rcases h with rfl | rfl | rfl | rfl | rfl | rfl | rfl | rfl | rfl | rfl | rfl | rfl | rfl | rfl <;> exact ⟨by decide, by decide, rfl, by decide⟩
theorem St_r4 {b : Int} (h : isSt b) (j : Int) : YC.2.2.1 (b + 4) j = (0, 99) := by
  rcases h with rfl | rfl | rfl | rfl | rfl | rfl | rfl | rfl | rfl | rfl | rfl | rfl | rfl | rfl <;> rfl
def isRu (b : Int) : Prop := b = 110 ∨ b = 115
theorem Ru_110 : isRu 110 := Or.inl rfl
theorem Ru_115 : isRu 115 := Or.inr (rfl)
theorem Ru_b {b : Int} (h : isRu b) : 110 ≤ b ∧ b ≤ 115 := by
  unfold isRu at h
  omega
theorem Ru_at {b : Int} (h : isRu b) : fm_at YC b 7 [5, 5, 5, 5, 0, 0, 0, 0] := by
  rcases h with rfl | rfl <;> exact ⟨by decide, by decide, rfl⟩
theorem Ru_f0 {b : Int} (h : isRu b) : YC.2.2.1 b 0 = (b + 1, b + 1) := by
  rcases h with rfl | rfl <;> rfl
theorem Ru_f1 {b : Int} (h : isRu b) : YC.2.2.1 b 1 = (b + 2, b + 2) := by
  rcases h with rfl | rfl <;> rfl
theorem Ru_f2 {b : Int} (h : isRu b) : YC.2.2.1 b 2 = (b + 3, b + 3) := by
  rcases h with rfl | rfl <;> rfl
theorem Ru_f3 {b : Int} (h : isRu b) : YC.2.2.1 b 3 = (b + 4, b + 4) := by
  rcases h with rfl | rfl <;> rfl
theorem Ru_f4 {b : Int} (h : isRu b) : YC.2.2.1 b 4 = (0, 40) := by
  rcases h with rfl | rfl <;> rfl
theorem Ru_f5 {b : Int} (h : isRu b) : YC.2.2.1 b 5 = (0, 40) := by
  rcases h with rfl | rfl <;> rfl
theorem Ru_f6 {b : Int} (h : isRu b) : YC.2.2.1 b 6 = (0, 4) := by
  rcases h with rfl | rfl <;> rfl
theorem Ru_f7 {b : Int} (h : isRu b) : YC.2.2.1 b 7 = (0, 40) := by
  rcases h with rfl | rfl <;> rfl
theorem Ru_a1 {b : Int} (h : isRu b) : fm_ar YC (b + 1) 0 40 := by
  rcases h with rfl | rfl <;> exact ⟨by decide, by decide, rfl, by decide⟩
theorem Ru_r1 {b : Int} (h : isRu b) (j : Int) : YC.2.2.1 (b + 1) j = (-2147483648, 2147483647) := by
  rcases h with rfl | rfl <;> rfl
theorem Ru_a2 {b : Int} (h : isRu b) : fm_ar YC (b + 2) 0 40 := by
  rcases h with rfl | rfl <;> exact ⟨by decide, by decide, rfl, by decide⟩
theorem Ru_r2 {b : Int} (h : isRu b) (j : Int) : YC.2.2.1 (b + 2) j = (0, 256) := by
  rcases h with rfl | rfl <;> rfl
theorem Ru_a3 {b : Int} (h : isRu b) : fm_ar YC (b + 3) 3 5 := by
  rcases h with rfl | rfl <;> exact ⟨by decide, by decide, rfl, by decide⟩
theorem Ru_r3 {b : Int} (h : isRu b) (j : Int) : YC.2.2.1 (b + 3) j = (0, 1) := by
  rcases h with rfl | rfl <;> rfl
theorem Ru_a4 {b : Int} (h : isRu b) : fm_ar YC (b + 4) 0 40 := by
  rcases h with rfl | rfl <;> exact ⟨by decide, by decide, rfl, by decide⟩
theorem Ru_r4 {b : Int} (h : isRu b) (j : Int) : YC.2.2.1 (b + 4) j = (-2147483648, 2147483647) := by
  rcases h with rfl | rfl <;> rfl
def isCu (b : Int) : Prop := b = 95 ∨ b = 96 ∨ b = 97
theorem Cu_95 : isCu 95 := Or.inl rfl
theorem Cu_96 : isCu 96 := Or.inr (Or.inl rfl)
theorem Cu_97 : isCu 97 := Or.inr (Or.inr (rfl))
theorem Cu_b {b : Int} (h : isCu b) : 95 ≤ b ∧ b ≤ 97 := by
  unfold isCu at h
  omega
theorem Cu_at {b : Int} (h : isCu b) : fm_at YC b 3 [0, 0, 0, 0] := by
  rcases h with rfl | rfl | rfl <;> exact ⟨by decide, by decide, rfl⟩
theorem Cu_f0 {b : Int} (h : isCu b) : YC.2.2.1 b 0 = (0, 4) := by
  rcases h with rfl | rfl | rfl <;> rfl
theorem Cu_f1 {b : Int} (h : isCu b) : YC.2.2.1 b 1 = (0, 1296) := by
  rcases h with rfl | rfl | rfl <;> rfl
theorem Cu_f2 {b : Int} (h : isCu b) : YC.2.2.1 b 2 = (0, 1) := by
  rcases h with rfl | rfl | rfl <;> rfl
theorem Cu_f3 {b : Int} (h : isCu b) : YC.2.2.1 b 3 = (0, 1) := by
  rcases h with rfl | rfl | rfl <;> rfl
def isTy (b : Int) : Prop := b = 102 ∨ b = 103 ∨ b = 104 ∨ b = 105 ∨ b = 106
theorem Ty_102 : isTy 102 := Or.inl rfl
theorem Ty_103 : isTy 103 := Or.inr (Or.inl rfl)
theorem Ty_104 : isTy 104 := Or.inr (Or.inr (Or.inl rfl))
theorem Ty_105 : isTy 105 := Or.inr (Or.inr (Or.inr (Or.inl rfl)))
theorem Ty_106 : isTy 106 := Or.inr (Or.inr (Or.inr (Or.inr (rfl))))
theorem Ty_b {b : Int} (h : isTy b) : 102 ≤ b ∧ b ≤ 106 := by
  unfold isTy at h
  omega
theorem Ty_a {b : Int} (h : isTy b) : fm_ar YC b 0 31 := by
  rcases h with rfl | rfl | rfl | rfl | rfl <;> exact ⟨by decide, by decide, rfl, by decide⟩
theorem Ty_r {b : Int} (h : isTy b) (j : Int) : YC.2.2.1 b j = (-2147483648, 2147483647) := by
  rcases h with rfl | rfl | rfl | rfl | rfl <;> rfl
def isOr (b : Int) : Prop := b = 79 ∨ b = 81 ∨ b = 83 ∨ b = 85 ∨ b = 87
theorem Or_79 : isOr 79 := Or.inl rfl
theorem Or_81 : isOr 81 := Or.inr (Or.inl rfl)
theorem Or_83 : isOr 83 := Or.inr (Or.inr (Or.inl rfl))
theorem Or_85 : isOr 85 := Or.inr (Or.inr (Or.inr (Or.inl rfl)))
theorem Or_87 : isOr 87 := Or.inr (Or.inr (Or.inr (Or.inr (rfl))))
theorem Or_b {b : Int} (h : isOr b) : 79 ≤ b ∧ b ≤ 87 := by
  unfold isOr at h
  omega
theorem Or_at {b : Int} (h : isOr b) : fm_at YC b 6 [5, 0, 0] := by
  rcases h with rfl | rfl | rfl | rfl | rfl <;> exact ⟨by decide, by decide, rfl⟩
theorem Or_f0 {b : Int} (h : isOr b) : YC.2.2.1 b 0 = (b + 1, b + 1) := by
  rcases h with rfl | rfl | rfl | rfl | rfl <;> rfl
theorem Or_f2 {b : Int} (h : isOr b) : YC.2.2.1 b 2 = (0, 1) := by
  rcases h with rfl | rfl | rfl | rfl | rfl <;> rfl
/-- an order cell and its length -/
def OrN (b : Int) (n : Nat) : Prop := (b = 79 ∧ n = 1296) ∨ (b = 81 ∧ n = 924) ∨ (b = 83 ∧ n = 120) ∨ (b = 85 ∧ n = 64) ∨ (b = 87 ∧ n = 326)
theorem OrN_is {b : Int} {n : Nat} (h : OrN b n) : isOr b := by
  unfold OrN at h
  unfold isOr
  omega
theorem OrN_b {b : Int} {n : Nat} (h : OrN b n) : 79 ≤ b ∧ b ≤ 87 ∧ 64 ≤ n ∧ n ≤ 1296 := by
  unfold OrN at h
  omega
theorem OrN_f1 {b : Int} {n : Nat} (h : OrN b n) : YC.2.2.1 b 1 = (0, (n : Int)) := by
  rcases h with ⟨rfl, rfl⟩ | ⟨rfl, rfl⟩ | ⟨rfl, rfl⟩ | ⟨rfl, rfl⟩ | ⟨rfl, rfl⟩ <;> rfl
theorem OrN_a1 {b : Int} {n : Nat} (h : OrN b n) : fm_ar YC (b + 1) 4 n := by
  rcases h with ⟨rfl, rfl⟩ | ⟨rfl, rfl⟩ | ⟨rfl, rfl⟩ | ⟨rfl, rfl⟩ | ⟨rfl, rfl⟩ <;> exact ⟨by decide, by decide, rfl, by decide⟩
theorem OrN_r1 {b : Int} {n : Nat} (h : OrN b n) (j : Int) : YC.2.2.1 (b + 1) j = (-9223372036854775808, 9223372036854775807) := by
  rcases h with ⟨rfl, rfl⟩ | ⟨rfl, rfl⟩ | ⟨rfl, rfl⟩ | ⟨rfl, rfl⟩ | ⟨rfl, rfl⟩ <;> rfl
theorem OrN_ex {b : Int} (h : isOr b) : ∃ n : Nat, OrN b n := by
  unfold isOr at h
  unfold OrN
  rcases h with rfl | rfl | rfl | rfl | rfl
  · exact ⟨1296, by omega⟩
  · exact ⟨924, by omega⟩
  · exact ⟨120, by omega⟩
  · exact ⟨64, by omega⟩
  · exact ⟨326, by omega⟩
theorem w_mmax : Cond.static Lib.Math.max.name ∈ TB ∧ Cond.initialized "java/lang/Math" ∈ TB ∧ Cond.code Lib.Math.max.name Lib.Math.max.code 2 (some .int) ∈ TB := ⟨tb_1 (i := 221) (by decide +kernel) (by decide +kernel), tb_1 (i := 11) (by decide +kernel) (by decide +kernel), tb_1 (i := 222) (by decide +kernel) (by decide +kernel)⟩
theorem w_mmin : Cond.static Lib.Math.min.name ∈ TB ∧ Cond.initialized "java/lang/Math" ∈ TB ∧ Cond.code Lib.Math.min.name Lib.Math.min.code 2 (some .int) ∈ TB := ⟨tb_2 (i := 157) (by decide +kernel) (by decide +kernel), tb_1 (i := 11) (by decide +kernel) (by decide +kernel), tb_2 (i := 158) (by decide +kernel) (by decide +kernel)⟩
theorem w_copy : Cond.native arraycopyName ∈ TB ∧ Cond.static arraycopyName ∈ TB ∧ Cond.initialized "java/lang/System" ∈ TB := ⟨tb_2 (i := 110) (by decide +kernel) (by decide +kernel), tb_2 (i := 109) (by decide +kernel) (by decide +kernel), tb_1 (i := 14) (by decide +kernel) (by decide +kernel)⟩
theorem at_0 : fm_at YC 0 11 [5, 5, 5, 5, 5, 5, 5, 5, 5, 5, 5, 5, 5, 5, 5, 0] := ⟨by decide, by decide, rfl⟩
theorem rf_0_0 : YC.2.2.1 0 0 = (1, 1) := rfl
theorem rf_0_1 : YC.2.2.1 0 1 = (3, 3) := rfl
theorem rf_0_2 : YC.2.2.1 0 2 = (8, 8) := rfl
theorem rf_0_3 : YC.2.2.1 0 3 = (13, 13) := rfl
theorem rf_0_4 : YC.2.2.1 0 4 = (14, 14) := rfl
theorem rf_0_5 : YC.2.2.1 0 5 = (66, 66) := rfl
theorem rf_0_6 : YC.2.2.1 0 6 = (77, 77) := rfl
theorem rf_0_7 : YC.2.2.1 0 7 = (78, 78) := rfl
theorem rf_0_8 : YC.2.2.1 0 8 = (89, 89) := rfl
theorem rf_0_9 : YC.2.2.1 0 9 = (94, 94) := rfl
theorem rf_0_10 : YC.2.2.1 0 10 = (98, 98) := rfl
theorem rf_0_11 : YC.2.2.1 0 11 = (107, 107) := rfl
theorem rf_0_12 : YC.2.2.1 0 12 = (109, 109) := rfl
theorem rf_0_13 : YC.2.2.1 0 13 = (110, 115) := rfl
theorem rf_0_14 : YC.2.2.1 0 14 = (110, 115) := rfl
theorem rf_0_15 : YC.2.2.1 0 15 = (-2147483648, 2147483647) := rfl
theorem at_1 : fm_at YC 1 9 [5, 0] := ⟨by decide, by decide, rfl⟩
theorem rf_1_0 : YC.2.2.1 1 0 = (2, 2) := rfl
theorem rf_1_1 : YC.2.2.1 1 1 = (0, 80) := rfl
theorem ar_2 : fm_ar YC 2 2 80 := ⟨by decide, by decide, rfl, by decide⟩
theorem rr_2 (j : Int) : YC.2.2.1 2 j = (0, 255) := rfl
theorem at_13 : fm_at YC 13 0 [0] := ⟨by decide, by decide, rfl⟩
theorem rf_13_0 : YC.2.2.1 13 0 = (0, 1) := rfl
theorem at_14 : fm_at YC 14 5 [5, 0, 0] := ⟨by decide, by decide, rfl⟩
theorem rf_14_0 : YC.2.2.1 14 0 = (15, 15) := rfl
theorem rf_14_1 : YC.2.2.1 14 1 = (0, 9) := rfl
theorem rf_14_2 : YC.2.2.1 14 2 = (0, 10) := rfl
theorem ar_15 : fm_ar YC 15 5 10 := ⟨by decide, by decide, rfl, by decide⟩
theorem rx_15 {j : Int} (h0 : 0 ≤ j) (h : j < 10) : YC.2.2.1 15 j = (16 + 5 * j, 16 + 5 * j) := by
  rcases (show j = 0 ∨ j = 1 ∨ j = 2 ∨ j = 3 ∨ j = 4 ∨ j = 5 ∨ j = 6 ∨ j = 7 ∨ j = 8 ∨ j = 9 by omega) with rfl | rfl | rfl | rfl | rfl | rfl | rfl | rfl | rfl | rfl <;> rfl
theorem St_ix15 {j : Int} (h0 : 0 ≤ j) (h : j < 10) : isSt (16 + 5 * j) := by
  unfold isSt
  omega
theorem ar_66 : fm_ar YC 66 5 2 := ⟨by decide, by decide, rfl, by decide⟩
theorem rx_66 {j : Int} (h0 : 0 ≤ j) (h : j < 2) : YC.2.2.1 66 j = (67 + 5 * j, 67 + 5 * j) := by
  rcases (show j = 0 ∨ j = 1 by omega) with rfl | rfl <;> rfl
theorem St_ix66 {j : Int} (h0 : 0 ≤ j) (h : j < 2) : isSt (67 + 5 * j) := by
  unfold isSt
  omega
theorem ar_77 : fm_ar YC 77 3 2 := ⟨by decide, by decide, rfl, by decide⟩
theorem rr_77 (j : Int) : YC.2.2.1 77 j = (0, 1) := rfl
theorem ar_78 : fm_ar YC 78 6 5 := ⟨by decide, by decide, rfl, by decide⟩
theorem rx_78 {j : Int} (h0 : 0 ≤ j) (h : j < 5) : YC.2.2.1 78 j = (79 + 2 * j, 79 + 2 * j) := by
  rcases (show j = 0 ∨ j = 1 ∨ j = 2 ∨ j = 3 ∨ j = 4 by omega) with rfl | rfl | rfl | rfl | rfl <;> rfl
theorem Or_ix78 {j : Int} (h0 : 0 ≤ j) (h : j < 5) : isOr (79 + 2 * j) := by
  unfold isOr
  omega
theorem at_89 : fm_at YC 89 4 [5, 5, 5, 5, 0, 0, 5, 5, 5] := ⟨by decide, by decide, rfl⟩
theorem rf_89_0 : YC.2.2.1 89 0 = (90, 90) := rfl
theorem rf_89_1 : YC.2.2.1 89 1 = (91, 91) := rfl
theorem rf_89_2 : YC.2.2.1 89 2 = (92, 92) := rfl
theorem rf_89_3 : YC.2.2.1 89 3 = (93, 93) := rfl
theorem rf_89_4 : YC.2.2.1 89 4 = (0, 12) := rfl
theorem rf_89_5 : YC.2.2.1 89 5 = (0, 2147483647) := rfl
theorem rf_89_6 : YC.2.2.1 89 6 = (-1, 72) := rfl
theorem rf_89_7 : YC.2.2.1 89 7 = (-1, 115) := rfl
theorem rf_89_8 : YC.2.2.1 89 8 = (-1, 87) := rfl
theorem ar_90 : fm_ar YC 90 0 4 := ⟨by decide, by decide, rfl, by decide⟩
theorem rr_90 (j : Int) : YC.2.2.1 90 j = (-1, 99) := rfl
theorem ar_91 : fm_ar YC 91 0 12 := ⟨by decide, by decide, rfl, by decide⟩
theorem rr_91 (j : Int) : YC.2.2.1 91 j = (0, 6) := rfl
theorem ar_92 : fm_ar YC 92 0 12 := ⟨by decide, by decide, rfl, by decide⟩
theorem rr_92 (j : Int) : YC.2.2.1 92 j = (0, 6) := rfl
theorem ar_93 : fm_ar YC 93 0 12 := ⟨by decide, by decide, rfl, by decide⟩
theorem rr_93 (j : Int) : YC.2.2.1 93 j = (0, 99) := rfl
theorem ar_94 : fm_ar YC 94 7 3 := ⟨by decide, by decide, rfl, by decide⟩
theorem rx_94 {j : Int} (h0 : 0 ≤ j) (h : j < 3) : YC.2.2.1 94 j = (95 + j, 95 + j) := by
  rcases (show j = 0 ∨ j = 1 ∨ j = 2 by omega) with rfl | rfl | rfl <;> rfl
theorem Cu_ix94 {j : Int} (h0 : 0 ≤ j) (h : j < 3) : isCu (95 + j) := by
  unfold isCu
  omega
theorem at_98 : fm_at YC 98 1 [5, 5, 5, 0] := ⟨by decide, by decide, rfl⟩
theorem rf_98_0 : YC.2.2.1 98 0 = (99, 99) := rfl
theorem rf_98_1 : YC.2.2.1 98 1 = (100, 100) := rfl
theorem rf_98_2 : YC.2.2.1 98 2 = (101, 101) := rfl
theorem rf_98_3 : YC.2.2.1 98 3 = (0, 10) := rfl
theorem ar_99 : fm_ar YC 99 0 10 := ⟨by decide, by decide, rfl, by decide⟩
theorem rr_99 (j : Int) : YC.2.2.1 99 j = (0, 4) := rfl
theorem ar_100 : fm_ar YC 100 0 10 := ⟨by decide, by decide, rfl, by decide⟩
theorem rr_100 (j : Int) : YC.2.2.1 100 j = (0, 30) := rfl
theorem ar_101 : fm_ar YC 101 8 5 := ⟨by decide, by decide, rfl, by decide⟩
theorem rx_101 {j : Int} (h0 : 0 ≤ j) (h : j < 5) : YC.2.2.1 101 j = (102 + j, 102 + j) := by
  rcases (show j = 0 ∨ j = 1 ∨ j = 2 ∨ j = 3 ∨ j = 4 by omega) with rfl | rfl | rfl | rfl | rfl <;> rfl
theorem Ty_ix101 {j : Int} (h0 : 0 ≤ j) (h : j < 5) : isTy (102 + j) := by
  unfold isTy
  omega
theorem ar_102 : fm_ar YC 102 0 31 := ⟨by decide, by decide, rfl, by decide⟩
theorem rr_102 (j : Int) : YC.2.2.1 102 j = (-2147483648, 2147483647) := rfl
theorem ar_103 : fm_ar YC 103 0 31 := ⟨by decide, by decide, rfl, by decide⟩
theorem rr_103 (j : Int) : YC.2.2.1 103 j = (-2147483648, 2147483647) := rfl
theorem ar_104 : fm_ar YC 104 0 31 := ⟨by decide, by decide, rfl, by decide⟩
theorem rr_104 (j : Int) : YC.2.2.1 104 j = (-2147483648, 2147483647) := rfl
theorem ar_105 : fm_ar YC 105 0 31 := ⟨by decide, by decide, rfl, by decide⟩
theorem rr_105 (j : Int) : YC.2.2.1 105 j = (-2147483648, 2147483647) := rfl
theorem ar_106 : fm_ar YC 106 0 31 := ⟨by decide, by decide, rfl, by decide⟩
theorem rr_106 (j : Int) : YC.2.2.1 106 j = (-2147483648, 2147483647) := rfl
theorem at_107 : fm_at YC 107 10 [5, 0] := ⟨by decide, by decide, rfl⟩
theorem rf_107_0 : YC.2.2.1 107 0 = (108, 108) := rfl
theorem rf_107_1 : YC.2.2.1 107 1 = (0, 8) := rfl
theorem ar_108 : fm_ar YC 108 4 8 := ⟨by decide, by decide, rfl, by decide⟩
theorem rr_108 (j : Int) : YC.2.2.1 108 j = (-9223372036854775808, 9223372036854775807) := rfl
theorem ar_109 : fm_ar YC 109 0 6 := ⟨by decide, by decide, rfl, by decide⟩
theorem rr_109 (j : Int) : YC.2.2.1 109 j = (0, 99) := rfl
theorem ar_120 : fm_ar YC 120 4 1 := ⟨by decide, by decide, rfl, by decide⟩
theorem rr_120 (j : Int) : YC.2.2.1 120 j = (-9223372036854775808, 9223372036854775807) := rfl
