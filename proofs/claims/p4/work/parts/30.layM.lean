/-! the reference: its layout -/
/-- between what each place of LISTS, EDGES, TABLE .. in one row lies -/
def YM_s (j : Int) : Int × Int := if j % 106 < 24 then (0, 99) else if j % 106 < 28 then (0, 6) else if j % 106 < 102 then (0, 99) else if j % 106 = 102 then (0, 5) else if j % 106 < 105 then (0, 6) else (0, 3)
theorem sg_num {j : Int} (h0 : 0 ≤ j) (h : j < 24) : YM_s j = (0, 99) := by
  unfold YM_s
  rw [if_pos (by omega)]
theorem sg_len {j : Int} (h0 : 24 ≤ j) (h : j < 28) : YM_s j = (0, 6) := by
  unfold YM_s
  rw [if_neg (by omega), if_pos (by omega)]
theorem sg_wt {j : Int} (h0 : 28 ≤ j) (h : j < 102) : YM_s j = (0, 99) := by
  unfold YM_s
  rw [if_neg (by omega), if_neg (by omega), if_pos (by omega)]
theorem sg_size : YM_s 102 = (0, 5) := by decide
theorem sg_e1 : YM_s 103 = (0, 6) := by decide
theorem sg_e2 : YM_s 104 = (0, 6) := by decide
theorem sg_pick : YM_s 105 = (0, 3) := by decide
theorem sg_any (j : Int) : 0 ≤ (YM_s j).1 ∧ (YM_s j).2 ≤ 99 ∧ (YM_s j).1 = 0 := by
  unfold YM_s
  split
  · decide
  · split
    · decide
    · split
      · decide
      · split
        · decide
        · split <;> decide
theorem sg_shift {k : Int} (h : k % 106 = 0) (j : Int) : YM_s (k + j) = YM_s j := by
  unfold YM_s
  rw [show (k + j) % 106 = j % 106 by omega]
theorem sg_106 (j : Int) : YM_s (j + 106) = YM_s j := by
  unfold YM_s
  rw [show (j + 106) % 106 = j % 106 by omega]
def YM_l : List (Ds × List (Int × Int)) := [(.inr (0, [5, 5, 0, 5, 0, 0, 5, 0, 0, 0, 0, 5, 5, 5, 0, 0, 5, 5, 0, 5, 5, 0, 5, 5, 5, 5, 0, 5, 5, 5, 5, 5, 5, 5, 5, 5, 5, 0, 5, 0, 5, 5]), [(1, 1), (2, 2), (0, 80), (3, 3), (0, 16), (0, 1), (-1, 6), (0, 80), (0, 80), (0, 80), (-1, 80), (4, 4), (5, 6), (6, 6), (0, 40), (0, 1), (7, 7), (8, 8), (0, 10), (9, 9), (10, 10), (-2147483648, 2147483647), (11, 11), (12, 12), (13, 13), (14, 14), (0, 1300), (15, 15), (16, 16), (17, 17), (18, 18), (19, 19), (20, 20), (21, 21), (22, 22), (23, 23), (24, 24), (0, 10), (25, 25), (-2147483648, 2147483647), (26, 26), (27, 27)]),
  (.inl (0, 106), []),
  (.inl (1, 80), [(-128, 127)]),
  (.inl (4, 16), [(-9223372036854775808, 9223372036854775807)]),
  (.inl (0, 6), [(0, 99)]),
  (.inl (1, 40), [(-128, 127)]),
  (.inl (1, 40), [(-128, 127)]),
  (.inl (0, 7), [(-2147483648, 2147483647)]),
  (.inl (0, 1060), []),
  (.inl (0, 106), []),
  (.inl (0, 106), []),
  (.inl (0, 320), [(-2147483648, 2147483647)]),
  (.inl (0, 10400), [(0, 11)]),
  (.inl (0, 1300), [(0, 8)]),
  (.inl (0, 1300), [(-2147483648, 2147483647)]),
  (.inl (0, 1300), [(0, 1299)]),
  (.inl (0, 1300), [(0, 1299)]),
  (.inl (0, 8), [(0, 11)]),
  (.inl (0, 7), [(0, 6)]),
  (.inl (0, 8), [(0, 11)]),
  (.inl (0, 3), [(-1, 4)]),
  (.inl (0, 3), [(0, 1300)]),
  (.inl (0, 3), [(-2147483648, 2147483647)]),
  (.inl (0, 10), [(0, 4)]),
  (.inl (0, 10), [(0, 30)]),
  (.inl (3, 1300), [(0, 1)]),
  (.inl (0, 212), []),
  (.inl (3, 2), [(0, 1)])]
def YM_d (k : Int) : Ds := match YM_l[k.toNat]? with
  | some q => q.1
  | none => .inl (0, 0)
def YM_g (k i : Int) : Int × Int := match YM_l[k.toNat]? with
  | some (_, []) => YM_s i
  | some (_, [q]) => q
  | some (_, l) => (l[i.toNat]?).getD (0, 0)
  | none => (0, 0)
def YM : Ly := (28, YM_d, YM_g, YM_cl, fun _ _ _ => True)
theorem YM_x : fm_Xc YM := fun _ _ _ _ _ _ _ => trivial
theorem kX12 : fm_cls YM 0 RX12 TX12 42 tyX12 := ⟨rfl, ktX12, tyX12_ok, nmX12⟩
theorem at_0M : fm_at YM 0 0 [5, 5, 0, 5, 0, 0, 5, 0, 0, 0, 0, 5, 5, 5, 0, 0, 5, 5, 0, 5, 5, 0, 5, 5, 5, 5, 0, 5, 5, 5, 5, 5, 5, 5, 5, 5, 5, 0, 5, 0, 5, 5] := ⟨by decide, by decide, rfl⟩
theorem rfM_0 : YM.2.2.1 0 0 = (1, 1) := rfl
theorem rfM_1 : YM.2.2.1 0 1 = (2, 2) := rfl
theorem rfM_2 : YM.2.2.1 0 2 = (0, 80) := rfl
theorem rfM_3 : YM.2.2.1 0 3 = (3, 3) := rfl
theorem rfM_4 : YM.2.2.1 0 4 = (0, 16) := rfl
theorem rfM_5 : YM.2.2.1 0 5 = (0, 1) := rfl
theorem rfM_6 : YM.2.2.1 0 6 = (-1, 6) := rfl
theorem rfM_7 : YM.2.2.1 0 7 = (0, 80) := rfl
theorem rfM_8 : YM.2.2.1 0 8 = (0, 80) := rfl
theorem rfM_9 : YM.2.2.1 0 9 = (0, 80) := rfl
theorem rfM_10 : YM.2.2.1 0 10 = (-1, 80) := rfl
theorem rfM_11 : YM.2.2.1 0 11 = (4, 4) := rfl
theorem rfM_12 : YM.2.2.1 0 12 = (5, 6) := rfl
theorem rfM_13 : YM.2.2.1 0 13 = (6, 6) := rfl
theorem rfM_14 : YM.2.2.1 0 14 = (0, 40) := rfl
theorem rfM_15 : YM.2.2.1 0 15 = (0, 1) := rfl
theorem rfM_16 : YM.2.2.1 0 16 = (7, 7) := rfl
theorem rfM_17 : YM.2.2.1 0 17 = (8, 8) := rfl
theorem rfM_18 : YM.2.2.1 0 18 = (0, 10) := rfl
theorem rfM_19 : YM.2.2.1 0 19 = (9, 9) := rfl
theorem rfM_20 : YM.2.2.1 0 20 = (10, 10) := rfl
theorem rfM_21 : YM.2.2.1 0 21 = (-2147483648, 2147483647) := rfl
theorem rfM_22 : YM.2.2.1 0 22 = (11, 11) := rfl
theorem rfM_23 : YM.2.2.1 0 23 = (12, 12) := rfl
theorem rfM_24 : YM.2.2.1 0 24 = (13, 13) := rfl
theorem rfM_25 : YM.2.2.1 0 25 = (14, 14) := rfl
theorem rfM_26 : YM.2.2.1 0 26 = (0, 1300) := rfl
theorem rfM_27 : YM.2.2.1 0 27 = (15, 15) := rfl
theorem rfM_28 : YM.2.2.1 0 28 = (16, 16) := rfl
theorem rfM_29 : YM.2.2.1 0 29 = (17, 17) := rfl
theorem rfM_30 : YM.2.2.1 0 30 = (18, 18) := rfl
theorem rfM_31 : YM.2.2.1 0 31 = (19, 19) := rfl
theorem rfM_32 : YM.2.2.1 0 32 = (20, 20) := rfl
theorem rfM_33 : YM.2.2.1 0 33 = (21, 21) := rfl
theorem rfM_34 : YM.2.2.1 0 34 = (22, 22) := rfl
theorem rfM_35 : YM.2.2.1 0 35 = (23, 23) := rfl
theorem rfM_36 : YM.2.2.1 0 36 = (24, 24) := rfl
theorem rfM_37 : YM.2.2.1 0 37 = (0, 10) := rfl
theorem rfM_38 : YM.2.2.1 0 38 = (25, 25) := rfl
theorem rfM_39 : YM.2.2.1 0 39 = (-2147483648, 2147483647) := rfl
theorem rfM_40 : YM.2.2.1 0 40 = (26, 26) := rfl
theorem rfM_41 : YM.2.2.1 0 41 = (27, 27) := rfl
theorem arM_1 : fm_ar YM 1 0 106 := ⟨by decide, by decide, rfl, by decide⟩
theorem rrM_1 (j : Int) : YM.2.2.1 1 j = YM_s j := rfl
theorem arM_2 : fm_ar YM 2 1 80 := ⟨by decide, by decide, rfl, by decide⟩
theorem rrM_2 (j : Int) : YM.2.2.1 2 j = (-128, 127) := rfl
theorem arM_3 : fm_ar YM 3 4 16 := ⟨by decide, by decide, rfl, by decide⟩
theorem rrM_3 (j : Int) : YM.2.2.1 3 j = (-9223372036854775808, 9223372036854775807) := rfl
theorem arM_4 : fm_ar YM 4 0 6 := ⟨by decide, by decide, rfl, by decide⟩
theorem rrM_4 (j : Int) : YM.2.2.1 4 j = (0, 99) := rfl
theorem arM_5 : fm_ar YM 5 1 40 := ⟨by decide, by decide, rfl, by decide⟩
theorem rrM_5 (j : Int) : YM.2.2.1 5 j = (-128, 127) := rfl
theorem arM_6 : fm_ar YM 6 1 40 := ⟨by decide, by decide, rfl, by decide⟩
theorem rrM_6 (j : Int) : YM.2.2.1 6 j = (-128, 127) := rfl
theorem arM_7 : fm_ar YM 7 0 7 := ⟨by decide, by decide, rfl, by decide⟩
theorem rrM_7 (j : Int) : YM.2.2.1 7 j = (-2147483648, 2147483647) := rfl
theorem arM_8 : fm_ar YM 8 0 1060 := ⟨by decide, by decide, rfl, by decide⟩
theorem rrM_8 (j : Int) : YM.2.2.1 8 j = YM_s j := rfl
theorem arM_9 : fm_ar YM 9 0 106 := ⟨by decide, by decide, rfl, by decide⟩
theorem rrM_9 (j : Int) : YM.2.2.1 9 j = YM_s j := rfl
theorem arM_10 : fm_ar YM 10 0 106 := ⟨by decide, by decide, rfl, by decide⟩
theorem rrM_10 (j : Int) : YM.2.2.1 10 j = YM_s j := rfl
theorem arM_11 : fm_ar YM 11 0 320 := ⟨by decide, by decide, rfl, by decide⟩
theorem rrM_11 (j : Int) : YM.2.2.1 11 j = (-2147483648, 2147483647) := rfl
theorem arM_12 : fm_ar YM 12 0 10400 := ⟨by decide, by decide, rfl, by decide⟩
theorem rrM_12 (j : Int) : YM.2.2.1 12 j = (0, 11) := rfl
theorem arM_13 : fm_ar YM 13 0 1300 := ⟨by decide, by decide, rfl, by decide⟩
theorem rrM_13 (j : Int) : YM.2.2.1 13 j = (0, 8) := rfl
theorem arM_14 : fm_ar YM 14 0 1300 := ⟨by decide, by decide, rfl, by decide⟩
theorem rrM_14 (j : Int) : YM.2.2.1 14 j = (-2147483648, 2147483647) := rfl
theorem arM_15 : fm_ar YM 15 0 1300 := ⟨by decide, by decide, rfl, by decide⟩
theorem rrM_15 (j : Int) : YM.2.2.1 15 j = (0, 1299) := rfl
theorem arM_16 : fm_ar YM 16 0 1300 := ⟨by decide, by decide, rfl, by decide⟩
theorem rrM_16 (j : Int) : YM.2.2.1 16 j = (0, 1299) := rfl
theorem arM_17 : fm_ar YM 17 0 8 := ⟨by decide, by decide, rfl, by decide⟩
theorem rrM_17 (j : Int) : YM.2.2.1 17 j = (0, 11) := rfl
theorem arM_18 : fm_ar YM 18 0 7 := ⟨by decide, by decide, rfl, by decide⟩
theorem rrM_18 (j : Int) : YM.2.2.1 18 j = (0, 6) := rfl
theorem arM_19 : fm_ar YM 19 0 8 := ⟨by decide, by decide, rfl, by decide⟩
theorem rrM_19 (j : Int) : YM.2.2.1 19 j = (0, 11) := rfl
theorem arM_20 : fm_ar YM 20 0 3 := ⟨by decide, by decide, rfl, by decide⟩
theorem rrM_20 (j : Int) : YM.2.2.1 20 j = (-1, 4) := rfl
theorem arM_21 : fm_ar YM 21 0 3 := ⟨by decide, by decide, rfl, by decide⟩
theorem rrM_21 (j : Int) : YM.2.2.1 21 j = (0, 1300) := rfl
theorem arM_22 : fm_ar YM 22 0 3 := ⟨by decide, by decide, rfl, by decide⟩
theorem rrM_22 (j : Int) : YM.2.2.1 22 j = (-2147483648, 2147483647) := rfl
theorem arM_23 : fm_ar YM 23 0 10 := ⟨by decide, by decide, rfl, by decide⟩
theorem rrM_23 (j : Int) : YM.2.2.1 23 j = (0, 4) := rfl
theorem arM_24 : fm_ar YM 24 0 10 := ⟨by decide, by decide, rfl, by decide⟩
theorem rrM_24 (j : Int) : YM.2.2.1 24 j = (0, 30) := rfl
theorem arM_25 : fm_ar YM 25 3 1300 := ⟨by decide, by decide, rfl, by decide⟩
theorem rrM_25 (j : Int) : YM.2.2.1 25 j = (0, 1) := rfl
theorem arM_26 : fm_ar YM 26 0 212 := ⟨by decide, by decide, rfl, by decide⟩
theorem rrM_26 (j : Int) : YM.2.2.1 26 j = YM_s j := rfl
theorem arM_27 : fm_ar YM 27 3 2 := ⟨by decide, by decide, rfl, by decide⟩
theorem rrM_27 (j : Int) : YM.2.2.1 27 j = (0, 1) := rfl
def isSA (b : Int) : Prop := b = 1 ∨ b = 9 ∨ b = 10
theorem SA_1 : isSA 1 := Or.inl rfl
theorem SA_9 : isSA 9 := Or.inr (Or.inl rfl)
theorem SA_10 : isSA 10 := Or.inr (Or.inr rfl)
theorem SA_b {b : Int} (h : isSA b) : 1 ≤ b ∧ b ≤ 10 := by
  unfold isSA at h
  omega
theorem SA_a {b : Int} (h : isSA b) : fm_ar YM b 0 106 := by
  rcases h with rfl | rfl | rfl
  · exact arM_1
  · exact arM_9
  · exact arM_10
theorem SA_r {b : Int} (h : isSA b) (j : Int) : YM.2.2.1 b j = YM_s j := by
  rcases h with rfl | rfl | rfl <;> rfl
def LTN (b : Int) (n : Nat) : Prop := (b = 9 ∧ n = 106) ∨ (b = 10 ∧ n = 106) ∨ (b = 8 ∧ n = 1060) ∨ (b = 26 ∧ n = 212)
theorem LTN_b {b : Int} {n : Nat} (h : LTN b n) : 8 ≤ b ∧ b ≤ 26 ∧ 106 ≤ n ∧ n ≤ 1060 := by
  unfold LTN at h
  omega
theorem LT_a {b : Int} {n : Nat} (h : LTN b n) : fm_ar YM b 0 n := by
  rcases h with ⟨rfl, rfl⟩ | ⟨rfl, rfl⟩ | ⟨rfl, rfl⟩ | ⟨rfl, rfl⟩
  · exact arM_9
  · exact arM_10
  · exact arM_8
  · exact arM_26
theorem LT_r {b : Int} {n : Nat} (h : LTN b n) (j : Int) : YM.2.2.1 b j = YM_s j := by
  rcases h with ⟨rfl, rfl⟩ | ⟨rfl, rfl⟩ | ⟨rfl, rfl⟩ | ⟨rfl, rfl⟩ <;> rfl
def RBN (b : Int) (n : Nat) : Prop := (b = 2 ∧ n = 80) ∨ (b = 5 ∧ n = 40) ∨ (b = 6 ∧ n = 40)
theorem RBN_b {b : Int} {n : Nat} (h : RBN b n) : 2 ≤ b ∧ b ≤ 6 ∧ 40 ≤ n ∧ n ≤ 80 := by
  unfold RBN at h
  omega
theorem RB_a {b : Int} {n : Nat} (h : RBN b n) : fm_ar YM b 1 n := by
  rcases h with ⟨rfl, rfl⟩ | ⟨rfl, rfl⟩ | ⟨rfl, rfl⟩
  · exact arM_2
  · exact arM_5
  · exact arM_6
theorem RB_r {b : Int} {n : Nat} (h : RBN b n) (j : Int) : YM.2.2.1 b j = (-128, 127) := by
  rcases h with ⟨rfl, rfl⟩ | ⟨rfl, rfl⟩ | ⟨rfl, rfl⟩ <;> rfl
