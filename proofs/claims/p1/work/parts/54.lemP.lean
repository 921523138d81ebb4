/-! rows as numbers, where all is nothing: shifts and masks of 0 -/
theorem lI_00 : lI 0 = (0 : Int64) := rfl
theorem iI_00 : iI 0 = (0 : Int32) := rfl
theorem fml_0 : fm_l 0 := ⟨by decide, by decide⟩
theorem fmr_0 : fm_r 0 := ⟨by decide, by decide⟩
theorem lI_e0 {z : Int} (hz : fm_l z) (h : (0 : Int64) = lI z) : z = 0 := (lI_inj fml_0 hz (lI_00.trans h)).symm
theorem iI_e0 {z : Int} (hz : fm_r z) (h : (0 : Int32) = iI z) : z = 0 := (iI_inj fmr_0 hz (iI_00.trans h)).symm
theorem z_lshl {a z : Int} {k : Int64} (hz : fm_l z) (h : lI a <<< k = lI z) : a = 0 → z = 0 := fun e => lI_e0 hz (by rw [← h, e, lI_00, Int64.zero_shiftLeft])
theorem z_lshr {a z : Int} {k : Int64} (hz : fm_l z) (h : lI a >>> k = lI z) : a = 0 → z = 0 := fun e => lI_e0 hz (by rw [← h, e, lI_00, Int64.zero_shiftRight])
theorem z_lushr {a z : Int} {k : UInt64} (hz : fm_l z) (h : ((lI a).toUInt64 >>> k).toInt64 = lI z) : a = 0 → z = 0 := fun e => lI_e0 hz (by rw [← h, e, lI_00, show (0 : Int64).toUInt64 = (0 : UInt64) from rfl, UInt64.zero_shiftRight]; rfl)
theorem z_land {a b z : Int} (hz : fm_l z) (h : lI a &&& lI b = lI z) : a = 0 → z = 0 := fun e => lI_e0 hz (by rw [← h, e, lI_00, Int64.zero_and])
theorem z_lor {a b z : Int} (hz : fm_l z) (h : lI a ||| lI b = lI z) : a = 0 → b = 0 → z = 0 := fun e e2 => lI_e0 hz (by rw [← h, e, e2, lI_00, Int64.zero_or])
theorem z_iand {a b z : Int} (hz : fm_r z) (h : iI a &&& iI b = iI z) : a = 0 → z = 0 := fun e => iI_e0 hz (by rw [← h, e, iI_00, Int32.zero_and])
theorem z_ior {a b z : Int} (hz : fm_r z) (h : iI a ||| iI b = iI z) : a = 0 → b = 0 → z = 0 := fun e e2 => iI_e0 hz (by rw [← h, e, e2, iI_00, Int32.zero_or])
theorem z_ishl {a b z : Int} (hz : fm_r z) (h : iI a <<< (iI b &&& 31) = iI z) : a = 1 → b = 0 → z = 1 := by
  intro e e2
  subst e
  subst e2
  have h1 : iI 1 <<< (iI 0 &&& 31) = iI 1 := by decide +kernel
  exact (iI_inj ⟨by decide, by decide⟩ hz (h1.symm.trans h)).symm
theorem z_ishr {a z : Int} {k : Int32} (hz : fm_r z) (h : iI a >>> k = iI z) : a = 0 → z = 0 := fun e => iI_e0 hz (by rw [← h, e, iI_00, Int32.zero_shiftRight])
theorem z_iushr {a z : Int} {k : UInt32} (hz : fm_r z) (h : ((iI a).toUInt32 >>> k).toInt32 = iI z) : a = 0 → z = 0 := fun e => iI_e0 hz (by rw [← h, e, iI_00, show (0 : Int32).toUInt32 = (0 : UInt32) from rfl, UInt32.zero_shiftRight]; rfl)
/-- the class's memory of a fresh object -/
def FRC (x : Mm) : Prop := (∀ j : Int, 0 ≤ j → j < 4 → x (3 + 1) j = 0) ∧ (∀ j : Int, 0 ≤ j → j < 49 → x (3 + 3) j = 0) ∧ (∀ j : Int, 0 ≤ j → j < 25 → x (3 + 4) j = 0) ∧ (∀ k : Int, 0 ≤ k → k < 5 → x (79 + 2 * k) 2 = 0) ∧ (∀ k : Int, 0 ≤ k → k < 5 → x (79 + 2 * k + 1) 0 = 0) ∧ x 3 4 = 0 ∧ x 3 5 = 0 ∧ x 3 6 = 0 ∧ x 3 7 = 1 ∧ x 0 13 = 110 ∧ x 0 14 = 115 ∧ x 110 4 = 1 ∧ x (110 + 1) 0 = 1115 ∧ x 1 1 = 0 ∧ x 14 2 = 0 ∧ x 98 3 = 0 ∧ x 107 1 = 0 ∧ (∀ c : Int, 95 ≤ c → c ≤ 97 → x c 2 = 0) ∧ (∀ j : Int, 0 ≤ j → j < 2 → x 77 j = 0)
/-- the tallies: nothing as far as (w, v) -/
def TZn (x : Mm) (w v : Int) : Prop := ∀ r j : Int, 102 ≤ r → r ≤ 106 → 0 ≤ j → j < 31 → (r < 102 + w ∨ (r = 102 + w ∧ j < v)) → x r j = 0
theorem TZn_0 {x : Mm} : TZn x 0 0 := fun r j a b c d e => by exfalso; omega
theorem TZn_n {x : Mm} {w w2 v : Int} (h : TZn x w v) (hv : 31 ≤ v) (hw : w2 = w + 1) : TZn x w2 0 := fun r j a b c d e => h r j a b c d (by omega)
theorem TZn_s {x y : Mm} {w v v2 q : Int} (h : TZn x w v) (hq : q = 102 + w) (hv : v2 = v + 1) (e1 : y q v = 0) (e2 : ∀ j : Int, j ≠ v → y q j = x q j) (e3 : ∀ r j : Int, r ≠ q → y r j = x r j) : TZn y w v2 := by
  intro r j a b c d e
  by_cases hr : r = q
  · subst hr
    by_cases hj : j = v
    · rw [hj, e1]
    · rw [e2 j hj]; exact h r j a b c d (by omega)
  · rw [e3 r j hr]; exact h r j a b c d (by omega)
/-- each tally 0 or 1, of costs the first alone -/
def TB1 (x : Mm) : Prop := (∀ r j : Int, 102 ≤ r → r ≤ 106 → 0 ≤ j → j < 31 → x r j = 0 ∨ x r j = 1) ∧ ∀ j : Int, 1 ≤ j → j < 31 → x 102 j = 0
theorem TB1_z {x : Mm} {w v : Int} (h : TZn x w v) (hw : 5 ≤ w) : TB1 x := ⟨fun r j a b c d => Or.inl (h r j a b c d (by omega)), fun j a b => h 102 j (by omega) (by omega) (by omega) b (by omega)⟩
theorem TB1_k {x y : Mm} (h : TB1 x) (e : ∀ r : Int, 102 ≤ r → r ≤ 106 → y r = x r) : TB1 y := ⟨fun r j a b c d => by rw [e r a b]; exact h.1 r j a b c d, fun j a b => by rw [e 102 (by omega) (by omega)]; exact h.2 j a b⟩
theorem TB1_s {x y : Mm} {q v z : Int} (h : TB1 x) (hz : z = 0 ∨ z = 1) (h2 : q = 102 → 1 ≤ v → z = 0) (e1 : y q v = z) (e2 : ∀ j : Int, j ≠ v → y q j = x q j) (e3 : ∀ r j : Int, r ≠ q → y r j = x r j) : TB1 y := by
  refine ⟨fun r j a b c d => ?_, fun j a b => ?_⟩
  · by_cases hr : r = q
    · subst hr
      by_cases hj : j = v
      · rw [hj, e1]; exact hz
      · rw [e2 j hj]; exact h.1 r j a b c d
    · rw [e3 r j hr]; exact h.1 r j a b c d
  · by_cases hr : (102 : Int) = q
    · subst hr
      by_cases hj : j = v
      · rw [hj, e1]; exact h2 rfl (by omega)
      · rw [e2 j hj]; exact h.2 j a b
    · rw [e3 102 j hr]; exact h.2 j a b
/-- the reference's memory of a fresh object -/
def FRM (x : Mm) : Prop := (∀ j : Int, 24 ≤ j → j ≤ 102 → x 1 j = 0) ∧ x 1 103 = 0 ∧ x 1 104 = 1 ∧ x 1 105 = 0 ∧ x 0 2 = 0 ∧ x 0 4 = 0 ∧ x 0 18 = 0 ∧ x 0 37 = 0 ∧ (∀ j : Int, 0 ≤ j → j < 3 → x 20 j = -1) ∧ (∀ j : Int, 0 ≤ j → j < 2 → x 27 j = 0) ∧ x 0 14 = 0 ∧ x 15 0 = 0 ∧ x 13 0 = 0 ∧ x 14 0 = 0
