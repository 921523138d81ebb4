/-! ints as Int: iI z, lI z are the machine's numbers of z; arithmetic needs no bounds, comparing needs them -/
def iI (z : Int) : Int32 := Int32.ofInt z
def lI (z : Int) : Int64 := Int64.ofInt z
abbrev fm_r (z : Int) : Prop := -2147483648 ≤ z ∧ z ≤ 2147483647
abbrev fm_l (z : Int) : Prop := -9223372036854775808 ≤ z ∧ z ≤ 9223372036854775807
abbrev vi (z : Int) : Value := .int (iI z)
abbrev vj (z : Int) : Value := .long (lI z)
set_option maxHeartbeats 40000 in
theorem iI_inj {a b : Int} (ha : fm_r a) (hb : fm_r b) (h : iI a = iI b) : a = b := by
  have h1 : (iI a).toInt = (iI b).toInt := by rw [h]
  rw [iI, iI, Int32.toInt_ofInt_of_le (by omega) (by omega), Int32.toInt_ofInt_of_le (by omega) (by omega)] at h1
  exact h1
set_option maxHeartbeats 40000 in
theorem iI_t {a : Int} (h : fm_r a) : (iI a).toInt = a := Int32.toInt_ofInt_of_le (by omega) (by omega)
set_option maxHeartbeats 40000 in
theorem lI_t {a : Int} (h : fm_l a) : (lI a).toInt = a := Int64.toInt_ofInt_of_le (by omega) (by omega)
set_option maxHeartbeats 40000 in
theorem iI_of (x : Int32) : iI x.toInt = x := Int32.ofInt_toInt x
set_option maxHeartbeats 40000 in
theorem lI_of (x : Int64) : lI x.toInt = x := Int64.ofInt_toInt x
set_option maxHeartbeats 40000 in
theorem iI_r (x : Int32) : fm_r x.toInt := ⟨by have := x.le_toInt; omega, by have := x.toInt_lt; omega⟩
set_option maxHeartbeats 40000 in
theorem lI_r (x : Int64) : fm_l x.toInt := ⟨by have := x.le_toInt; omega, by have := x.toInt_lt; omega⟩
set_option maxHeartbeats 40000 in
theorem iI_ex (x : Int32) : ∃ z, fm_r z ∧ x = iI z := ⟨x.toInt, iI_r x, (iI_of x).symm⟩
set_option maxHeartbeats 40000 in
theorem lI_ex (x : Int64) : ∃ z, fm_l z ∧ x = lI z := ⟨x.toInt, lI_r x, (lI_of x).symm⟩
set_option maxHeartbeats 40000 in
theorem iI_add (a b : Int) : iI a + iI b = iI (a + b) := (Int32.ofInt_add a b).symm
set_option maxHeartbeats 40000 in
theorem iI_sub (a b : Int) : iI a - iI b = iI (a - b) := (Int32.ofInt_sub a b).symm
set_option maxHeartbeats 40000 in
theorem iI_mul (a b : Int) : iI a * iI b = iI (a * b) := (Int32.ofInt_mul a b).symm
set_option maxHeartbeats 40000 in
theorem iI_neg (a : Int) : -iI a = iI (-a) := (Int32.ofInt_neg a).symm
set_option maxHeartbeats 40000 in
theorem lI_add (a b : Int) : lI a + lI b = lI (a + b) := (Int64.ofInt_add a b).symm
set_option maxHeartbeats 40000 in
theorem lI_sub (a b : Int) : lI a - lI b = lI (a - b) := (Int64.ofInt_sub a b).symm
set_option maxHeartbeats 40000 in
theorem lI_mul (a b : Int) : lI a * lI b = lI (a * b) := (Int64.ofInt_mul a b).symm
set_option maxHeartbeats 40000 in
theorem iI_lt {a b : Int} (ha : fm_r a) (hb : fm_r b) : iI a < iI b ↔ a < b := by rw [Int32.lt_iff_toInt_lt, iI_t ha, iI_t hb]
set_option maxHeartbeats 40000 in
theorem iI_le {a b : Int} (ha : fm_r a) (hb : fm_r b) : iI a ≤ iI b ↔ a ≤ b := by rw [Int32.le_iff_toInt_le, iI_t ha, iI_t hb]
set_option maxHeartbeats 40000 in
theorem iI_eq {a b : Int} (ha : fm_r a) (hb : fm_r b) : iI a = iI b ↔ a = b := ⟨iI_inj ha hb, fun h => by rw [h]⟩
set_option maxHeartbeats 40000 in
theorem lI_lt {a b : Int} (ha : fm_l a) (hb : fm_l b) : lI a < lI b ↔ a < b := by rw [Int64.lt_iff_toInt_lt, lI_t ha, lI_t hb]
set_option maxHeartbeats 40000 in
theorem lI_le {a b : Int} (ha : fm_l a) (hb : fm_l b) : lI a ≤ lI b ↔ a ≤ b := by rw [Int64.le_iff_toInt_le, lI_t ha, lI_t hb]
set_option maxHeartbeats 40000 in
theorem lI_inj {a b : Int} (ha : fm_l a) (hb : fm_l b) (h : lI a = lI b) : a = b := by
  have h1 : (lI a).toInt = (lI b).toInt := by rw [h]
  rw [lI_t ha, lI_t hb] at h1
  exact h1
set_option maxHeartbeats 40000 in
theorem lI_eq {a b : Int} (ha : fm_l a) (hb : fm_l b) : lI a = lI b ↔ a = b := ⟨lI_inj ha hb, fun h => by rw [h]⟩
set_option maxHeartbeats 40000 in
theorem iI_0 : iI 0 = 0 := rfl
set_option maxHeartbeats 40000 in
theorem lI_0 : lI 0 = 0 := rfl
set_option maxHeartbeats 40000 in
theorem iI_cl {a : Int} (h0 : 0 ≤ a) (h : a ≤ 2147483647) : (iI a).toNatClampNeg = a.toNat := Int32.toNatClampNeg_ofInt_of_le (by omega) (by omega)
set_option maxHeartbeats 40000 in
theorem iI_in {a : Int} {n : Nat} (h0 : 0 ≤ a) (h : a < n) (hn : n ≤ 2147483647) : vp_in (iI a) n := vp_in_iff.mpr ⟨by rw [iI_t (by omega)]; exact h0, by rw [iI_t (by omega)]; exact h⟩
set_option maxHeartbeats 40000 in
theorem iI_l {a : Int} (h : fm_r a) : (iI a).toInt64 = lI a := by
  apply Int64.toInt_inj.mp
  rw [Int32.toInt_toInt64, iI_t h, lI_t (by omega)]
set_option maxHeartbeats 40000 in
theorem iI_nat (n : Nat) : iI (n : Int) = Int32.ofNat n := Int32.ofInt_eq_ofNat
set_option maxHeartbeats 40000 in
theorem iI_div {a b : Int} (ha : fm_r a) (hb : fm_r b) (h0 : b ≠ 0) : ∃ z, fm_r z ∧ iI a / iI b = iI z ∧ (0 ≤ a → 0 < b → z = a / b) := by
  refine ⟨(iI a / iI b).toInt, iI_r _, (iI_of _).symm, fun h1 h2 => ?_⟩
  rw [Int32.toInt_div, iI_t ha, iI_t hb]
  have h3 : a.tdiv b = a / b := Int.tdiv_eq_ediv_of_nonneg h1
  have h4 : a / b ≤ a := Int.ediv_le_self b h1
  have h5 : 0 ≤ a / b := Int.ediv_nonneg h1 (by omega)
  rw [h3]
  exact Int.bmod_eq_of_le (by omega) (by omega)
