/-! a rule read sign by sign, the reference: what its methods keep, told in words that stay shut -/
def BN (u v n : Int) : Prop := (u ≤ v ∧ n = u) ∨ (v < u ∧ n = v)
theorem bn_i {u v n : Int} (h : (u ≤ v ∧ n = u) ∨ (v < u ∧ n = v)) : BN u v n := h
theorem bn_o {u v n : Int} (h : BN u v n) : (u ≤ v ∧ n = u) ∨ (v < u ∧ n = v) := h
theorem bn_t {u v n s t : Int} (hu : s = u) (hv : t = v) (h : BN u v n) : BN s t n := by rw [hu, hv]; exact h
theorem bn_8 {u v n : Int} (h : BN u v n) : n ≤ v := by have q := bn_o h; omega
def AQT (f : Int → Int) (k n p : Int) (C : Int → Int) (R u9 u10 : Int) : Prop := u10 = (-1) → AQ f k n u9 0 p C = R
def AQF (R u10 : Int) : Prop := u10 ≠ (-1) → u10 = R
def PMq (f : Int → Int) (n u9 u10 : Int) : Prop := u10 = (-1) → u9 < n → f u9 ≠ 42 ∧ f u9 ≠ 47
def SMq (f : Int → Int) (n u9 u10 : Int) : Prop := u10 = (-1) → u9 < n → f u9 ≠ 42 ∧ f u9 ≠ 47 ∧ f u9 ≠ 43 ∧ f u9 ≠ 45
def HPT (f : Int → Int) (k n p : Int) (C : Int → Int) (R u9 u10 : Int) : Prop := u10 = (-1) → HP f k n u9 p C R
def NPq (f : Int → Int) (n a c u10 : Int) : Prop := ¬ (u10 = (-1) ∧ a < n ∧ f a = c)
theorem HP_cl {f : Int → Int} {n m p d R : Int} {C : Int → Int} (h : HP f n m p d C R) (a : p < m) (b : f p = 41) (c : 0 < d) : AQ f n m (p + 1) 0 (d - 1) C = R := by
  unfold HP at h
  exact h.1 a b c
theorem HP_no {f : Int → Int} {n m p d R : Int} {C : Int → Int} (h : HP f n m p d C R) (h0 : p ≤ m) (hd : 0 < d ∨ 40 < n) (b : ¬ (p < m ∧ f p = 41)) : R = p := by
  unfold HP at h
  by_cases c : p < m
  · exact h.2.2.1 c (fun e => b ⟨c, e⟩)
  · have e := h.2.2.2.1 (by omega) hd
    omega
theorem HP_z {f : Int → Int} {n m p R : Int} {C : Int → Int} (h : HP f n m p 0 C R) (h0 : p ≤ m) (hk : m ≤ p → 40 < n) : R = p := by
  unfold HP at h
  by_cases c : p < m
  · by_cases e : f p = 41
    · exact h.2.1 c e (by decide)
    · exact h.2.2.1 c e
  · have e := h.2.2.2.1 (by omega) (Or.inr (hk (by omega)))
    omega
theorem HP_y {f : Int → Int} {n m p R : Int} {C : Int → Int} (h : HP f n m p 0 C R) (a : m ≤ p) (b : n ≤ 40) : R = -1 := by
  unfold HP at h
  exact h.2.2.2.2 a (by decide) b
theorem dgn_w {f : Int → Int} {n a p : Int} (lo : a + 1 ≤ p) (hi : p ≤ a + 3) (h2 : a + 2 ≤ p → a + 1 < n ∧ 48 ≤ f (a + 1) ∧ f (a + 1) ≤ 57) (h3 : p = a + 1 → ¬ (a + 1 < n ∧ 48 ≤ f (a + 1) ∧ f (a + 1) ≤ 57)) (h4 : a + 3 ≤ p → a + 1 + 1 < n ∧ 48 ≤ f (a + 1 + 1) ∧ f (a + 1 + 1) ≤ 57) (h5 : p = a + 2 → (2 : Int) < 3 → ¬ (a + 1 + 1 < n ∧ 48 ≤ f (a + 1 + 1) ∧ f (a + 1 + 1) ≤ 57)) : p = a + dgn f n a := by
  have kd := @dgn_c f n a
  by_cases u : a + 1 < n ∧ 48 ≤ f (a + 1) ∧ f (a + 1) ≤ 57
  · by_cases v : a + 1 + 1 < n ∧ 48 ≤ f (a + 1 + 1) ∧ f (a + 1 + 1) ≤ 57
    · have k := kd.2.2 u v
      have t1 : p ≠ a + 1 := fun q => h3 q u
      have t2 : p ≠ a + 2 := fun q => h5 q (by decide) v
      clear kd h2 h3 h4 h5
      omega
    · have k := kd.2.1 u v
      have t1 : p ≠ a + 1 := fun q => h3 q u
      have t2 : ¬ a + 3 ≤ p := fun q => v (h4 q)
      clear kd h2 h3 h4 h5 u v
      omega
  · have k := kd.1 u
    have t1 : ¬ a + 2 ≤ p := fun q => u (h2 q)
    clear kd h2 h3 h4 h5 u
    omega
theorem rr3 (s t u : Int) : s ≠ (-1) ∨ (s = (-1) ∧ t < u) ∨ (s = (-1) ∧ u ≤ t) := by omega
theorem dgn_n {f : Int → Int} {m p : Int} (h : p < m) : p + dgn f m p ≤ m := by
  have kd := @dgn_c f m p
  by_cases u : p + 1 < m ∧ 48 ≤ f (p + 1) ∧ f (p + 1) ≤ 57
  · by_cases v : p + 1 + 1 < m ∧ 48 ≤ f (p + 1 + 1) ∧ f (p + 1 + 1) ≤ 57
    · have k := kd.2.2 u v
      clear kd
      omega
    · have k := kd.2.1 u v
      clear kd v
      omega
  · have k := kd.1 u
    clear kd u
    omega
