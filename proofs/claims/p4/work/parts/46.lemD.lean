/-! how far a cursor can have gone; the greatest common divisor's depth -/
theorem mul_bb {a b A B : Int} (h0 : 0 ≤ a) (h1 : a ≤ A) (h2 : 0 ≤ b) (h3 : b ≤ B) : 0 ≤ a * b ∧ a * b ≤ A * B := ⟨Int.mul_nonneg h0 h2, Int.le_trans (Int.mul_le_mul_of_nonneg_right h1 h2) (Int.mul_le_mul_of_nonneg_left h3 (by omega))⟩
theorem mul_lo {a b M : Int} (h0 : 1 ≤ a) (h1 : 1 ≤ b) (h2 : b ≤ 1300) (h3 : a ≤ M) : 1 ≤ a * b ∧ a * b ≤ M * 1300 := by
  have k := mul_bb (a := a) (b := b) (A := M) (B := 1300) (by omega) h3 (by omega) h2
  have p := Int.mul_pos (show 0 < a by omega) (show 0 < b by omega)
  omega
def GD (e : Nat) (a b : Int) : Prop := 0 ≤ a ∧ 0 ≤ b ∧ (a + 1) * b < 2 ^ e ∧ (a < b → 2 * ((a + 1) * b) < 2 ^ e)
theorem GD_0 {a b : Int} (h0 : 0 ≤ a) (h1 : a ≤ b) (h2 : b ≤ 2197000000) : GD 64 a b := by
  have k := mul_bb (a := a + 1) (b := b) (A := 2197000001) (B := 2197000000) (by omega) (by omega) (by omega) (by omega)
  have p : (2 : Int) ^ 64 = 18446744073709551616 := by decide
  refine ⟨h0, by omega, ?_, fun _ => ?_⟩
  · rw [p]
    omega
  · rw [p]
    omega
theorem GD_s {e : Nat} {a b : Int} (h : GD e a b) (hb : 0 < b) : GD (e - 1) b (a % b) ∧ 1 ≤ e := by
  obtain ⟨a0, b0, h1, h2⟩ := h
  have r0 := Int.emod_nonneg a (show b ≠ 0 by omega)
  have r1 := Int.emod_lt_of_pos a hb
  have pos : 0 < (a + 1) * b := Int.mul_pos (by omega) hb
  have e1 : 1 ≤ e := by
    rcases Nat.eq_zero_or_pos e with q | q
    · subst q
      rw [show (2 : Int) ^ 0 = 1 from rfl] at h1
      omega
    · exact q
  have pw : (2 : Int) ^ e = 2 * 2 ^ (e - 1) := by
    obtain ⟨k, rfl⟩ : ∃ k, e = k + 1 := ⟨e - 1, by omega⟩
    rw [Int.pow_succ, Int.mul_comm, Nat.add_sub_cancel]
  have key : 2 * ((b + 1) * (a % b)) < 2 ^ e := by
    by_cases c : a < b
    · rw [Int.emod_eq_of_lt a0 c]
      have k := h2 c
      have : (b + 1) * a ≤ (a + 1) * b := by
        rw [Int.add_mul, Int.add_mul, Int.mul_comm b a]
        omega
      omega
    · have hq : b + a % b ≤ a := by
        have d := Int.emod_add_mul_ediv a b
        have q1 : 1 ≤ a / b := by
          have := Int.le_ediv_of_mul_le hb (show 1 * b ≤ a by omega)
          exact this
        have q2 := Int.mul_le_mul_of_nonneg_left q1 b0
        rw [Int.mul_one] at q2
        omega
      have k1 := mul_bb (a := b + a % b + 1) (b := b) (A := a + 1) (B := b) (by omega) (by omega) b0 (Int.le_refl _)
      have k2 : (b + a % b + 1) * b = b * b + (a % b) * b + b := by rw [Int.add_mul, Int.add_mul, Int.one_mul]
      have k3 : (b + 1) * (a % b) = (a % b) * b + a % b := by rw [Int.add_mul, Int.one_mul, Int.mul_comm b]
      have k4 := mul_bb (a := a % b + 1) (b := b) (A := b) (B := b) (by omega) (by omega) b0 (Int.le_refl _)
      have k5 : (a % b + 1) * b = (a % b) * b + b := by rw [Int.add_mul, Int.one_mul]
      omega
  refine ⟨⟨b0, r0, by omega, fun c => by omega⟩, e1⟩
noncomputable def capc (t : Int) (f : Int → Int) (k : Int) : Int := if k = 0 then ccp f 0 else if k = 1 then cn1 f else 720 + t
theorem cap_mono {t u : Int} {f : Int → Int} {k a : Int} (h : a ≤ capc t f k) (l : t ≤ u) : a ≤ capc u f k := by
  unfold capc at *
  split
  · rename_i c
    rw [if_pos c] at h
    exact h
  · rename_i c
    rw [if_neg c] at h
    split
    · rename_i d
      rw [if_pos d] at h
      exact h
    · rename_i d
      rw [if_neg d] at h
      omega
theorem cap_sk {t N a k : Int} {f : Int → Int} (h0 : k = 0 → N = ccp f 0) (h1 : k = 1 → N = cn1 f) (h2 : k ≠ 0 → k ≠ 1 → N ≤ 720) (ht : 0 ≤ t) (ha : a ≤ N) : a ≤ capc t f k := by
  unfold capc
  split
  · rename_i c
    rw [← h0 c]
    exact ha
  · rename_i c
    split
    · rename_i d
      rw [← h1 d]
      exact ha
    · rename_i d
      have := h2 c d
      omega
theorem cap_go {t N a k : Int} {f : Int → Int} (hc : a ≤ capc t f k) (h0 : k = 0 → N = ccp f 0) (h1 : k = 1 → N = cn1 f) (hN : N ≤ 1300) (ht : t ≤ 512) (hne : N ≠ a) : a + 1 ≤ 1300 ∧ a + 1 ≤ capc (t + 1) f k := by
  unfold capc at *
  split
  · rename_i c
    rw [if_pos c, ← h0 c] at hc
    rw [← h0 c]
    omega
  · rename_i c
    rw [if_neg c] at hc
    split
    · rename_i d
      rw [if_pos d, ← h1 d] at hc
      rw [← h1 d]
      omega
    · rename_i d
      rw [if_neg d] at hc
      omega
def CU (t : Int) (x : Mm) : Prop := ∀ c : Int, 0 ≤ c → c < 3 → x 20 c = -1 ∨ x 22 c < x 0 21 ∨ (x 22 c = x 0 21 ∧ x 21 c ≤ capc t (x 1) (x 20 c))
theorem CU_chg {t : Int} {x y : Mm} (h : CU t x) (g : CHG x y) (h0 : y 20 = x 20) (h1 : y 21 = x 21) (h2 : y 22 = x 22) : CU (t + 1) y := by
  intro c c0 c3
  have k := h c c0 c3
  rw [h0, h1, h2]
  rcases g with ⟨g1, g2⟩ | g1
  · rw [g1, g2]
    rcases k with k | k | k
    · exact Or.inl k
    · exact Or.inr (Or.inl k)
    · exact Or.inr (Or.inr ⟨k.1, cap_mono k.2 (by omega)⟩)
  · rcases k with k | k | k
    · exact Or.inl k
    · exact Or.inr (Or.inl (by omega))
    · exact Or.inr (Or.inl (by omega))
theorem CU_id {t : Int} {x y : Mm} (h : CU t x) (g0 : y 0 21 = x 0 21) (g1 : y 1 = x 1) (h0 : y 20 = x 20) (h1 : y 21 = x 21) (h2 : y 22 = x 22) : CU (t + 1) y := CU_chg h (Or.inl ⟨g0, g1⟩) h0 h1 h2
theorem CU_set {t p : Int} {x y : Mm} (h : CU t x) (g0 : y 0 21 = x 0 21) (g1 : y 1 = x 1) (h0 : ∀ j : Int, j ≠ p → y 20 j = x 20 j) (h1 : ∀ j : Int, j ≠ p → y 21 j = x 21 j) (h2 : ∀ j : Int, j ≠ p → y 22 j = x 22 j) (hp : y 21 p ≤ capc (t + 1) (x 1) (y 20 p)) (hb : y 22 p = x 0 21) : CU (t + 1) y := by
  intro c c0 c3
  by_cases e : c = p
  · subst e
    exact Or.inr (Or.inr ⟨by omega, by rw [g1]; exact hp⟩)
  · have k := h c c0 c3
    rw [h0 c e, h1 c e, h2 c e, g0, g1]
    rcases k with k | k | k
    · exact Or.inl k
    · exact Or.inr (Or.inl k)
    · exact Or.inr (Or.inr ⟨k.1, cap_mono k.2 (by omega)⟩)
