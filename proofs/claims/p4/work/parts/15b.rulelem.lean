/-! the waiting operators of a RULE that is read: as many open brackets among them as the depth says -/
abbrev okw (v : Int) : Prop := v = 40 ∨ v = 60 ∨ v = 61 ∨ v = 62 ∨ v = 43 ∨ v = 45 ∨ v = 42 ∨ v = 47 ∨ v = 256
def cn40 (f : Int → Int) : Nat → Int
  | 0 => 0
  | n + 1 => cn40 f n + (if f n = 40 then 1 else 0)
theorem cn40_cong {f g : Int → Int} : ∀ {n : Nat}, (∀ j : Nat, j < n → f j = g j) → cn40 f n = cn40 g n
  | 0, _ => rfl
  | n + 1, h => by rw [cn40, cn40, cn40_cong (fun j hj => h j (by omega)), h n (by omega)]
theorem cn40_pos {f : Int → Int} : ∀ {n : Nat}, 0 < cn40 f n → 0 < n
  | 0, h => absurd h (by simp [cn40])
  | n + 1, _ => Nat.succ_pos n
def RuP (x : Mm) (r : Int) : Prop := 0 ≤ x r 5 ∧ cn40 (x (r + 2)) (x r 5).toNat = x r 6 ∧ ∀ j : Int, 0 ≤ j → j < x r 5 → okw (x (r + 2) j)
theorem RuP_0 {x : Mm} {r : Int} (h5 : x r 5 = 0) (h6 : x r 6 = 0) : RuP x r := by
  refine ⟨by omega, ?_, fun j h0 h1 => absurd h1 (by omega)⟩
  rw [h5, h6]
  rfl
theorem RuP_keep {x y : Mm} {r : Int} (h : RuP x r) (h5 : y r 5 = x r 5) (h6 : y r 6 = x r 6) (hw : y (r + 2) = x (r + 2)) : RuP y r := by
  unfold RuP
  rw [h5, h6, hw]
  exact h
theorem RuP_push {x y : Mm} {r v : Int} (h : RuP x r) (h5 : y r 5 = x r 5 + 1) (hv : y (r + 2) (x r 5) = v) (hs : ∀ j : Int, j ≠ x r 5 → y (r + 2) j = x (r + 2) j) (hok : okw v) (h6 : y r 6 = x r 6 + (if v = 40 then 1 else 0)) : RuP y r := by
  obtain ⟨h1, h2, h3⟩ := h
  refine ⟨by omega, ?_, fun j h0 hj => ?_⟩
  · have e : (y r 5).toNat = (x r 5).toNat + 1 := by omega
    have e2 : (((x r 5).toNat : Nat) : Int) = x r 5 := by omega
    rw [e, cn40, e2, hv, h6, ← h2]
    rw [cn40_cong (g := x (r + 2)) (fun j hj => hs j (by omega))]
  · by_cases q : j = x r 5
    · rw [q, hv]; exact hok
    · rw [hs j q]; exact h3 j h0 (by omega)
theorem RuP_pop {x y : Mm} {r : Int} (h : RuP x r) (hp : 0 < x r 5) (h5 : y r 5 = x r 5 - 1) (hw : y (r + 2) = x (r + 2)) (h6 : y r 6 = x r 6 - (if x (r + 2) (x r 5 - 1) = 40 then 1 else 0)) : RuP y r := by
  obtain ⟨h1, h2, h3⟩ := h
  refine ⟨by omega, ?_, fun j h0 hj => ?_⟩
  · have e : (x r 5).toNat = (y r 5).toNat + 1 := by omega
    have e2 : (((y r 5).toNat : Nat) : Int) = x r 5 - 1 := by omega
    rw [e, cn40, e2] at h2
    rw [hw, h6, ← h2]
    omega
  · rw [hw]; exact h3 j h0 (by omega)
theorem RuP_pos {x : Mm} {r : Int} (h : RuP x r) (h6 : 0 < x r 6) : 0 < x r 5 := by
  have h1 := h.1
  have h2 := h.2.1
  have h3 := cn40_pos (f := x (r + 2)) (n := (x r 5).toNat) (by omega)
  omega
theorem RuP_top {x : Mm} {r t : Int} (h : RuP x r) (hp : 0 < x r 5) (ht : t = x r 5 - 1) : okw (x (r + 2) t) := by
  subst ht
  exact h.2.2 _ (by omega) (by omega)
