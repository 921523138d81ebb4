/-! an EDGE that comes, changes or goes -/
theorem ec_upd {f g : Int → Int} {q : Int} (h0 : 0 ≤ q) (he : ∀ j : Int, 0 ≤ j → j ≠ q → ep g j = ep f j) : ∀ n : Nat, ec g n = ec f n + (if q < n then ep g q - ep f q else 0)
  | 0 => by
    rw [if_neg (by omega)]
    rfl
  | n + 1 => by
    have ih := ec_upd h0 he n
    rw [ec, ec, ih]
    by_cases e : (n : Int) = q
    · rw [e, if_neg (by omega), if_pos (by omega)]
      omega
    · rw [he n (by omega) e]
      by_cases l : q < (n : Int)
      · rw [if_pos l, if_pos (by omega)]
        omega
      · rw [if_neg l, if_neg (by omega)]
        omega
theorem MI_weigh {f g : Int → Int} {a b w : Int} (h : MI f) (ha : 0 ≤ a) (ha7 : a < 7) (hb : 0 ≤ b) (hb7 : b < 7) (hab : a ≠ b) (hc : 0 < f (28 + 7 * a + b) ∨ ec f 49 ≠ 12) (g1 : g (28 + 7 * a + b) = w) (g2 : g (28 + 7 * b + a) = w) (go : ∀ i : Int, i ≠ 28 + 7 * a + b → i ≠ 28 + 7 * b + a → g i = f i) : MI g := by
  obtain ⟨hs, hn⟩ := h
  refine ⟨fun c d c0 c7 d0 d7 => ?_, ?_⟩
  · by_cases e1 : c = a ∧ d = b
    · obtain ⟨rfl, rfl⟩ := e1
      rw [g1, g2]
    · by_cases e2 : c = b ∧ d = a
      · obtain ⟨rfl, rfl⟩ := e2
        rw [g1, g2]
      · rw [go _ (by omega) (by omega), go _ (by omega) (by omega)]
        exact hs c d c0 c7 d0 d7
  · -- the place that counts
    obtain ⟨m, n, hm, hn7, hmn, hmm⟩ : ∃ m n : Int, 0 ≤ m ∧ n < 7 ∧ m < n ∧ ((m = a ∧ n = b) ∨ (m = b ∧ n = a)) := by
      by_cases l : a < b
      · exact ⟨a, b, ha, hb7, l, Or.inl ⟨rfl, rfl⟩⟩
      · exact ⟨b, a, hb, ha7, by omega, Or.inr ⟨rfl, rfl⟩⟩
    have key := ec_upd (f := f) (g := g) (q := 7 * m + n) (by omega) (fun j j0 jq => by
      unfold ep
      by_cases lt : j / 7 < j % 7
      · rw [go (28 + j) (by omega) (by omega)]
      · rw [if_neg (fun q => lt q.1), if_neg (fun q => lt q.1)]) 49
    rw [if_pos (by omega)] at key
    have k1 := ep_01 g (7 * m + n)
    have k2 := ep_01 f (7 * m + n)
    rcases hc with hc | hc
    · have k3 : ep f (7 * m + n) = 1 := by
        rw [ep_at (by omega) (by omega) (by omega) (by omega), if_pos]
        refine ⟨hmn, ?_⟩
        rcases hmm with ⟨rfl, rfl⟩ | ⟨rfl, rfl⟩
        · exact hc
        · rw [hs _ _ (by omega) (by omega) (by omega) (by omega)]
          exact hc
      omega
    · omega
theorem EC_weigh {f g : Int → Int} {a b w : Int} (h : MI f) (ha : 0 ≤ a) (ha7 : a < 7) (hb : 0 ≤ b) (hb7 : b < 7) (hab : a ≠ b) (hc : 0 < f (28 + 7 * a + b)) (hw : 0 < w) (g1 : g (28 + 7 * a + b) = w) (g2 : g (28 + 7 * b + a) = w) (go : ∀ i : Int, i ≠ 28 + 7 * a + b → i ≠ 28 + 7 * b + a → g i = f i) : ec g 49 = ec f 49 := by
  have hd : 0 < f (28 + 7 * b + a) := by
    rw [h.1 b a hb hb7 ha ha7]
    exact hc
  refine ec_cong (fun j hj => ?_)
  unfold ep
  by_cases e1 : (28 : Int) + j = 28 + 7 * a + b
  · rw [e1, g1]
    by_cases l : (j : Int) / 7 < (j : Int) % 7
    · rw [if_pos ⟨l, hw⟩, if_pos ⟨l, hc⟩]
    · rw [if_neg (fun q => l q.1), if_neg (fun q => l q.1)]
  · by_cases e2 : (28 : Int) + j = 28 + 7 * b + a
    · rw [e2, g2]
      by_cases l : (j : Int) / 7 < (j : Int) % 7
      · rw [if_pos ⟨l, hw⟩, if_pos ⟨l, hd⟩]
      · rw [if_neg (fun q => l q.1), if_neg (fun q => l q.1)]
    · rw [go _ e1 e2]
/-- what always holds of the reference -/
def GI (x : Mm) : Prop := MI (x 1) ∧ UB (x 8) ∧ KB (x 26) ∧ x 0 12 = 5
/-- LISTS and EDGES as they were, or a change is counted -/
def CHG (x y : Mm) : Prop := (y 0 21 = x 0 21 ∧ y 1 = x 1) ∨ (x 0 21 < y 0 21 ∧ y 0 21 ≤ x 0 21 + 3)
