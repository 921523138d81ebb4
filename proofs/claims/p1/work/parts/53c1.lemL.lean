/-! a list told as a text, the reference: what its loop keeps, told in a word that stays shut -/
def LV (f : Int → Int) (m n r u9 u10 : Int) : Prop := (n ≤ 6 ∨ u10 ≠ (-1)) ∧ (0 ≤ u9 ∧ u9 ≤ m) ∧ (u10 = (-1) → r = 1 → 0 < m ∧ LSi f m n u9 = LSi f m 0 0) ∧ (u10 = (-1) → r = 0 → (m = 0 ∧ n = 0) ∨ (0 < m ∧ (u9 < m → LSi f m 0 0 = -1 - u9) ∧ (u9 = m → LSi f m 0 0 = n))) ∧ (u10 ≠ (-1) → 0 < m ∧ 0 ≤ u10 ∧ LSi f m 0 0 = -1 - u10)
def NMq (f : Int → Int) (m u w9 w10 : Int) : Prop := (¬ (u < m ∧ 48 ≤ f (u) ∧ f (u) ≤ 57) → w9 = u ∧ w10 = u) ∧ ((u < m ∧ 48 ≤ f (u) ∧ f (u) ≤ 57) → w10 = (-1) ∧ u + 1 ≤ w9 ∧ w9 ≤ u + 2) ∧ ((u < m ∧ 48 ≤ f (u) ∧ f (u) ≤ 57) → u + 2 ≤ w9 → (u + 1 < m ∧ 48 ≤ f (u + 1) ∧ f (u + 1) ≤ 57)) ∧ ((u < m ∧ 48 ≤ f (u) ∧ f (u) ≤ 57) → w9 = u + 1 → ¬ (u + 1 < m ∧ 48 ≤ f (u + 1) ∧ f (u + 1) ≤ 57))
theorem NMq_o {f : Int → Int} {m u w9 w10 : Int} (h : NMq f m u w9 w10) : (¬ (u < m ∧ 48 ≤ f (u) ∧ f (u) ≤ 57) → w9 = u ∧ w10 = u) ∧ ((u < m ∧ 48 ≤ f (u) ∧ f (u) ≤ 57) → w10 = (-1) ∧ u + 1 ≤ w9 ∧ w9 ≤ u + 2) ∧ ((u < m ∧ 48 ≤ f (u) ∧ f (u) ≤ 57) → u + 2 ≤ w9 → (u + 1 < m ∧ 48 ≤ f (u + 1) ∧ f (u + 1) ≤ 57)) ∧ ((u < m ∧ 48 ≤ f (u) ∧ f (u) ≤ 57) → w9 = u + 1 → ¬ (u + 1 < m ∧ 48 ≤ f (u + 1) ∧ f (u + 1) ≤ 57)) := h
theorem NMq_9 {f : Int → Int} {m u w9 w10 : Int} (h : NMq f m u w9 w10) (hu : 0 ≤ u ∧ u ≤ m) : u ≤ w9 ∧ w9 ≤ m := by
  obtain ⟨N0, N1, N2, N3⟩ := NMq_o h
  by_cases a : u < m ∧ 48 ≤ f (u) ∧ f (u) ≤ 57
  · have n1 := N1 a
    have n2 := N2 a
    clear N0 N1 N2 N3 h
    omega
  · have n0 := N0 a
    clear N0 N1 N2 N3 h a
    omega
theorem LV_i {f : Int → Int} {m n r u9 u10 : Int} (a : n ≤ 6 ∨ u10 ≠ (-1)) (b : 0 ≤ u9 ∧ u9 ≤ m) (c : u10 = (-1) → r = 1 → 0 < m ∧ LSi f m n u9 = LSi f m 0 0) (d : u10 = (-1) → r = 0 → (m = 0 ∧ n = 0) ∨ (0 < m ∧ (u9 < m → LSi f m 0 0 = -1 - u9) ∧ (u9 = m → LSi f m 0 0 = n))) (e : u10 ≠ (-1) → 0 < m ∧ 0 ≤ u10 ∧ LSi f m 0 0 = -1 - u10) : LV f m n r u9 u10 := ⟨a, b, c, d, e⟩
theorem LV_o {f : Int → Int} {m n r u9 u10 : Int} (h : LV f m n r u9 u10) : (n ≤ 6 ∨ u10 ≠ (-1)) ∧ (0 ≤ u9 ∧ u9 ≤ m) ∧ (u10 = (-1) → r = 1 → 0 < m ∧ LSi f m n u9 = LSi f m 0 0) ∧ (u10 = (-1) → r = 0 → (m = 0 ∧ n = 0) ∨ (0 < m ∧ (u9 < m → LSi f m 0 0 = -1 - u9) ∧ (u9 = m → LSi f m 0 0 = n))) ∧ (u10 ≠ (-1) → 0 < m ∧ 0 ≤ u10 ∧ LSi f m 0 0 = -1 - u10) := h
theorem LV_9 {f : Int → Int} {m n r u9 u10 : Int} (h : LV f m n r u9 u10) : 0 ≤ u9 ∧ u9 ≤ m := (LV_o h).2.1
theorem LV_n {f : Int → Int} {m n r u9 u10 : Int} (h : LV f m n r u9 u10) (e : u10 = (-1)) : n ≤ 6 := (LV_o h).1.resolve_right (fun q => q e)
theorem LV_0 {f : Int → Int} {m n r u9 u10 : Int} (h9 : u9 = 0) (hu : u10 = (-1)) (hn : n = 0) (hr : (0 < m ∧ r = 1) ∨ (m = 0 ∧ r = 0)) : LV f m n r u9 u10 := by
  rcases hr with ⟨a, b⟩ | ⟨a, b⟩
  · refine LV_i (by omega) (by omega) (fun _ _ => ⟨a, by rw [hn, h9]⟩) (fun _ q => absurd q (by omega)) (fun q => absurd hu q)
  · refine LV_i (by omega) (by omega) (fun _ q => absurd q (by omega)) (fun _ _ => Or.inl ⟨a, hn⟩) (fun q => absurd hu q)
set_option maxHeartbeats 800000 in
theorem LV_s {f : Int → Int} {m n r u u10 w9 w10 s9 s10 v9 v10 z : Int} (h : LV f m n r u u10) (hu : u10 = (-1)) (hr : r = 1) (h0 : 0 ≤ n) (h5 : n ≤ 5)
    (N : NMq f m u w9 w10)
    (es : s9 = w9) (et : s10 = w10) (ev : v10 = s10) (z01 : z = 0 ∨ z = 1) (zi : z = 1 ↔ s10 = (-1) ∧ s9 < m ∧ f s9 = 44) (z1 : z = 1 → v9 = s9 + 1) (z0 : z = 0 → v9 = s9) : LV f m (n + 1) z v9 v10 := by
  obtain ⟨k1, k2, k3, k4, k5⟩ := LV_o h
  obtain ⟨hm, hl⟩ := k3 hu hr
  obtain ⟨q1, q2, q3⟩ := LSi_k (f := f) (n := m) (i := n) (p := u) h0 h5
  obtain ⟨N0, N1, N2, N3⟩ := NMq_o N
  clear N
  clear k1 k3 k4 k5 h
  subst s9
  subst s10
  subst v10
  by_cases a : u < m ∧ 48 ≤ f u ∧ f u ≤ 57
  · obtain ⟨n1, n2, n3⟩ := N1 a
    have N2 := N2 a
    have N3 := N3 a
    clear N0 N1 q1
    have q2 := q2 a
    have q3 := q3 a
    by_cases b : w9 = u + 1
    · have nd := N3 b
      obtain ⟨t1, t2, t3⟩ := q2 nd
      clear q2 q3 N2 N3 nd
      rw [b] at zi z1 z0
      rcases z01 with c | c
      · have nz := mt zi.2 (show ¬ z = 1 by omega)
        have e9 := z0 c
        clear zi z1 z0
        refine LV_i (by omega) (by omega) (fun _ q => absurd q (by omega)) (fun _ _ => Or.inr ⟨hm, fun u1 => ?_, fun u1 => ?_⟩) (fun q => absurd n1 q)
        · have t := t3 (by omega) (fun v => nz ⟨n1, by omega, v⟩)
          omega
        · have t := t1 (by omega)
          omega
      · have nz := zi.1 c
        have e9 := z1 c
        clear zi z1 z0
        refine LV_i (by omega) (by omega) (fun _ _ => ⟨hm, ?_⟩) (fun _ q => absurd q (by omega)) (fun q => absurd n1 q)
        have t := t2 (by omega) nz.2.2
        rw [e9]
        omega
    · have b2 : w9 = u + 1 + 1 := by omega
      have nd := N2 (by omega)
      obtain ⟨t1, t2, t3⟩ := q3 nd
      clear q2 q3 N2 N3
      rw [b2] at zi z1 z0
      rcases z01 with c | c
      · have nz := mt zi.2 (show ¬ z = 1 by omega)
        have e9 := z0 c
        clear zi z1 z0
        refine LV_i (by omega) (by omega) (fun _ q => absurd q (by omega)) (fun _ _ => Or.inr ⟨hm, fun u1 => ?_, fun u1 => ?_⟩) (fun q => absurd n1 q)
        · have t := t3 (by omega) (fun v => nz ⟨n1, by omega, v⟩)
          omega
        · have t := t1 (by omega)
          omega
      · have nz := zi.1 c
        have e9 := z1 c
        clear zi z1 z0
        refine LV_i (by omega) (by omega) (fun _ _ => ⟨hm, ?_⟩) (fun _ q => absurd q (by omega)) (fun q => absurd n1 q)
        have t := t2 (by omega) nz.2.2
        rw [e9]
        omega
  · obtain ⟨n1, n2⟩ := N0 a
    have t := q1 a
    have zz : z = 0 := z01.resolve_right (fun c => by have t := (zi.1 c).1; omega)
    have e9 := z0 zz
    clear zi z1 z0 q1 q2 q3 N0 N1 N2 N3 a
    refine LV_i (by omega) (by omega) (fun q => absurd q (by omega)) (fun q => absurd q (by omega)) (fun _ => ⟨hm, by omega, by omega⟩)
theorem LV_f {f : Int → Int} {m n r u u10 s9 s10 v9 v10 z : Int} (h : LV f m n r u u10) (hu : u10 = (-1)) (hr : r = 1) (h6 : n = 6) (es : s9 = u) (et : s10 = u) (ev : v10 = s10) (z01 : z = 0 ∨ z = 1) (zi : z = 1 ↔ s10 = (-1) ∧ s9 < m ∧ f s9 = 44) (z0 : z = 0 → v9 = s9) : LV f m (n + 1) z v9 v10 := by
  obtain ⟨k1, k2, k3, k4, k5⟩ := LV_o h
  obtain ⟨hm, hl⟩ := k3 hu hr
  have zz : z = 0 := z01.resolve_right (fun c => by have t := (zi.1 c).1; omega)
  have e9 := z0 zz
  rw [h6, LSi_6] at hl
  clear k1 k3 k4 k5 zi z0 z01
  refine LV_i (by omega) (by omega) (fun q => absurd q (by omega)) (fun q => absurd q (by omega)) (fun _ => ⟨hm, by omega, by omega⟩)
theorem LV_w {f : Int → Int} {m n r u9 u10 v10 : Int} (h : LV f m n r u9 u10) (hx : r = 0 ∨ u10 ≠ (-1)) (h2 : u10 ≠ (-1) → v10 = u10) (h3 : m ≤ u9 → v10 = u10) (h4 : u9 < m → u10 = (-1) → v10 = u9) : (v10 ≠ (-1) → 0 < m ∧ LSi f m 0 0 = -1 - v10 ∧ LSi f m 0 0 < 0) ∧ (v10 = (-1) → n ≤ 6 ∧ ((m = 0 ∧ n = 0) ∨ (0 < m ∧ LSi f m 0 0 = n))) := by
  obtain ⟨k1, k2, k3, k4, k5⟩ := LV_o h
  by_cases a : u10 = (-1)
  · have k4 := k4 a (hx.resolve_right (fun q => q a))
    clear k5 k3 h2 hx
    have k1 : n ≤ 6 := k1.resolve_right (fun q => q a)
    by_cases b : u9 < m
    · have e := h4 b a
      have k4 := k4.resolve_left (fun q => by omega)
      have t := k4.2.1 b
      exact ⟨fun _ => ⟨k4.1, by omega, by omega⟩, fun q => absurd q (by omega)⟩
    · have e := h3 (by omega)
      refine ⟨fun q => absurd q (by omega), fun _ => ⟨k1, ?_⟩⟩
      rcases k4 with c | c
      · exact Or.inl c
      · exact Or.inr ⟨c.1, c.2.2 (by omega)⟩
  · have e := h2 a
    have t := k5 a
    exact ⟨fun _ => ⟨t.1, by omega, by omega⟩, fun q => absurd q (by omega)⟩
