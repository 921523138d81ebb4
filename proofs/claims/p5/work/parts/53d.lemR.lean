/-! a rule, read sign by sign: p the place, w = 1 where a thing is due, d the depth, C which depths have compared; the answer is the place that can't stand, or -1 -/
abbrev lt7 (v : Int) : Prop := v = 115 ∨ v = 109 ∨ v = 108 ∨ v = 102 ∨ v = 101 ∨ v = 112 ∨ v = 110
abbrev cm3 (v : Int) : Prop := v = 60 ∨ v = 61 ∨ v = 62
abbrev bn4 (v : Int) : Prop := v = 43 ∨ v = 45 ∨ v = 42 ∨ v = 47
def dgn (f : Int → Int) (m p : Int) : Int := if p + 1 < m ∧ 48 ≤ f (p + 1) ∧ f (p + 1) ≤ 57 then (if p + 1 + 1 < m ∧ 48 ≤ f (p + 1 + 1) ∧ f (p + 1 + 1) ≤ 57 then 3 else 2) else 1
theorem dgn_b {f : Int → Int} {m p : Int} : 1 ≤ dgn f m p ∧ dgn f m p ≤ 3 := by
  unfold dgn
  by_cases a : p + 1 < m ∧ 48 ≤ f (p + 1) ∧ f (p + 1) ≤ 57
  · rw [if_pos a]
    by_cases b : p + 1 + 1 < m ∧ 48 ≤ f (p + 1 + 1) ∧ f (p + 1 + 1) ≤ 57
    · rw [if_pos b]; omega
    · rw [if_neg b]; omega
  · rw [if_neg a]; omega
theorem dgn_c {f : Int → Int} {m p : Int} : (¬ (p + 1 < m ∧ 48 ≤ f (p + 1) ∧ f (p + 1) ≤ 57) → dgn f m p = 1) ∧ ((p + 1 < m ∧ 48 ≤ f (p + 1) ∧ f (p + 1) ≤ 57) → ¬ (p + 1 + 1 < m ∧ 48 ≤ f (p + 1 + 1) ∧ f (p + 1 + 1) ≤ 57) → dgn f m p = 2) ∧ ((p + 1 < m ∧ 48 ≤ f (p + 1) ∧ f (p + 1) ≤ 57) → (p + 1 + 1 < m ∧ 48 ≤ f (p + 1 + 1) ∧ f (p + 1 + 1) ≤ 57) → dgn f m p = 3) := by
  unfold dgn
  refine ⟨fun a => ?_, fun a b => ?_, fun a b => ?_⟩
  · rw [if_neg a]
  · rw [if_pos a, if_neg b]
  · rw [if_pos a, if_pos b]
theorem dgn_f {f g : Int → Int} {m p : Int} (h : ∀ j : Int, 0 ≤ j → j < m → f j = g j) (h0 : 0 ≤ p) : dgn f m p = dgn g m p := by
  have e1 : (p + 1 < m ∧ 48 ≤ f (p + 1) ∧ f (p + 1) ≤ 57) ↔ (p + 1 < m ∧ 48 ≤ g (p + 1) ∧ g (p + 1) ≤ 57) := ⟨fun q => ⟨q.1, by rw [← h (p + 1) (by omega) q.1]; exact q.2⟩, fun q => ⟨q.1, by rw [h (p + 1) (by omega) q.1]; exact q.2⟩⟩
  have e2 : (p + 1 + 1 < m ∧ 48 ≤ f (p + 1 + 1) ∧ f (p + 1 + 1) ≤ 57) ↔ (p + 1 + 1 < m ∧ 48 ≤ g (p + 1 + 1) ∧ g (p + 1 + 1) ≤ 57) := ⟨fun q => ⟨q.1, by rw [← h (p + 1 + 1) (by omega) q.1]; exact q.2⟩, fun q => ⟨q.1, by rw [h (p + 1 + 1) (by omega) q.1]; exact q.2⟩⟩
  unfold dgn
  by_cases a : p + 1 < m ∧ 48 ≤ f (p + 1) ∧ f (p + 1) ≤ 57
  · rw [if_pos a, if_pos (e1.mp a)]
    by_cases b : p + 1 + 1 < m ∧ 48 ≤ f (p + 1 + 1) ∧ f (p + 1 + 1) ≤ 57
    · rw [if_pos b, if_pos (e2.mp b)]
    · rw [if_neg b, if_neg (fun q => b (e2.mpr q))]
  · rw [if_neg a, if_neg (fun q => a (e1.mpr q))]
def upf (C : Int → Int) (d v : Int) : Int → Int := fun j => if j = d then v else C j
theorem upf_s {C : Int → Int} {d v : Int} : upf C d v d = v := if_pos rfl
theorem upf_o {C : Int → Int} {d v j : Int} (h : j ≠ d) : upf C d v j = C j := if_neg h
def AQ (f : Int → Int) (n m p w d : Int) (C : Int → Int) : Int :=
  if h : p < m then
    if w = 1 then
      if 48 ≤ f p ∧ f p ≤ 57 then AQ f n m (p + dgn f m p) 0 d C
      else if f p = 45 then AQ f n m (p + 1) 1 d C
      else if f p = 40 then (if d < 4 then AQ f n m (p + 1) 1 (d + 1) (upf C (d + 1) 0) else p)
      else if lt7 (f p) then AQ f n m (p + 1) 0 d C
      else p
    else
      if f p = 41 then (if 0 < d then AQ f n m (p + 1) 0 (d - 1) C else p)
      else if cm3 (f p) then (if C d = 1 then p else AQ f n m (p + 1) 1 d (upf C d 1))
      else if bn4 (f p) then AQ f n m (p + 1) 1 d C
      else p
  else if w = 1 ∨ 0 < d ∨ 40 < n then m else -1
termination_by (m - p).toNat
decreasing_by
  all_goals
    have hb := @dgn_b f m p
    omega
theorem AQ_unf (f : Int → Int) (n m p w d : Int) (C : Int → Int) : AQ f n m p w d C =
  if p < m then
    if w = 1 then
      if 48 ≤ f p ∧ f p ≤ 57 then AQ f n m (p + dgn f m p) 0 d C
      else if f p = 45 then AQ f n m (p + 1) 1 d C
      else if f p = 40 then (if d < 4 then AQ f n m (p + 1) 1 (d + 1) (upf C (d + 1) 0) else p)
      else if lt7 (f p) then AQ f n m (p + 1) 0 d C
      else p
    else
      if f p = 41 then (if 0 < d then AQ f n m (p + 1) 0 (d - 1) C else p)
      else if cm3 (f p) then (if C d = 1 then p else AQ f n m (p + 1) 1 d (upf C d 1))
      else if bn4 (f p) then AQ f n m (p + 1) 1 d C
      else p
  else if w = 1 ∨ 0 < d ∨ 40 < n then m else -1 := by
  rw [AQ]
  by_cases h : p < m
  · rw [dif_pos h, if_pos h]
  · rw [dif_neg h, if_neg h]
section
variable {f : Int → Int} {n m p d : Int} {C : Int → Int}
theorem AQ_dig (h : p < m) (h1 : 48 ≤ f p) (h2 : f p ≤ 57) : AQ f n m p 1 d C = AQ f n m (p + dgn f m p) 0 d C := by
  rw [AQ_unf f n m p 1 d C, if_pos h, if_pos rfl, if_pos ⟨h1, h2⟩]
theorem AQ_neg (h : p < m) (h1 : f p = 45) : AQ f n m p 1 d C = AQ f n m (p + 1) 1 d C := by
  rw [AQ_unf f n m p 1 d C, if_pos h, if_pos rfl, if_neg (by omega), if_pos h1]
theorem AQ_opn (h : p < m) (h1 : f p = 40) (hd : d < 4) : AQ f n m p 1 d C = AQ f n m (p + 1) 1 (d + 1) (upf C (d + 1) 0) := by
  rw [AQ_unf f n m p 1 d C, if_pos h, if_pos rfl, if_neg (by omega), if_neg (by omega), if_pos h1, if_pos hd]
theorem AQ_opx (h : p < m) (h1 : f p = 40) (hd : 4 ≤ d) : AQ f n m p 1 d C = p := by
  rw [AQ_unf f n m p 1 d C, if_pos h, if_pos rfl, if_neg (by omega), if_neg (by omega), if_pos h1, if_neg (by omega)]
theorem AQ_let (h : p < m) (h1 : lt7 (f p)) : AQ f n m p 1 d C = AQ f n m (p + 1) 0 d C := by
  rw [AQ_unf f n m p 1 d C, if_pos h, if_pos rfl, if_neg (by omega), if_neg (by omega), if_neg (by omega), if_pos h1]
theorem AQ_wx (h : p < m) (h1 : ¬ (48 ≤ f p ∧ f p ≤ 57)) (h2 : f p ≠ 45) (h3 : f p ≠ 40) (h4 : ¬ lt7 (f p)) : AQ f n m p 1 d C = p := by
  rw [AQ_unf f n m p 1 d C, if_pos h, if_pos rfl, if_neg h1, if_neg h2, if_neg h3, if_neg h4]
theorem AQ_cls (h : p < m) (h1 : f p = 41) (hd : 0 < d) : AQ f n m p 0 d C = AQ f n m (p + 1) 0 (d - 1) C := by
  rw [AQ_unf f n m p 0 d C, if_pos h, if_neg (by decide), if_pos h1, if_pos hd]
theorem AQ_clx (h : p < m) (h1 : f p = 41) (hd : d ≤ 0) : AQ f n m p 0 d C = p := by
  rw [AQ_unf f n m p 0 d C, if_pos h, if_neg (by decide), if_pos h1, if_neg (by omega)]
theorem AQ_cmp (h : p < m) (h1 : cm3 (f p)) (hc : C d ≠ 1) : AQ f n m p 0 d C = AQ f n m (p + 1) 1 d (upf C d 1) := by
  rw [AQ_unf f n m p 0 d C, if_pos h, if_neg (by decide), if_neg (by omega), if_pos h1, if_neg hc]
theorem AQ_cmx (h : p < m) (h1 : cm3 (f p)) (hc : C d = 1) : AQ f n m p 0 d C = p := by
  rw [AQ_unf f n m p 0 d C, if_pos h, if_neg (by decide), if_neg (by omega), if_pos h1, if_pos hc]
theorem AQ_bin (h : p < m) (h1 : bn4 (f p)) : AQ f n m p 0 d C = AQ f n m (p + 1) 1 d C := by
  rw [AQ_unf f n m p 0 d C, if_pos h, if_neg (by decide), if_neg (by omega), if_neg (by omega), if_pos h1]
theorem AQ_ox (h : p < m) (h1 : f p ≠ 41) (h2 : ¬ cm3 (f p)) (h3 : ¬ bn4 (f p)) : AQ f n m p 0 d C = p := by
  rw [AQ_unf f n m p 0 d C, if_pos h, if_neg (by decide), if_neg h1, if_neg h2, if_neg h3]
theorem AQ_e1 (h : m ≤ p) : AQ f n m p 1 d C = m := by
  rw [AQ_unf f n m p 1 d C, if_neg (by omega), if_pos (Or.inl rfl)]
theorem AQ_e2 (h : m ≤ p) (hd : 0 < d ∨ 40 < n) : AQ f n m p 0 d C = m := by
  rw [AQ_unf f n m p 0 d C, if_neg (by omega), if_pos (Or.inr hd)]
theorem AQ_e3 (h : m ≤ p) (hd : d ≤ 0) (hn : n ≤ 40) : AQ f n m p 0 d C = -1 := by
  rw [AQ_unf f n m p 0 d C, if_neg (by omega), if_neg (by omega)]
end
set_option maxHeartbeats 400000 in
theorem AQ_k {f g : Int → Int} {n m : Int} (hf : ∀ j : Int, 0 ≤ j → j < m → f j = g j) : ∀ (k : Nat) (p w d : Int) (C D : Int → Int), (m - p).toNat ≤ k → 0 ≤ p → 0 ≤ d → (∀ j : Int, 0 ≤ j → j ≤ d → C j = D j) → AQ f n m p w d C = AQ g n m p w d D := by
  intro k
  induction k with
  | zero =>
    intro p w d C D hk _ _ _
    rw [AQ_unf f n m p w d C, AQ_unf g n m p w d D, if_neg (show ¬ p < m by omega), if_neg (show ¬ p < m by omega)]
  | succ k ih =>
    intro p w d C D hk h0 hd hC
    rw [AQ_unf f n m p w d C, AQ_unf g n m p w d D]
    by_cases h : p < m
    · rw [if_pos h, if_pos h, hf p h0 h, dgn_f hf h0, hC d hd (by omega)]
      have hb := @dgn_b g m p
      have i1 := ih (p + dgn g m p) 0 d C D (by omega) (by omega) hd hC
      have i2 := ih (p + 1) 1 d C D (by omega) (by omega) hd hC
      have i3 := ih (p + 1) 0 d C D (by omega) (by omega) hd hC
      have i4 := ih (p + 1) 1 (d + 1) (upf C (d + 1) 0) (upf D (d + 1) 0) (by omega) (by omega) (by omega) (by
        intro j a b
        by_cases q : j = d + 1
        · rw [q, upf_s, upf_s]
        · rw [upf_o q, upf_o q]; exact hC j a (by omega))
      have i5 := ih (p + 1) 1 d (upf C d 1) (upf D d 1) (by omega) (by omega) (by omega) (by
        intro j a b
        by_cases q : j = d
        · rw [q, upf_s, upf_s]
        · rw [upf_o q, upf_o q]; exact hC j a (by omega))
      rw [i1, i2, i3, i4, i5]
      by_cases hz : 0 < d
      · rw [if_pos hz, if_pos hz, ih (p + 1) 0 (d - 1) C D (by omega) (by omega) (by omega) (fun j a b => hC j a (by omega))]
      · rw [if_neg hz, if_neg hz]
    · rw [if_neg h, if_neg h]
theorem AQ_c {f : Int → Int} {n m p w d : Int} {C D : Int → Int} (h0 : 0 ≤ p) (hd : 0 ≤ d) (hC : ∀ j : Int, 0 ≤ j → j ≤ d → C j = D j) : AQ f n m p w d C = AQ f n m p w d D := AQ_k (fun _ _ _ => rfl) _ p w d C D (Nat.le_refl _) h0 hd hC
/-- the rule that the text f of n signs tells: the place that can't stand, or -1 -/
def ARd (f : Int → Int) (n : Int) : Int := AQ f n (if n ≤ 40 then n else 40) 0 1 0 (fun _ => 0)
theorem ARd_m {f : Int → Int} {n m : Int} (h : (n ≤ 40 ∧ m = n) ∨ (40 < n ∧ m = 40)) : ARd f n = AQ f n m 0 1 0 (fun _ => 0) := by
  unfold ARd
  by_cases c : n ≤ 40
  · rw [if_pos c, show m = n by omega]
  · rw [if_neg c, show m = 40 by omega]
theorem ARd_c {f g : Int → Int} {n : Int} (h : ∀ j : Int, 0 ≤ j → j < n → f j = g j) : ARd f n = ARd g n := by
  unfold ARd
  refine AQ_k (fun j a b => h j a ?_) _ _ _ _ _ _ (Nat.le_refl _) (by decide) (by decide) (fun _ _ _ => rfl)
  by_cases c : n ≤ 40
  · rw [if_pos c] at b; exact b
  · rw [if_neg c] at b; omega
/-- what follows behind all that an open bracket (or the whole) holds -/
def HP (f : Int → Int) (n m p d : Int) (C : Int → Int) (R : Int) : Prop := (p < m → f p = 41 → 0 < d → AQ f n m (p + 1) 0 (d - 1) C = R) ∧ (p < m → f p = 41 → d ≤ 0 → R = p) ∧ (p < m → f p ≠ 41 → R = p) ∧ (m ≤ p → (0 < d ∨ 40 < n) → R = m) ∧ (m ≤ p → d ≤ 0 → n ≤ 40 → R = -1)
theorem HP_i {f : Int → Int} {n m p d R : Int} {C D : Int → Int} (hq : AQ f n m p 0 d D = R) (hD : ∀ j : Int, 0 ≤ j → j < d → D j = C j) (h0 : 0 ≤ p) (hx : p < m → ¬ bn4 (f p) ∧ (cm3 (f p) → D d = 1)) : HP f n m p d C R := by
  refine ⟨fun a b c => ?_, fun a b c => ?_, fun a b => ?_, fun a b => ?_, fun a b c => ?_⟩
  · rw [← hq, AQ_cls a b c]
    exact AQ_c (by omega) (by omega) (fun j q r => (hD j q (by omega)).symm)
  · rw [← hq, AQ_clx a b c]
  · obtain ⟨k1, k2⟩ := hx a
    by_cases c : cm3 (f p)
    · rw [← hq, AQ_cmx a c (k2 c)]
    · rw [← hq, AQ_ox a b c k1]
  · rw [← hq, AQ_e2 a b]
  · rw [← hq, AQ_e3 a b c]
theorem AQ_eq {f : Int → Int} {n m p q w v d e : Int} {C D : Int → Int} (hp : p = q) (hw : w = v) (hd : d = e) (hC : C = D) : AQ f n m p w d C = AQ f n m q v e D := by rw [hp, hw, hd, hC]
theorem AQ_wxx {f : Int → Int} {n m p d : Int} {C : Int → Int} (h0 : p ≤ m) (h : p < m → ¬ (48 ≤ f p ∧ f p ≤ 57) ∧ f p ≠ 45 ∧ (f p = 40 → 4 ≤ d) ∧ ¬ lt7 (f p)) : AQ f n m p 1 d C = p := by
  by_cases c : p < m
  · obtain ⟨h1, h2, h3, h4⟩ := h c
    by_cases c2 : f p = 40
    · exact AQ_opx c c2 (h3 c2)
    · exact AQ_wx c h1 h2 c2 h4
  · rw [AQ_e1 (by omega)]
    omega
