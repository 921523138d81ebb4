/-! THE FLAT MEMORY: the cells of a system stand in a table; what they hold is one function of cell and place -/
abbrev Mm : Type := Int → Int → Int
/-- a cell: an array (kind, length), or an object (class, its fields' kinds); kinds 0 int, 1 byte, 2 char, 3 boolean, 4 long, from 5 on a reference -/
abbrev Ds : Type := (Nat × Nat) ⊕ (Nat × List Nat)
/-- the classes' and the array classes' numbers, the cells' addresses -/
abbrev Gx : Type := va_G × (Nat → ClassId) × (Int → Nat)
/-- how many cells, what each is, between what each place lies, the classes, what is said of static tables -/
abbrev Ly : Type := Nat × (Int → Ds) × (Int → Int → Int × Int) × List vw_C × (Gx → (Nat → Prop) → State → Prop)
def fm_rO (G : Gx) (z : Int) : Option Nat := if z < 0 then none else some (G.2.2 z)
def fm_v (G : Gx) (t : Nat) (z : Int) : Value := match t with
  | 4 => vj z
  | 5 => va_rf (fm_rO G z)
  | _ => vi z
def fm_fs (G : Gx) (r : Int → Int) : List Nat → Int → List Value
  | [], _ => []
  | t :: ts, i => fm_v G t (r i) :: fm_fs G r ts (i + 1)
def fm_e (G : Gx) (d : Ds) (r : Int → Int) : va_E := match d with
  | .inl (k, n) => if k = 4 then .inl (G.2.1 4, n, .inr (.inl (fun j => lI (r j)))) else if k < 4 then .inl (G.2.1 k, n, .inl (fun j => iI (r j))) else .inl (G.2.1 k, n, .inr (.inr (.inr (.inr (fun j => fm_rO G (r j))))))
  | .inr (ci, ts) => .inr (ci, fm_fs G r ts 0)
def fm_w (Y : Ly) (G : Gx) (x : Mm) : va_W := (List.range Y.1).map (fun k : Nat => (G.2.2 (k : Int), fm_e G (Y.2.1 (k : Int)) (x (k : Int))))
def fm_up (x : Mm) (k i v : Int) : Mm := fun a b => if a = k ∧ b = i then v else x a b
def fm_R (Y : Ly) (x : Mm) : Prop := ∀ k i : Int, (Y.2.2.1 k i).1 ≤ x k i ∧ x k i ≤ (Y.2.2.1 k i).2
/-- the addresses -/
def fm_A (Y : Ly) (G : Gx) : Nat → Prop := fun q => ∃ k : Nat, k < Y.1 ∧ q = G.2.2 k
set_option maxHeartbeats 60000 in
theorem fm_up_s (x : Mm) (k i v : Int) : fm_up x k i v k i = v := by simp [fm_up]
set_option maxHeartbeats 60000 in
theorem fm_up_k (x : Mm) {k i v a b : Int} (h : a ≠ k) : fm_up x k i v a b = x a b := by simp [fm_up, h]
set_option maxHeartbeats 60000 in
theorem fm_up_i (x : Mm) {k i v a b : Int} (h : b ≠ i) : fm_up x k i v a b = x a b := by simp [fm_up, h]
set_option maxHeartbeats 60000 in
theorem fm_R_up {Y : Ly} {x : Mm} (h : fm_R Y x) {k i v : Int} (h1 : (Y.2.2.1 k i).1 ≤ v) (h2 : v ≤ (Y.2.2.1 k i).2) : fm_R Y (fm_up x k i v) := by
  intro a b
  by_cases hab : a = k ∧ b = i
  · obtain ⟨rfl, rfl⟩ := hab
    rw [fm_up_s]
    exact ⟨h1, h2⟩
  · have : fm_up x k i v a b = x a b := by simp [fm_up, hab]
    rw [this]
    exact h a b
set_option maxHeartbeats 60000 in
theorem fm_w_get {Y : Ly} {G : Gx} {x : Mm} {k : Nat} (h : k < Y.1) : (fm_w Y G x)[k]? = some (G.2.2 k, fm_e G (Y.2.1 k) (x k)) := by
  simp [fm_w, h]
set_option maxHeartbeats 60000 in
theorem fm_w_geI {Y : Ly} {G : Gx} {x : Mm} {k : Int} (h0 : 0 ≤ k) (h : k < Y.1) : (fm_w Y G x)[k.toNat]? = some (G.2.2 k, fm_e G (Y.2.1 k) (x k)) := by
  have e : ((k.toNat : Nat) : Int) = k := Int.toNat_of_nonneg h0
  have h1 := fm_w_get (Y := Y) (G := G) (x := x) (k := k.toNat) (by omega)
  rwa [e] at h1
set_option maxHeartbeats 60000 in
theorem fm_w_len (Y : Ly) (G : Gx) (x : Mm) : (fm_w Y G x).length = Y.1 := by simp [fm_w]
set_option maxHeartbeats 60000 in
theorem fm_w_set {Y : Ly} {G : Gx} {x y : Mm} {k : Int} (h0 : 0 ≤ k) (ho : ∀ a, a ≠ k → y a = x a) : (fm_w Y G x).set k.toNat (G.2.2 k, fm_e G (Y.2.1 k) (y k)) = fm_w Y G y := by
  have e : ((k.toNat : Nat) : Int) = k := Int.toNat_of_nonneg h0
  apply List.ext_getElem?
  intro j
  by_cases hj : j < Y.1
  · by_cases hk : j = k.toNat
    · subst hk
      rw [List.getElem?_set_self (by rw [fm_w_len]; exact hj), fm_w_get hj, e]
    · rw [List.getElem?_set_ne (Ne.symm hk), fm_w_get hj, fm_w_get hj, ho j (by omega)]
  · rw [List.getElem?_eq_none (by rw [List.length_set, fm_w_len]; omega), List.getElem?_eq_none (by rw [fm_w_len]; omega)]
set_option maxHeartbeats 60000 in
theorem fm_D {Y : Ly} {G : Gx} {A : Nat → Prop} {x : Mm} (h : va_D A (fm_w Y G x)) (y : Mm) : va_D A (fm_w Y G y) := by
  have key : ∀ (k : Nat) (q : Nat × va_E), (fm_w Y G y)[k]? = some q → ∃ q0, (fm_w Y G x)[k]? = some q0 ∧ q0.1 = q.1 := by
    intro k q hk
    have hl : k < Y.1 := by
      have := (List.getElem?_eq_some_iff.mp hk).1
      rwa [fm_w_len] at this
    rw [fm_w_get hl] at hk
    cases hk
    exact ⟨_, fm_w_get hl, rfl⟩
  refine ⟨fun i j p q hi hj hpq => ?_, fun k q hk => ?_⟩
  · obtain ⟨p0, h1, h2⟩ := key i p hi
    obtain ⟨q0, h3, h4⟩ := key j q hj
    exact h.1 i j p0 q0 h1 h3 (h2.trans (hpq.trans h4.symm))
  · obtain ⟨q0, h1, h2⟩ := key k q hk
    rw [← h2]
    exact h.2 k q0 h1
set_option maxHeartbeats 60000 in
theorem fm_fs_get {G : Gx} {r : Int → Int} : ∀ {ts : List Nat} {i : Nat} {b : Int} {t : Nat}, ts[i]? = some t → (fm_fs G r ts b)[i]? = some (fm_v G t (r (b + i)))
  | [], i, b, t, h => by simp at h
  | t0 :: ts, 0, b, t, h => by
    simp at h
    subst h
    simp [fm_fs]
  | t0 :: ts, i + 1, b, t, h => by
    rw [List.getElem?_cons_succ] at h
    have h1 := fm_fs_get (G := G) (r := r) (b := b + 1) h
    rw [fm_fs, List.getElem?_cons_succ, h1]
    congr 3
    omega
set_option maxHeartbeats 60000 in
theorem fm_fs_len {G : Gx} {r : Int → Int} : ∀ {ts : List Nat} {b : Int}, (fm_fs G r ts b).length = ts.length
  | [], b => rfl
  | t :: ts, b => by rw [fm_fs, List.length_cons, List.length_cons, fm_fs_len]
set_option maxHeartbeats 60000 in
theorem fm_fs_cong {G : Gx} {r r' : Int → Int} : ∀ {ts : List Nat} {b : Int}, (∀ i : Int, b ≤ i → r i = r' i) → fm_fs G r ts b = fm_fs G r' ts b
  | [], b, h => rfl
  | t :: ts, b, h => by
    rw [fm_fs, fm_fs, h b (by omega), fm_fs_cong (fun i hi => h i (by omega))]
set_option maxHeartbeats 60000 in
theorem fm_fs_set {G : Gx} {r r' : Int → Int} : ∀ {ts : List Nat} {i : Nat} {b : Int} {t : Nat}, ts[i]? = some t → (∀ j : Int, j ≠ b + i → r' j = r j) → (fm_fs G r ts b).set i (fm_v G t (r' (b + i))) = fm_fs G r' ts b
  | [], i, b, t, h, _ => by simp at h
  | t0 :: ts, 0, b, t, h, ho => by
    simp at h
    subst h
    rw [fm_fs, fm_fs, List.set_cons_zero]
    have e : b + ((0 : Nat) : Int) = b := by omega
    rw [e, fm_fs_cong (fun i hi => ho i (by omega))]
  | t0 :: ts, i + 1, b, t, h, ho => by
    rw [List.getElem?_cons_succ] at h
    have e : b + ((i + 1 : Nat) : Int) = (b + 1) + (i : Int) := by omega
    rw [fm_fs, fm_fs, List.set_cons_succ, e, fm_fs_set h (fun j hj => ho j (by omega)), ho b (by omega)]
