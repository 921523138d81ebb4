/-! bits of small numbers, counts of EDGES, choices of some out of many -/
theorem b255 {a z : Int} (ha : -128 ≤ a ∧ a ≤ 127) (hz : fm_r z) (h : iI a &&& iI 255 = iI z) : (0 ≤ a → z = a) ∧ (a < 0 → z = a + 256) := by
  have key : ∀ q : Nat, q < 256 → iI ((q : Int) - 128) &&& iI 255 = iI (if (q : Int) - 128 < 0 then (q : Int) + 128 else (q : Int) - 128) := by decide +kernel
  have k := key (a + 128).toNat (by omega)
  rw [show (((a + 128).toNat : Nat) : Int) - 128 = a by omega, show (((a + 128).toNat : Nat) : Int) + 128 = a + 256 by omega, h] at k
  have e := iI_inj hz (by split <;> omega) k
  constructor <;> intro q
  · rw [e, if_neg (by omega)]
  · rw [e, if_pos q]
def bt (p w : Int) : Int := ((p.toNat / 2 ^ w.toNat % 2 : Nat) : Int)
theorem bt_01 (p w : Int) : bt p w = 0 ∨ bt p w = 1 := by
  unfold bt
  omega
theorem bt_shr {p w : Int} (h0 : 0 ≤ p) (hp : p < 128) (w0 : 0 ≤ w) (hw : w < 7) : iI p >>> (iI w &&& 31) &&& iI 1 = iI (bt p w) := by
  have key : ∀ q : Nat, q < 128 → ∀ v : Nat, v < 7 → iI (q : Int) >>> (iI (v : Int) &&& 31) &&& iI 1 = iI (bt (q : Int) (v : Int)) := by decide +kernel
  have k := key p.toNat (by omega) w.toNat (by omega)
  rwa [show ((p.toNat : Nat) : Int) = p by omega, show ((w.toNat : Nat) : Int) = w by omega] at k
def sb (p w : Int) : Int := if bt p w = 1 then p else p + 2 ^ w.toNat
theorem sb_or {p w : Int} (h0 : 0 ≤ p) (hp : p < 128) (w0 : 0 ≤ w) (hw : w < 7) : iI p ||| iI 1 <<< (iI w &&& 31) = iI (sb p w) ∧ 0 ≤ sb p w ∧ sb p w < 128 := by
  have key : ∀ q : Nat, q < 128 → ∀ v : Nat, v < 7 → iI (q : Int) ||| iI 1 <<< (iI (v : Int) &&& 31) = iI (sb (q : Int) (v : Int)) ∧ 0 ≤ sb (q : Int) (v : Int) ∧ sb (q : Int) (v : Int) < 128 := by decide +kernel
  have k := key p.toNat (by omega) w.toNat (by omega)
  rwa [show ((p.toNat : Nat) : Int) = p by omega, show ((w.toNat : Nat) : Int) = w by omega] at k
/-- how many of the first n bits are clear -/
def fr0 (p : Int) : Nat → Int
  | 0 => 0
  | n + 1 => fr0 p n + (1 - bt p n)
theorem fr0_b (p : Int) : ∀ n : Nat, 0 ≤ fr0 p n ∧ fr0 p n ≤ n
  | 0 => ⟨Int.le_refl _, Int.le_refl _⟩
  | n + 1 => by
    have h := fr0_b p n
    have h1 := bt_01 p n
    rw [fr0]
    omega
theorem fr0_s {p j : Int} (h : 0 ≤ j) : fr0 p (j + 1).toNat = fr0 p j.toNat + (1 - bt p j) := by
  rw [show (j + 1).toNat = j.toNat + 1 by omega, fr0, show ((j.toNat : Nat) : Int) = j by omega]
theorem fr0_sb5 {p w : Int} (h0 : 0 ≤ p) (hp : p < 32) (w0 : 0 ≤ w) (hw : w < 5) (hb : bt p w = 0) : fr0 (sb p w) 5 = fr0 p 5 - 1 ∧ sb p w < 32 := by
  have key : ∀ q : Nat, q < 32 → ∀ v : Nat, v < 5 → bt (q : Int) (v : Int) = 0 → fr0 (sb (q : Int) (v : Int)) 5 = fr0 (q : Int) 5 - 1 ∧ sb (q : Int) (v : Int) < 32 := by decide +kernel
  have k := key p.toNat (by omega) w.toNat (by omega)
  rw [show ((p.toNat : Nat) : Int) = p by omega, show ((w.toNat : Nat) : Int) = w by omega] at k
  exact k hb
theorem fr0_sb7 {p w : Int} (h0 : 0 ≤ p) (hp : p < 128) (w0 : 0 ≤ w) (hw : w < 7) (hb : bt p w = 0) : fr0 (sb p w) 7 = fr0 p 7 - 1 := by
  have key : ∀ q : Nat, q < 128 → ∀ v : Nat, v < 7 → bt (q : Int) (v : Int) = 0 → fr0 (sb (q : Int) (v : Int)) 7 = fr0 (q : Int) 7 - 1 := by decide +kernel
  have k := key p.toNat (by omega) w.toNat (by omega)
  rw [show ((p.toNat : Nat) : Int) = p by omega, show ((w.toNat : Nat) : Int) = w by omega] at k
  exact k hb
/-- powers of 2, for SUBSETS -/
def pw2 (n : Int) : Int := 2 ^ n.toNat
theorem pw2_s {n : Int} (h : 0 ≤ n) : pw2 (n + 1) = 2 * pw2 n := by
  unfold pw2
  rw [show (n + 1).toNat = n.toNat + 1 by omega, Int.pow_succ, Int.mul_comm]
theorem pw2_1 (n : Int) : 1 ≤ pw2 n := by
  unfold pw2
  have : 0 < (2 : Int) ^ n.toNat := Int.pow_pos (by decide)
  omega
/-- k out of m -/
def chN : Nat → Nat → Nat
  | _, 0 => 1
  | 0, _ + 1 => 0
  | m + 1, k + 1 => chN m (k + 1) + chN m k
def ch (m k : Int) : Int := (chN m.toNat k.toNat : Int)
theorem ch_0 (m : Int) : ch m 0 = 1 := by
  unfold ch
  show ((chN m.toNat 0 : Nat) : Int) = 1
  cases m.toNat <;> rfl
theorem ch_s {m k : Int} (hm : 0 < m) (hk : 0 < k) : ch m k = ch (m - 1) k + ch (m - 1) (k - 1) := by
  unfold ch
  obtain ⟨a, ha⟩ : ∃ a : Nat, m.toNat = a + 1 := ⟨m.toNat - 1, by omega⟩
  obtain ⟨b, hb⟩ : ∃ b : Nat, k.toNat = b + 1 := ⟨k.toNat - 1, by omega⟩
  rw [ha, hb, show (m - 1).toNat = a by omega, show (k - 1).toNat = b by omega, chN]
  omega
theorem ch_nn (m k : Int) : 0 ≤ ch m k := by
  unfold ch
  omega
theorem ch_le {m k : Int} (h0 : 0 ≤ m) (hm : m ≤ 12) (k0 : 0 ≤ k) (hk : k ≤ 12) : ch m k ≤ 924 := by
  have key : ∀ q : Nat, q < 13 → ∀ v : Nat, v < 13 → chN q v ≤ 924 := by decide +kernel
  have k := key m.toNat (by omega) k.toNat (by omega)
  unfold ch
  omega
/-- whether place q of the square of NODES is an EDGE, told at its lesser NODE -/
def ep (f : Int → Int) (q : Int) : Int := if q / 7 < q % 7 ∧ 0 < f (28 + q) then 1 else 0
/-- how many EDGES there are ahead of place n -/
def ec (f : Int → Int) : Nat → Int
  | 0 => 0
  | n + 1 => ec f n + ep f n
theorem ep_01 (f : Int → Int) (q : Int) : 0 ≤ ep f q ∧ ep f q ≤ 1 := by
  unfold ep
  split <;> omega
theorem ec_b (f : Int → Int) : ∀ n : Nat, 0 ≤ ec f n ∧ ec f n ≤ n
  | 0 => ⟨Int.le_refl _, Int.le_refl _⟩
  | n + 1 => by
    have h := ec_b f n
    have h1 := ep_01 f n
    rw [ec]
    omega
theorem ec_s {f : Int → Int} {q : Int} (h : 0 ≤ q) : ec f (q + 1).toNat = ec f q.toNat + ep f q := by
  rw [show (q + 1).toNat = q.toNat + 1 by omega, ec, show ((q.toNat : Nat) : Int) = q by omega]
theorem ec_cong {f g : Int → Int} : ∀ {n : Nat}, (∀ j : Nat, j < n → ep f j = ep g j) → ec f n = ec g n
  | 0, _ => rfl
  | n + 1, h => by rw [ec, ec, ec_cong (fun j hj => h j (by omega)), h n (by omega)]
/-- from the end of a row of the square to the first place of the next that can be an EDGE -/
theorem ec_skip {f : Int → Int} {one : Int} (h : 0 ≤ one) (h7 : one < 7) : ec f (7 * one + one + 1).toNat = ec f (7 * one).toNat := by
  have key : ∀ k : Nat, (k : Int) ≤ one + 1 → ec f (7 * one + k).toNat = ec f (7 * one).toNat := by
    intro k
    induction k with
    | zero => intro _; rw [show (7 * one + ((0 : Nat) : Int)) = 7 * one by omega]
    | succ k ih =>
      intro hk
      have h1 := ec_s (f := f) (q := 7 * one + k) (by omega)
      rw [show 7 * one + ((k + 1 : Nat) : Int) = 7 * one + k + 1 by omega, h1, ih (by omega)]
      have h2 : ep f (7 * one + k) = 0 := by
        unfold ep
        rw [if_neg]
        intro q
        have := q.1
        omega
      omega
  have := key (one + 1).toNat (by omega)
  rwa [show 7 * one + ((one + 1).toNat : Int) = 7 * one + one + 1 by omega] at this
/-- EDGES: told both ways alike, at most 12 -/
def MI (f : Int → Int) : Prop := (∀ a b : Int, 0 ≤ a → a < 7 → 0 ≤ b → b < 7 → f (28 + 7 * a + b) = f (28 + 7 * b + a)) ∧ ec f 49 ≤ 12
theorem ep_at {f : Int → Int} {a b : Int} (ha : 0 ≤ a) (ha7 : a < 7) (hb : 0 ≤ b) (hb7 : b < 7) : ep f (7 * a + b) = if a < b ∧ 0 < f (28 + 7 * a + b) then 1 else 0 := by
  unfold ep
  rw [show (7 * a + b) / 7 = a by omega, show (7 * a + b) % 7 = b by omega, show 28 + (7 * a + b) = 28 + 7 * a + b by omega]
theorem MI_cong {f g : Int → Int} (h : MI f) (e : ∀ i : Int, 28 ≤ i → i < 77 → g i = f i) : MI g := by
  refine ⟨fun a b h1 h2 h3 h4 => ?_, ?_⟩
  · rw [e _ (by omega) (by omega), e _ (by omega) (by omega)]
    exact h.1 a b h1 h2 h3 h4
  · have : ec g 49 = ec f 49 := ec_cong (fun j hj => by
      unfold ep
      rw [e _ (by omega) (by omega)])
    rw [this]
    exact h.2
theorem or0 {a z : Int} (hz : fm_r z) (ha : fm_r a) (h : iI a ||| iI 0 = iI z) : z = a := by
  have e : iI a ||| iI 0 = iI a := by rw [iI_0]; simp
  exact iI_inj hz ha (h.symm.trans e)
theorem sb_of {a w s z : Int} (h0 : 0 ≤ a) (ha : a < 128) (w0 : 0 ≤ w) (hw : w < 7) (hz : fm_r z) (h1 : iI 1 <<< (iI w &&& 31) = iI s) (h2 : iI a ||| iI s = iI z) : z = sb a w ∧ 0 ≤ z ∧ z < 128 := by
  obtain ⟨k1, k2, k3⟩ := sb_or h0 ha w0 hw
  rw [h1, h2] at k1
  have e := iI_inj hz (by omega) k1
  omega
theorem bt_of {p w a z : Int} (h0 : 0 ≤ p) (hp : p < 128) (w0 : 0 ≤ w) (hw : w < 7) (hz : fm_r z) (h1 : iI p >>> (iI w &&& 31) = iI a) (h2 : iI a &&& iI 1 = iI z) : z = bt p w := by
  have k := bt_shr h0 hp w0 hw
  rw [h1, h2] at k
  have := bt_01 p w
  exact iI_inj hz (by omega) k
theorem RI_ex {x : Mm} (h : ((x 0 6 = 2 ∧ x 0 8 ≤ 80) ∨ (x 0 6 = 5 ∧ x 0 8 ≤ 40) ∨ (x 0 6 = 6 ∧ x 0 8 ≤ 40)) ∧ x 0 9 ≤ x 0 8) : ∃ (rb : Int) (rn : Nat), RBN rb rn ∧ x 0 6 = rb ∧ x 0 8 ≤ (rn : Int) := by
  rcases h.1 with q | q | q
  · exact ⟨2, 80, Or.inl ⟨rfl, rfl⟩, q.1, q.2⟩
  · exact ⟨5, 40, Or.inr (Or.inl ⟨rfl, rfl⟩), q.1, q.2⟩
  · exact ⟨6, 40, Or.inr (Or.inr ⟨rfl, rfl⟩), q.1, q.2⟩
/-- the same count, told at an int -/
def es (f : Int → Int) (q : Int) : Int := ec f q.toNat
theorem es_s {f : Int → Int} {a b : Int} (ha : 0 ≤ a) (ha7 : a < 7) (hb : 0 ≤ b) (hb7 : b < 7) : es f (7 * a + (b + 1)) = es f (7 * a + b) + if a < b ∧ 0 < f (28 + 7 * a + b) then 1 else 0 := by
  unfold es
  rw [show 7 * a + (b + 1) = 7 * a + b + 1 by omega, ec_s (by omega), ep_at ha ha7 hb hb7]
theorem es_k {f : Int → Int} {a : Int} (ha : 0 ≤ a) (ha7 : a < 7) : es f (7 * a + (a + 1)) = es f (7 * a) := by
  unfold es
  rw [show 7 * a + (a + 1) = 7 * a + a + 1 by omega, ec_skip ha ha7]
theorem es_n {f : Int → Int} {a b : Int} (h : b = 7) : es f (7 * (a + 1)) = es f (7 * a + b) := by rw [h, show 7 * (a + 1) = 7 * a + 7 by omega]
theorem es_7 {f : Int → Int} {a : Int} (h : a = 7) : es f (7 * a) = ec f 49 := by
  rw [h]
  rfl
theorem es_0 (f : Int → Int) : es f (7 * 0) = 0 := rfl
theorem es_b (f : Int → Int) {q : Int} (h : 0 ≤ q) : 0 ≤ es f q ∧ es f q ≤ q := by
  have := ec_b f q.toNat
  unfold es
  omega
def UB (f : Int → Int) : Prop := ∀ j : Int, 0 ≤ j → j < 10 → MI (fun i => f (106 * j + i))
def KB (f : Int → Int) : Prop := ∀ j : Int, 0 ≤ j → j < 2 → MI (fun i => f (106 * j + i))
theorem UB_lay {f g h : Int → Int} {k : Int} (hU : UB f) (hm : MI h) (hin : ∀ i : Int, 0 ≤ i → i < 106 → g (106 * k + i) = h i) (hout : ∀ i : Int, i < 106 * k ∨ 106 * k + 106 ≤ i → g i = f i) : UB g := by
  intro j h0 h1
  by_cases e : j = k
  · subst e
    exact MI_cong hm (fun i a b => hin i (by omega) (by omega))
  · exact MI_cong (hU j h0 h1) (fun i a b => hout _ (by omega))
theorem KB_lay {f g h : Int → Int} {k : Int} (hU : KB f) (hm : MI h) (hin : ∀ i : Int, 0 ≤ i → i < 106 → g (106 * k + i) = h i) (hout : ∀ i : Int, i < 106 * k ∨ 106 * k + 106 ≤ i → g i = f i) : KB g := by
  intro j h0 h1
  by_cases e : j = k
  · subst e
    exact MI_cong hm (fun i a b => hin i (by omega) (by omega))
  · exact MI_cong (hU j h0 h1) (fun i a b => hout _ (by omega))
theorem UB_shift {f g : Int → Int} (hU : UB f) (h1 : ∀ i : Int, 0 ≤ i → i < 954 → g i = f (i + 106)) (h2 : ∀ i : Int, 954 ≤ i → g i = f i) : UB g := by
  intro j h0 hj
  by_cases e : j < 9
  · exact MI_cong (hU (j + 1) (by omega) (by omega)) (fun i a b => by
      show g (106 * j + i) = f (106 * (j + 1) + i)
      rw [h1 _ (by omega) (by omega)]
      congr 1
      omega)
  · exact MI_cong (hU j h0 hj) (fun i a b => h2 _ (by omega))
