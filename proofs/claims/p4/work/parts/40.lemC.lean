/-! how many of a kind are laid at most -/
/-- a times b, told so that no product stands in a goal -/
def ml (a b : Int) : Int := a * b
theorem ml_0 (b : Int) : ml 0 b = 0 := Int.zero_mul b
theorem ml_s (a b : Int) : ml (a + 1) b = ml a b + b := by
  unfold ml
  rw [Int.add_mul, Int.one_mul]
theorem ml_le {a c b : Int} (h : a ≤ c) (hb : 0 ≤ b) : ml a b ≤ ml c b := Int.mul_le_mul_of_nonneg_right h hb
/-- powers of 6 -/
def pw6 (n : Int) : Int := 6 ^ n.toNat
theorem pw6_1 (n : Int) : 1 ≤ pw6 n := by
  unfold pw6
  have : 0 < (6 : Int) ^ n.toNat := Int.pow_pos (by decide)
  omega
theorem pw6_0 {n : Int} (h : n = 0) : pw6 n = 1 := by
  rw [h]
  rfl
theorem pw6_4 : pw6 (4 - 0) = 1296 := by decide
theorem pw6_s {p : Int} (h : p < 4) : pw6 (4 - p) = 6 * pw6 (4 - (p + 1)) ∧ 1 ≤ pw6 (4 - (p + 1)) := by
  refine ⟨?_, pw6_1 _⟩
  unfold pw6
  rw [show (4 - p).toNat = (4 - (p + 1)).toNat + 1 by omega, Int.pow_succ, Int.mul_comm]
theorem ml_6 {k P : Int} (hk : k ≤ 5) (hP : 1 ≤ P) : ml k P + P ≤ 6 * P ∧ ml (k + 1) P = ml k P + P := by
  have h := ml_le (a := k + 1) (c := 6) (b := P) (by omega) (by omega)
  rw [ml_s] at h
  refine ⟨h, ml_s k P⟩
theorem ml_e6 {k P : Int} (hk : k ≤ 6) (hP : 1 ≤ P) : ml k P ≤ 6 * P := ml_le hk (by omega)
theorem ch_t {v i w n : Int} (h : i < v) (h2 : n < w) : ch (v - i) (w - n) = ch (v - (i + 1)) (w - n) + ch (v - (i + 1)) (w - (n + 1)) ∧ 0 ≤ ch (v - (i + 1)) (w - n) := by
  refine ⟨?_, ch_nn _ _⟩
  rw [ch_s (m := v - i) (k := w - n) (by omega) (by omega), show v - i - 1 = v - (i + 1) by omega, show w - n - 1 = w - (n + 1) by omega]
theorem ch_z {m k : Int} (h : k = 0) : ch m k = 1 := by
  rw [h]
  exact ch_0 m
theorem pw2_t {j : Int} (h : j < 6) : pw2 (6 - j) = 2 * pw2 (6 - (j + 1)) ∧ 1 ≤ pw2 (6 - (j + 1)) := by
  refine ⟨?_, pw2_1 _⟩
  rw [show 6 - j = 6 - (j + 1) + 1 by omega, pw2_s (by omega)]
theorem pw2_6 : pw2 (6 - 0) = 64 := by decide
/-- factorials -/
def fctN : Nat → Nat
  | 0 => 1
  | n + 1 => (n + 1) * fctN n
def fct (n : Int) : Int := (fctN n.toNat : Int)
theorem fctN_1 : ∀ n : Nat, 1 ≤ fctN n
  | 0 => Nat.le_refl _
  | n + 1 => by
    rw [fctN]
    exact Nat.mul_le_mul (show 1 ≤ n + 1 by omega) (fctN_1 n)
theorem fct_1 (n : Int) : 1 ≤ fct n := by
  have := fctN_1 n.toNat
  unfold fct
  omega
theorem fct_s {n : Int} (h : 0 ≤ n) : fct (n + 1) = ml (n + 1) (fct n) := by
  unfold fct ml
  rw [show (n + 1).toNat = n.toNat + 1 by omega, fctN, Int.natCast_mul]
  rw [show ((n.toNat + 1 : Nat) : Int) = n + 1 by omega]
theorem fct_5 : fct (5 - 0) = 120 := by decide
theorem fct_6 : fct (6 - 0) = 720 := by decide
/-- how many of the first q bits are clear -/
def frr (p q : Int) : Int := fr0 p q.toNat
theorem frr_0 (p : Int) : frr p 0 = 0 := rfl
theorem frr_s {p j : Int} (h : 0 ≤ j) : frr p (j + 1) = frr p j + (1 - bt p j) := fr0_s h
theorem fr0_mono (p : Int) (n : Nat) : ∀ k : Nat, fr0 p n ≤ fr0 p (n + k)
  | 0 => Int.le_refl _
  | k + 1 => by
    have h := fr0_mono p n k
    have h1 := bt_01 p (n + k : Nat)
    rw [show n + (k + 1) = n + k + 1 by omega, fr0]
    omega
theorem frr_le {p j : Int} {n : Nat} (h : j ≤ n) : frr p j ≤ fr0 p n := by
  have := fr0_mono p j.toNat (n - j.toNat)
  rwa [show j.toNat + (n - j.toNat) = n by omega] at this
theorem ml_t {k j F : Int} (h : 0 ≤ j) : (bt k j = 1 → ml (frr k (j + 1)) F = ml (frr k j) F) ∧ (bt k j = 0 → ml (frr k (j + 1)) F = ml (frr k j) F + F) := by
  refine ⟨fun b => ?_, fun b => ?_⟩
  · rw [frr_s h, b, show frr k j + (1 - 1) = frr k j by omega]
  · rw [frr_s h, b, show frr k j + (1 - 0) = frr k j + 1 by omega, ml_s]
theorem ml_z (k F : Int) : ml (frr k 0) F = 0 := by rw [frr_0, ml_0]
theorem fct_t {m n : Int} (h : n < m) : fct (m - n) = ml (m - n) (fct (m - (n + 1))) := by
  rw [show m - n = m - (n + 1) + 1 by omega, fct_s (by omega)]
theorem ml_f {k j m n : Int} {q : Nat} (h0 : 0 ≤ j) (hj : j < q) (hb : bt k j = 0) (hf : fr0 k q ≤ m - n) (hn : n < m) : ml (frr k j) (fct (m - (n + 1))) + fct (m - (n + 1)) ≤ fct (m - n) := by
  have h1 := frr_s (p := k) h0
  have h2 := frr_le (p := k) (j := j + 1) (n := q) (by omega)
  rw [fct_t hn, ← ml_s]
  exact ml_le (by omega) (by have := fct_1 (m - (n + 1)); omega)
theorem ml_e {k j m n : Int} {q : Nat} (hj : j ≤ q) (hf : fr0 k q ≤ m - n) (hn : n ≤ m) : ml (frr k j) (fct (m - (n + 1))) ≤ fct (m - n) := by
  have h2 := frr_le (p := k) (j := j) (n := q) hj
  by_cases e : n < m
  · rw [fct_t e]
    exact ml_le (by omega) (by have := fct_1 (m - (n + 1)); omega)
  · have h3 := (fr0_b k j.toNat).1
    have h4 : frr k j = 0 := by
      have : fr0 k j.toNat = frr k j := rfl
      omega
    rw [h4, ml_0]
    have := fct_1 (m - n)
    omega
theorem fr0_7 {p w : Int} (h0 : 0 ≤ p) (hp : p < 128) (w0 : 0 ≤ w) (hw : w < 7) (hb : bt p w = 0) {n : Int} (hf : fr0 p 7 ≤ 6 - n) : n < 6 ∧ fr0 (sb p w) 7 = fr0 p 7 - 1 := by
  have h := fr0_sb7 h0 hp w0 hw hb
  have h1 := (fr0_b (sb p w) 7).1
  omega
theorem shl1 {w s : Int} (w0 : 0 ≤ w) (hw : w < 7) (hs : fm_r s) (h : iI 1 <<< (iI w &&& 31) = iI s) : 0 ≤ s ∧ s < 128 ∧ fr0 s 7 = 6 := by
  have key : ∀ v : Nat, v < 7 → iI 1 <<< (iI (v : Int) &&& 31) = iI ((2 ^ v : Nat) : Int) ∧ fr0 ((2 ^ v : Nat) : Int) 7 = 6 ∧ 2 ^ v < 128 := by decide +kernel
  obtain ⟨k1, k2, k3⟩ := key w.toNat (by omega)
  rw [show ((w.toNat : Nat) : Int) = w by omega, h] at k1
  generalize 2 ^ w.toNat = n at k1 k2 k3
  have e := iI_inj hs (by omega) k1
  rw [e]
  refine ⟨by omega, by omega, k2⟩
/-- how many choices there are, from list p on -/
def ccN (f : Int → Int) : Nat → Int
  | 0 => 1
  | d + 1 => if f (24 + (3 - (d : Int))) = 0 then ccN f d else ml (f (24 + (3 - (d : Int)))) (ccN f d)
def ccp (f : Int → Int) (p : Int) : Int := ccN f (4 - p).toNat
theorem ccp_4 {f : Int → Int} {p : Int} (h : p = 4) : ccp f p = 1 := by
  rw [h]
  rfl
theorem ccp_s {f : Int → Int} {p : Int} (h0 : 0 ≤ p) (h : p < 4) : ccp f p = if f (24 + p) = 0 then ccp f (p + 1) else ml (f (24 + p)) (ccp f (p + 1)) := by
  unfold ccp
  rw [show (4 - p).toNat = (4 - (p + 1)).toNat + 1 by omega, ccN, show 24 + (3 - (((4 - (p + 1)).toNat : Nat) : Int)) = 24 + p by omega]
theorem ccp_z {f : Int → Int} {p : Int} (h0 : 0 ≤ p) (h : p < 4) (hz : f (24 + p) = 0) : ccp f p = ccp f (p + 1) := by rw [ccp_s h0 h, if_pos hz]
theorem ccp_n {f : Int → Int} {p : Int} (h0 : 0 ≤ p) (h : p < 4) (hz : f (24 + p) ≠ 0) : ccp f p = ml (f (24 + p)) (ccp f (p + 1)) := by rw [ccp_s h0 h, if_neg hz]
/-- the EDGE at place p -/
noncomputable def eaf (f : Int → Int) (p : Int) : Int := @dite Int (∃ q : Int, 0 ≤ q ∧ q < 49 ∧ ep f q = 1 ∧ es f q = p) (Classical.propDecidable _) (fun h => Classical.choose h) (fun _ => 0)
theorem es_1 {f : Int → Int} {q : Int} (h : 0 ≤ q) : es f (q + 1) = es f q + ep f q := ec_s h
theorem es_mono {f : Int → Int} {a : Int} (h : 0 ≤ a) : ∀ k : Nat, es f a ≤ es f (a + k)
  | 0 => by rw [show a + ((0 : Nat) : Int) = a by omega]; exact Int.le_refl _
  | k + 1 => by
    have h1 := es_mono (f := f) h k
    have h2 := es_1 (f := f) (q := a + k) (by omega)
    have h3 := ep_01 f (a + k)
    rw [show a + ((k + 1 : Nat) : Int) = a + k + 1 by omega]
    omega
theorem es_inj {f : Int → Int} {a b : Int} (a0 : 0 ≤ a) (b0 : 0 ≤ b) (ha : ep f a = 1) (hb : ep f b = 1) (h : es f a = es f b) : a = b := by
  rcases Int.lt_trichotomy a b with q | q | q
  · have h1 := es_1 (f := f) a0
    have h2 := es_mono (f := f) (a := a + 1) (by omega) (b - (a + 1)).toNat
    rw [show a + 1 + (((b - (a + 1)).toNat : Nat) : Int) = b by omega] at h2
    omega
  · exact q
  · have h1 := es_1 (f := f) b0
    have h2 := es_mono (f := f) (a := b + 1) (by omega) (a - (b + 1)).toNat
    rw [show b + 1 + (((a - (b + 1)).toNat : Nat) : Int) = a by omega] at h2
    omega
theorem eaf_q {f : Int → Int} {p z : Int} (h0 : 0 ≤ z) (h1 : z < 49) (h2 : ep f z = 1) (h3 : es f z = p) : z = eaf f p := by
  have h : ∃ q : Int, 0 ≤ q ∧ q < 49 ∧ ep f q = 1 ∧ es f q = p := ⟨z, h0, h1, h2, h3⟩
  have e : eaf f p = Classical.choose h := by
    unfold eaf
    rw [dif_pos h]
  have s := Classical.choose_spec h
  rw [e]
  exact es_inj h0 s.1 h2 s.2.2.1 (h3.trans s.2.2.2.symm)
theorem eaf_u {f : Int → Int} {p a b : Int} (ha : 0 ≤ a) (hab : a < b) (hb : b < 7) (hw : 0 < f (28 + 7 * a + b)) (he : es f (7 * a + b) = p) : 7 * a + b = eaf f p := by
  refine eaf_q (by omega) (by omega) ?_ he
  rw [ep_at ha (by omega) (by omega) hb, if_pos ⟨hab, hw⟩]
/-- which nodes have an EDGE -/
def joN (f : Int → Int) : Nat → Int
  | 0 => 0
  | q + 1 => if 0 < f (28 + (q : Int)) then sb (joN f q) ((q : Int) / 7) else joN f q
def jos (f : Int → Int) (q : Int) : Int := joN f q.toNat
def jof (f : Int → Int) : Int := joN f 49
theorem jos_s {f : Int → Int} {a b : Int} (ha : 0 ≤ a) (ha7 : a < 7) (hb : 0 ≤ b) (hb7 : b < 7) : jos f (7 * a + (b + 1)) = if 0 < f (28 + 7 * a + b) then sb (jos f (7 * a + b)) a else jos f (7 * a + b) := by
  unfold jos
  rw [show (7 * a + (b + 1)).toNat = (7 * a + b).toNat + 1 by omega, joN, show 28 + (((7 * a + b).toNat : Nat) : Int) = 28 + 7 * a + b by omega, show (((7 * a + b).toNat : Nat) : Int) / 7 = a by omega]
theorem jos_n {f : Int → Int} {a b : Int} (h : b = 7) : jos f (7 * (a + 1)) = jos f (7 * a + b) := by rw [h, show 7 * (a + 1) = 7 * a + 7 by omega]
theorem jos_7 {f : Int → Int} {a : Int} (h : a = 7) : jos f (7 * a) = jof f := by
  rw [h]
  rfl
theorem jos_0 (f : Int → Int) : jos f (7 * 0) = 0 := rfl
theorem jos_k (f : Int → Int) (a : Int) : jos f (7 * a + 0) = jos f (7 * a) := by rw [Int.add_zero]
/-- as often up as told -/
def rtN (h : Int → Int) : Nat → Int → Int
  | 0, v => v
  | n + 1, v => rtN h n (h v)
def rt (h : Int → Int) (v : Int) : Int := rtN h 9 v
theorem rtN_fix {h : Int → Int} {v : Int} (e : h v = v) : ∀ n : Nat, rtN h n v = v
  | 0 => rfl
  | n + 1 => by
    rw [rtN, e]
    exact rtN_fix e n
theorem rtN_cong {h g : Int → Int} (e : ∀ i : Int, 0 ≤ i → i < 7 → h i = g i) (c : ∀ i : Int, 0 ≤ i → i < 7 → 0 ≤ h i ∧ h i < 7) : ∀ (n : Nat) (v : Int), 0 ≤ v → v < 7 → rtN h n v = rtN g n v
  | 0, _, _, _ => rfl
  | n + 1, v, a, b => by
    rw [rtN, rtN, ← e v a b]
    exact rtN_cong e c n (h v) (c v a b).1 (c v a b).2
def RS (h : Int → Int) (v0 v t : Int) : Prop := ∃ m : Nat, rtN h m v = rt h v0 ∧ t < m
theorem RS_0 {h : Int → Int} {v t : Int} (ht : t ≤ 8) : RS h v v t := ⟨9, rfl, by omega⟩
theorem RS_s {h : Int → Int} {v0 v t u : Int} (H : RS h v0 v t) (ht : 0 ≤ t) (hu : u < t) : RS h v0 (h v) u := by
  obtain ⟨m, h1, h2⟩ := H
  obtain ⟨k, hk⟩ : ∃ k : Nat, m = k + 1 := ⟨m - 1, by omega⟩
  subst hk
  exact ⟨k, h1, by omega⟩
theorem RS_e {h : Int → Int} {v0 v t : Int} (H : RS h v0 v t) (e : h v = v) : v = rt h v0 := by
  obtain ⟨m, h1, h2⟩ := H
  rw [← h1, rtN_fix e]
/-- where each hangs there is a way up, without a ring -/
def HG (h : Int → Int) (B : Int) : Prop := (∀ v : Int, 0 ≤ v → v < 7 → 0 ≤ h v ∧ h v < 7) ∧ ∃ T : Int → Int, ∀ v : Int, 0 ≤ v → v < 7 → 0 ≤ T v ∧ T v ≤ B ∧ (h v ≠ v → T v < T (h v))
theorem HG_le {h : Int → Int} {A B : Int} (H : HG h A) (l : A ≤ B) : HG h B := by
  obtain ⟨c, T, hT⟩ := H
  exact ⟨c, T, fun v a b => by have := hT v a b; omega⟩
theorem HG_id {h : Int → Int} (e : ∀ i : Int, 0 ≤ i → i < 7 → h i = i) : HG h 0 := ⟨fun v a b => by rw [e v a b]; exact ⟨a, b⟩, fun _ => 0, fun v a b => ⟨Int.le_refl _, Int.le_refl _, fun q => absurd (e v a b) q⟩⟩
theorem HG_upd {f g : Int → Int} {one other B C : Int} (H : HG f B) (hC : C = B + 1) (o0 : 0 ≤ one) (o7 : one < 7) (t0 : 0 ≤ other) (t7 : other < 7) (h1 : f one = one) (h2 : f other = other) (hne : one ≠ other) (g1 : g one = other) (go : ∀ i : Int, i ≠ one → g i = f i) : HG g C := by
  obtain ⟨c, T, hT⟩ := H
  refine ⟨fun v v0 v7 => ?_, fun v => if v = other then (if T one ≤ T other then T other + 1 else T one + 1) else T v, fun v v0 v7 => ?_⟩
  · by_cases e : v = one
    · rw [e, g1]
      exact ⟨t0, t7⟩
    · rw [go v e]
      exact c v v0 v7
  have k := hT v v0 v7
  have ko := hT one o0 o7
  have kt := hT other t0 t7
  by_cases e1 : v = other
  · subst e1
    have e2 : g v = v := (go v (by omega)).trans h2
    refine ⟨?_, ?_, fun q => absurd e2 q⟩
    · show 0 ≤ (if v = v then _ else _)
      rw [if_pos rfl]
      split <;> omega
    · show (if v = v then _ else _) ≤ _
      rw [if_pos rfl]
      split <;> omega
  · refine ⟨?_, ?_, fun q => ?_⟩
    · show 0 ≤ (if v = other then _ else T v)
      rw [if_neg e1]
      omega
    · show (if v = other then _ else T v) ≤ _
      rw [if_neg e1]
      omega
    · show (if v = other then _ else T v) < (if g v = other then _ else T (g v))
      rw [if_neg e1]
      by_cases e2 : v = one
      · subst e2
        rw [if_pos g1]
        split <;> omega
      · rw [go v e2] at q ⊢
        have k2 := k.2.2 q
        by_cases e3 : f v = other
        · rw [if_pos e3]
          rw [e3] at k2
          split <;> omega
        · rw [if_neg e3]
          exact k2
/-- how all hangs when the first k of what is laid are in -/
noncomputable def hgs (f l : Int → Int) : Nat → Int → Int
  | 0 => fun i => i
  | k + 1 => fun i => if i = rt (hgs f l k) (eaf f (l k) / 7) then rt (hgs f l k) (eaf f (l k) % 7) else hgs f l k i
def okT (f l : Int → Int) (n : Int) : Prop := ∀ k : Nat, (k : Int) < n → rt (hgs f l k) (eaf f (l k) / 7) ≠ rt (hgs f l k) (eaf f (l k) % 7)
def EQ7 (h g : Int → Int) : Prop := ∀ i : Int, 0 ≤ i → i < 7 → h i = g i
theorem rt_cong {h g : Int → Int} (e : EQ7 h g) {B : Int} (H : HG h B) {v : Int} (a : 0 ≤ v) (b : v < 7) : rt h v = rt g v := rtN_cong e H.1 9 v a b
theorem okT_0 (f l : Int → Int) {n : Int} (h : n ≤ 0) : okT f l n := fun k hk => by exfalso; omega
theorem okT_no {f l h : Int → Int} {k n e one other B : Int} (E : EQ7 h (hgs f l k.toNat)) (H : HG h B) (hk : 0 ≤ k) (hn : k < n) (he : e = eaf f (l k)) (e0 : 0 ≤ e) (e1 : e < 49) (h1 : one = rt h (e / 7)) (h2 : other = rt h (e % 7)) (q : one = other) : ¬ okT f l n := by
  intro ok
  have k1 := ok k.toNat (by omega)
  rw [show ((k.toNat : Nat) : Int) = k by omega, ← he] at k1
  rw [rt_cong E H (by omega) (by omega)] at h1 h2
  exact k1 (h1.symm.trans (q.trans h2))
theorem okT_s {f l h : Int → Int} {k e one other B : Int} (ok : okT f l k) (E : EQ7 h (hgs f l k.toNat)) (H : HG h B) (hk : 0 ≤ k) (he : e = eaf f (l k)) (e0 : 0 ≤ e) (e1 : e < 49) (h1 : one = rt h (e / 7)) (h2 : other = rt h (e % 7)) (q : one ≠ other) : okT f l (k + 1) := by
  intro j hj
  by_cases c : (j : Int) < k
  · exact ok j c
  · have ej : j = k.toNat := by omega
    subst ej
    rw [show ((k.toNat : Nat) : Int) = k by omega, ← he]
    rw [rt_cong E H (by omega) (by omega)] at h1 h2
    rw [← h1, ← h2]
    exact q
theorem hgs_s {f l h g : Int → Int} {k e one other B : Int} (E : EQ7 h (hgs f l k.toNat)) (H : HG h B) (hk : 0 ≤ k) (he : e = eaf f (l k)) (e0 : 0 ≤ e) (e1 : e < 49) (h1 : one = rt h (e / 7)) (h2 : other = rt h (e % 7)) (g1 : g one = other) (go : ∀ i : Int, i ≠ one → g i = h i) : EQ7 g (hgs f l (k + 1).toNat) := by
  intro i a b
  rw [show (k + 1).toNat = k.toNat + 1 by omega, hgs]
  show g i = if i = rt (hgs f l k.toNat) (eaf f (l (k.toNat : Nat)) / 7) then _ else _
  rw [show ((k.toNat : Nat) : Int) = k by omega, ← he]
  rw [rt_cong E H (by omega) (by omega)] at h1 h2
  rw [← h1, ← h2]
  by_cases c : i = one
  · rw [if_pos c, c, g1]
  · rw [if_neg c, go i c]
    exact E i a b
theorem hgs_cong {f l m : Int → Int} : ∀ {k : Nat}, (∀ i : Int, 0 ≤ i → i < k → l i = m i) → hgs f l k = hgs f m k
  | 0, _ => rfl
  | k + 1, h => by rw [hgs, hgs, hgs_cong (k := k) (fun i a b => h i a (by omega)), h k (by omega) (by omega)]
theorem okT_cong {f l m : Int → Int} {n : Int} (h : ∀ i : Int, 0 ≤ i → i < n → l i = m i) : okT f l n ↔ okT f m n := by
  have key : ∀ k : Nat, (k : Int) < n → hgs f l k = hgs f m k ∧ l k = m k := fun k hk => ⟨hgs_cong (fun i a b => h i a (by omega)), h k (by omega) hk⟩
  constructor
  · intro ok k hk
    rw [← (key k hk).1, ← (key k hk).2]
    exact ok k hk
  · intro ok k hk
    rw [(key k hk).1, (key k hk).2]
    exact ok k hk
noncomputable def okz (f l : Int → Int) (n : Int) : Int := @ite Int (okT f l n) (Classical.propDecidable _) 1 0
theorem okz_1 {f l : Int → Int} {n : Int} (h : okT f l n) : okz f l n = 1 := by
  unfold okz
  rw [if_pos h]
theorem okz_0 {f l : Int → Int} {n : Int} (h : ¬ okT f l n) : okz f l n = 0 := by
  unfold okz
  rw [if_neg h]
theorem okz_cong {f l m : Int → Int} {n : Int} (h : ∀ i : Int, 0 ≤ i → i < n → l i = m i) : okz f l n = okz f m n := by
  by_cases c : okT f l n
  · rw [okz_1 c, okz_1 ((okT_cong h).mp c)]
  · rw [okz_0 c, okz_0 (fun q => c ((okT_cong h).mpr q))]
/-- a sum over so many places from p on -/
def sm (g : Int → Int) : Int → Nat → Int
  | _, 0 => 0
  | p, m + 1 => g p + sm g (p + 1) m
def upd1 (l : Int → Int) (n i : Int) : Int → Int := fun k => if k = n then i else l k
theorem upd1_of {l m : Int → Int} {n i : Int} (hn : m n = i) (ho : ∀ k : Int, 0 ≤ k → k < n → m k = l k) : ∀ k : Int, 0 ≤ k → k < n + 1 → m k = upd1 l n i k := by
  intro k a b
  unfold upd1
  by_cases c : k = n
  · rw [if_pos c, c, hn]
  · rw [if_neg c]
    exact ho k a (by omega)
/-- how many TREES there are that go on so -/
noncomputable def tcF (f : Int → Int) (v : Int) : Nat → (Int → Int) → Int → Int → Int
  | 0, l, _, n => okz f l n
  | d + 1, l, p, n => ml (okz f l n) (sm (fun i => tcF f v d (upd1 l n i) (i + 1) (n + 1)) p (v - p).toNat)
theorem tcF_cong {f : Int → Int} {v : Int} : ∀ (d : Nat) {l m : Int → Int} {p n : Int}, (∀ i : Int, 0 ≤ i → i < n → l i = m i) → tcF f v d l p n = tcF f v d m p n
  | 0, _, _, _, _, h => okz_cong h
  | d + 1, l, m, p, n, h => by
    have e : (fun i => tcF f v d (upd1 l n i) (i + 1) (n + 1)) = (fun i => tcF f v d (upd1 m n i) (i + 1) (n + 1)) := by
      funext i
      refine tcF_cong d (fun k a b => ?_)
      unfold upd1
      by_cases c : k = n
      · rw [if_pos c, if_pos c]
      · rw [if_neg c, if_neg c]
        exact h k a (by omega)
    rw [tcF, tcF, okz_cong h, e]
noncomputable def TC (f : Int → Int) (v w : Int) (l : Int → Int) (p n : Int) : Int := tcF f v (w - n).toNat l p n
noncomputable def smT (f : Int → Int) (v w : Int) (l : Int → Int) (n i : Int) : Int := sm (fun j => TC f v w (upd1 l n j) (j + 1) (n + 1)) i (v - i).toNat
theorem TC_cong {f l m : Int → Int} {v w p n : Int} (h : ∀ i : Int, 0 ≤ i → i < n → l i = m i) : TC f v w l p n = TC f v w m p n := tcF_cong _ h
theorem TC_no {f l : Int → Int} {v w p n : Int} (h : ¬ okT f l n) : TC f v w l p n = 0 := by
  unfold TC
  cases (w - n).toNat with
  | zero => exact okz_0 h
  | succ d => rw [tcF, okz_0 h, ml_0]
theorem TC_w {f l : Int → Int} {v w p n : Int} (e : n = w) (h : okT f l n) : TC f v w l p n = 1 := by
  unfold TC
  rw [show (w - n).toNat = 0 by omega]
  exact okz_1 h
theorem TC_s {f l : Int → Int} {v w p n : Int} (e : n < w) (h : okT f l n) : TC f v w l p n = smT f v w l n p := by
  unfold TC smT
  rw [show (w - n).toNat = (w - (n + 1)).toNat + 1 by omega, tcF, okz_1 h]
  show ml 1 _ = sm (fun j => tcF f v (w - (n + 1)).toNat (upd1 l n j) (j + 1) (n + 1)) p (v - p).toNat
  unfold ml
  rw [Int.one_mul]
theorem smT_s {f l : Int → Int} {v w n i : Int} (h : i < v) : smT f v w l n i = TC f v w (upd1 l n i) (i + 1) (n + 1) + smT f v w l n (i + 1) := by
  unfold smT
  rw [show (v - i).toNat = (v - (i + 1)).toNat + 1 by omega, sm]
theorem smT_e {f l : Int → Int} {v w n i : Int} (h : v ≤ i) : smT f v w l n i = 0 := by
  unfold smT
  rw [show (v - i).toNat = 0 by omega]
  rfl
