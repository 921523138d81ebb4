/-! years(): what is drawn by a seed, and what it does to how long the lists are -/
theorem md32 {a b : Int} (h : iI a = iI b) : a % 4294967296 = b % 4294967296 := by
  have h1 : (iI a).toBitVec.toNat = (iI b).toBitVec.toNat := by rw [h]
  have e1 : (iI a).toBitVec.toNat = (a % 4294967296).toNat := BitVec.toNat_ofInt (n := 32) a
  have e2 : (iI b).toBitVec.toNat = (b % 4294967296).toNat := BitVec.toNat_ofInt (n := 32) b
  rw [e1, e2] at h1
  omega
def nxS (r : Int) : Int := if (r * 1103515245 + 12345) % 4294967296 < 2147483648 then (r * 1103515245 + 12345) % 4294967296 else (r * 1103515245 + 12345) % 4294967296 - 4294967296
theorem nx_of {r z1 z2 : Int} (h1 : iI (r * 1103515245) = iI z1) (h2 : iI (z1 + 12345) = iI z2) (hz : fm_r z2) : z2 = nxS r := by
  have k1 := md32 h1
  have k2 := md32 h2
  have r1 := hz.1
  have r2 := hz.2
  unfold nxS
  by_cases c : (r * 1103515245 + 12345) % 4294967296 < 2147483648
  · rw [if_pos c]; omega
  · rw [if_neg c]; omega
theorem ush16 {a z : Int} (hz : 0 ≤ z ∧ z ≤ 65535) (h : ((iI a).toUInt32 >>> ((iI 16).toUInt32 &&& Int32.toUInt32 31)).toInt32 = iI z) : z = a % 4294967296 / 65536 := by
  have h1 : (((iI a).toUInt32 >>> ((iI 16).toUInt32 &&& Int32.toUInt32 31)).toInt32).toBitVec.toNat = (iI z).toBitVec.toNat := by rw [h]
  have e2 : (iI z).toBitVec.toNat = (z % 4294967296).toNat := BitVec.toNat_ofInt (n := 32) z
  rw [ush_nat (v := a) (s := 16) (k := 16) (by decide +kernel), e2] at h1
  have h3 : (a % 4294967296).toNat / 65536 = (z % 4294967296).toNat := h1
  omega
def dvS (r n : Int) : Int := (r % 4294967296 / 65536) % n
theorem dvS_b {r n : Int} (h : 1 ≤ n) : 0 ≤ dvS r n ∧ dvS r n < n := ⟨Int.emod_nonneg _ (by omega), Int.emod_lt_of_pos _ (by omega)⟩
def ptL (L : Int → Int) (k : Int) : Int → Int := fun j => if j = k ∧ L k < 6 then L k + 1 else L j
def tkL (L : Int → Int) (k w : Int) : Int → Int := fun j => if j = k ∧ w < L k then L k - 1 else L j
def yrR (r : Int) : Int := if dvS (nxS r) 4 = 0 ∨ dvS (nxS r) 4 = 1 then nxS (nxS (nxS r)) else nxS (nxS (nxS (nxS r)))
def yrL (r : Int) (L : Int → Int) : Int → Int := if dvS (nxS r) 4 = 0 then ptL L (dvS (nxS (nxS r)) 4) else if dvS (nxS r) 4 = 1 then tkL L (dvS (nxS (nxS r)) 4) (dvS (nxS (nxS (nxS r))) 6) else L
def ysR : Nat → Int → Int
  | 0, r => r
  | k + 1, r => yrR (ysR k r)
def ysL : Nat → Int → (Int → Int) → Int → Int
  | 0, _, L => L
  | k + 1, r, L => yrL (ysR k r) (ysL k r L)
/-- alike for the four lists -/
def LQ (f g : Int → Int) : Prop := ∀ j : Int, 0 ≤ j → j < 4 → f j = g j
theorem LQ_t {f g h : Int → Int} (a : LQ f g) (b : LQ g h) : LQ f h := fun j p q => (a j p q).trans (b j p q)
theorem ptL_c {f g : Int → Int} {k : Int} (h : LQ f g) (h0 : 0 ≤ k) (h4 : k < 4) : LQ (ptL f k) (ptL g k) := by
  intro j a b
  show (if j = k ∧ f k < 6 then f k + 1 else f j) = (if j = k ∧ g k < 6 then g k + 1 else g j)
  rw [h k h0 h4, h j a b]
theorem tkL_c {f g : Int → Int} {k w : Int} (h : LQ f g) (h0 : 0 ≤ k) (h4 : k < 4) : LQ (tkL f k w) (tkL g k w) := by
  intro j a b
  show (if j = k ∧ w < f k then f k - 1 else f j) = (if j = k ∧ w < g k then g k - 1 else g j)
  rw [h k h0 h4, h j a b]
theorem yrL_c {r : Int} {f g : Int → Int} (h : LQ f g) : LQ (yrL r f) (yrL r g) := by
  have hb := @dvS_b (nxS (nxS r)) 4 (by decide)
  unfold yrL
  by_cases c : dvS (nxS r) 4 = 0
  · rw [if_pos c, if_pos c]; exact ptL_c h hb.1 hb.2
  · rw [if_neg c, if_neg c]
    by_cases d : dvS (nxS r) 4 = 1
    · rw [if_pos d, if_pos d]; exact tkL_c h hb.1 hb.2
    · rw [if_neg d, if_neg d]; exact h
theorem yr_0 {r : Int} {L : Int → Int} (h : dvS (nxS r) 4 = 0) : yrR r = nxS (nxS (nxS r)) ∧ yrL r L = ptL L (dvS (nxS (nxS r)) 4) := ⟨if_pos (Or.inl h), if_pos h⟩
theorem yr_1 {r : Int} {L : Int → Int} (h : dvS (nxS r) 4 = 1) : yrR r = nxS (nxS (nxS r)) ∧ yrL r L = tkL L (dvS (nxS (nxS r)) 4) (dvS (nxS (nxS (nxS r))) 6) := ⟨if_pos (Or.inr h), (if_neg (by omega)).trans (if_pos h)⟩
theorem yr_2 {r : Int} {L : Int → Int} (h : dvS (nxS r) 4 ≠ 0) (h1 : dvS (nxS r) 4 ≠ 1) : yrR r = nxS (nxS (nxS (nxS r))) ∧ yrL r L = L := ⟨if_neg (by omega), (if_neg h).trans (if_neg h1)⟩
theorem ys_s {i r : Int} {L : Int → Int} (h : 0 ≤ i) : ysR (i + 1).toNat r = yrR (ysR i.toNat r) ∧ ysL (i + 1).toNat r L = yrL (ysR i.toNat r) (ysL i.toNat r L) := by
  rw [show (i + 1).toNat = i.toNat + 1 by omega]
  exact ⟨rfl, rfl⟩
/-- how many choices there are of lists so long -/
def clp (L : Int → Int) (p : Int) : Int := ccp (fun i => L (i - 24)) p
theorem clp_4 {L : Int → Int} {p : Int} (h : p = 4) : clp L p = 1 := ccp_4 h
theorem clp_z {L : Int → Int} {p : Int} (h0 : 0 ≤ p) (h : p < 4) (hz : L p = 0) : clp L p = clp L (p + 1) := ccp_z h0 h (by show L (24 + p - 24) = 0; rw [show 24 + p - 24 = p by omega]; exact hz)
theorem clp_n {L : Int → Int} {p : Int} (h0 : 0 ≤ p) (h : p < 4) (hz : L p ≠ 0) : clp L p = ml (L p) (clp L (p + 1)) := by
  have k : L (24 + p - 24) = L p := by rw [show 24 + p - 24 = p by omega]
  have e := ccp_n (f := fun i => L (i - 24)) h0 h (by show L (24 + p - 24) ≠ 0; rw [k]; exact hz)
  show ccp _ p = ml (L p) (ccp _ (p + 1))
  rw [e]
  show ml (L (24 + p - 24)) _ = _
  rw [k]
theorem ccN_q {f g : Int → Int} (h : ∀ p : Int, 0 ≤ p → p < 4 → f (24 + p) = g (24 + p)) : ∀ d : Nat, d ≤ 4 → ccN f d = ccN g d
  | 0, _ => rfl
  | d + 1, hd => by
    show (if f (24 + (3 - (d : Int))) = 0 then ccN f d else ml (f (24 + (3 - (d : Int)))) (ccN f d)) = (if g (24 + (3 - (d : Int))) = 0 then ccN g d else ml (g (24 + (3 - (d : Int)))) (ccN g d))
    rw [h (3 - (d : Int)) (by omega) (by omega), ccN_q h d (by omega)]
theorem clp_q {f g : Int → Int} (h : LQ f g) : clp f 0 = clp g 0 := ccN_q (f := fun i => f (i - 24)) (g := fun i => g (i - 24)) (fun p a b => by show f (24 + p - 24) = g (24 + p - 24); rw [show 24 + p - 24 = p by omega]; exact h p a b) 4 (by decide)
theorem clp_m {f : Int → Int} : ccp f 0 = clp (fun j => f (24 + j)) 0 := ccN_q (f := f) (g := fun i => f (24 + (i - 24))) (fun p a b => by show f (24 + p) = f (24 + (24 + p - 24)); rw [show 24 + (24 + p - 24) = 24 + p by omega]) 4 (by decide)
