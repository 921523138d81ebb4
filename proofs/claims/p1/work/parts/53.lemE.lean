/-! the text, read exactly: a byte of a number, signs, the text as a list of numbers -/
def uch (t : Int) : Int := if t < 0 then t + 256 else t
theorem uch_n {t : Int} (h : t < 0) : uch t = t + 256 := if_pos h
theorem uch_p {t : Int} (h : 0 ≤ t) : uch t = t := if_neg (by omega)
def bch (v w : Int) : Int := if w = 0 then v % 256 else if w = 8 then v / 256 % 256 else if w = 16 then v / 65536 % 256 else v / 16777216 % 256
set_option maxHeartbeats 200000 in
theorem and255 {a z : Int} (hz : fm_r z) (h : iI a &&& iI 255 = iI z) : z = a % 256 := by
  have h1 := congrArg Int32.toBitVec h
  have e1 : (iI a &&& iI 255).toBitVec = BitVec.ofInt 32 a &&& BitVec.ofInt 32 255 := rfl
  have e2 : (iI z).toBitVec = BitVec.ofInt 32 z := rfl
  rw [e1, e2] at h1
  have h2 := congrArg BitVec.toNat h1
  rw [BitVec.toNat_and, BitVec.toNat_ofInt, BitVec.toNat_ofInt, BitVec.toNat_ofInt] at h2
  have e3 : ((255 : Int) % ((2 ^ 32 : Nat) : Int)).toNat = 2 ^ 8 - 1 := by decide +kernel
  rw [e3, Nat.and_two_pow_sub_one_eq_mod] at h2
  have h3 : (a % 4294967296).toNat % 256 = (z % 4294967296).toNat := h2
  have r1 := hz.1
  have r2 := hz.2
  omega
set_option maxHeartbeats 200000 in
theorem ush_nat {v s : Int} {k : Nat} (hs : ((iI s).toUInt32 &&& Int32.toUInt32 31).toNat % 32 = k) : (((iI v).toUInt32 >>> ((iI s).toUInt32 &&& Int32.toUInt32 31)).toInt32).toBitVec.toNat = (v % 4294967296).toNat / 2 ^ k := by
  show ((iI v).toUInt32 >>> ((iI s).toUInt32 &&& Int32.toUInt32 31)).toNat = _
  rw [UInt32.toNat_shiftRight, hs, Nat.shiftRight_eq_div_pow]
  have e : (iI v).toUInt32.toNat = (v % 4294967296).toNat := BitVec.toNat_ofInt (n := 32) v
  rw [e]
set_option maxHeartbeats 400000 in
theorem bch_c {v w z : Int} (hw : w = 0 ∨ w = 8 ∨ w = 16 ∨ w = 24) (hz : fm_r z) (h : ((iI v).toUInt32 >>> ((iI w).toUInt32 &&& Int32.toUInt32 31)).toInt32 = iI z) : z % 256 = bch v w := by
  have h1 : (((iI v).toUInt32 >>> ((iI w).toUInt32 &&& Int32.toUInt32 31)).toInt32).toBitVec.toNat = (iI z).toBitVec.toNat := by rw [h]
  have e2 : (iI z).toBitVec.toNat = (z % 4294967296).toNat := BitVec.toNat_ofInt (n := 32) z
  have r1 := hz.1
  have r2 := hz.2
  rcases hw with rfl | rfl | rfl | rfl
  · rw [ush_nat (v := v) (s := 0) (k := 0) (by decide +kernel), e2] at h1
    have h3 : (v % 4294967296).toNat / 1 = (z % 4294967296).toNat := h1
    show z % 256 = v % 256
    omega
  · rw [ush_nat (v := v) (s := 8) (k := 8) (by decide +kernel), e2] at h1
    have h3 : (v % 4294967296).toNat / 256 = (z % 4294967296).toNat := h1
    show z % 256 = v / 256 % 256
    omega
  · rw [ush_nat (v := v) (s := 16) (k := 16) (by decide +kernel), e2] at h1
    have h3 : (v % 4294967296).toNat / 65536 = (z % 4294967296).toNat := h1
    show z % 256 = v / 65536 % 256
    omega
  · rw [ush_nat (v := v) (s := 24) (k := 24) (by decide +kernel), e2] at h1
    have h3 : (v % 4294967296).toNat / 16777216 = (z % 4294967296).toNat := h1
    show z % 256 = v / 16777216 % 256
    omega
set_option maxHeartbeats 200000 in
theorem sar_int {v s : Int} {k : Nat} (hv : fm_r v) (hs : ((iI s &&& 31 : Int32).toBitVec.smod 32).toNat = k) : (iI v >>> (iI s &&& 31)).toInt = v / ((2 ^ k : Nat) : Int) := by
  show ((iI v).toBitVec.sshiftRight' ((iI s &&& 31 : Int32).toBitVec.smod 32)).toInt = _
  rw [BitVec.toInt_sshiftRight', hs, Int.shiftRight_eq_div_pow]
  have e : (iI v).toBitVec.toInt = v := iI_t hv
  rw [e]
set_option maxHeartbeats 400000 in
theorem bch_r {v w z : Int} (hw : w = 0 ∨ w = 8 ∨ w = 16 ∨ w = 24) (hv : fm_r v) (hz : fm_r z) (h : iI v >>> (iI w &&& 31) = iI z) : z % 256 = bch v w := by
  have h1 : (iI v >>> (iI w &&& 31)).toInt = z := by rw [h]; exact iI_t hz
  rcases hw with rfl | rfl | rfl | rfl
  · rw [sar_int (v := v) (s := 0) (k := 0) hv (by decide +kernel)] at h1
    have h3 : v / 1 = z := h1
    show z % 256 = v % 256
    omega
  · rw [sar_int (v := v) (s := 8) (k := 8) hv (by decide +kernel)] at h1
    have h3 : v / 256 = z := h1
    show z % 256 = v / 256 % 256
    omega
  · rw [sar_int (v := v) (s := 16) (k := 16) hv (by decide +kernel)] at h1
    have h3 : v / 65536 = z := h1
    show z % 256 = v / 65536 % 256
    omega
  · rw [sar_int (v := v) (s := 24) (k := 24) hv (by decide +kernel)] at h1
    have h3 : v / 16777216 = z := h1
    show z % 256 = v / 16777216 % 256
    omega
set_option maxHeartbeats 200000 in
theorem b8_mod {a z : Int} (ha : fm_r a) (hz : -128 ≤ z ∧ z ≤ 127) (h : (iI a).toInt8.toInt32 = iI z) : uch z = a % 256 := by
  have h1 : ((iI a).toInt8.toInt32).toInt = z := by rw [h]; exact iI_t ⟨by omega, by omega⟩
  rw [Int8.toInt_toInt32, Int32.toInt_toInt8, iI_t ha] at h1
  have h2 : Int.bmod a 256 = z := h1
  have h3 : z % 256 = a % 256 := by rw [← h2]; exact Int.bmod_emod
  by_cases c : z < 0
  · rw [uch_n c]; omega
  · rw [uch_p (by omega)]; omega
/-- the numbers of the text f of n signs, from place p on, when k more may come: how many there are in all, or -1 and the place that can't stand -/
def LSp (f : Int → Int) (n : Int) : Nat → Int → Int
  | 0, p => -1 - p
  | k + 1, p => if p < n ∧ 48 ≤ f p ∧ f p ≤ 57 then (if p + 1 < n ∧ 48 ≤ f (p + 1) ∧ f (p + 1) ≤ 57 then (if p + 1 + 1 = n then 6 - (k : Int) else if f (p + 1 + 1) = 44 then LSp f n k (p + 1 + 1 + 1) else -1 - (p + 1 + 1)) else (if p + 1 = n then 6 - (k : Int) else if f (p + 1) = 44 then LSp f n k (p + 1 + 1) else -1 - (p + 1))) else -1 - p
theorem LSp_s {f : Int → Int} {n p : Int} {k : Nat} : LSp f n (k + 1) p = (if p < n ∧ 48 ≤ f p ∧ f p ≤ 57 then (if p + 1 < n ∧ 48 ≤ f (p + 1) ∧ f (p + 1) ≤ 57 then (if p + 1 + 1 = n then 6 - (k : Int) else if f (p + 1 + 1) = 44 then LSp f n k (p + 1 + 1 + 1) else -1 - (p + 1 + 1)) else (if p + 1 = n then 6 - (k : Int) else if f (p + 1) = 44 then LSp f n k (p + 1 + 1) else -1 - (p + 1))) else -1 - p) := rfl
def LSi (f : Int → Int) (n i p : Int) : Int := LSp f n (6 - i).toNat p
theorem LSi_6 {f : Int → Int} {n p : Int} : LSi f n 6 p = -1 - p := rfl
set_option maxHeartbeats 400000 in
theorem LSi_k {f : Int → Int} {n i p : Int} (h0 : 0 ≤ i) (h5 : i ≤ 5) :
    (¬ (p < n ∧ 48 ≤ f p ∧ f p ≤ 57) → LSi f n i p = -1 - p) ∧
    ((p < n ∧ 48 ≤ f p ∧ f p ≤ 57) → ¬ (p + 1 < n ∧ 48 ≤ f (p + 1) ∧ f (p + 1) ≤ 57) → (p + 1 = n → LSi f n i p = i + 1) ∧ (p + 1 ≠ n → f (p + 1) = 44 → LSi f n i p = LSi f n (i + 1) (p + 1 + 1)) ∧ (p + 1 ≠ n → f (p + 1) ≠ 44 → LSi f n i p = -1 - (p + 1))) ∧
    ((p < n ∧ 48 ≤ f p ∧ f p ≤ 57) → (p + 1 < n ∧ 48 ≤ f (p + 1) ∧ f (p + 1) ≤ 57) → (p + 1 + 1 = n → LSi f n i p = i + 1) ∧ (p + 1 + 1 ≠ n → f (p + 1 + 1) = 44 → LSi f n i p = LSi f n (i + 1) (p + 1 + 1 + 1)) ∧ (p + 1 + 1 ≠ n → f (p + 1 + 1) ≠ 44 → LSi f n i p = -1 - (p + 1 + 1))) := by
  obtain ⟨k, hk⟩ : ∃ k : Nat, (6 - i).toNat = k + 1 := ⟨(5 - i).toNat, by omega⟩
  have hk1 : (6 - (i + 1)).toNat = k := by omega
  have hki : 6 - (k : Int) = i + 1 := by omega
  unfold LSi
  rw [hk, hk1]
  rw [LSp_s, hki]
  refine ⟨fun a => ?_, fun a b => ⟨fun c => ?_, fun c d => ?_, fun c d => ?_⟩, fun a b => ⟨fun c => ?_, fun c d => ?_, fun c d => ?_⟩⟩
  · rw [if_neg a]
  · rw [if_pos a, if_neg b, if_pos c]
  · rw [if_pos a, if_neg b, if_neg c, if_pos d]
  · rw [if_pos a, if_neg b, if_neg c, if_neg d]
  · rw [if_pos a, if_pos b, if_pos c]
  · rw [if_pos a, if_pos b, if_neg c, if_pos d]
  · rw [if_pos a, if_pos b, if_neg c, if_neg d]
set_option maxHeartbeats 400000 in
theorem LSp_c {f g : Int → Int} {n : Int} (h : ∀ j : Int, 0 ≤ j → j < n → f j = g j) : ∀ (k : Nat) (p : Int), 0 ≤ p → LSp f n k p = LSp g n k p := by
  intro k
  induction k with
  | zero => intro p _; rfl
  | succ k ih =>
    intro p h0
    have e1 : (p < n ∧ 48 ≤ f p ∧ f p ≤ 57) ↔ (p < n ∧ 48 ≤ g p ∧ g p ≤ 57) := ⟨fun q => ⟨q.1, by rw [← h p h0 q.1]; exact q.2⟩, fun q => ⟨q.1, by rw [h p h0 q.1]; exact q.2⟩⟩
    have e2 : (p + 1 < n ∧ 48 ≤ f (p + 1) ∧ f (p + 1) ≤ 57) ↔ (p + 1 < n ∧ 48 ≤ g (p + 1) ∧ g (p + 1) ≤ 57) := ⟨fun q => ⟨q.1, by rw [← h (p + 1) (by omega) q.1]; exact q.2⟩, fun q => ⟨q.1, by rw [h (p + 1) (by omega) q.1]; exact q.2⟩⟩
    show (if p < n ∧ 48 ≤ f p ∧ f p ≤ 57 then _ else _) = (if p < n ∧ 48 ≤ g p ∧ g p ≤ 57 then _ else _)
    by_cases a : p < n ∧ 48 ≤ f p ∧ f p ≤ 57
    · rw [if_pos a, if_pos (e1.mp a)]
      by_cases b : p + 1 < n ∧ 48 ≤ f (p + 1) ∧ f (p + 1) ≤ 57
      · rw [if_pos b, if_pos (e2.mp b)]
        by_cases c : p + 1 + 1 = n
        · rw [if_pos c, if_pos c]
        · rw [if_neg c, if_neg c, h (p + 1 + 1) (by omega) (by omega), ih (p + 1 + 1 + 1) (by omega)]
      · rw [if_neg b, if_neg (fun q => b (e2.mpr q))]
        by_cases c : p + 1 = n
        · rw [if_pos c, if_pos c]
        · rw [if_neg c, if_neg c, h (p + 1) (by omega) (by omega), ih (p + 1 + 1) (by omega)]
    · rw [if_neg a, if_neg (fun q => a (e1.mpr q))]
theorem LSi_c {f g : Int → Int} {n i p : Int} (h : ∀ j : Int, 0 ≤ j → j < n → f j = g j) (h0 : 0 ≤ p) : LSi f n i p = LSi g n i p := LSp_c h _ p h0
