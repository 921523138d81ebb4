/-! bitCount of seven bits is at most 7 -/
def us32 (a : Int32) (b : Int) : Int32 := (a.toUInt32 >>> ((iI b).toUInt32 &&& Int32.toUInt32 31)).toInt32
def bc1 (a : Int32) : Int32 := a - (us32 a 1 &&& iI 1431655765)
def bc2 (a : Int32) : Int32 := (a &&& iI 858993459) + (us32 a 2 &&& iI 858993459)
def bc3 (a : Int32) : Int32 := (a + us32 a 4) &&& iI 252645135
def bc4 (a : Int32) : Int32 := a + us32 a 8
def bc5 (a : Int32) : Int32 := (a + us32 a 16) &&& iI 63
def pcn (q : Nat) : Nat := q % 2 + q / 2 % 2 + q / 4 % 2 + q / 8 % 2 + q / 16 % 2 + q / 32 % 2 + q / 64 % 2
theorem bc_k : ∀ q : Nat, q < 128 → bc5 (bc4 (bc3 (bc2 (bc1 (iI (q : Int)))))) = iI (pcn q : Int) := by decide +kernel
theorem bitc {p z1 z5 z10 z14 z19 z23 z28 z32 z36 z41 z45 z49 z54 z58 : Int} (h0 : 0 ≤ p) (hp : p < 128) (hz : fm_r z58) (q3 : us32 (iI p) 1 = iI z1) (q7 : iI z1 &&& iI 1431655765 = iI z5) (q12 : iI (p - z5) = iI z10) (q16 : iI z10 &&& iI 858993459 = iI z14) (q21 : us32 (iI z10) 2 = iI z19) (q25 : iI z19 &&& iI 858993459 = iI z23) (q30 : us32 (iI (z14 + z23)) 4 = iI z28) (q34 : iI (z14 + z23 + z28) = iI z32) (q38 : iI z32 &&& iI 252645135 = iI z36) (q43 : us32 (iI z36) 8 = iI z41) (q47 : iI (z36 + z41) = iI z45) (q51 : us32 (iI z45) 16 = iI z49) (q56 : iI (z45 + z49) = iI z54) (q60 : iI z54 &&& iI 63 = iI z58) : 0 ≤ z58 ∧ z58 ≤ 7 ∧ z58 = (pcn p.toNat : Int) := by
  have a1 : bc1 (iI p) = iI z10 := by
    unfold bc1
    rw [q3, q7, iI_sub, q12]
  have a2 : bc2 (iI z10) = iI (z14 + z23) := by
    unfold bc2
    rw [q16, q21, q25, iI_add]
  have a3 : bc3 (iI (z14 + z23)) = iI z36 := by
    unfold bc3
    rw [q30, iI_add, q34, q38]
  have a4 : bc4 (iI z36) = iI z45 := by
    unfold bc4
    rw [q43, iI_add, q47]
  have a5 : bc5 (iI z45) = iI z58 := by
    unfold bc5
    rw [q51, iI_add, q56, q60]
  have k := bc_k p.toNat (by omega)
  rw [show ((p.toNat : Nat) : Int) = p by omega, a1, a2, a3, a4, a5] at k
  have b : pcn p.toNat ≤ 7 := by
    unfold pcn
    omega
  have e := iI_inj hz (by omega) k
  omega
def need1 (f : Int → Int) : Int := if 1 ≤ (pcn (jof f).toNat : Int) then (pcn (jof f).toNat : Int) - 1 else 0
theorem need1_m {f : Int → Int} {p c z : Int} (hp : p = jof f) (hc : c = (pcn p.toNat : Int)) (h1 : 0 ≤ z) (h2 : c - 1 ≤ z) (h3 : z = 0 ∨ z = c - 1) : z = need1 f := by
  unfold need1
  rw [← hp, ← hc]
  split <;> omega
/-- how many there are of the first two kinds -/
noncomputable def cn1 (f : Int → Int) : Int := TC f (ec f 49) (need1 f) (fun _ => 0) 0 0
theorem cn1_of {f l : Int → Int} {v w : Int} (hv : v = ec f 49) (hw : w = need1 f) : TC f v w l 0 0 = cn1 f := by
  unfold cn1
  rw [hv, hw]
  exact TC_cong (fun i a c => by exfalso; omega)
