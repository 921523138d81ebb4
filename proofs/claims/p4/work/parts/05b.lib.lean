set_option maxHeartbeats 100000 in
theorem fr_mmax {Y : Ly} {G : Gx} {C : Cx} {cc : ByteArray} {own : String} {nL : Nat} {ret : Option FieldType} {fr lc : Nat} {x : Mm} {pc : Nat} {L : List (Nat × Value)} {st : List Value} (h : OK Y G C cc own nL ret fr lc) {index : Nat} {a b : Int} (ha : fm_r a) (hb0 : fm_r b) (hk : Cond.methodLink own index Lib.Math.max.name ∈ TB) (hw : Cond.static Lib.Math.max.name ∈ TB ∧ Cond.initialized "java/lang/Math" ∈ TB ∧ Cond.code Lib.Math.max.name Lib.Math.max.code 2 (some .int) ∈ TB) (hf : 1 ≤ fr) (hlo : 21 ≤ lc) (hsum : (st.map fun v => v.category).sum ≤ 8) (hd : decode cc pc = .ok (.invokestatic index, 3)) (kk : ∀ z : Int, a ≤ z → b ≤ z → (z = a ∨ z = b) → FW Y G C nL x (pc + 3) L (vi z :: st)) : FW Y G C nL x pc L (vi b :: vi a :: st) := by
  obtain ⟨p, l, e, R, s, m, args, below, meth, c, cells, slots, Q⟩ := C
  obtain ⟨hx, hb, hml, hown, hts, hK, hD, hlocks, hcl, hsl, hX, hXc, hret, hfr, hlc⟩ := h
  intro hR H locs ls hP hS hl
  refine va_mmax hx hb (hml.trans hl.1.symm) hown (hts _ hk) (hts _ hw.1) (hts _ hw.2.1) (hts _ hw.2.2) (by omega) (by omega) hcl hsl hd ?_
  by_cases q : iI a < iI b
  · rw [if_pos q]
    have q1 := (iI_lt ha hb0).mp q
    exact kk b (by omega) (by omega) (by omega) hR H locs ls hP hS hl
  · rw [if_neg q]
    have q1 : ¬ a < b := fun r => q ((iI_lt ha hb0).mpr r)
    exact kk a (by omega) (by omega) (by omega) hR H locs ls hP hS hl
set_option maxHeartbeats 100000 in
theorem fr_mmin {Y : Ly} {G : Gx} {C : Cx} {cc : ByteArray} {own : String} {nL : Nat} {ret : Option FieldType} {fr lc : Nat} {x : Mm} {pc : Nat} {L : List (Nat × Value)} {st : List Value} (h : OK Y G C cc own nL ret fr lc) {index : Nat} {a b : Int} (ha : fm_r a) (hb0 : fm_r b) (hk : Cond.methodLink own index Lib.Math.min.name ∈ TB) (hw : Cond.static Lib.Math.min.name ∈ TB ∧ Cond.initialized "java/lang/Math" ∈ TB ∧ Cond.code Lib.Math.min.name Lib.Math.min.code 2 (some .int) ∈ TB) (hf : 1 ≤ fr) (hlo : 21 ≤ lc) (hsum : (st.map fun v => v.category).sum ≤ 8) (hd : decode cc pc = .ok (.invokestatic index, 3)) (kk : ∀ z : Int, z ≤ a → z ≤ b → (z = a ∨ z = b) → FW Y G C nL x (pc + 3) L (vi z :: st)) : FW Y G C nL x pc L (vi b :: vi a :: st) := by
  obtain ⟨p, l, e, R, s, m, args, below, meth, c, cells, slots, Q⟩ := C
  obtain ⟨hx, hb, hml, hown, hts, hK, hD, hlocks, hcl, hsl, hX, hXc, hret, hfr, hlc⟩ := h
  intro hR H locs ls hP hS hl
  refine va_mmin hx hb (hml.trans hl.1.symm) hown (hts _ hk) (hts _ hw.1) (hts _ hw.2.1) (hts _ hw.2.2) (by omega) (by omega) hcl hsl hd ?_
  by_cases q : iI b < iI a
  · rw [if_pos q]
    have q1 := (iI_lt hb0 ha).mp q
    exact kk b (by omega) (by omega) (by omega) hR H locs ls hP hS hl
  · rw [if_neg q]
    have q1 : ¬ b < a := fun r => q ((iI_lt hb0 ha).mpr r)
    exact kk a (by omega) (by omega) (by omega) hR H locs ls hP hS hl
/-- the memory when n places of k0 are copied to k1 -/
def fm_cp (x : Mm) (k0 k1 : Int) (n : Int) : Mm := fun a b => if a = k1 ∧ 0 ≤ b ∧ b < n then x k0 b else x a b
set_option maxHeartbeats 100000 in
theorem fm_cp_row {x y : Mm} {k0 k1 n a : Int} (e : y = fm_cp x k0 k1 n) (h : a ≠ k1) : y a = x a := by
  rw [e]
  funext b
  simp [fm_cp, h]
set_option maxHeartbeats 100000 in
theorem fm_cp_in {x y : Mm} {k0 k1 n b : Int} (e : y = fm_cp x k0 k1 n) (h0 : 0 ≤ b) (h : b < n) : y k1 b = x k0 b := by
  rw [e]
  simp [fm_cp, h0, h]
set_option maxHeartbeats 100000 in
theorem fm_w_cp {Y : Ly} {G : Gx} {x : Mm} {k0 k1 : Int} {kind n : Nat} (hk : fm_ar Y k1 kind n) (h4 : kind < 4) : (fm_w Y G x).set k1.toNat (G.2.2 k1, .inl (G.2.1 kind, n, .inl (va_cpy (fun j : Nat => iI (x k0 j)) (fun j : Nat => iI (x k1 j)) 0 0 n))) = fm_w Y G (fm_cp x k0 k1 n) := by
  have h := fm_w_set (Y := Y) (G := G) (x := x) (y := fm_cp x k0 k1 n) hk.1 (fun a ha => fm_cp_row rfl ha)
  rw [← h, hk.2.2.1]
  simp only [fm_e]
  rw [if_neg (by omega), if_pos h4]
  congr 6
  funext q
  unfold va_cpy fm_cp
  by_cases hq : q < n
  · rw [if_pos ⟨Nat.zero_le _, by omega⟩, if_pos ⟨rfl, by omega, by omega⟩, Nat.zero_add, Nat.sub_zero]
  · rw [if_neg (fun t => hq (by omega)), if_neg (fun t => hq (by omega))]
set_option maxHeartbeats 100000 in
theorem fm_R_cp {Y : Ly} {x : Mm} (h : fm_R Y x) {k0 k1 n : Int} (hg : ∀ b, (Y.2.2.1 k1 b).1 ≤ (Y.2.2.1 k0 b).1 ∧ (Y.2.2.1 k0 b).2 ≤ (Y.2.2.1 k1 b).2) : fm_R Y (fm_cp x k0 k1 n) := by
  intro a b
  unfold fm_cp
  split
  · rename_i q
    obtain ⟨rfl, -, -⟩ := q
    have h1 := h k0 b
    have h2 := hg b
    exact ⟨Int.le_trans h2.1 h1.1, Int.le_trans h1.2 h2.2⟩
  · exact h a b
set_option maxHeartbeats 100000 in
theorem fr_copyi {Y : Ly} {G : Gx} {C : Cx} {cc : ByteArray} {own : String} {nL : Nat} {ret : Option FieldType} {fr lc : Nat} {x : Mm} {pc : Nat} {L : List (Nat × Value)} {st : List Value} (h : OK Y G C cc own nL ret fr lc) {index : Nat} {k0 k1 : Int} {n n0 : Nat} (hk0 : fm_ar Y k0 0 n0) (hk1 : fm_ar Y k1 0 n) (hn : n ≤ n0) (hg : ∀ b, (Y.2.2.1 k1 b).1 ≤ (Y.2.2.1 k0 b).1 ∧ (Y.2.2.1 k0 b).2 ≤ (Y.2.2.1 k1 b).2) (hk : Cond.methodLink own index arraycopyName ∈ TB) (hw : Cond.native arraycopyName ∈ TB ∧ Cond.static arraycopyName ∈ TB ∧ Cond.initialized "java/lang/System" ∈ TB) (hf : 1 ≤ fr) (hlo : 26 ≤ lc) (hsum : (st.map fun v => v.category).sum ≤ 8) {z : Int} (hz : z = n) (hd : decode cc pc = .ok (.invokestatic index, 3)) (kk : ∀ y : Mm, y = fm_cp x k0 k1 n → FW Y G C nL y (pc + 3) L st) : FW Y G C nL x pc L (vi z :: vi 0 :: vr G k1 :: vi 0 :: vr G k0 :: st) := by
  obtain ⟨p, l, e, R, s, m, args, below, meth, c, cells, slots, Q⟩ := C
  obtain ⟨hx, hb, hml, hown, hts, hK, hD, hlocks, hcl, hsl, hX, hXc, hret, hfr, hlc⟩ := h
  intro hR H locs ls hP hS hl
  subst hz
  have hn1 := hk1.2.2.2
  have hz : ¬ iI (n : Int) < 0 := fun q => by
    have := (iI_lt (a := (n : Int)) (b := 0) (by omega) (by omega)).mp q
    omega
  have h0 : ¬ iI 0 < 0 := by decide
  have hcn : (iI (n : Int)).toNatClampNeg = n := by rw [iI_cl (by omega) (by omega)]; omega
  have hc0 : (iI 0).toNatClampNeg = 0 := rfl
  have e5 : nativeFrameWords "java/lang/System" "arraycopy" 5 = 7 := by decide +kernel
  refine va_copyi hx hb (hml.trans hl.1.symm) hown (hts _ hk) (hts _ hw.1) (hts _ hw.2.1) (hts _ hw.2.2) hK hP (hD x) hS k0.toNat k1.toNat 0 0 (fm_e_i hk0 (by decide)) (fm_e_i hk1 (by decide)) rfl rfl rfl h0 h0 hz (by rw [hcn, hc0]; omega) (by rw [hcn, hc0]; omega) (fun i _ => rfl) (by omega) (by rw [e5]; omega) hd (fun H1 locs1 hP1 hD1 hS1 => ?_)
  rw [hcn, hc0, fm_w_cp hk1 (by decide)] at hP1
  exact kk _ rfl (fm_R_cp hR hg) H1 locs1 ls hP1 hS1 hl
