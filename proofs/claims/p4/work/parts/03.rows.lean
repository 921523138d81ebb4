set_option maxHeartbeats 60000 in
theorem iI_rem {a b : Int} (ha : fm_r a) (hb : fm_r b) (h0 : b ≠ 0) : ∃ z, fm_r z ∧ iI a - iI a / iI b * iI b = iI z ∧ (0 ≤ a → 0 < b → z = a % b) := by
  obtain ⟨q, h1, h2, h3⟩ := iI_div ha hb h0
  refine ⟨(iI a - iI a / iI b * iI b).toInt, iI_r _, (iI_of _).symm, fun h4 h5 => ?_⟩
  rw [h2, iI_mul, iI_sub, h3 h4 h5]
  have e : a - a / b * b = a % b := by
    have := Int.emod_def a b
    rw [this, Int.mul_comm]
  have e1 := Int.emod_nonneg a h0
  have e2 := Int.emod_lt_of_pos a h5
  rw [e]
  exact iI_t (by omega)
set_option maxHeartbeats 60000 in
theorem lI_div {a b : Int} (ha : fm_l a) (hb : fm_l b) (h0 : b ≠ 0) : ∃ z, fm_l z ∧ lI a / lI b = lI z ∧ (0 ≤ a → 0 < b → z = a / b) := by
  refine ⟨(lI a / lI b).toInt, lI_r _, (lI_of _).symm, fun h1 h2 => ?_⟩
  rw [Int64.toInt_div, lI_t ha, lI_t hb]
  have h3 : a.tdiv b = a / b := Int.tdiv_eq_ediv_of_nonneg h1
  have h4 : a / b ≤ a := Int.ediv_le_self b h1
  have h5 : 0 ≤ a / b := Int.ediv_nonneg h1 (by omega)
  rw [h3]
  exact Int.bmod_eq_of_le (by omega) (by omega)
set_option maxHeartbeats 60000 in
theorem lI_rem {a b : Int} (ha : fm_l a) (hb : fm_l b) (h0 : b ≠ 0) : ∃ z, fm_l z ∧ lI a - lI a / lI b * lI b = lI z ∧ (0 ≤ a → 0 < b → z = a % b) := by
  obtain ⟨q, h1, h2, h3⟩ := lI_div ha hb h0
  refine ⟨(lI a - lI a / lI b * lI b).toInt, lI_r _, (lI_of _).symm, fun h4 h5 => ?_⟩
  rw [h2, lI_mul, lI_sub, h3 h4 h5]
  have e : a - a / b * b = a % b := by
    have := Int.emod_def a b
    rw [this, Int.mul_comm]
  have e1 := Int.emod_nonneg a h0
  have e2 := Int.emod_lt_of_pos a h5
  rw [e]
  exact lI_t (by omega)
set_option maxHeartbeats 60000 in
theorem iI_any (v : Int32) : ∃ z, fm_r z ∧ v = iI z ∧ True := ⟨v.toInt, iI_r v, (iI_of v).symm, trivial⟩
set_option maxHeartbeats 60000 in
theorem lI_any (v : Int64) : ∃ z, fm_l z ∧ v = lI z ∧ True := ⟨v.toInt, lI_r v, (lI_of v).symm, trivial⟩
set_option maxHeartbeats 60000 in
theorem bv_and_le {w : Nat} (p q : BitVec w) (h : q.msb = false) : 0 ≤ (p &&& q).toInt ∧ (p &&& q).toInt ≤ q.toInt := by
  have h1 : (p &&& q).msb = false := by rw [BitVec.msb_and, h, Bool.and_false]
  rw [BitVec.toInt_eq_toNat_of_msb h1, BitVec.toInt_eq_toNat_of_msb h, BitVec.toNat_and]
  have := Nat.and_le_right (n := p.toNat) (m := q.toNat)
  omega
set_option maxHeartbeats 60000 in
theorem iI_and (a b : Int) : ∃ z, fm_r z ∧ iI a &&& iI b = iI z ∧ (0 ≤ b → b ≤ 2147483647 → 0 ≤ z ∧ z ≤ b) := by
  refine ⟨(iI a &&& iI b).toInt, iI_r _, (iI_of _).symm, fun h1 h2 => ?_⟩
  have hb : (iI b).toInt = b := iI_t (by omega)
  have hm : (iI b).toBitVec.msb = false := by
    rw [BitVec.msb_eq_toInt, show (iI b).toBitVec.toInt = b from hb]
    exact decide_eq_false (by omega)
  have h := bv_and_le (iI a).toBitVec (iI b).toBitVec hm
  rw [show (iI b).toBitVec.toInt = b from hb] at h
  exact h
set_option maxHeartbeats 60000 in
theorem lI_and (a b : Int) : ∃ z, fm_l z ∧ lI a &&& lI b = lI z ∧ (0 ≤ b → b ≤ 9223372036854775807 → 0 ≤ z ∧ z ≤ b) := by
  refine ⟨(lI a &&& lI b).toInt, lI_r _, (lI_of _).symm, fun h1 h2 => ?_⟩
  have hb : (lI b).toInt = b := lI_t (by omega)
  have hm : (lI b).toBitVec.msb = false := by
    rw [BitVec.msb_eq_toInt, show (lI b).toBitVec.toInt = b from hb]
    exact decide_eq_false (by omega)
  have h := bv_and_le (lI a).toBitVec (lI b).toBitVec hm
  rw [show (lI b).toBitVec.toInt = b from hb] at h
  exact h
set_option maxHeartbeats 60000 in
theorem iI_ushr (a b : Int) : ∃ z, fm_r z ∧ ((iI a).toUInt32 >>> ((iI b).toUInt32 &&& Int32.toUInt32 31)).toInt32 = iI z ∧ (b = 16 → 0 ≤ z ∧ z ≤ 65535) := by
  refine ⟨_, iI_r (((iI a).toUInt32 >>> ((iI b).toUInt32 &&& Int32.toUInt32 31)).toInt32), (iI_of _).symm, fun h => ?_⟩
  subst h
  have h1 := pk_ushr (iI a) (iI 16) 16 (by decide)
  generalize ((iI a).toUInt32 >>> ((iI 16).toUInt32 &&& Int32.toUInt32 31)).toInt32 = w at h1 ⊢
  have h2 := (iI a).toBitVec.isLt
  have h3 : w.toInt = (w.toBitVec.toNat : Int) := BitVec.toInt_eq_toNat_of_lt (by omega)
  rw [h3]
  omega
set_option maxHeartbeats 60000 in
theorem lI_i (a : Int) : ∃ z, fm_r z ∧ (lI a).toInt32 = iI z ∧ (fm_r a → z = a) := by
  refine ⟨(lI a).toInt32.toInt, iI_r _, (iI_of _).symm, fun h => ?_⟩
  rw [Int64.toInt_toInt32, lI_t (by omega)]
  exact Int.bmod_eq_of_le (by omega) (by omega)
set_option maxHeartbeats 60000 in
theorem iI_b (a : Int) : ∃ z, fm_r z ∧ (iI a).toInt8.toInt32 = iI z ∧ (-128 ≤ z ∧ z ≤ 127) := by
  refine ⟨(iI a).toInt8.toInt32.toInt, iI_r _, (iI_of _).symm, ?_⟩
  rw [Int8.toInt_toInt32]
  have h1 := (iI a).toInt8.le_toInt
  have h2 := (iI a).toInt8.toInt_lt
  omega
set_option maxHeartbeats 60000 in
theorem iI_s (a : Int) : ∃ z, fm_r z ∧ (iI a).toInt16.toInt32 = iI z ∧ (-32768 ≤ z ∧ z ≤ 32767) := by
  refine ⟨(iI a).toInt16.toInt32.toInt, iI_r _, (iI_of _).symm, ?_⟩
  rw [Int16.toInt_toInt32]
  have h1 := (iI a).toInt16.le_toInt
  have h2 := (iI a).toInt16.toInt_lt
  omega
set_option maxHeartbeats 60000 in
theorem iI_c (a : Int) : ∃ z, fm_r z ∧ ((iI a).toUInt32 % 65536).toInt32 = iI z ∧ (0 ≤ z ∧ z ≤ 65535 ∧ (0 ≤ a → a ≤ 65535 → z = a)) := by
  have h1 := pk_char (iI a)
  have h2 := Nat.mod_lt (iI a).toBitVec.toNat (show 65536 > 0 by decide)
  refine ⟨((iI a).toBitVec.toNat % 65536 : Nat), by omega, by rw [h1, iI_nat]; rfl, by omega, by omega, fun h3 h4 => ?_⟩
  have h5 : (iI a).toInt = a := iI_t (by omega)
  have h6 : (iI a).toBitVec.toNat = a.toNat := by
    have h7 : (iI a).toBitVec.toInt = a := h5
    rw [BitVec.toInt_eq_toNat_cond] at h7
    have := (iI a).toBitVec.isLt
    split at h7 <;> omega
  rw [h6]
  omega
set_option maxHeartbeats 60000 in
theorem lc_cases {a b : Int} (ha : fm_l a) (hb : fm_l b) : ∃ z : Int, lg_cmp (lI a) (lI b) = iI z ∧ ((z = -1 ∧ a < b) ∨ (z = 0 ∧ a = b) ∨ (z = 1 ∧ b < a)) := by
  unfold lg_cmp
  by_cases h1 : lI a > lI b
  · exact ⟨1, by rw [if_pos h1]; rfl, Or.inr (Or.inr ⟨rfl, (lI_lt hb ha).mp h1⟩)⟩
  · rw [if_neg h1]
    by_cases h2 : lI a = lI b
    · exact ⟨0, by rw [if_pos h2]; rfl, Or.inr (Or.inl ⟨rfl, (lI_eq ha hb).mp h2⟩)⟩
    · refine ⟨-1, by rw [if_neg h2]; rfl, Or.inl ⟨rfl, ?_⟩⟩
      have h3 : ¬ b < a := fun q => h1 ((lI_lt hb ha).mpr q)
      have h4 : ¬ a = b := fun q => h2 ((lI_eq ha hb).mpr q)
      omega
/-! THE JUDGEMENT FW: the machine at a frame, over the flat memory x, comes to its end; one row an instruction -/
abbrev Cx : Type := Program × Launch × Env × Room × State × MethodId × Array Value × List Frame × Method × Code × Nat × Nat × (State → Prop)
abbrev fm_c (Y : Ly) : List vw_C := Y.2.2.2.1
abbrev fm_x (Y : Ly) : Gx → (Nat → Prop) → State → Prop := Y.2.2.2.2
def fm_t (G : Gx) : List (ClassId × FieldType) := [(G.2.1 0, .int), (G.2.1 1, .byte), (G.2.1 2, .char), (G.2.1 3, .boolean), (G.2.1 4, .long), (G.2.1 5, .object "BestWalks$State"), (G.2.1 6, .object "BestWalks$Order"), (G.2.1 7, .object "BestWalks$Cursor"), (G.2.1 8, .array .int)]
/-- what is said of static tables stays while nobody writes there -/
def fm_Xc (Y : Ly) : Prop := ∀ (G : Gx) (A : Nat → Prop) (s U : State), s.WarmedH U.vm → fm_x Y G A s → (∀ q : Nat, q < s.heap.size → ¬ A q → U.heap[q]? = s.heap[q]?) → fm_x Y G A U
abbrev vr (G : Gx) (z : Int) : Value := .ref (G.2.2 z)
def FW (Y : Ly) (G : Gx) (C : Cx) (nL : Nat) (x : Mm) (pc : Nat) (L : List (Nat × Value)) (st : List Value) : Prop := match C with
  | (p, l, e, R, s, m, args, below, meth, c, cells, slots, Q) => fm_R Y x → ∀ (H : Heap) (locs : List Loc) (ls : Array Slot), va_P G.1 (fm_c Y) (fm_w Y G x) H → va_S (fm_A Y G) s.heap H locs → lv_has ls nL L → W p l e R s m args below meth c H locs cells slots Q (F0 m pc ls st)
def OK (Y : Ly) (G : Gx) (C : Cx) (cc : ByteArray) (own : String) (nL : Nat) (ret : Option FieldType) (fr lc : Nat) : Prop := match C with
  | (p, _, _, R, s, m, args, _, meth, c, cells, slots, _) => p.tables.exec = Jvm.exec ∧ c.code = cc ∧ c.maxLocals = nL ∧ s.vm.findClass own = some m.cls ∧ (∀ w ∈ TB, w.before args s = true) ∧ va_K G.1 (fm_c Y) (fm_t G) s ∧ (∀ x, va_D (fm_A Y G) (fm_w Y G x)) ∧ meth.locks = false ∧ cells ≤ R.cells ∧ slots ≤ R.slots ∧ fm_x Y G (fm_A Y G) s ∧ fm_Xc Y ∧ meth.sig.returnType = ret ∧ fr ≤ R.frames ∧ lc ≤ R.locals
section FMR
variable {Y : Ly} {G : Gx} {C : Cx} {cc : ByteArray} {own : String} {nL : Nat} {ret : Option FieldType} {fr lc : Nat} {x : Mm} {pc : Nat} {L L' : List (Nat × Value)} {st : List Value}
set_option maxHeartbeats 60000 in
theorem fr_iconst (h : OK Y G C cc own nL ret fr lc) {n : Int} (hd : decode cc pc = .ok (.iconst n, 1)) (k : FW Y G C nL x (pc + 1) L (vi n :: st)) : FW Y G C nL x pc L (st) := by
  obtain ⟨p, l, e, R, s, m, args, below, meth, c, cells, slots, Q⟩ := C
  obtain ⟨hx, hb, hml, hown, hts, hK, hD, hlocks, hcl, hsl, hX, hXc, hret, hfr, hlc⟩ := h
  intro hR H locs ls hP hS hl
  exact lv_iconst hx hb hd rfl (k hR H locs ls hP hS hl)
set_option maxHeartbeats 60000 in
theorem fr_bipush (h : OK Y G C cc own nL ret fr lc) {n : Int} (hv : (Int8.ofInt n).toInt32 = iI n) (hd : decode cc pc = .ok (.bipush n, 2)) (k : FW Y G C nL x (pc + 2) L (vi n :: st)) : FW Y G C nL x pc L (st) := by
  obtain ⟨p, l, e, R, s, m, args, below, meth, c, cells, slots, Q⟩ := C
  obtain ⟨hx, hb, hml, hown, hts, hK, hD, hlocks, hcl, hsl, hX, hXc, hret, hfr, hlc⟩ := h
  intro hR H locs ls hP hS hl
  exact lv_bipush hx hb hd hv (k hR H locs ls hP hS hl)
set_option maxHeartbeats 60000 in
theorem fr_sipush (h : OK Y G C cc own nL ret fr lc) {n : Int} (hv : (Int16.ofInt n).toInt32 = iI n) (hd : decode cc pc = .ok (.sipush n, 3)) (k : FW Y G C nL x (pc + 3) L (vi n :: st)) : FW Y G C nL x pc L (st) := by
  obtain ⟨p, l, e, R, s, m, args, below, meth, c, cells, slots, Q⟩ := C
  obtain ⟨hx, hb, hml, hown, hts, hK, hD, hlocks, hcl, hsl, hX, hXc, hret, hfr, hlc⟩ := h
  intro hR H locs ls hP hS hl
  exact lv_sipush hx hb hd hv (k hR H locs ls hP hS hl)
set_option maxHeartbeats 60000 in
theorem fr_lconst (h : OK Y G C cc own nL ret fr lc) {n : Fin 2} {z : Int} (hv : Int64.ofNat (n : Nat) = lI z) (hd : decode cc pc = .ok (.lconst n, 1)) (k : FW Y G C nL x (pc + 1) L (vj z :: st)) : FW Y G C nL x pc L (st) := by
  obtain ⟨p, l, e, R, s, m, args, below, meth, c, cells, slots, Q⟩ := C
  obtain ⟨hx, hb, hml, hown, hts, hK, hD, hlocks, hcl, hsl, hX, hXc, hret, hfr, hlc⟩ := h
  intro hR H locs ls hP hS hl
  exact lv_lconst hx hb hd hv (k hR H locs ls hP hS hl)
set_option maxHeartbeats 60000 in
theorem fr_ldc (h : OK Y G C cc own nL ret fr lc) {index : Nat} {v : Int32} {z : Int} (hw : Cond.constant own index v ∈ TB) (hv : v = iI z) (hd : decode cc pc = .ok (.ldc index, 2)) (k : FW Y G C nL x (pc + 2) L (vi z :: st)) : FW Y G C nL x pc L (st) := by
  obtain ⟨p, l, e, R, s, m, args, below, meth, c, cells, slots, Q⟩ := C
  obtain ⟨hx, hb, hml, hown, hts, hK, hD, hlocks, hcl, hsl, hX, hXc, hret, hfr, hlc⟩ := h
  intro hR H locs ls hP hS hl
  exact lv_ldc hx hb hown (hts _ hw) hd (by rw [hv]; exact (k hR H locs ls hP hS hl))
set_option maxHeartbeats 60000 in
theorem fr_ldc2 (h : OK Y G C cc own nL ret fr lc) {index : Nat} {v : Int64} {z : Int} (hw : Cond.constantLong own index v ∈ TB) (hv : v = lI z) (hd : decode cc pc = .ok (.ldc2_w index, 3)) (k : FW Y G C nL x (pc + 3) L (vj z :: st)) : FW Y G C nL x pc L (st) := by
  obtain ⟨p, l, e, R, s, m, args, below, meth, c, cells, slots, Q⟩ := C
  obtain ⟨hx, hb, hml, hown, hts, hK, hD, hlocks, hcl, hsl, hX, hXc, hret, hfr, hlc⟩ := h
  intro hR H locs ls hP hS hl
  exact lv_ldc2 hx hb hown (hts _ hw) hd (by rw [hv]; exact (k hR H locs ls hP hS hl))
set_option maxHeartbeats 60000 in
theorem fr_iload_n (h : OK Y G C cc own nL ret fr lc) {f : Fin 4} {i : Nat} {z : Int} (hi : (f : Nat) = i) (j : Nat) (hk : L[j]? = some (i, vi z)) (hd : decode cc pc = .ok (.iload_n f, 1)) (k : FW Y G C nL x (pc + 1) L (vi z :: st)) : FW Y G C nL x pc L (st) := by
  obtain ⟨p, l, e, R, s, m, args, below, meth, c, cells, slots, Q⟩ := C
  obtain ⟨hx, hb, hml, hown, hts, hK, hD, hlocks, hcl, hsl, hX, hXc, hret, hfr, hlc⟩ := h
  intro hR H locs ls hP hS hl
  exact lv_iload_n hx hb hd hi (lv_at hl j hk) (k hR H locs ls hP hS hl)
set_option maxHeartbeats 60000 in
theorem fr_iload (h : OK Y G C cc own nL ret fr lc) {i : Nat} {z : Int} (j : Nat) (hk : L[j]? = some (i, vi z)) (hd : decode cc pc = .ok (.iload i, 2)) (k : FW Y G C nL x (pc + 2) L (vi z :: st)) : FW Y G C nL x pc L (st) := by
  obtain ⟨p, l, e, R, s, m, args, below, meth, c, cells, slots, Q⟩ := C
  obtain ⟨hx, hb, hml, hown, hts, hK, hD, hlocks, hcl, hsl, hX, hXc, hret, hfr, hlc⟩ := h
  intro hR H locs ls hP hS hl
  exact lv_iload hx hb hd (lv_at hl j hk) (k hR H locs ls hP hS hl)
set_option maxHeartbeats 60000 in
theorem fr_lload_n (h : OK Y G C cc own nL ret fr lc) {f : Fin 4} {i : Nat} {z : Int} (hi : (f : Nat) = i) (j : Nat) (hk : L[j]? = some (i, vj z)) (hd : decode cc pc = .ok (.lload_n f, 1)) (k : FW Y G C nL x (pc + 1) L (vj z :: st)) : FW Y G C nL x pc L (st) := by
  obtain ⟨p, l, e, R, s, m, args, below, meth, c, cells, slots, Q⟩ := C
  obtain ⟨hx, hb, hml, hown, hts, hK, hD, hlocks, hcl, hsl, hX, hXc, hret, hfr, hlc⟩ := h
  intro hR H locs ls hP hS hl
  exact lv_lload_n hx hb hd hi (lv_at hl j hk) (k hR H locs ls hP hS hl)
set_option maxHeartbeats 60000 in
theorem fr_lload (h : OK Y G C cc own nL ret fr lc) {i : Nat} {z : Int} (j : Nat) (hk : L[j]? = some (i, vj z)) (hd : decode cc pc = .ok (.lload i, 2)) (k : FW Y G C nL x (pc + 2) L (vj z :: st)) : FW Y G C nL x pc L (st) := by
  obtain ⟨p, l, e, R, s, m, args, below, meth, c, cells, slots, Q⟩ := C
  obtain ⟨hx, hb, hml, hown, hts, hK, hD, hlocks, hcl, hsl, hX, hXc, hret, hfr, hlc⟩ := h
  intro hR H locs ls hP hS hl
  exact lv_lload hx hb hd (lv_at hl j hk) (k hR H locs ls hP hS hl)
set_option maxHeartbeats 60000 in
theorem fr_aload_n (h : OK Y G C cc own nL ret fr lc) {f : Fin 4} {i : Nat} {a : Nat} (hi : (f : Nat) = i) (j : Nat) (hk : L[j]? = some (i, .ref a)) (hd : decode cc pc = .ok (.aload_n f, 1)) (k : FW Y G C nL x (pc + 1) L (.ref a :: st)) : FW Y G C nL x pc L (st) := by
  obtain ⟨p, l, e, R, s, m, args, below, meth, c, cells, slots, Q⟩ := C
  obtain ⟨hx, hb, hml, hown, hts, hK, hD, hlocks, hcl, hsl, hX, hXc, hret, hfr, hlc⟩ := h
  intro hR H locs ls hP hS hl
  exact lv_aload_n hx hb hd hi (lv_at hl j hk) (k hR H locs ls hP hS hl)
set_option maxHeartbeats 60000 in
theorem fr_aload (h : OK Y G C cc own nL ret fr lc) {i : Nat} {a : Nat} (j : Nat) (hk : L[j]? = some (i, .ref a)) (hd : decode cc pc = .ok (.aload i, 2)) (k : FW Y G C nL x (pc + 2) L (.ref a :: st)) : FW Y G C nL x pc L (st) := by
  obtain ⟨p, l, e, R, s, m, args, below, meth, c, cells, slots, Q⟩ := C
  obtain ⟨hx, hb, hml, hown, hts, hK, hD, hlocks, hcl, hsl, hX, hXc, hret, hfr, hlc⟩ := h
  intro hR H locs ls hP hS hl
  exact lv_aload hx hb hd (lv_at hl j hk) (k hR H locs ls hP hS hl)
set_option maxHeartbeats 60000 in
theorem fr_istore_n (h : OK Y G C cc own nL ret fr lc) {f : Fin 4} {i : Nat} {z : Int} (hi : (f : Nat) = i) (hd : decode cc pc = .ok (.istore_n f, 1)) (hn : i < nL) (ks : List Nat) (hL : lv_pick ((i, vi z) :: L.filter (fun q => !(q.1 == i) && !(q.1 + 1 == i && q.2.category == 2))) ks = L') (k : FW Y G C nL x (pc + 1) L' st) : FW Y G C nL x pc L (vi z :: st) := by
  obtain ⟨p, l, e, R, s, m, args, below, meth, c, cells, slots, Q⟩ := C
  obtain ⟨hx, hb, hml, hown, hts, hK, hD, hlocks, hcl, hsl, hX, hXc, hret, hfr, hlc⟩ := h
  intro hR H locs ls hP hS hl
  exact lv_istore_n hx hb hd hi hl hn rfl (fun ls hl => k hR H locs ls hP hS (lv_sub hl ks hL))
set_option maxHeartbeats 60000 in
theorem fr_istore (h : OK Y G C cc own nL ret fr lc) {i : Nat} {z : Int} (hd : decode cc pc = .ok (.istore i, 2)) (hn : i < nL) (ks : List Nat) (hL : lv_pick ((i, vi z) :: L.filter (fun q => !(q.1 == i) && !(q.1 + 1 == i && q.2.category == 2))) ks = L') (k : FW Y G C nL x (pc + 2) L' st) : FW Y G C nL x pc L (vi z :: st) := by
  obtain ⟨p, l, e, R, s, m, args, below, meth, c, cells, slots, Q⟩ := C
  obtain ⟨hx, hb, hml, hown, hts, hK, hD, hlocks, hcl, hsl, hX, hXc, hret, hfr, hlc⟩ := h
  intro hR H locs ls hP hS hl
  exact lv_istore hx hb hd hl hn rfl (fun ls hl => k hR H locs ls hP hS (lv_sub hl ks hL))
set_option maxHeartbeats 60000 in
theorem fr_lstore_n (h : OK Y G C cc own nL ret fr lc) {f : Fin 4} {i : Nat} {z : Int} (hi : (f : Nat) = i) (hd : decode cc pc = .ok (.lstore_n f, 1)) (hn : i + 1 < nL) (ks : List Nat) (hL : lv_pick ((i, vj z) :: L.filter (fun q => !(q.1 == i) && (!(q.1 == i + 1) && !(q.1 + 1 == i && q.2.category == 2)))) ks = L') (k : FW Y G C nL x (pc + 1) L' st) : FW Y G C nL x pc L (vj z :: st) := by
  obtain ⟨p, l, e, R, s, m, args, below, meth, c, cells, slots, Q⟩ := C
  obtain ⟨hx, hb, hml, hown, hts, hK, hD, hlocks, hcl, hsl, hX, hXc, hret, hfr, hlc⟩ := h
  intro hR H locs ls hP hS hl
  exact lv_lstore_n hx hb hd hi hl hn rfl (fun ls hl => k hR H locs ls hP hS (lv_sub hl ks hL))
set_option maxHeartbeats 60000 in
theorem fr_lstore (h : OK Y G C cc own nL ret fr lc) {i : Nat} {z : Int} (hd : decode cc pc = .ok (.lstore i, 2)) (hn : i + 1 < nL) (ks : List Nat) (hL : lv_pick ((i, vj z) :: L.filter (fun q => !(q.1 == i) && (!(q.1 == i + 1) && !(q.1 + 1 == i && q.2.category == 2)))) ks = L') (k : FW Y G C nL x (pc + 2) L' st) : FW Y G C nL x pc L (vj z :: st) := by
  obtain ⟨p, l, e, R, s, m, args, below, meth, c, cells, slots, Q⟩ := C
  obtain ⟨hx, hb, hml, hown, hts, hK, hD, hlocks, hcl, hsl, hX, hXc, hret, hfr, hlc⟩ := h
  intro hR H locs ls hP hS hl
  exact lv_lstore hx hb hd hl hn rfl (fun ls hl => k hR H locs ls hP hS (lv_sub hl ks hL))
set_option maxHeartbeats 60000 in
theorem fr_astore_n (h : OK Y G C cc own nL ret fr lc) {f : Fin 4} {i : Nat} {a : Nat} (hi : (f : Nat) = i) (hd : decode cc pc = .ok (.astore_n f, 1)) (hn : i < nL) (ks : List Nat) (hL : lv_pick ((i, .ref a) :: L.filter (fun q => !(q.1 == i) && !(q.1 + 1 == i && q.2.category == 2))) ks = L') (k : FW Y G C nL x (pc + 1) L' st) : FW Y G C nL x pc L (.ref a :: st) := by
  obtain ⟨p, l, e, R, s, m, args, below, meth, c, cells, slots, Q⟩ := C
  obtain ⟨hx, hb, hml, hown, hts, hK, hD, hlocks, hcl, hsl, hX, hXc, hret, hfr, hlc⟩ := h
  intro hR H locs ls hP hS hl
  exact lv_astore_n hx hb hd hi hl hn rfl (fun ls hl => k hR H locs ls hP hS (lv_sub hl ks hL))
set_option maxHeartbeats 60000 in
theorem fr_astore (h : OK Y G C cc own nL ret fr lc) {i : Nat} {a : Nat} (hd : decode cc pc = .ok (.astore i, 2)) (hn : i < nL) (ks : List Nat) (hL : lv_pick ((i, .ref a) :: L.filter (fun q => !(q.1 == i) && !(q.1 + 1 == i && q.2.category == 2))) ks = L') (k : FW Y G C nL x (pc + 2) L' st) : FW Y G C nL x pc L (.ref a :: st) := by
  obtain ⟨p, l, e, R, s, m, args, below, meth, c, cells, slots, Q⟩ := C
  obtain ⟨hx, hb, hml, hown, hts, hK, hD, hlocks, hcl, hsl, hX, hXc, hret, hfr, hlc⟩ := h
  intro hR H locs ls hP hS hl
  exact lv_astore hx hb hd hl hn rfl (fun ls hl => k hR H locs ls hP hS (lv_sub hl ks hL))
set_option maxHeartbeats 60000 in
theorem fr_iinc (h : OK Y G C cc own nL ret fr lc) {i j : Nat} {n z : Int} (hd : decode cc pc = .ok (.iinc i n, 3)) (hk : L[j]? = some (i, vi z)) (hn : i < nL) (ks : List Nat) (hL : lv_pick ((i, vi (z + n)) :: L.filter (fun q => !(q.1 == i) && !(q.1 + 1 == i && q.2.category == 2))) ks = L') (k : FW Y G C nL x (pc + 3) L' st) : FW Y G C nL x pc L st := by
  obtain ⟨p, l, e, R, s, m, args, below, meth, c, cells, slots, Q⟩ := C
  obtain ⟨hx, hb, hml, hown, hts, hK, hD, hlocks, hcl, hsl, hX, hXc, hret, hfr, hlc⟩ := h
  intro hR H locs ls hP hS hl
  exact lv_iinc hx hb hd hl hk (iI_add z n) hn rfl (fun ls hl => k hR H locs ls hP hS (lv_sub hl ks hL))
set_option maxHeartbeats 60000 in
theorem fr_iadd (h : OK Y G C cc own nL ret fr lc) {a b : Int} (hd : decode cc pc = .ok (.iadd, 1)) (k : FW Y G C nL x (pc + 1) L (vi (a + b) :: st)) : FW Y G C nL x pc L (vi b :: vi a :: st) := by
  obtain ⟨p, l, e, R, s, m, args, below, meth, c, cells, slots, Q⟩ := C
  obtain ⟨hx, hb, hml, hown, hts, hK, hD, hlocks, hcl, hsl, hX, hXc, hret, hfr, hlc⟩ := h
  intro hR H locs ls hP hS hl
  exact lv_iadd hx hb hd (by rw [iI_add]; exact (k hR H locs ls hP hS hl))
set_option maxHeartbeats 60000 in
theorem fr_isub (h : OK Y G C cc own nL ret fr lc) {a b : Int} (hd : decode cc pc = .ok (.isub, 1)) (k : FW Y G C nL x (pc + 1) L (vi (a - b) :: st)) : FW Y G C nL x pc L (vi b :: vi a :: st) := by
  obtain ⟨p, l, e, R, s, m, args, below, meth, c, cells, slots, Q⟩ := C
  obtain ⟨hx, hb, hml, hown, hts, hK, hD, hlocks, hcl, hsl, hX, hXc, hret, hfr, hlc⟩ := h
  intro hR H locs ls hP hS hl
  exact lv_isub hx hb hd (by rw [iI_sub]; exact (k hR H locs ls hP hS hl))
set_option maxHeartbeats 60000 in
theorem fr_imul (h : OK Y G C cc own nL ret fr lc) {a b : Int} (hd : decode cc pc = .ok (.imul, 1)) (k : FW Y G C nL x (pc + 1) L (vi (a * b) :: st)) : FW Y G C nL x pc L (vi b :: vi a :: st) := by
  obtain ⟨p, l, e, R, s, m, args, below, meth, c, cells, slots, Q⟩ := C
  obtain ⟨hx, hb, hml, hown, hts, hK, hD, hlocks, hcl, hsl, hX, hXc, hret, hfr, hlc⟩ := h
  intro hR H locs ls hP hS hl
  exact lv_imul hx hb hd (by rw [iI_mul]; exact (k hR H locs ls hP hS hl))
set_option maxHeartbeats 60000 in
theorem fr_ladd (h : OK Y G C cc own nL ret fr lc) {a b : Int} (hd : decode cc pc = .ok (.ladd, 1)) (k : FW Y G C nL x (pc + 1) L (vj (a + b) :: st)) : FW Y G C nL x pc L (vj b :: vj a :: st) := by
  obtain ⟨p, l, e, R, s, m, args, below, meth, c, cells, slots, Q⟩ := C
  obtain ⟨hx, hb, hml, hown, hts, hK, hD, hlocks, hcl, hsl, hX, hXc, hret, hfr, hlc⟩ := h
  intro hR H locs ls hP hS hl
  exact lv_ladd hx hb hd (by rw [lI_add]; exact (k hR H locs ls hP hS hl))
set_option maxHeartbeats 60000 in
theorem fr_lsub (h : OK Y G C cc own nL ret fr lc) {a b : Int} (hd : decode cc pc = .ok (.lsub, 1)) (k : FW Y G C nL x (pc + 1) L (vj (a - b) :: st)) : FW Y G C nL x pc L (vj b :: vj a :: st) := by
  obtain ⟨p, l, e, R, s, m, args, below, meth, c, cells, slots, Q⟩ := C
  obtain ⟨hx, hb, hml, hown, hts, hK, hD, hlocks, hcl, hsl, hX, hXc, hret, hfr, hlc⟩ := h
  intro hR H locs ls hP hS hl
  exact lv_lsub hx hb hd (by rw [lI_sub]; exact (k hR H locs ls hP hS hl))
set_option maxHeartbeats 60000 in
theorem fr_lmul (h : OK Y G C cc own nL ret fr lc) {a b : Int} (hd : decode cc pc = .ok (.lmul, 1)) (k : FW Y G C nL x (pc + 1) L (vj (a * b) :: st)) : FW Y G C nL x pc L (vj b :: vj a :: st) := by
  obtain ⟨p, l, e, R, s, m, args, below, meth, c, cells, slots, Q⟩ := C
  obtain ⟨hx, hb, hml, hown, hts, hK, hD, hlocks, hcl, hsl, hX, hXc, hret, hfr, hlc⟩ := h
  intro hR H locs ls hP hS hl
  exact lv_lmul hx hb hd (by rw [lI_mul]; exact (k hR H locs ls hP hS hl))
set_option maxHeartbeats 60000 in
theorem fr_ineg (h : OK Y G C cc own nL ret fr lc) {a : Int} (hd : decode cc pc = .ok (.ineg, 1)) (k : FW Y G C nL x (pc + 1) L (vi (-a) :: st)) : FW Y G C nL x pc L (vi a :: st) := by
  obtain ⟨p, l, e, R, s, m, args, below, meth, c, cells, slots, Q⟩ := C
  obtain ⟨hx, hb, hml, hown, hts, hK, hD, hlocks, hcl, hsl, hX, hXc, hret, hfr, hlc⟩ := h
  intro hR H locs ls hP hS hl
  exact lv_ineg hx hb hd (by rw [iI_neg]; exact (k hR H locs ls hP hS hl))
set_option maxHeartbeats 60000 in
theorem fr_i2l (h : OK Y G C cc own nL ret fr lc) {a : Int} (ha : fm_r a) (hd : decode cc pc = .ok (.i2l, 1)) (k : FW Y G C nL x (pc + 1) L (vj a :: st)) : FW Y G C nL x pc L (vi a :: st) := by
  obtain ⟨p, l, e, R, s, m, args, below, meth, c, cells, slots, Q⟩ := C
  obtain ⟨hx, hb, hml, hown, hts, hK, hD, hlocks, hcl, hsl, hX, hXc, hret, hfr, hlc⟩ := h
  intro hR H locs ls hP hS hl
  exact lv_i2l hx hb hd (iI_l ha) (k hR H locs ls hP hS hl)
set_option maxHeartbeats 60000 in
theorem fr_idiv (h : OK Y G C cc own nL ret fr lc) {a b : Int} (ha : fm_r a) (hb0 : fm_r b) (h0 : b ≠ 0) (hd : decode cc pc = .ok (.idiv, 1)) (k : ∀ z : Int, fm_r z → iI a / iI b = iI z → (0 ≤ a → 0 < b → z = a / b) → FW Y G C nL x (pc + 1) L (vi z :: st)) : FW Y G C nL x pc L (vi b :: vi a :: st) := by
  obtain ⟨p, l, e, R, s, m, args, below, meth, c, cells, slots, Q⟩ := C
  obtain ⟨hx, hb, hml, hown, hts, hK, hD, hlocks, hcl, hsl, hX, hXc, hret, hfr, hlc⟩ := h
  intro hR H locs ls hP hS hl
  obtain ⟨z, h1, h2, h3⟩ := iI_div ha hb0 h0
  exact lv_idiv hx hb hd (fun q => h0 (iI_inj hb0 (by omega) (q.trans iI_0.symm))) (by rw [h2]; exact (k z h1 h2 h3 hR H locs ls hP hS hl))
set_option maxHeartbeats 60000 in
theorem fr_irem (h : OK Y G C cc own nL ret fr lc) {a b : Int} (ha : fm_r a) (hb0 : fm_r b) (h0 : b ≠ 0) (hd : decode cc pc = .ok (.irem, 1)) (k : ∀ z : Int, fm_r z → iI a - iI a / iI b * iI b = iI z → (0 ≤ a → 0 < b → z = a % b) → FW Y G C nL x (pc + 1) L (vi z :: st)) : FW Y G C nL x pc L (vi b :: vi a :: st) := by
  obtain ⟨p, l, e, R, s, m, args, below, meth, c, cells, slots, Q⟩ := C
  obtain ⟨hx, hb, hml, hown, hts, hK, hD, hlocks, hcl, hsl, hX, hXc, hret, hfr, hlc⟩ := h
  intro hR H locs ls hP hS hl
  obtain ⟨z, h1, h2, h3⟩ := iI_rem ha hb0 h0
  exact lv_irem hx hb hd (fun q => h0 (iI_inj hb0 (by omega) (q.trans iI_0.symm))) (by rw [h2]; exact (k z h1 h2 h3 hR H locs ls hP hS hl))
set_option maxHeartbeats 60000 in
theorem fr_ldiv (h : OK Y G C cc own nL ret fr lc) {a b : Int} (ha : fm_l a) (hb0 : fm_l b) (h0 : b ≠ 0) (hd : decode cc pc = .ok (.ldiv, 1)) (k : ∀ z : Int, fm_l z → lI a / lI b = lI z → (0 ≤ a → 0 < b → z = a / b) → FW Y G C nL x (pc + 1) L (vj z :: st)) : FW Y G C nL x pc L (vj b :: vj a :: st) := by
  obtain ⟨p, l, e, R, s, m, args, below, meth, c, cells, slots, Q⟩ := C
  obtain ⟨hx, hb, hml, hown, hts, hK, hD, hlocks, hcl, hsl, hX, hXc, hret, hfr, hlc⟩ := h
  intro hR H locs ls hP hS hl
  obtain ⟨z, h1, h2, h3⟩ := lI_div ha hb0 h0
  exact lv_ldiv hx hb hd (fun q => h0 (lI_inj hb0 (by omega) (q.trans lI_0.symm))) (by rw [h2]; exact (k z h1 h2 h3 hR H locs ls hP hS hl))
set_option maxHeartbeats 60000 in
theorem fr_lrem (h : OK Y G C cc own nL ret fr lc) {a b : Int} (ha : fm_l a) (hb0 : fm_l b) (h0 : b ≠ 0) (hd : decode cc pc = .ok (.lrem, 1)) (k : ∀ z : Int, fm_l z → lI a - lI a / lI b * lI b = lI z → (0 ≤ a → 0 < b → z = a % b) → FW Y G C nL x (pc + 1) L (vj z :: st)) : FW Y G C nL x pc L (vj b :: vj a :: st) := by
  obtain ⟨p, l, e, R, s, m, args, below, meth, c, cells, slots, Q⟩ := C
  obtain ⟨hx, hb, hml, hown, hts, hK, hD, hlocks, hcl, hsl, hX, hXc, hret, hfr, hlc⟩ := h
  intro hR H locs ls hP hS hl
  obtain ⟨z, h1, h2, h3⟩ := lI_rem ha hb0 h0
  exact lv_lrem hx hb hd (fun q => h0 (lI_inj hb0 (by omega) (q.trans lI_0.symm))) (by rw [h2]; exact (k z h1 h2 h3 hR H locs ls hP hS hl))
set_option maxHeartbeats 60000 in
theorem fr_iand (h : OK Y G C cc own nL ret fr lc) {a b : Int} (hd : decode cc pc = .ok (.iand, 1)) (k : ∀ z : Int, fm_r z → iI a &&& iI b = iI z → (0 ≤ b → b ≤ 2147483647 → 0 ≤ z ∧ z ≤ b) → FW Y G C nL x (pc + 1) L (vi z :: st)) : FW Y G C nL x pc L (vi b :: vi a :: st) := by
  obtain ⟨p, l, e, R, s, m, args, below, meth, c, cells, slots, Q⟩ := C
  obtain ⟨hx, hb, hml, hown, hts, hK, hD, hlocks, hcl, hsl, hX, hXc, hret, hfr, hlc⟩ := h
  intro hR H locs ls hP hS hl
  obtain ⟨z, h1, h2, h3⟩ := iI_and a b
  exact lv_iand hx hb hd (by rw [h2]; exact (k z h1 h2 h3 hR H locs ls hP hS hl))
set_option maxHeartbeats 60000 in
theorem fr_ior (h : OK Y G C cc own nL ret fr lc) {a b : Int} (hd : decode cc pc = .ok (.ior, 1)) (k : ∀ z : Int, fm_r z → iI a ||| iI b = iI z → True → FW Y G C nL x (pc + 1) L (vi z :: st)) : FW Y G C nL x pc L (vi b :: vi a :: st) := by
  obtain ⟨p, l, e, R, s, m, args, below, meth, c, cells, slots, Q⟩ := C
  obtain ⟨hx, hb, hml, hown, hts, hK, hD, hlocks, hcl, hsl, hX, hXc, hret, hfr, hlc⟩ := h
  intro hR H locs ls hP hS hl
  obtain ⟨z, h1, h2, h3⟩ := iI_any (iI a ||| iI b)
  exact lv_ior hx hb hd (by rw [h2]; exact (k z h1 h2 h3 hR H locs ls hP hS hl))
set_option maxHeartbeats 60000 in
theorem fr_ixor (h : OK Y G C cc own nL ret fr lc) {a b : Int} (hd : decode cc pc = .ok (.ixor, 1)) (k : ∀ z : Int, fm_r z → iI a ^^^ iI b = iI z → True → FW Y G C nL x (pc + 1) L (vi z :: st)) : FW Y G C nL x pc L (vi b :: vi a :: st) := by
  obtain ⟨p, l, e, R, s, m, args, below, meth, c, cells, slots, Q⟩ := C
  obtain ⟨hx, hb, hml, hown, hts, hK, hD, hlocks, hcl, hsl, hX, hXc, hret, hfr, hlc⟩ := h
  intro hR H locs ls hP hS hl
  obtain ⟨z, h1, h2, h3⟩ := iI_any (iI a ^^^ iI b)
  exact lv_ixor hx hb hd (by rw [h2]; exact (k z h1 h2 h3 hR H locs ls hP hS hl))
set_option maxHeartbeats 60000 in
theorem fr_ishl (h : OK Y G C cc own nL ret fr lc) {a b : Int} (hd : decode cc pc = .ok (.ishl, 1)) (k : ∀ z : Int, fm_r z → iI a <<< (iI b &&& 31) = iI z → True → FW Y G C nL x (pc + 1) L (vi z :: st)) : FW Y G C nL x pc L (vi b :: vi a :: st) := by
  obtain ⟨p, l, e, R, s, m, args, below, meth, c, cells, slots, Q⟩ := C
  obtain ⟨hx, hb, hml, hown, hts, hK, hD, hlocks, hcl, hsl, hX, hXc, hret, hfr, hlc⟩ := h
  intro hR H locs ls hP hS hl
  obtain ⟨z, h1, h2, h3⟩ := iI_any (iI a <<< (iI b &&& 31))
  exact lv_ishl hx hb hd (by rw [h2]; exact (k z h1 h2 h3 hR H locs ls hP hS hl))
set_option maxHeartbeats 60000 in
theorem fr_ishr (h : OK Y G C cc own nL ret fr lc) {a b : Int} (hd : decode cc pc = .ok (.ishr, 1)) (k : ∀ z : Int, fm_r z → iI a >>> (iI b &&& 31) = iI z → True → FW Y G C nL x (pc + 1) L (vi z :: st)) : FW Y G C nL x pc L (vi b :: vi a :: st) := by
  obtain ⟨p, l, e, R, s, m, args, below, meth, c, cells, slots, Q⟩ := C
  obtain ⟨hx, hb, hml, hown, hts, hK, hD, hlocks, hcl, hsl, hX, hXc, hret, hfr, hlc⟩ := h
  intro hR H locs ls hP hS hl
  obtain ⟨z, h1, h2, h3⟩ := iI_any (iI a >>> (iI b &&& 31))
  exact lv_ishr hx hb hd (by rw [h2]; exact (k z h1 h2 h3 hR H locs ls hP hS hl))
set_option maxHeartbeats 60000 in
theorem fr_iushr (h : OK Y G C cc own nL ret fr lc) {a b : Int} (hd : decode cc pc = .ok (.iushr, 1)) (k : ∀ z : Int, fm_r z → ((iI a).toUInt32 >>> ((iI b).toUInt32 &&& Int32.toUInt32 31)).toInt32 = iI z → (b = 16 → 0 ≤ z ∧ z ≤ 65535) → FW Y G C nL x (pc + 1) L (vi z :: st)) : FW Y G C nL x pc L (vi b :: vi a :: st) := by
  obtain ⟨p, l, e, R, s, m, args, below, meth, c, cells, slots, Q⟩ := C
  obtain ⟨hx, hb, hml, hown, hts, hK, hD, hlocks, hcl, hsl, hX, hXc, hret, hfr, hlc⟩ := h
  intro hR H locs ls hP hS hl
  obtain ⟨z, h1, h2, h3⟩ := iI_ushr a b
  exact lv_iushr hx hb hd h2 (k z h1 h2 h3 hR H locs ls hP hS hl)
set_option maxHeartbeats 60000 in
theorem fr_land (h : OK Y G C cc own nL ret fr lc) {a b : Int} (hd : decode cc pc = .ok (.land, 1)) (k : ∀ z : Int, fm_l z → lI a &&& lI b = lI z → (0 ≤ b → b ≤ 9223372036854775807 → 0 ≤ z ∧ z ≤ b) → FW Y G C nL x (pc + 1) L (vj z :: st)) : FW Y G C nL x pc L (vj b :: vj a :: st) := by
  obtain ⟨p, l, e, R, s, m, args, below, meth, c, cells, slots, Q⟩ := C
  obtain ⟨hx, hb, hml, hown, hts, hK, hD, hlocks, hcl, hsl, hX, hXc, hret, hfr, hlc⟩ := h
  intro hR H locs ls hP hS hl
  obtain ⟨z, h1, h2, h3⟩ := lI_and a b
  exact lv_land hx hb hd (by rw [h2]; exact (k z h1 h2 h3 hR H locs ls hP hS hl))
set_option maxHeartbeats 60000 in
theorem fr_lor (h : OK Y G C cc own nL ret fr lc) {a b : Int} (hd : decode cc pc = .ok (.lor, 1)) (k : ∀ z : Int, fm_l z → lI a ||| lI b = lI z → True → FW Y G C nL x (pc + 1) L (vj z :: st)) : FW Y G C nL x pc L (vj b :: vj a :: st) := by
  obtain ⟨p, l, e, R, s, m, args, below, meth, c, cells, slots, Q⟩ := C
  obtain ⟨hx, hb, hml, hown, hts, hK, hD, hlocks, hcl, hsl, hX, hXc, hret, hfr, hlc⟩ := h
  intro hR H locs ls hP hS hl
  obtain ⟨z, h1, h2, h3⟩ := lI_any (lI a ||| lI b)
  exact lv_lor hx hb hd (by rw [h2]; exact (k z h1 h2 h3 hR H locs ls hP hS hl))
set_option maxHeartbeats 60000 in
theorem fr_lshl (h : OK Y G C cc own nL ret fr lc) {a b : Int} (hd : decode cc pc = .ok (.lshl, 1)) (k : ∀ z : Int, fm_l z → lI a <<< ((iI b).toInt64 &&& 63) = lI z → True → FW Y G C nL x (pc + 1) L (vj z :: st)) : FW Y G C nL x pc L (vi b :: vj a :: st) := by
  obtain ⟨p, l, e, R, s, m, args, below, meth, c, cells, slots, Q⟩ := C
  obtain ⟨hx, hb, hml, hown, hts, hK, hD, hlocks, hcl, hsl, hX, hXc, hret, hfr, hlc⟩ := h
  intro hR H locs ls hP hS hl
  obtain ⟨z, h1, h2, h3⟩ := lI_any (lI a <<< ((iI b).toInt64 &&& 63))
  exact lv_lshl hx hb hd h2 (k z h1 h2 h3 hR H locs ls hP hS hl)
set_option maxHeartbeats 60000 in
theorem fr_lshr (h : OK Y G C cc own nL ret fr lc) {a b : Int} (hd : decode cc pc = .ok (.lshr, 1)) (k : ∀ z : Int, fm_l z → lI a >>> ((iI b).toInt64 &&& 63) = lI z → True → FW Y G C nL x (pc + 1) L (vj z :: st)) : FW Y G C nL x pc L (vi b :: vj a :: st) := by
  obtain ⟨p, l, e, R, s, m, args, below, meth, c, cells, slots, Q⟩ := C
  obtain ⟨hx, hb, hml, hown, hts, hK, hD, hlocks, hcl, hsl, hX, hXc, hret, hfr, hlc⟩ := h
  intro hR H locs ls hP hS hl
  obtain ⟨z, h1, h2, h3⟩ := lI_any (lI a >>> ((iI b).toInt64 &&& 63))
  exact lv_lshr hx hb hd h2 (k z h1 h2 h3 hR H locs ls hP hS hl)
set_option maxHeartbeats 60000 in
theorem fr_lushr (h : OK Y G C cc own nL ret fr lc) {a b : Int} (hd : decode cc pc = .ok (.lushr, 1)) (k : ∀ z : Int, fm_l z → ((lI a).toUInt64 >>> ((iI b).toInt64.toUInt64 &&& Int64.toUInt64 63)).toInt64 = lI z → True → FW Y G C nL x (pc + 1) L (vj z :: st)) : FW Y G C nL x pc L (vi b :: vj a :: st) := by
  obtain ⟨p, l, e, R, s, m, args, below, meth, c, cells, slots, Q⟩ := C
  obtain ⟨hx, hb, hml, hown, hts, hK, hD, hlocks, hcl, hsl, hX, hXc, hret, hfr, hlc⟩ := h
  intro hR H locs ls hP hS hl
  obtain ⟨z, h1, h2, h3⟩ := lI_any (((lI a).toUInt64 >>> ((iI b).toInt64.toUInt64 &&& Int64.toUInt64 63)).toInt64)
  exact lv_lushr hx hb hd h2 (k z h1 h2 h3 hR H locs ls hP hS hl)
set_option maxHeartbeats 60000 in
theorem fr_l2i (h : OK Y G C cc own nL ret fr lc) {a : Int} (hd : decode cc pc = .ok (.l2i, 1)) (k : ∀ z : Int, fm_r z → (lI a).toInt32 = iI z → (fm_r a → z = a) → FW Y G C nL x (pc + 1) L (vi z :: st)) : FW Y G C nL x pc L (vj a :: st) := by
  obtain ⟨p, l, e, R, s, m, args, below, meth, c, cells, slots, Q⟩ := C
  obtain ⟨hx, hb, hml, hown, hts, hK, hD, hlocks, hcl, hsl, hX, hXc, hret, hfr, hlc⟩ := h
  intro hR H locs ls hP hS hl
  obtain ⟨z, h1, h2, h3⟩ := lI_i a
  exact lv_l2i hx hb hd h2 (k z h1 h2 h3 hR H locs ls hP hS hl)
set_option maxHeartbeats 60000 in
theorem fr_i2b (h : OK Y G C cc own nL ret fr lc) {a : Int} (hd : decode cc pc = .ok (.i2b, 1)) (k : ∀ z : Int, fm_r z → (iI a).toInt8.toInt32 = iI z → (-128 ≤ z ∧ z ≤ 127) → FW Y G C nL x (pc + 1) L (vi z :: st)) : FW Y G C nL x pc L (vi a :: st) := by
  obtain ⟨p, l, e, R, s, m, args, below, meth, c, cells, slots, Q⟩ := C
  obtain ⟨hx, hb, hml, hown, hts, hK, hD, hlocks, hcl, hsl, hX, hXc, hret, hfr, hlc⟩ := h
  intro hR H locs ls hP hS hl
  obtain ⟨z, h1, h2, h3⟩ := iI_b a
  exact lv_i2b hx hb hd h2 (k z h1 h2 h3 hR H locs ls hP hS hl)
set_option maxHeartbeats 60000 in
theorem fr_i2s (h : OK Y G C cc own nL ret fr lc) {a : Int} (hd : decode cc pc = .ok (.i2s, 1)) (k : ∀ z : Int, fm_r z → (iI a).toInt16.toInt32 = iI z → (-32768 ≤ z ∧ z ≤ 32767) → FW Y G C nL x (pc + 1) L (vi z :: st)) : FW Y G C nL x pc L (vi a :: st) := by
  obtain ⟨p, l, e, R, s, m, args, below, meth, c, cells, slots, Q⟩ := C
  obtain ⟨hx, hb, hml, hown, hts, hK, hD, hlocks, hcl, hsl, hX, hXc, hret, hfr, hlc⟩ := h
  intro hR H locs ls hP hS hl
  obtain ⟨z, h1, h2, h3⟩ := iI_s a
  exact lv_i2s hx hb hd h2 (k z h1 h2 h3 hR H locs ls hP hS hl)
set_option maxHeartbeats 60000 in
theorem fr_i2c (h : OK Y G C cc own nL ret fr lc) {a : Int} (hd : decode cc pc = .ok (.i2c, 1)) (k : ∀ z : Int, fm_r z → ((iI a).toUInt32 % 65536).toInt32 = iI z → (0 ≤ z ∧ z ≤ 65535 ∧ (0 ≤ a → a ≤ 65535 → z = a)) → FW Y G C nL x (pc + 1) L (vi z :: st)) : FW Y G C nL x pc L (vi a :: st) := by
  obtain ⟨p, l, e, R, s, m, args, below, meth, c, cells, slots, Q⟩ := C
  obtain ⟨hx, hb, hml, hown, hts, hK, hD, hlocks, hcl, hsl, hX, hXc, hret, hfr, hlc⟩ := h
  intro hR H locs ls hP hS hl
  obtain ⟨z, h1, h2, h3⟩ := iI_c a
  exact lv_i2c hx hb hd h2 (k z h1 h2 h3 hR H locs ls hP hS hl)
set_option maxHeartbeats 60000 in
theorem fr_normi {z : Int} (k : ∀ a : Int, fm_r a → iI z = iI a → FW Y G C nL x pc L (vi a :: st)) : FW Y G C nL x pc L (vi z :: st) := by
  have h := k (iI z).toInt (iI_r _) (iI_of _).symm
  rwa [vi, iI_of] at h
set_option maxHeartbeats 60000 in
theorem fr_norml {z : Int} (k : ∀ a : Int, fm_l a → lI z = lI a → FW Y G C nL x pc L (vj a :: st)) : FW Y G C nL x pc L (vj z :: st) := by
  have h := k (lI z).toInt (lI_r _) (lI_of _).symm
  rwa [vj, lI_of] at h
set_option maxHeartbeats 60000 in
theorem fr_nmi {z : Int} (k : ∀ a : Int, a = z → FW Y G C nL x pc L (vi a :: st)) : FW Y G C nL x pc L (vi z :: st) := k z rfl
set_option maxHeartbeats 60000 in
theorem fr_nml {z : Int} (k : ∀ a : Int, a = z → FW Y G C nL x pc L (vj a :: st)) : FW Y G C nL x pc L (vj z :: st) := k z rfl
set_option maxHeartbeats 60000 in
theorem fr_dup (h : OK Y G C cc own nL ret fr lc) {v : Value} (hv : v.category = 1) (hd : decode cc pc = .ok (.dup, 1)) (k : FW Y G C nL x (pc + 1) L (v :: v :: st)) : FW Y G C nL x pc L (v :: st) := by
  obtain ⟨p, l, e, R, s, m, args, below, meth, c, cells, slots, Q⟩ := C
  obtain ⟨hx, hb, hml, hown, hts, hK, hD, hlocks, hcl, hsl, hX, hXc, hret, hfr, hlc⟩ := h
  intro hR H locs ls hP hS hl
  exact lv_dup hx hb hd hv (k hR H locs ls hP hS hl)
set_option maxHeartbeats 60000 in
theorem fr_pop (h : OK Y G C cc own nL ret fr lc) {v : Value} (hv : v.category = 1) (hd : decode cc pc = .ok (.pop, 1)) (k : FW Y G C nL x (pc + 1) L (st)) : FW Y G C nL x pc L (v :: st) := by
  obtain ⟨p, l, e, R, s, m, args, below, meth, c, cells, slots, Q⟩ := C
  obtain ⟨hx, hb, hml, hown, hts, hK, hD, hlocks, hcl, hsl, hX, hXc, hret, hfr, hlc⟩ := h
  intro hR H locs ls hP hS hl
  exact lv_pop hx hb hd hv (k hR H locs ls hP hS hl)
set_option maxHeartbeats 60000 in
theorem fr_dup_x1 (h : OK Y G C cc own nL ret fr lc) {v u : Value} (hv : v.category = 1) (hu : u.category = 1) (hd : decode cc pc = .ok (.dup_x1, 1)) (k : FW Y G C nL x (pc + 1) L (v :: u :: v :: st)) : FW Y G C nL x pc L (v :: u :: st) := by
  obtain ⟨p, l, e, R, s, m, args, below, meth, c, cells, slots, Q⟩ := C
  obtain ⟨hx, hb, hml, hown, hts, hK, hD, hlocks, hcl, hsl, hX, hXc, hret, hfr, hlc⟩ := h
  intro hR H locs ls hP hS hl
  exact lv_dup_x1 hx hb hd hv hu (k hR H locs ls hP hS hl)
set_option maxHeartbeats 60000 in
theorem fr_dup2_11 (h : OK Y G C cc own nL ret fr lc) {v u : Value} (hv : v.category = 1) (hu : u.category = 1) (hd : decode cc pc = .ok (.dup2, 1)) (k : FW Y G C nL x (pc + 1) L (v :: u :: v :: u :: st)) : FW Y G C nL x pc L (v :: u :: st) := by
  obtain ⟨p, l, e, R, s, m, args, below, meth, c, cells, slots, Q⟩ := C
  obtain ⟨hx, hb, hml, hown, hts, hK, hD, hlocks, hcl, hsl, hX, hXc, hret, hfr, hlc⟩ := h
  intro hR H locs ls hP hS hl
  exact lv_dup2_11 hx hb hd hv hu (k hR H locs ls hP hS hl)
set_option maxHeartbeats 60000 in
theorem fr_icmp_eq (h : OK Y G C cc own nL ret fr lc) {a b off : Int} {tgt : Nat} (hd : decode cc pc = .ok (.if_icmp .eq off, 3)) (ht : (pc : Int) + off = (tgt : Int)) (ha : fm_r a) (hb0 : fm_r b) (kt : a = b → FW Y G C nL x tgt L st) (kf : a ≠ b → FW Y G C nL x (pc + 3) L st) : FW Y G C nL x pc L (vi b :: vi a :: st) := by
  obtain ⟨p, l, e, R, s, m, args, below, meth, c, cells, slots, Q⟩ := C
  obtain ⟨hx, hb, hml, hown, hts, hK, hD, hlocks, hcl, hsl, hX, hXc, hret, hfr, hlc⟩ := h
  intro hR H locs ls hP hS hl
  exact lv_icmp_eq hx hb hd ht (fun q => kt ((iI_eq ha hb0).mp q) hR H locs ls hP hS hl) (fun q => kf (fun r => q ((iI_eq ha hb0).mpr r)) hR H locs ls hP hS hl)
set_option maxHeartbeats 60000 in
theorem fr_if_eq (h : OK Y G C cc own nL ret fr lc) {a off : Int} {tgt : Nat} (hd : decode cc pc = .ok (.ifCond .eq off, 3)) (ht : (pc : Int) + off = (tgt : Int)) (ha : fm_r a) (kt : a = 0 → FW Y G C nL x tgt L st) (kf : a ≠ 0 → FW Y G C nL x (pc + 3) L st) : FW Y G C nL x pc L (vi a :: st) := by
  obtain ⟨p, l, e, R, s, m, args, below, meth, c, cells, slots, Q⟩ := C
  obtain ⟨hx, hb, hml, hown, hts, hK, hD, hlocks, hcl, hsl, hX, hXc, hret, hfr, hlc⟩ := h
  intro hR H locs ls hP hS hl
  have hb0 : fm_r 0 := by omega
  exact lv_if_eq hx hb hd ht (fun q => kt ((iI_eq ha hb0).mp q) hR H locs ls hP hS hl) (fun q => kf (fun r => q ((iI_eq ha hb0).mpr r)) hR H locs ls hP hS hl)
set_option maxHeartbeats 60000 in
theorem fr_icmp_ne (h : OK Y G C cc own nL ret fr lc) {a b off : Int} {tgt : Nat} (hd : decode cc pc = .ok (.if_icmp .ne off, 3)) (ht : (pc : Int) + off = (tgt : Int)) (ha : fm_r a) (hb0 : fm_r b) (kt : a ≠ b → FW Y G C nL x tgt L st) (kf : a = b → FW Y G C nL x (pc + 3) L st) : FW Y G C nL x pc L (vi b :: vi a :: st) := by
  obtain ⟨p, l, e, R, s, m, args, below, meth, c, cells, slots, Q⟩ := C
  obtain ⟨hx, hb, hml, hown, hts, hK, hD, hlocks, hcl, hsl, hX, hXc, hret, hfr, hlc⟩ := h
  intro hR H locs ls hP hS hl
  exact lv_icmp_ne hx hb hd ht (fun q => kt (fun r => q ((iI_eq ha hb0).mpr r)) hR H locs ls hP hS hl) (fun q => kf ((iI_eq ha hb0).mp q) hR H locs ls hP hS hl)
set_option maxHeartbeats 60000 in
theorem fr_if_ne (h : OK Y G C cc own nL ret fr lc) {a off : Int} {tgt : Nat} (hd : decode cc pc = .ok (.ifCond .ne off, 3)) (ht : (pc : Int) + off = (tgt : Int)) (ha : fm_r a) (kt : a ≠ 0 → FW Y G C nL x tgt L st) (kf : a = 0 → FW Y G C nL x (pc + 3) L st) : FW Y G C nL x pc L (vi a :: st) := by
  obtain ⟨p, l, e, R, s, m, args, below, meth, c, cells, slots, Q⟩ := C
  obtain ⟨hx, hb, hml, hown, hts, hK, hD, hlocks, hcl, hsl, hX, hXc, hret, hfr, hlc⟩ := h
  intro hR H locs ls hP hS hl
  have hb0 : fm_r 0 := by omega
  exact lv_if_ne hx hb hd ht (fun q => kt (fun r => q ((iI_eq ha hb0).mpr r)) hR H locs ls hP hS hl) (fun q => kf ((iI_eq ha hb0).mp q) hR H locs ls hP hS hl)
set_option maxHeartbeats 60000 in
theorem fr_icmp_lt (h : OK Y G C cc own nL ret fr lc) {a b off : Int} {tgt : Nat} (hd : decode cc pc = .ok (.if_icmp .lt off, 3)) (ht : (pc : Int) + off = (tgt : Int)) (ha : fm_r a) (hb0 : fm_r b) (kt : a < b → FW Y G C nL x tgt L st) (kf : b ≤ a → FW Y G C nL x (pc + 3) L st) : FW Y G C nL x pc L (vi b :: vi a :: st) := by
  obtain ⟨p, l, e, R, s, m, args, below, meth, c, cells, slots, Q⟩ := C
  obtain ⟨hx, hb, hml, hown, hts, hK, hD, hlocks, hcl, hsl, hX, hXc, hret, hfr, hlc⟩ := h
  intro hR H locs ls hP hS hl
  exact lv_icmp_lt hx hb hd ht (fun q => kt ((iI_lt ha hb0).mp q) hR H locs ls hP hS hl) (fun q => kf (Int.not_lt.mp fun r => q ((iI_lt ha hb0).mpr r)) hR H locs ls hP hS hl)
set_option maxHeartbeats 60000 in
theorem fr_if_lt (h : OK Y G C cc own nL ret fr lc) {a off : Int} {tgt : Nat} (hd : decode cc pc = .ok (.ifCond .lt off, 3)) (ht : (pc : Int) + off = (tgt : Int)) (ha : fm_r a) (kt : a < 0 → FW Y G C nL x tgt L st) (kf : 0 ≤ a → FW Y G C nL x (pc + 3) L st) : FW Y G C nL x pc L (vi a :: st) := by
  obtain ⟨p, l, e, R, s, m, args, below, meth, c, cells, slots, Q⟩ := C
  obtain ⟨hx, hb, hml, hown, hts, hK, hD, hlocks, hcl, hsl, hX, hXc, hret, hfr, hlc⟩ := h
  intro hR H locs ls hP hS hl
  have hb0 : fm_r 0 := by omega
  exact lv_if_lt hx hb hd ht (fun q => kt ((iI_lt ha hb0).mp q) hR H locs ls hP hS hl) (fun q => kf (Int.not_lt.mp fun r => q ((iI_lt ha hb0).mpr r)) hR H locs ls hP hS hl)
set_option maxHeartbeats 60000 in
theorem fr_icmp_ge (h : OK Y G C cc own nL ret fr lc) {a b off : Int} {tgt : Nat} (hd : decode cc pc = .ok (.if_icmp .ge off, 3)) (ht : (pc : Int) + off = (tgt : Int)) (ha : fm_r a) (hb0 : fm_r b) (kt : b ≤ a → FW Y G C nL x tgt L st) (kf : a < b → FW Y G C nL x (pc + 3) L st) : FW Y G C nL x pc L (vi b :: vi a :: st) := by
  obtain ⟨p, l, e, R, s, m, args, below, meth, c, cells, slots, Q⟩ := C
  obtain ⟨hx, hb, hml, hown, hts, hK, hD, hlocks, hcl, hsl, hX, hXc, hret, hfr, hlc⟩ := h
  intro hR H locs ls hP hS hl
  exact lv_icmp_ge hx hb hd ht (fun q => kt ((iI_le hb0 ha).mp q) hR H locs ls hP hS hl) (fun q => kf (Int.not_le.mp fun r => q ((iI_le hb0 ha).mpr r)) hR H locs ls hP hS hl)
set_option maxHeartbeats 60000 in
theorem fr_if_ge (h : OK Y G C cc own nL ret fr lc) {a off : Int} {tgt : Nat} (hd : decode cc pc = .ok (.ifCond .ge off, 3)) (ht : (pc : Int) + off = (tgt : Int)) (ha : fm_r a) (kt : 0 ≤ a → FW Y G C nL x tgt L st) (kf : a < 0 → FW Y G C nL x (pc + 3) L st) : FW Y G C nL x pc L (vi a :: st) := by
  obtain ⟨p, l, e, R, s, m, args, below, meth, c, cells, slots, Q⟩ := C
  obtain ⟨hx, hb, hml, hown, hts, hK, hD, hlocks, hcl, hsl, hX, hXc, hret, hfr, hlc⟩ := h
  intro hR H locs ls hP hS hl
  have hb0 : fm_r 0 := by omega
  exact lv_if_ge hx hb hd ht (fun q => kt ((iI_le hb0 ha).mp q) hR H locs ls hP hS hl) (fun q => kf (Int.not_le.mp fun r => q ((iI_le hb0 ha).mpr r)) hR H locs ls hP hS hl)
set_option maxHeartbeats 60000 in
theorem fr_icmp_gt (h : OK Y G C cc own nL ret fr lc) {a b off : Int} {tgt : Nat} (hd : decode cc pc = .ok (.if_icmp .gt off, 3)) (ht : (pc : Int) + off = (tgt : Int)) (ha : fm_r a) (hb0 : fm_r b) (kt : b < a → FW Y G C nL x tgt L st) (kf : a ≤ b → FW Y G C nL x (pc + 3) L st) : FW Y G C nL x pc L (vi b :: vi a :: st) := by
  obtain ⟨p, l, e, R, s, m, args, below, meth, c, cells, slots, Q⟩ := C
  obtain ⟨hx, hb, hml, hown, hts, hK, hD, hlocks, hcl, hsl, hX, hXc, hret, hfr, hlc⟩ := h
  intro hR H locs ls hP hS hl
  exact lv_icmp_gt hx hb hd ht (fun q => kt ((iI_lt hb0 ha).mp q) hR H locs ls hP hS hl) (fun q => kf (Int.not_lt.mp fun r => q ((iI_lt hb0 ha).mpr r)) hR H locs ls hP hS hl)
set_option maxHeartbeats 60000 in
theorem fr_if_gt (h : OK Y G C cc own nL ret fr lc) {a off : Int} {tgt : Nat} (hd : decode cc pc = .ok (.ifCond .gt off, 3)) (ht : (pc : Int) + off = (tgt : Int)) (ha : fm_r a) (kt : 0 < a → FW Y G C nL x tgt L st) (kf : a ≤ 0 → FW Y G C nL x (pc + 3) L st) : FW Y G C nL x pc L (vi a :: st) := by
  obtain ⟨p, l, e, R, s, m, args, below, meth, c, cells, slots, Q⟩ := C
  obtain ⟨hx, hb, hml, hown, hts, hK, hD, hlocks, hcl, hsl, hX, hXc, hret, hfr, hlc⟩ := h
  intro hR H locs ls hP hS hl
  have hb0 : fm_r 0 := by omega
  exact lv_if_gt hx hb hd ht (fun q => kt ((iI_lt hb0 ha).mp q) hR H locs ls hP hS hl) (fun q => kf (Int.not_lt.mp fun r => q ((iI_lt hb0 ha).mpr r)) hR H locs ls hP hS hl)
set_option maxHeartbeats 60000 in
theorem fr_icmp_le (h : OK Y G C cc own nL ret fr lc) {a b off : Int} {tgt : Nat} (hd : decode cc pc = .ok (.if_icmp .le off, 3)) (ht : (pc : Int) + off = (tgt : Int)) (ha : fm_r a) (hb0 : fm_r b) (kt : a ≤ b → FW Y G C nL x tgt L st) (kf : b < a → FW Y G C nL x (pc + 3) L st) : FW Y G C nL x pc L (vi b :: vi a :: st) := by
  obtain ⟨p, l, e, R, s, m, args, below, meth, c, cells, slots, Q⟩ := C
  obtain ⟨hx, hb, hml, hown, hts, hK, hD, hlocks, hcl, hsl, hX, hXc, hret, hfr, hlc⟩ := h
  intro hR H locs ls hP hS hl
  exact lv_icmp_le hx hb hd ht (fun q => kt ((iI_le ha hb0).mp q) hR H locs ls hP hS hl) (fun q => kf (Int.not_le.mp fun r => q ((iI_le ha hb0).mpr r)) hR H locs ls hP hS hl)
set_option maxHeartbeats 60000 in
theorem fr_if_le (h : OK Y G C cc own nL ret fr lc) {a off : Int} {tgt : Nat} (hd : decode cc pc = .ok (.ifCond .le off, 3)) (ht : (pc : Int) + off = (tgt : Int)) (ha : fm_r a) (kt : a ≤ 0 → FW Y G C nL x tgt L st) (kf : 0 < a → FW Y G C nL x (pc + 3) L st) : FW Y G C nL x pc L (vi a :: st) := by
  obtain ⟨p, l, e, R, s, m, args, below, meth, c, cells, slots, Q⟩ := C
  obtain ⟨hx, hb, hml, hown, hts, hK, hD, hlocks, hcl, hsl, hX, hXc, hret, hfr, hlc⟩ := h
  intro hR H locs ls hP hS hl
  have hb0 : fm_r 0 := by omega
  exact lv_if_le hx hb hd ht (fun q => kt ((iI_le ha hb0).mp q) hR H locs ls hP hS hl) (fun q => kf (Int.not_le.mp fun r => q ((iI_le ha hb0).mpr r)) hR H locs ls hP hS hl)
set_option maxHeartbeats 60000 in
theorem fr_goto (h : OK Y G C cc own nL ret fr lc) {off : Int} {tgt : Nat} (hd : decode cc pc = .ok (.goto off, 3)) (ht : (pc : Int) + off = (tgt : Int)) (k : FW Y G C nL x tgt L st) : FW Y G C nL x pc L st := by
  obtain ⟨p, l, e, R, s, m, args, below, meth, c, cells, slots, Q⟩ := C
  obtain ⟨hx, hb, hml, hown, hts, hK, hD, hlocks, hcl, hsl, hX, hXc, hret, hfr, hlc⟩ := h
  intro hR H locs ls hP hS hl
  exact lv_goto hx hb hd ht (k hR H locs ls hP hS hl)
set_option maxHeartbeats 60000 in
theorem fr_lcmp (h : OK Y G C cc own nL ret fr lc) {a b : Int} (hd : decode cc pc = .ok (.lcmp, 1)) (ha : fm_l a) (hb0 : fm_l b) (k : ∀ z : Int, (z = -1 ∧ a < b) ∨ (z = 0 ∧ a = b) ∨ (z = 1 ∧ b < a) → FW Y G C nL x (pc + 1) L (vi z :: st)) : FW Y G C nL x pc L (vj b :: vj a :: st) := by
  obtain ⟨p, l, e, R, s, m, args, below, meth, c, cells, slots, Q⟩ := C
  obtain ⟨hx, hb, hml, hown, hts, hK, hD, hlocks, hcl, hsl, hX, hXc, hret, hfr, hlc⟩ := h
  intro hR H locs ls hP hS hl
  obtain ⟨z, h1, h2⟩ := lc_cases ha hb0
  exact W.lcmp hx hb hd (by rw [h1]; exact k z h2 hR H locs ls hP hS hl)
set_option maxHeartbeats 60000 in
theorem fr_tab_out (h : OK Y G C cc own nL ret fr lc) {a d lo hi : Int} {offs : Array Int} {len tgt : Nat} (hd : decode cc pc = .ok (.tableswitch d lo hi offs, len)) (ha : fm_r a) (hq : a < lo ∨ hi < a) (ht : (pc : Int) + d = (tgt : Int)) (k : FW Y G C nL x tgt L st) : FW Y G C nL x pc L (vi a :: st) := by
  obtain ⟨p, l, e, R, s, m, args, below, meth, c, cells, slots, Q⟩ := C
  obtain ⟨hx, hb, hml, hown, hts, hK, hD, hlocks, hcl, hsl, hX, hXc, hret, hfr, hlc⟩ := h
  intro hR H locs ls hP hS hl
  exact lv_tableOut hx hb hd (by rw [iI_t ha]; exact hq) ht (k hR H locs ls hP hS hl)
set_option maxHeartbeats 60000 in
theorem fr_tab_in (h : OK Y G C cc own nL ret fr lc) {a d lo hi : Int} {offs : Array Int} {len tgt : Nat} {off : Int} (hd : decode cc pc = .ok (.tableswitch d lo hi offs, len)) (ha : fm_r a) (hq : lo ≤ a) (hq2 : a ≤ hi) (ho : offs[(a - lo).toNat]? = some off) (ht : (pc : Int) + off = (tgt : Int)) (k : FW Y G C nL x tgt L st) : FW Y G C nL x pc L (vi a :: st) := by
  obtain ⟨p, l, e, R, s, m, args, below, meth, c, cells, slots, Q⟩ := C
  obtain ⟨hx, hb, hml, hown, hts, hK, hD, hlocks, hcl, hsl, hX, hXc, hret, hfr, hlc⟩ := h
  intro hR H locs ls hP hS hl
  exact lv_tableIn hx hb hd (by rw [iI_t ha]; omega) (by rw [iI_t ha]; omega) (by rw [iI_t ha]; exact ho) ht (k hR H locs ls hP hS hl)
set_option maxHeartbeats 60000 in
theorem fr_look (h : OK Y G C cc own nL ret fr lc) {a d off : Int} {ps : Array (Int × Int)} {len tgt : Nat} (hd : decode cc pc = .ok (.lookupswitch d ps, len)) (ha : fm_r a) (hp : (ps.toList.zip (ps.toList.drop 1)).all (fun (a, next) => a.1 < next.1) = true) (ho : Op.lookupswitch.offset ps.toList d a = off) (ht : (pc : Int) + off = (tgt : Int)) (k : FW Y G C nL x tgt L st) : FW Y G C nL x pc L (vi a :: st) := by
  obtain ⟨p, l, e, R, s, m, args, below, meth, c, cells, slots, Q⟩ := C
  obtain ⟨hx, hb, hml, hown, hts, hK, hD, hlocks, hcl, hsl, hX, hXc, hret, hfr, hlc⟩ := h
  intro hR H locs ls hP hS hl
  exact lv_lookup hx hb hd hp (by rw [iI_t ha]; exact ho) ht (k hR H locs ls hP hS hl)
end FMR
