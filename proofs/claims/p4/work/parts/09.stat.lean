/-! the static tables SORT_STEPS and CLUE_GREATEST, read by nested classes -/
def fm_st (G : Gx) (C : Cx) (t N : Nat) (l : List Int) : Prop := match C with
  | (_, _, _, _, s, _, _, _, _, _, _, _, _) => va_T .int t N (fun j => vi (l.getD j 0)) (fm_A YC G) s s.heap
section FST
variable {G : Gx} {C : Cx} {cc : ByteArray} {nL : Nat} {ret : Option FieldType} {fr lc : Nat} {x : Mm} {pc : Nat} {L : List (Nat × Value)} {st : List Value}
theorem fr_gst1 (h : OK YC G C cc "BestWalks$Order" nL ret fr lc) (hd : decode cc pc = .ok (.getstatic 31, 3)) (kk : ∀ t : Nat, fm_st G C t 8 zt_1 → FW YC G C nL x (pc + 3) L (.ref t :: st)) : FW YC G C nL x pc L st := by
  obtain ⟨p, l, e, R, s, m, args, below, meth, c, cells, slots, Q⟩ := C
  obtain ⟨hx, hb, hml, hown, hts, hK, hD, hlocks, hcl, hsl, hX, hXc, hret, hfr, hlc⟩ := h
  intro hR H locs ls hP hS hl
  have hX : ZC G (fm_A YC G) s := hX
  obtain ⟨t, h1, h2⟩ := hX.2.1
  exact va_getsN hx hb h1 hS hown (va_Nw.use rfl hX.2.2.2.2.2.1) (fun _ q => q) hd (kk t h2 hR H locs ls hP hS hl)
theorem fr_gst2 (h : OK YC G C cc "BestWalks$Clues" nL ret fr lc) (hd : decode cc pc = .ok (.getstatic 27, 3)) (kk : ∀ t : Nat, fm_st G C t 5 zt_2 → FW YC G C nL x (pc + 3) L (.ref t :: st)) : FW YC G C nL x pc L st := by
  obtain ⟨p, l, e, R, s, m, args, below, meth, c, cells, slots, Q⟩ := C
  obtain ⟨hx, hb, hml, hown, hts, hK, hD, hlocks, hcl, hsl, hX, hXc, hret, hfr, hlc⟩ := h
  intro hR H locs ls hP hS hl
  have hX : ZC G (fm_A YC G) s := hX
  obtain ⟨t, h1, h2⟩ := hX.2.2.1
  exact va_getsN hx hb h1 hS hown (va_Nw.use rfl hX.2.2.2.2.2.2) (fun _ q => q) hd (kk t h2 hR H locs ls hP hS hl)
theorem fr_sld {own : String} (h : OK YC G C cc own nL ret fr lc) {t N : Nat} {l : List Int} {j : Int} (hs : fm_st G C t N l) (hN : N ≤ 1000) (h0 : 0 ≤ j) (hj : j < N) (hd : decode cc pc = .ok (.iaload, 1)) (kk : ∀ z : Int, z = l.getD j.toNat 0 → FW YC G C nL x (pc + 1) L (vi z :: st)) : FW YC G C nL x pc L (vi j :: .ref t :: st) := by
  obtain ⟨p, l, e, R, s, m, args, below, meth, c, cells, slots, Q⟩ := C
  obtain ⟨hx, hb, hml, hown, hts, hK, hD, hlocks, hcl, hsl, hX, hXc, hret, hfr, hlc⟩ := h
  intro hR H locs ls hP hS hl
  exact va_ti hx hb hs hS (iI_in h0 hj (by omega)) (by rw [iI_cl h0 (by omega)]) hd (kk _ rfl hR H locs ls hP hS hl)
theorem fr_slen {own : String} (h : OK YC G C cc own nL ret fr lc) {t N : Nat} {l : List Int} (hs : fm_st G C t N l) (hd : decode cc pc = .ok (.arraylength, 1)) (kk : FW YC G C nL x (pc + 1) L (vi (N : Int) :: st)) : FW YC G C nL x pc L (.ref t :: st) := by
  obtain ⟨p, l, e, R, s, m, args, below, meth, c, cells, slots, Q⟩ := C
  obtain ⟨hx, hb, hml, hown, hts, hK, hD, hlocks, hcl, hsl, hX, hXc, hret, hfr, hlc⟩ := h
  intro hR H locs ls hP hS hl
  exact va_tlen hx hb hs hS (iI_nat N).symm hd (kk hR H locs ls hP hS hl)
end FST
theorem zt_1_v {j z : Int} (h0 : 0 ≤ j) (hj : j < 8) (h : z = zt_1.getD j.toNat 0) : 1 ≤ z ∧ z ≤ 701 := by
  subst h
  rcases (show j = 0 ∨ j = 1 ∨ j = 2 ∨ j = 3 ∨ j = 4 ∨ j = 5 ∨ j = 6 ∨ j = 7 by omega) with rfl | rfl | rfl | rfl | rfl | rfl | rfl | rfl <;> decide
theorem zt_2_v {j z : Int} (h0 : 0 ≤ j) (hj : j < 5) (h : z = zt_2.getD j.toNat 0) : 8 ≤ z ∧ z ≤ 30 ∧ (j = 0 → z = 30) ∧ (j ≠ 0 → z ≤ 11) ∧ (j = 3 → z = 8) ∧ (j = 1 ∨ j = 2 ∨ j = 4 → z = 11) := by
  subst h
  rcases (show j = 0 ∨ j = 1 ∨ j = 2 ∨ j = 3 ∨ j = 4 by omega) with rfl | rfl | rfl | rfl | rfl <;> decide
/-- what the ranges say of the memory as it is -/
theorem fr_rng {Y : Ly} {G : Gx} {C : Cx} {nL : Nat} {x : Mm} {pc : Nat} {L : List (Nat × Value)} {st : List Value} (k : fm_R Y x → FW Y G C nL x pc L st) : FW Y G C nL x pc L st := by
  obtain ⟨p, l, e, R, s, m, args, below, meth, c, cells, slots, Q⟩ := C
  intro hR
  exact k hR hR
