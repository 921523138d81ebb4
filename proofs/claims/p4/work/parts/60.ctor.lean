/-! constructors: worlds as lists, rows over them -/
def nwl : List (String × Nat × MethodName) := [("BestWalks", 9, yX9_init), ("BestWalks", 18, yX8_init), ("BestWalks", 28, yX0_init), ("BestWalks$History", 17, yX8_init), ("BestWalks", 56, yX4_init), ("BestWalks", 69, yX1_init), ("BestWalks", 76, yX10_init), ("BestWalks", 101, yX3_init)]
/-- the words that aren't told anew at a call -/
def NWs (s : State) : Prop := (∀ q ∈ nwl, va_Nw (.methodLinkNest q.1 q.2.1 q.2.2 "BestWalks") s) ∧ va_AO "BestWalks$State" s ∧ va_AO "BestWalks$Order" s ∧ va_AO "BestWalks$Cursor" s ∧ va_AOA .int s
theorem NWs.warm {s U : State} (hW : s.WarmedH U.vm) (h : NWs s) : NWs U := ⟨fun q hq => va_Nw.warmM hW (h.1 q hq), va_AO.moved hW.alike h.2.1, va_AO.moved hW.alike h.2.2.1, va_AO.moved hW.alike h.2.2.2.1, va_AOA.moved hW.alike h.2.2.2.2⟩
abbrev Kx : Type := Program × Launch × Env × Room × State × MethodId × Array Value × List Frame × Method × Code × (State → Prop) × (Nat → Prop)
def KW (cl : List vw_C) (G : Gx) (C : Kx) (nL : Nat) (ws : va_W) (cells slots pc : Nat) (L : List (Nat × Value)) (st : List Value) : Prop := match C with
  | (p, l, e, R, s, m, args, below, meth, c, Q, A) => ∀ (H : Heap) (locs : List Loc) (ls : Array Slot), va_P G.1 cl ws H → va_D A ws → va_S A s.heap H locs → lv_has ls nL L → W p l e R s m args below meth c H locs cells slots Q (F0 m pc ls st)
def KO (cl : List vw_C) (G : Gx) (C : Kx) (cc : ByteArray) (own : String) (nL fr lc mc ms : Nat) : Prop := match C with
  | (p, _, _, R, s, m, args, _, meth, c, _, A) => p.tables.exec = Jvm.exec ∧ c.code = cc ∧ c.maxLocals = nL ∧ s.vm.findClass own = some m.cls ∧ (∀ w ∈ TB, w.before args s = true) ∧ va_K G.1 cl (fm_t G) s ∧ meth.locks = false ∧ meth.sig.returnType = none ∧ meth.name = "<init>" ∧ NWs s ∧ (∀ q : Nat, s.heap.size ≤ q → A q) ∧ fr ≤ R.frames ∧ lc ≤ R.locals ∧ mc ≤ R.cells ∧ ms ≤ R.slots
def KP (cl : List vw_C) (G : Gx) (h0 sz ci : Nat) (fs : List Value) (U : State) : Prop := U.heap.size = sz ∧ va_P G.1 cl [(h0, .inr (ci, fs))] U.heap ∧ va_K G.1 cl (fm_t G) U ∧ va_D (fun _ => True) [(h0, .inr (ci, fs))] ∧ NWs U
/-- a constructor's contract: the world that it leaves, told by the addresses of what it made -/
def CnK (cl : List vw_C) (y : MethodName) (b : ByteArray) (n fr lc mc ms ci : Nat) (fs : List Value) (as : List Value) (w : Gx → Nat → (Nat → Nat) → va_W) : Prop := ∀ (l : Launch) (G : Gx) (h0 sz : Nat), Met l y (Cond.code y b n none :: TB) { frames := fr, cells := mc, slots := ms, locals := lc } (va_Pc (.ref h0 :: as) (KP cl G h0 sz ci fs)) (va_Qv (S := Nat → Nat) (fun _ => True) (fun u t => va_P G.1 cl (w G h0 u) t.heap ∧ va_D (va_A [(h0, .inr (ci, fs))] sz) (w G h0 u)) (va_A [(h0, .inr (ci, fs))] sz)) mc ms (va_A [(h0, .inr (ci, fs))] sz)
theorem ra_u {U : State} {c1 c2 : ClassId} {t : FieldType} (h1 : va_RA U c1 t) (h2 : va_RA U c2 t) : c1 = c2 := by
  cases t with
  | object C =>
    obtain ⟨_, _, _, _, _, k1⟩ := h1
    obtain ⟨_, _, _, _, _, k2⟩ := h2
    exact Option.some.inj (k1.symm.trans k2)
  | _ => exact Option.some.inj (Eq.trans (Eq.symm h1) h2)
theorem ka_u {D : va_G} {cl : List vw_C} {tys : List (ClassId × FieldType)} {s : State} {c1 c2 : ClassId} {t : FieldType} {k : Nat} (hK : va_K D cl (tys ++ [(c1, t)]) s) (hk : tys[k]? = some (c2, t)) : c1 = c2 := by
  have e1 : (tys ++ [(c1, t)])[tys.length]? = some (c1, t) := by simp
  have e2 : (tys ++ [(c1, t)])[k]? = some (c2, t) := by
    rw [List.getElem?_append_left (List.getElem?_eq_some_iff.mp hk).1]
    exact hk
  exact ra_u (hK.2 _ _ e1).2 (hK.2 _ _ e2).2
theorem nd_r : ∀ n k : Nat, va_nd (List.range' k n) = true
  | 0, _ => rfl
  | n + 1, k => by
    rw [List.range'_succ]
    simp only [va_nd, Bool.and_eq_true, decide_eq_true_eq]
    refine ⟨fun h => ?_, nd_r n (k + 1)⟩
    obtain ⟨i, _, e⟩ := List.mem_range'.mp h
    omega
theorem rg_map (ws : va_W) (x : Nat × va_E) : (List.range' 0 ws.length).map (fun i => (ws ++ [x])[i]?) = ws.map some := by
  refine List.ext_getElem (by simp) (fun i h1 h2 => ?_)
  simp only [List.length_map, List.length_range'] at h1
  simp [List.getElem?_append_left h1]
theorem kw_join {A : Nat → Prop} {D : va_G} {cl : List vw_C} {ws w1 : va_W} {x : Nat × va_E} {H1 H2 : Heap} (hP : va_P D cl (ws ++ [x]) H1) (hD : va_D A (ws ++ [x])) (hk : ∀ q : Nat, q < H1.size → ¬ va_A [x] H1.size q → H2[q]? = H1[q]?) (hF : ∀ q, va_A [x] H1.size q → A q) (hP2 : va_P D cl w1 H2) (hD2 : va_D (va_A [x] H1.size) w1) : va_P D cl (ws ++ w1) H2 ∧ va_D A (ws ++ w1) :=
  va_join hP hD [ws.length] (List.range' 0 ws.length) (by simp) (rg_map ws x) (nd_r _ _) (fun i hi q => by
    obtain ⟨j, hj, e⟩ := List.mem_range'.mp hi
    have := List.mem_singleton.mp q
    omega) hk hF hP2 hD2
section KWR
variable {cl : List vw_C} {G : Gx} {C : Kx} {cc : ByteArray} {own : String} {nL fr lc mc ms : Nat} {ws ws' : va_W} {cells slots pc : Nat} {L L' : List (Nat × Value)} {st : List Value}
theorem kw_aload (h : KO cl G C cc own nL fr lc mc ms) {f : Fin 4} {i a : Nat} (hi : (f : Nat) = i) (j : Nat) (hk : L[j]? = some (i, .ref a)) (hd : decode cc pc = .ok (.aload_n f, 1)) (k : KW cl G C nL ws cells slots (pc + 1) L (.ref a :: st)) : KW cl G C nL ws cells slots pc L st := by
  obtain ⟨p, l, e, R, s, m, args, below, meth, c, Q, A⟩ := C
  obtain ⟨hx, hb, hml, hown, hts, hK, hlocks, hret, hin, hNW, hA, hfr, hlc, hmc, hms⟩ := h
  intro H locs ls hP hD hS hl
  exact lv_aload_n hx hb hd hi (lv_at hl j hk) (k H locs ls hP hD hS hl)
theorem kw_iload (h : KO cl G C cc own nL fr lc mc ms) {f : Fin 4} {i : Nat} {z : Int} (hi : (f : Nat) = i) (j : Nat) (hk : L[j]? = some (i, vi z)) (hd : decode cc pc = .ok (.iload_n f, 1)) (k : KW cl G C nL ws cells slots (pc + 1) L (vi z :: st)) : KW cl G C nL ws cells slots pc L st := by
  obtain ⟨p, l, e, R, s, m, args, below, meth, c, Q, A⟩ := C
  obtain ⟨hx, hb, hml, hown, hts, hK, hlocks, hret, hin, hNW, hA, hfr, hlc, hmc, hms⟩ := h
  intro H locs ls hP hD hS hl
  exact lv_iload_n hx hb hd hi (lv_at hl j hk) (k H locs ls hP hD hS hl)
theorem kw_iconst (h : KO cl G C cc own nL fr lc mc ms) {n : Int} (hd : decode cc pc = .ok (.iconst n, 1)) (k : KW cl G C nL ws cells slots (pc + 1) L (vi n :: st)) : KW cl G C nL ws cells slots pc L st := by
  obtain ⟨p, l, e, R, s, m, args, below, meth, c, Q, A⟩ := C
  obtain ⟨hx, hb, hml, hown, hts, hK, hlocks, hret, hin, hNW, hA, hfr, hlc, hmc, hms⟩ := h
  intro H locs ls hP hD hS hl
  exact lv_iconst hx hb hd rfl (k H locs ls hP hD hS hl)
theorem kw_bipush (h : KO cl G C cc own nL fr lc mc ms) {n : Int} (hv : (Int8.ofInt n).toInt32 = iI n) (hd : decode cc pc = .ok (.bipush n, 2)) (k : KW cl G C nL ws cells slots (pc + 2) L (vi n :: st)) : KW cl G C nL ws cells slots pc L st := by
  obtain ⟨p, l, e, R, s, m, args, below, meth, c, Q, A⟩ := C
  obtain ⟨hx, hb, hml, hown, hts, hK, hlocks, hret, hin, hNW, hA, hfr, hlc, hmc, hms⟩ := h
  intro H locs ls hP hD hS hl
  exact lv_bipush hx hb hd hv (k H locs ls hP hD hS hl)
theorem kw_sipush (h : KO cl G C cc own nL fr lc mc ms) {n : Int} (hv : (Int16.ofInt n).toInt32 = iI n) (hd : decode cc pc = .ok (.sipush n, 3)) (k : KW cl G C nL ws cells slots (pc + 3) L (vi n :: st)) : KW cl G C nL ws cells slots pc L st := by
  obtain ⟨p, l, e, R, s, m, args, below, meth, c, Q, A⟩ := C
  obtain ⟨hx, hb, hml, hown, hts, hK, hlocks, hret, hin, hNW, hA, hfr, hlc, hmc, hms⟩ := h
  intro H locs ls hP hD hS hl
  exact lv_sipush hx hb hd hv (k H locs ls hP hD hS hl)
theorem kw_dup (h : KO cl G C cc own nL fr lc mc ms) {v : Value} (hv : v.category = 1) (hd : decode cc pc = .ok (.dup, 1)) (k : KW cl G C nL ws cells slots (pc + 1) L (v :: v :: st)) : KW cl G C nL ws cells slots pc L (v :: st) := by
  obtain ⟨p, l, e, R, s, m, args, below, meth, c, Q, A⟩ := C
  obtain ⟨hx, hb, hml, hown, hts, hK, hlocks, hret, hin, hNW, hA, hfr, hlc, hmc, hms⟩ := h
  intro H locs ls hP hD hS hl
  exact lv_dup hx hb hd hv (k H locs ls hP hD hS hl)
theorem kw_istore (h : KO cl G C cc own nL fr lc mc ms) {f : Fin 4} {i : Nat} {z : Int} (hi : (f : Nat) = i) (hd : decode cc pc = .ok (.istore_n f, 1)) (hn : i < nL) (ks : List Nat) (hL : lv_pick ((i, vi z) :: L.filter (fun q => !(q.1 == i) && !(q.1 + 1 == i && q.2.category == 2))) ks = L') (k : KW cl G C nL ws cells slots (pc + 1) L' st) : KW cl G C nL ws cells slots pc L (vi z :: st) := by
  obtain ⟨p, l, e, R, s, m, args, below, meth, c, Q, A⟩ := C
  obtain ⟨hx, hb, hml, hown, hts, hK, hlocks, hret, hin, hNW, hA, hfr, hlc, hmc, hms⟩ := h
  intro H locs ls hP hD hS hl
  exact lv_istore_n hx hb hd hi hl hn rfl (fun ls hl => k H locs ls hP hD hS (lv_sub hl ks hL))
theorem kw_iinc (h : KO cl G C cc own nL fr lc mc ms) {i j : Nat} {n z : Int} (hd : decode cc pc = .ok (.iinc i n, 3)) (hk : L[j]? = some (i, vi z)) (hn : i < nL) (ks : List Nat) (hL : lv_pick ((i, vi (z + n)) :: L.filter (fun q => !(q.1 == i) && !(q.1 + 1 == i && q.2.category == 2))) ks = L') (k : KW cl G C nL ws cells slots (pc + 3) L' st) : KW cl G C nL ws cells slots pc L st := by
  obtain ⟨p, l, e, R, s, m, args, below, meth, c, Q, A⟩ := C
  obtain ⟨hx, hb, hml, hown, hts, hK, hlocks, hret, hin, hNW, hA, hfr, hlc, hmc, hms⟩ := h
  intro H locs ls hP hD hS hl
  exact lv_iinc hx hb hd hl hk (iI_add z n) hn rfl (fun ls hl => k H locs ls hP hD hS (lv_sub hl ks hL))
theorem kw_ge_t (h : KO cl G C cc own nL fr lc mc ms) {a b off : Int} {tgt : Nat} (hd : decode cc pc = .ok (.if_icmp .ge off, 3)) (ht : (pc : Int) + off = (tgt : Int)) (ha : fm_r a) (hb0 : fm_r b) (hc : b ≤ a) (kt : KW cl G C nL ws cells slots tgt L st) : KW cl G C nL ws cells slots pc L (vi b :: vi a :: st) := by
  obtain ⟨p, l, e, R, s, m, args, below, meth, c, Q, A⟩ := C
  obtain ⟨hx, hb, hml, hown, hts, hK, hlocks, hret, hin, hNW, hA, hfr, hlc, hmc, hms⟩ := h
  intro H locs ls hP hD hS hl
  exact lv_icmp_ge hx hb hd ht (fun _ => kt H locs ls hP hD hS hl) (fun q => absurd ((iI_le hb0 ha).mpr hc) q)
theorem kw_ge_f (h : KO cl G C cc own nL fr lc mc ms) {a b off : Int} {tgt : Nat} (hd : decode cc pc = .ok (.if_icmp .ge off, 3)) (ht : (pc : Int) + off = (tgt : Int)) (ha : fm_r a) (hb0 : fm_r b) (hc : a < b) (kf : KW cl G C nL ws cells slots (pc + 3) L st) : KW cl G C nL ws cells slots pc L (vi b :: vi a :: st) := by
  obtain ⟨p, l, e, R, s, m, args, below, meth, c, Q, A⟩ := C
  obtain ⟨hx, hb, hml, hown, hts, hK, hlocks, hret, hin, hNW, hA, hfr, hlc, hmc, hms⟩ := h
  intro H locs ls hP hD hS hl
  exact lv_icmp_ge hx hb hd ht (fun q => absurd ((iI_le hb0 ha).mp q) (by omega)) (fun _ => kf H locs ls hP hD hS hl)
theorem kw_goto (h : KO cl G C cc own nL fr lc mc ms) {off : Int} {tgt : Nat} (hd : decode cc pc = .ok (.goto off, 3)) (ht : (pc : Int) + off = (tgt : Int)) (k : KW cl G C nL ws cells slots tgt L st) : KW cl G C nL ws cells slots pc L st := by
  obtain ⟨p, l, e, R, s, m, args, below, meth, c, Q, A⟩ := C
  obtain ⟨hx, hb, hml, hown, hts, hK, hlocks, hret, hin, hNW, hA, hfr, hlc, hmc, hms⟩ := h
  intro H locs ls hP hD hS hl
  exact lv_goto hx hb hd ht (k H locs ls hP hD hS hl)
theorem kw_ws (e : ws = ws') (k : KW cl G C nL ws' cells slots pc L st) : KW cl G C nL ws cells slots pc L st := by
  rw [e]
  exact k
/-- Object() -/
theorem kw_obj (h : KO cl G C cc own nL fr lc mc ms) {idx a : Nat} (h1 : Cond.methodLink own idx Lib.objectInit ∈ TB) (h2 : Cond.instanceMethod Lib.objectInit ∈ TB) (h3 : Cond.code Lib.objectInit ⟨#[0xb1]⟩ 1 none ∈ TB) (hf : 1 ≤ fr) (hl0 : (st.map fun v => v.category).sum + 12 ≤ lc) (hd : decode cc pc = .ok (.invokespecial idx, 3)) (k : KW cl G C nL ws cells slots (pc + 3) L st) : KW cl G C nL ws cells slots pc L (.ref a :: st) := by
  obtain ⟨p, l, e, R, s, m, args, below, meth, c, Q, A⟩ := C
  obtain ⟨hx, hb, hml, hown, hts, hK, hlocks, hret, hin, hNW, hA, hfr, hlc, hmc, hms⟩ := h
  intro H locs ls hP hD hS hl
  refine W.objInit hx hb hown (hts _ h1) (hts _ h2) (hts _ h3) rfl (by rw [hml]; exact hl.1) rfl hd (by omega) (by show 2 * 0 + _ + 12 ≤ _; omega) ?_
  exact W.eq (g2 := F0 m (pc + 3) ls st) rfl (k H locs ls hP hD hS hl)
/-- newarray of ints and the like: kind k of the array classes -/
theorem kw_newa (h : KO cl G C cc own nL fr lc mc ms) {atype : ArrayType} {ty : FieldType} {k : Nat} {n : Int} {N : Nat} {a0 : vp_A} (hty : newarray.typeOf atype = ty) (hw : Cond.arrayClass (newarray.typeOf atype) ∈ TB) (hk : (fm_t G)[k]? = some (G.2.1 k, ty)) (ha : ∀ cA : ClassId, vp_cell cA a0 = arrV cA N (fun _ => defaultValue ty)) (hn : n = (N : Int)) (hN : N ≤ 20000) (hby : N * componentBytes ty ≤ 536870912) (hcells : cells + 1 ≤ mc) (hslots : slots + N ≤ ms) (hd : decode cc pc = .ok (.newarray atype, 2)) (kk : ∀ q : Nat, KW cl G C nL (ws ++ [(q, .inl (G.2.1 k, a0))]) (cells + 1) (slots + N) (pc + 2) L (.ref q :: st)) : KW cl G C nL ws cells slots pc L (vi n :: st) := by
  obtain ⟨p, l, e, R, s, m, args, below, meth, c, Q, A⟩ := C
  obtain ⟨hx, hb, hml, hown, hts, hK, hlocks, hret, hin, hNW, hA, hfr, hlc, hmc, hms⟩ := h
  intro H locs ls hP hD hS hl
  subst hn
  refine va_newa (atype := atype) (a0 := a0) hx hb (hts _ hw) hty hK hP hD hS hA ha (fun q => ?_) (by rw [iI_cl (by omega) (by omega)]; omega) hby (by omega) (by omega) hd (fun q cA H1 hK1 hP1 hD1 hS1 => ?_)
  · have h0 := (iI_lt (a := (N : Int)) (b := 0) (by omega) (by omega)).mp q
    omega
  · have e1 := ka_u hK1 hk
    subst e1
    exact kk q H1 locs ls hP1 hD1 hS1 hl
/-- a final field in the constructor -/
theorem kw_putF (h : KO cl G C cc own nL fr lc mc ms) {ci N k a index : Nat} {Cn : String} {T : u_T} {tyf : Nat → FieldType} {fs fs' : List Value} {v : Value} {ty : FieldType} (q0 : Nat) (he : ws[q0]? = some (a, .inr (ci, fs))) (hc : cl[ci]? = some (Cn, T, N)) (hcw : ∀ w ∈ u_ws Cn T N, w ∈ TB) (hty : ∀ k, k < N → parseFieldDescriptor (T k).2.2.1 = some (tyf k)) (hnm : ∀ a, a < N → ∀ b, b < N → a ≠ b → (T a).2.1 ≠ (T b).2.1) (hF : fm_fld own index T N k) (hfin : (T k).2.2.2 = true) (hdecl : (T k).1 = own) (hdf : parseFieldDescriptor (T k).2.2.1 = some ty) (hnr : narrow ty v = v) (hfit : fits ty v = true) (hlen : k < fs.length) (hfs : fs.set k v = fs') (hws : ws.set q0 (a, .inr (ci, fs')) = ws') (hd : decode cc pc = .ok (.putfield index, 3)) (kk : KW cl G C nL ws' cells slots (pc + 3) L st) : KW cl G C nL ws cells slots pc L (v :: .ref a :: st) := by
  obtain ⟨p, l, e, R, s, m, args, below, meth, c, Q, A⟩ := C
  obtain ⟨hx, hb, hml, hown, hts, hK, hlocks, hret, hin, hNW, hA, hfr, hlc, hmc, hms⟩ := h
  intro H locs ls hP hD hS hl
  refine va_putF hx hb hts hcw tyf hty hnm hown hK hP hD hS q0 he hc k hF.1 (hts _ hF.2) (fun _ q => q) hfin hin hdecl hdf hnr hfit hlen hd (fun H1 locs1 hP1 hD1 hS1 => ?_)
  rw [hfs, hws] at hP1 hD1
  exact kk H1 locs1 ls hP1 hD1 hS1 hl
theorem kw_put (h : KO cl G C cc own nL fr lc mc ms) {ci N k a index : Nat} {Cn : String} {T : u_T} {tyf : Nat → FieldType} {fs fs' : List Value} {v : Value} {ty : FieldType} (q0 : Nat) (he : ws[q0]? = some (a, .inr (ci, fs))) (hc : cl[ci]? = some (Cn, T, N)) (hcw : ∀ w ∈ u_ws Cn T N, w ∈ TB) (hty : ∀ k, k < N → parseFieldDescriptor (T k).2.2.1 = some (tyf k)) (hnm : ∀ a, a < N → ∀ b, b < N → a ≠ b → (T a).2.1 ≠ (T b).2.1) (hF : fm_fld own index T N k) (hfin : (T k).2.2.2 = false) (hdf : parseFieldDescriptor (T k).2.2.1 = some ty) (hnr : narrow ty v = v) (hfit : fits ty v = true) (hlen : k < fs.length) (hfs : fs.set k v = fs') (hws : ws.set q0 (a, .inr (ci, fs')) = ws') (hd : decode cc pc = .ok (.putfield index, 3)) (kk : KW cl G C nL ws' cells slots (pc + 3) L st) : KW cl G C nL ws cells slots pc L (v :: .ref a :: st) := by
  obtain ⟨p, l, e, R, s, m, args, below, meth, c, Q, A⟩ := C
  obtain ⟨hx, hb, hml, hown, hts, hK, hlocks, hret, hin, hNW, hA, hfr, hlc, hmc, hms⟩ := h
  intro H locs ls hP hD hS hl
  refine va_put hx hb hts hcw tyf hty hnm hown hK hP hD hS q0 he hc k hF.1 (hts _ hF.2) (fun _ q => q) hfin hdf hnr hfit hlen hd (fun H1 locs1 hP1 hD1 hS1 => ?_)
  rw [hfs, hws] at hP1 hD1
  exact kk H1 locs1 ls hP1 hD1 hS1 hl
theorem gd_c {y : MethodName} {b : ByteArray} {n : Nat} (hc : Cond.code y b n none ∈ TB) : GoodIn TB (Cond.code y b n none :: TB) := fun w hm => by
  have h1 : w ∈ TB := (List.mem_cons.mp hm).elim (fun e => by rw [e]; exact hc) (fun q => q)
  exact ⟨h1, good_of_word (tb_g w h1)⟩
theorem KP_blind {cl : List vw_C} {G : Gx} {h0 sz ci : Nat} {fs av : List Value} : FrameBlind (va_Pc av (KP cl G h0 sz ci fs)) := fun a U g mk q => by
  obtain ⟨q0, q1, qP, qK, qD, qN⟩ := q
  exact ⟨q0, q1, qP, va_K.moved (u := U) (U := U.calling g mk a) (Vm.Alike.refl U.vm) qK, qD, NWs.warm (State.WarmedH.refl U) qN⟩
/-- new C; dup; C's constructor without arguments -/
theorem kw_mk (h : KO cl G C cc own nL fr lc mc ms) {ci N ik ic n1 fr1 lc1 mc1 ms1 : Nat} {Cn : String} {T : u_T} {tyf : Nat → FieldType} {fs : List Value} {y : MethodName} {b : ByteArray} {w : Gx → Nat → (Nat → Nat) → va_W} (hcon : CnK cl y b n1 fr1 lc1 mc1 ms1 ci fs [] w) (hc : cl[ci]? = some (Cn, T, N)) (hcw : ∀ w ∈ u_ws Cn T N, w ∈ TB) (hty : ∀ k, k < N → parseFieldDescriptor (T k).2.2.1 = some (tyf k)) (hcl : Cond.classLink own ik Cn ∈ TB) (hinst : Cond.instantiable Cn N ∈ TB) (hini : Cond.initialized Cn ∈ TB) (hfs : ∀ j, j < N → defaultValue (tyf j) = vp_V fs j) (hy : y.cls = Cn) (hyn : y.name = "<init>") (hyp : y.cls ≠ "java/lang/invoke/MethodHandle" ∧ y.cls ≠ "java/lang/invoke/VarHandle" ∧ (parseMethodDescriptor y.desc).map (fun d => d.parameters.length) = some 0) (hcode : Cond.code y b n1 none ∈ TB) (hinm : Cond.instanceMethod y ∈ TB) (hlk : Cond.methodLink own ic y ∈ TB ∨ (own, ic, y) ∈ nwl) (hf : fr1 + 1 ≤ fr) (hlo : 19 + n1 + lc1 ≤ lc) (hce : cells + 1 + mc1 ≤ mc) (hsl : slots + N + ms1 ≤ ms) (hst : (st.map fun v => v.category).sum ≤ 7) (d0 : decode cc pc = .ok (.new ik, 3)) (d3 : decode cc (pc + 3) = .ok (.dup, 1)) (d4 : decode cc (pc + 4) = .ok (.invokespecial ic, 3)) (kk : ∀ (q : Nat) (u : Nat → Nat), KW cl G C nL (ws ++ w G q u) (cells + 1 + mc1) (slots + N + ms1) (pc + 7) L (.ref q :: st)) : KW cl G C nL ws cells slots pc L st := by
  obtain ⟨p, l, e, R, s, m, args, below, meth, c, Q, A⟩ := C
  obtain ⟨hx, hb, hml, hown, hts, hK, hlocks, hret, hin, hNW, hA, hfr, hlc, hmc, hms⟩ := h
  intro H locs ls hP hD hS hl
  refine va_new (ci := ci) (fs := fs) hx hb hts hcw tyf hty hown (hts _ hcl) (hts _ hinst) (hts _ hini) hK hP hD hS hA hc hfs (by omega) (by omega) d0 (fun q H1 hP1 hD1 hS1 => ?_)
  refine lv_dup hx hb d3 rfl ?_
  have hPc : va_P G.1 cl [(q, .inr (ci, fs))] H1 := hP1.sub [ws.length] (by simp)
  have hDc : va_D A [(q, .inr (ci, fs))] := hD1.sub [ws.length] (by simp [va_nd]) (by simp)
  have hFc := va_free (wc := [(q, .inr (ci, fs))]) hD1 hS1 hA [ws.length] (by simp)
  have fin : ∀ (u : Nat → Nat) (t : State) (H2 : Heap) (locs2 : List Loc), t.heap = H2 → (va_P G.1 cl (w G q u) t.heap ∧ va_D (va_A [(q, .inr (ci, fs))] H1.size) (w G q u)) → (∀ q9 : Nat, q9 < H1.size → ¬ va_A [(q, .inr (ci, fs))] H1.size q9 → H2[q9]? = H1[q9]?) → va_S A s.heap H2 locs2 → W p l e R s m args below meth c H2 locs2 (cells + 1 + mc1) (slots + N + ms1) Q (F0 m (pc + 7) ls (.ref q :: st)) := by
    intro u t H2 locs2 ht hB hk hS2
    obtain ⟨hP2, hD2⟩ := hB
    rw [ht] at hP2
    obtain ⟨hP3, hD3⟩ := kw_join hP1 hD1 hk hFc hP2 hD2
    exact kk q u H2 locs2 ls hP3 hD3 hS2 hl
  have pre : ∀ U : State, U.heap = H1 → s.WarmedH U.vm → va_Pc [.ref q] (KP cl G q H1.size ci fs) #[.ref q] U := fun U hU hW => ⟨rfl, by rw [hU], by rw [hU]; exact hPc, va_K.moved hW.alike hK, hDc.weaken (fun _ _ _ _ => trivial), NWs.warm hW hNW⟩
  subst hy
  rcases hlk with hlk | hlk
  · exact va_callv (va_runI (As := []) (rest := .ref q :: st) ⟨hx, hb, hml, hown, hts⟩ (hcon l G q H1.size) (cwI 0 hts (gd_c hcode) rfl rfl rfl (hts _ hini) (hts _ hlk) (hts _ hinm) hyn hyp ⟨by show fr1 + 1 ≤ R.frames; omega, by show 8 + (n1 + 11) + lc1 ≤ R.locals; omega⟩) ⟨KP_blind, pre⟩ rfl rfl hl.1 rfl (lv_room (by simp only [List.map_cons, List.sum_cons]; show 1 + _ ≤ 8; omega)) d4 ⟨by omega, by omega⟩) hS1 (fun q _ h => hFc q h) hFc (fun u t H2 locs2 ht _ _ hB _ hk hS2 => fin u t H2 locs2 ht hB hk hS2)
  · exact va_callv (va_runIN (As := []) (rest := .ref q :: st) ⟨hx, hb, hml, hown, hts⟩ (hcon l G q H1.size) ⟨va_cnB 0 hts (gd_c hcode) rfl rfl rfl (hNW.1 _ hlk) (hts _ hini) hyp ⟨by show fr1 + 1 ≤ R.frames; omega, by show 8 + (n1 + 11) + lc1 ≤ R.locals; omega⟩, hyn, hts _ hinm⟩ ⟨KP_blind, pre⟩ rfl rfl hl.1 rfl (lv_room (by simp only [List.map_cons, List.sum_cons]; show 1 + _ ≤ 8; omega)) d4 ⟨by omega, by omega⟩) hS1 (fun q _ h => hFc q h) hFc (fun u t H2 locs2 ht _ _ hB _ hk hS2 => fin u t H2 locs2 ht hB hk hS2)
/-- an array of references -/
theorem kw_newq (h : KO cl G C cc own nL fr lc mc ms) {Cn : String} {index k N : Nat} {n : Int} (hcl : Cond.classLink own index Cn ∈ TB) (hao : Cn = "BestWalks$State" ∨ Cn = "BestWalks$Order" ∨ Cn = "BestWalks$Cursor") (hk : (fm_t G)[k]? = some (G.2.1 k, .object Cn)) (hn : n = (N : Int)) (hN : N ≤ 1000) (hcells : cells + 1 ≤ mc) (hslots : slots + N ≤ ms) (hd : decode cc pc = .ok (.anewarray index, 3)) (kk : ∀ q : Nat, KW cl G C nL (ws ++ [(q, .inl (G.2.1 k, N, .inr (.inr (.inr (.inr (fun _ => none))))))]) (cells + 1) (slots + N) (pc + 3) L (.ref q :: st)) : KW cl G C nL ws cells slots pc L (vi n :: st) := by
  obtain ⟨p, l, e, R, s, m, args, below, meth, c, Q, A⟩ := C
  obtain ⟨hx, hb, hml, hown, hts, hK, hlocks, hret, hin, hNW, hA, hfr, hlc, hmc, hms⟩ := h
  intro H locs ls hP hD hS hl
  subst hn
  have hover : va_AO Cn s := by
    rcases hao with rfl | rfl | rfl
    · exact hNW.2.1
    · exact hNW.2.2.1
    · exact hNW.2.2.2.1
  refine va_newq (N' := N) hx hb hown (hts _ hcl) hover hK hP hD hS hA (fun q => ?_) (by rw [iI_cl (by omega) (by omega)]; omega) (by omega) (by omega) (by omega) hd (fun q cA H1 hK1 hP1 hD1 hS1 => ?_)
  · have h0 := (iI_lt (a := (N : Int)) (b := 0) (by omega) (by omega)).mp q
    omega
  · have e1 := ka_u hK1 hk
    subst e1
    exact kk q H1 locs ls hP1 hD1 hS1 hl
/-- getfield of a reference -/
theorem kw_get (h : KO cl G C cc own nL fr lc mc ms) {ci N k a index : Nat} {Cn : String} {T : u_T} {fs : List Value} {v : Value} (q0 : Nat) (he : ws[q0]? = some (a, .inr (ci, fs))) (hc : cl[ci]? = some (Cn, T, N)) (hcw : ∀ w ∈ u_ws Cn T N, w ∈ TB) (hF : fm_fld own index T N k) (hv : fs[k]? = some v) (hd : decode cc pc = .ok (.getfield index, 3)) (kk : KW cl G C nL ws cells slots (pc + 3) L (v :: st)) : KW cl G C nL ws cells slots pc L (.ref a :: st) := by
  obtain ⟨p, l, e, R, s, m, args, below, meth, c, Q, A⟩ := C
  obtain ⟨hx, hb, hml, hown, hts, hK, hlocks, hret, hin, hNW, hA, hfr, hlc, hmc, hms⟩ := h
  intro H locs ls hP hD hS hl
  exact va_get (v := v) hx hb hts hcw hown hK hP q0 he hc k hF.1 (hts _ hF.2) (fun _ q => q) hv hd (kk H locs ls hP hD hS hl)
/-- aastore -/
theorem kw_astq (h : KO cl G C cc own nL fr lc mc ms) {k ci N n a v : Nat} {i : Int} {Cn : String} {T : u_T} {vs : List Value} {f : Nat → Option Nat} (q0 qk : Nat) (ha : ws[q0]? = some (a, .inl (G.2.1 k, n, .inr (.inr (.inr (.inr f)))))) (hk : (fm_t G)[k]? = some (G.2.1 k, .object Cn)) (hv : ws[qk]? = some (v, .inr (ci, vs))) (hc : cl[ci]? = some (Cn, T, N)) (h0 : 0 ≤ i) (hi : i < (n : Int)) (hn : n ≤ 1000) (hws : ws.set q0 (a, .inl (G.2.1 k, n, .inr (.inr (.inr (.inr (va_up f i.toNat (some v))))))) = ws') (hd : decode cc pc = .ok (.aastore, 1)) (kk : KW cl G C nL ws' cells slots (pc + 1) L st) : KW cl G C nL ws cells slots pc L (.ref v :: vi i :: .ref a :: st) := by
  obtain ⟨p, l, e, R, s, m, args, below, meth, c, Q, A⟩ := C
  obtain ⟨hx, hb, hml, hown, hts, hK, hlocks, hret, hin, hNW, hA, hfr, hlc, hmc, hms⟩ := h
  intro H locs ls hP hD hS hl
  refine va_astq (r := (Cn, T, N)) hx hb hK hP hD hS q0 k qk ci ha hk hv hc (iI_in h0 hi (by omega)) hd (fun H1 locs1 hP1 hD1 hS1 => ?_)
  rw [iI_cl h0 (by omega), hws] at hP1 hD1
  exact kk H1 locs1 ls hP1 hD1 hS1 hl
/-- iastore -/
theorem kw_iast (h : KO cl G C cc own nL fr lc mc ms) {n a : Nat} {i z : Int} {f : Nat → Int32} (q0 : Nat) (ha : ws[q0]? = some (a, .inl (G.2.1 0, n, .inl f))) (h0 : 0 ≤ i) (hi : i < (n : Int)) (hn : n ≤ 20000) (hws : ws.set q0 (a, .inl (G.2.1 0, n, .inl (upd f i.toNat (iI z)))) = ws') (hd : decode cc pc = .ok (.iastore, 1)) (kk : KW cl G C nL ws' cells slots (pc + 1) L st) : KW cl G C nL ws cells slots pc L (vi z :: vi i :: .ref a :: st) := by
  obtain ⟨p, l, e, R, s, m, args, below, meth, c, Q, A⟩ := C
  obtain ⟨hx, hb, hml, hown, hts, hK, hlocks, hret, hin, hNW, hA, hfr, hlc, hmc, hms⟩ := h
  intro H locs ls hP hD hS hl
  refine va_iast hx hb hK hP hD hS q0 0 ha rfl (iI_in h0 hi (by omega)) hd (fun H1 locs1 hP1 hD1 hS1 => ?_)
  rw [iI_cl h0 (by omega), hws] at hP1 hD1
  exact kk H1 locs1 ls hP1 hD1 hS1 hl
/-- Math.max(0, n) of what is not below 0 -/
theorem kw_max0 (h : KO cl G C cc own nL fr lc mc ms) {index : Nat} {z : Int} (hz : fm_r z) (h0 : 0 ≤ z) (hk : Cond.methodLink own index Lib.Math.max.name ∈ TB) (hw : Cond.static Lib.Math.max.name ∈ TB ∧ Cond.initialized "java/lang/Math" ∈ TB ∧ Cond.code Lib.Math.max.name Lib.Math.max.code 2 (some .int) ∈ TB) (hf : 1 ≤ fr) (hlo : 21 ≤ lc) (hsum : (st.map fun v => v.category).sum ≤ 8) (hce : cells ≤ mc) (hsl : slots ≤ ms) (hd : decode cc pc = .ok (.invokestatic index, 3)) (kk : KW cl G C nL ws cells slots (pc + 3) L (vi z :: st)) : KW cl G C nL ws cells slots pc L (vi z :: vi 0 :: st) := by
  obtain ⟨p, l, e, R, s, m, args, below, meth, c, Q, A⟩ := C
  obtain ⟨hx, hb, hml, hown, hts, hK, hlocks, hret, hin, hNW, hA, hfr, hlc, hmc, hms⟩ := h
  intro H locs ls hP hD hS hl
  refine va_mmax hx hb (hml.trans hl.1.symm) hown (hts _ hk) (hts _ hw.1) (hts _ hw.2.1) (hts _ hw.2.2) (by omega) (by omega) (by omega) (by omega) hd ?_
  by_cases q : iI 0 < iI z
  · rw [if_pos q]
    exact kk H locs ls hP hD hS hl
  · rw [if_neg q]
    have q1 : ¬ (0 : Int) < z := fun r => q ((iI_lt (by omega) hz).mpr r)
    rw [show (0 : Int) = z by omega]
    exact kk H locs ls hP hD hS hl
/-- new C alone -/
theorem kw_new (h : KO cl G C cc own nL fr lc mc ms) {ci N ik : Nat} {Cn : String} {T : u_T} {tyf : Nat → FieldType} {fs : List Value} (hc : cl[ci]? = some (Cn, T, N)) (hcw : ∀ w ∈ u_ws Cn T N, w ∈ TB) (hty : ∀ k, k < N → parseFieldDescriptor (T k).2.2.1 = some (tyf k)) (hcl : Cond.classLink own ik Cn ∈ TB) (hinst : Cond.instantiable Cn N ∈ TB) (hini : Cond.initialized Cn ∈ TB) (hfs : ∀ j, j < N → defaultValue (tyf j) = vp_V fs j) (hce : cells + 1 ≤ mc) (hsl : slots + N ≤ ms) (d0 : decode cc pc = .ok (.new ik, 3)) (kk : ∀ q : Nat, KW cl G C nL (ws ++ [(q, .inr (ci, fs))]) (cells + 1) (slots + N) (pc + 3) L (.ref q :: st)) : KW cl G C nL ws cells slots pc L st := by
  obtain ⟨p, l, e, R, s, m, args, below, meth, c, Q, A⟩ := C
  obtain ⟨hx, hb, hml, hown, hts, hK, hlocks, hret, hin, hNW, hA, hfr, hlc, hmc, hms⟩ := h
  intro H locs ls hP hD hS hl
  exact va_new (ci := ci) (fs := fs) hx hb hts hcw tyf hty hown (hts _ hcl) (hts _ hinst) (hts _ hini) hK hP hD hS hA hc hfs (by omega) (by omega) d0 (fun q H1 hP1 hD1 hS1 => kk q H1 locs ls hP1 hD1 hS1 hl)
/-- a constructor with an int, of the object that was made last -/
theorem kw_ctor1 (h : KO cl G C cc own nL fr lc mc ms) {ci q ic n1 fr1 lc1 mc1 ms1 : Nat} {z : Int} {fs : List Value} {y : MethodName} {b : ByteArray} {w : Gx → Nat → (Nat → Nat) → va_W} (hcon : CnK cl y b n1 fr1 lc1 mc1 ms1 ci fs [vi z] w) (hini : Cond.initialized y.cls ∈ TB) (hyn : y.name = "<init>") (hyp : y.cls ≠ "java/lang/invoke/MethodHandle" ∧ y.cls ≠ "java/lang/invoke/VarHandle" ∧ (parseMethodDescriptor y.desc).map (fun d => d.parameters.length) = some 1) (hcode : Cond.code y b n1 none ∈ TB) (hinm : Cond.instanceMethod y ∈ TB) (hlk : Cond.methodLink own ic y ∈ TB) (hf : fr1 + 1 ≤ fr) (hlo : 19 + n1 + lc1 ≤ lc) (hce : cells + mc1 ≤ mc) (hsl : slots + ms1 ≤ ms) (hst : (st.map fun v => v.category).sum ≤ 7) (d4 : decode cc pc = .ok (.invokespecial ic, 3)) (kk : ∀ u : Nat → Nat, KW cl G C nL (ws ++ w G q u) (cells + mc1) (slots + ms1) (pc + 3) L (.ref q :: st)) : KW cl G C nL (ws ++ [(q, .inr (ci, fs))]) cells slots pc L (vi z :: .ref q :: .ref q :: st) := by
  obtain ⟨p, l, e, R, s, m, args, below, meth, c, Q, A⟩ := C
  obtain ⟨hx, hb, hml, hown, hts, hK, hlocks, hret, hin, hNW, hA, hfr, hlc, hmc, hms⟩ := h
  intro H1 locs ls hP1 hD1 hS1 hl
  have hPc : va_P G.1 cl [(q, .inr (ci, fs))] H1 := hP1.sub [ws.length] (by simp)
  have hDc : va_D A [(q, .inr (ci, fs))] := hD1.sub [ws.length] (by simp [va_nd]) (by simp)
  have hFc := va_free (wc := [(q, .inr (ci, fs))]) hD1 hS1 hA [ws.length] (by simp)
  refine va_callv (va_runI (As := [vi z]) (rest := .ref q :: st) ⟨hx, hb, hml, hown, hts⟩ (hcon l G q H1.size) (cwI 1 hts (gd_c hcode) rfl rfl rfl (hts _ hini) (hts _ hlk) (hts _ hinm) hyn hyp ⟨by show fr1 + 1 ≤ R.frames; omega, by show 8 + (n1 + 11) + lc1 ≤ R.locals; omega⟩) ⟨KP_blind, fun U hU hW => ⟨rfl, by rw [hU], by rw [hU]; exact hPc, va_K.moved hW.alike hK, hDc.weaken (fun _ _ _ _ => trivial), NWs.warm hW hNW⟩⟩ rfl rfl hl.1 rfl (lv_room (by simp only [List.map_cons, List.sum_cons]; show 1 + _ ≤ 8; omega)) d4 ⟨by omega, by omega⟩) hS1 (fun q _ h => hFc q h) hFc (fun u t H2 locs2 ht _ _ hB _ hk hS2 => ?_)
  obtain ⟨hP2, hD2⟩ := hB
  rw [ht] at hP2
  obtain ⟨hP3, hD3⟩ := kw_join hP1 hD1 hk hFc hP2 hD2
  exact kk u H2 locs2 ls hP3 hD3 hS2 hl
/-- the table of a static, read by the class's own constructor -/
def KZ (C : Kx) : Prop := match C with
  | (_, _, _, _, s, _, _, _, _, _, _, A) => zf_0 A s
def KT0 (C : Kx) (t : Nat) : Prop := match C with
  | (_, _, _, _, s, _, _, _, _, _, _, A) => va_T .int t 5 (fun j => vi (zt_0.getD j 0)) A s s.heap
theorem kw_gst (h : KO cl G C cc "BestWalks" nL fr lc mc ms) {index : Nat} (hz : KZ C) (hlk : Cond.fieldLink "BestWalks" index "BestWalks" "MOST_OF_KIND" "[I" ∈ TB) (hd : decode cc pc = .ok (.getstatic index, 3)) (kk : ∀ t : Nat, KT0 C t → KW cl G C nL ws cells slots (pc + 3) L (.ref t :: st)) : KW cl G C nL ws cells slots pc L st := by
  obtain ⟨p, l, e, R, s, m, args, below, meth, c, Q, A⟩ := C
  obtain ⟨hx, hb, hml, hown, hts, hK, hlocks, hret, hin, hNW, hA, hfr, hlc, hmc, hms⟩ := h
  intro H locs ls hP hD hS hl
  obtain ⟨t, h1, h2⟩ : zf_0 A s := hz
  exact va_gets hx hb h1 hS hown (hts _ hlk) (fun _ q => q) hd (kk t h2 H locs ls hP hD hS hl)
theorem kw_sld (h : KO cl G C cc own nL fr lc mc ms) {t : Nat} {j v : Int} (hT : KT0 C t) (h0 : 0 ≤ j) (hj : j < 5) (hv : zt_0.getD j.toNat 0 = v) (hd : decode cc pc = .ok (.iaload, 1)) (kk : KW cl G C nL ws cells slots (pc + 1) L (vi v :: st)) : KW cl G C nL ws cells slots pc L (vi j :: .ref t :: st) := by
  obtain ⟨p, l, e, R, s, m, args, below, meth, c, Q, A⟩ := C
  obtain ⟨hx, hb, hml, hown, hts, hK, hlocks, hret, hin, hNW, hA, hfr, hlc, hmc, hms⟩ := h
  intro H locs ls hP hD hS hl
  exact va_ti hx hb hT hS (iI_in (n := 5) h0 hj (by omega)) (by rw [iI_cl h0 (by omega), hv]) hd (kk H locs ls hP hD hS hl)
/-- new int[5][31] -/
theorem kw_mna (h : KO cl G C cc own nL fr lc mc ms) {index : Nat} (hcl : Cond.classLink own index "[[I" ∈ TB) (harr : Cond.arrayClass .int ∈ TB) (hce : cells + 6 ≤ mc) (hsl : slots + 160 ≤ ms) (hd : decode cc pc = .ok (.multianewarray index 2, 4)) (kk : ∀ (q : Nat) (r : Nat → Nat), KW cl G C nL (ws ++ [(q, .inl (G.2.1 8, 5, .inr (.inr (.inr (.inr (fun i => if i < 5 then some (r i) else none)))))), (r 0, .inl (G.2.1 0, 31, .inl (fun _ => 0))), (r 1, .inl (G.2.1 0, 31, .inl (fun _ => 0))), (r 2, .inl (G.2.1 0, 31, .inl (fun _ => 0))), (r 3, .inl (G.2.1 0, 31, .inl (fun _ => 0))), (r 4, .inl (G.2.1 0, 31, .inl (fun _ => 0)))]) (cells + 6) (slots + 160) (pc + 4) L (.ref q :: st)) : KW cl G C nL ws cells slots pc L (vi 31 :: vi 5 :: st) := by
  obtain ⟨p, l, e, R, s, m, args, below, meth, c, Q, A⟩ := C
  obtain ⟨hx, hb, hml, hown, hts, hK, hlocks, hret, hin, hNW, hA, hfr, hlc, hmc, hms⟩ := h
  intro H locs ls hP hD hS hl
  have e0 : ("[" ++ (FieldType.array FieldType.int).toString) = "[[I" := by decide
  have hcy : s.vm.findClass (FieldType.array FieldType.int).toString = some (G.2.1 0) := (hK.2 0 (G.2.1 0, .int) rfl).2
  have hP0 : va_P G.1 cl (ws ++ va_pl [] (fun _ => .inr (0, []))) H := by rw [show va_pl [] (fun _ => .inr (0, [])) = ([] : va_W) from rfl, List.append_nil]; exact hP
  have hD0 : va_D A (ws ++ va_pl [] (fun _ => .inr (0, []))) := by rw [show va_pl [] (fun _ => .inr (0, [])) = ([] : va_W) from rfl, List.append_nil]; exact hD
  refine va_mna (X := ws) (L := []) (ty := .int) (N' := 5) (K' := 31) (z := (31, .inl (fun _ => 0))) hx hb hown (by rw [e0]; exact hts _ hcl) hNW.2.2.2.2 (hts _ harr) hcy hK hP0 hD0 hS hA (by decide) (by decide) (by decide) (by decide) (by decide) (by decide) (by decide) (by decide) (by decide) (by omega) (by omega) (fun cA => by show ({ cls := cA, slots := Array.replicate 31 (.int 0), vm := .none } : Cell) = _; rw [arrV_new]; rfl) hd (fun q r cA H1 _ _ hK1 hP1 hD1 hS1 => ?_)
  have e1 := ka_u hK1 (k := 8) rfl
  subst e1
  rw [← vr_rows (fun a _ => List.not_mem_nil), List.append_assoc] at hP1 hD1
  exact kk q r H1 locs ls hP1 hD1 hS1 hl
/-- a constructor's body gives its contract -/
def KR (cl : List vw_C) (G : Gx) (h0 sz ci mc ms : Nat) (fs : List Value) (w : Gx → Nat → (Nat → Nat) → va_W) (C : Kx) : Prop := match C with
  | (_, _, _, _, s, _, args, below, _, _, Q, A) => A = va_A [(h0, .inr (ci, fs))] sz ∧ Q = MQ below (va_Qv (S := Nat → Nat) (fun _ => True) (fun u t => va_P G.1 cl (w G h0 u) t.heap ∧ va_D A (w G h0 u)) A) args s mc ms A
/-- the end -/
theorem kw_ret (h : KO cl G C cc own nL fr lc mc ms) {h0 ci sz : Nat} {fs : List Value} {w : Gx → Nat → (Nat → Nat) → va_W} (hq : KR cl G h0 sz ci mc ms fs w C) (u : Nat → Nat) (hw : ws = w G h0 u) (hc1 : cells ≤ mc) (hs1 : slots ≤ ms) (hd : decode cc pc = .ok (.return_, 1)) : KW cl G C nL ws cells slots pc L [] := by
  obtain ⟨p, l, e, R, s, m, args, below, meth, c, Q, A⟩ := C
  obtain ⟨hx, hb, hml, hown, hts, hK, hlocks, hret, hin, hNW, hA, hfr, hlc, hmc, hms⟩ := h
  intro H locs ls hP hD hS hl
  obtain ⟨hA2, hQ⟩ := hq
  subst hQ
  subst hw
  refine W.widen (k := mc) (n := ms) hc1 hs1 ?_
  exact W.vret hx hb hret (fun t ht hW => ⟨⟨u, rfl, trivial, by rw [ht]; exact hP, hD⟩, hS.F ht⟩) hS.2.2 hd
end KWR
theorem ck_I {cl : List vw_C} {y : MethodName} {b : ByteArray} {n fr lc mc ms ci : Nat} {fs as : List Value} {w : Gx → Nat → (Nat → Nat) → va_W} (hy : plainName y.cls = true) (hyn : y.name = "<init>") (hlen : ∀ h0 : Nat, (lg_sl (.ref h0 :: as)).length ≤ n) (body : ∀ (G : Gx) (h0 sz : Nat) (C : Kx), KO cl G C b y.cls n fr lc mc ms → KR cl G h0 sz ci mc ms fs w C → KW cl G C n [(h0, .inr (ci, fs))] 0 0 0 (lv_args 0 (.ref h0 :: as)) []) : CnK cl y b n fr lc mc ms ci fs as w := by
  intro l G h0 sz
  refine Met.ofW (cc := b) (maxL := n) (ret := none) hy rfl ?_
  intro p e s m args below meth c s₁ B hml hv
  obtain ⟨rfl, hsz, hP, hK, hD0, hNW⟩ := hv
  have hts := atoms_spec (ws := Cond.code y b n none :: TB) B.pre
  subst hsz
  have hD := hD0.self (sz := s.heap.size)
  have h := body G h0 s.heap.size (p, l, e, { frames := fr, cells := mc, slots := ms, locals := lc }, s, m, (.ref h0 :: as).toArray, below, meth, c, MQ below (va_Qv (S := Nat → Nat) (fun _ => True) (fun u t => va_P G.1 cl (w G h0 u) t.heap ∧ va_D (va_A [(h0, .inr (ci, fs))] s.heap.size) (w G h0 u)) (va_A [(h0, .inr (ci, fs))] s.heap.size)) (.ref h0 :: as).toArray s mc ms (va_A [(h0, .inr (ci, fs))] s.heap.size), va_A [(h0, .inr (ci, fs))] s.heap.size) ⟨B.exec, B.bytes, hml, findClass_of_methodNamed B.named, fun w hw => hts w (List.mem_cons_of_mem _ hw), hK, B.notSynchronized, B.returns, (name_of_methodNamed B.named B.method).1.trans hyn, hNW, fun q hq => Or.inr hq, Nat.le_refl _, Nat.le_refl _, Nat.le_refl _, Nat.le_refl _⟩ ⟨rfl, rfl⟩
  rw [lg_entry_eq]
  exact h s.heap [] _ hP hD va_S.rf (lv_entry (.ref h0 :: as) (hlen h0))
/-- the class's own constructor: the same, with the static table -/
def CnB (y : MethodName) (b : ByteArray) (n fr lc mc ms ci : Nat) (fs : List Value) (w : Gx → Nat → (Nat → Nat) → va_W) : Prop := ∀ (l : Launch) (G : Gx) (h0 sz : Nat), Met l y (Cond.code y b n none :: TB) { frames := fr, cells := mc, slots := ms, locals := lc } (va_Pc [.ref h0] (fun U => KP YC_cl G h0 sz ci fs U ∧ zf_0 (va_A [(h0, .inr (ci, fs))] sz) U)) (va_Qv (S := Nat → Nat) (fun _ => True) (fun u t => va_P G.1 YC_cl (w G h0 u) t.heap ∧ va_D (va_A [(h0, .inr (ci, fs))] sz) (w G h0 u)) (va_A [(h0, .inr (ci, fs))] sz)) mc ms (va_A [(h0, .inr (ci, fs))] sz)
theorem ck_B {y : MethodName} {b : ByteArray} {n fr lc mc ms ci : Nat} {fs : List Value} {w : Gx → Nat → (Nat → Nat) → va_W} (hy : plainName y.cls = true) (hyn : y.name = "<init>") (hlen : ∀ h0 : Nat, (lg_sl [.ref h0]).length ≤ n) (body : ∀ (G : Gx) (h0 sz : Nat) (C : Kx), KO YC_cl G C b y.cls n fr lc mc ms → KR YC_cl G h0 sz ci mc ms fs w C → KZ C → KW YC_cl G C n [(h0, .inr (ci, fs))] 0 0 0 (lv_args 0 [.ref h0]) []) : CnB y b n fr lc mc ms ci fs w := by
  intro l G h0 sz
  refine Met.ofW (cc := b) (maxL := n) (ret := none) hy rfl ?_
  intro p e s m args below meth c s₁ B hml hv
  obtain ⟨rfl, ⟨hsz, hP, hK, hD0, hNW⟩, hZ⟩ := hv
  have hts := atoms_spec (ws := Cond.code y b n none :: TB) B.pre
  subst hsz
  have hD := hD0.self (sz := s.heap.size)
  have h := body G h0 s.heap.size (p, l, e, { frames := fr, cells := mc, slots := ms, locals := lc }, s, m, [.ref h0].toArray, below, meth, c, MQ below (va_Qv (S := Nat → Nat) (fun _ => True) (fun u t => va_P G.1 YC_cl (w G h0 u) t.heap ∧ va_D (va_A [(h0, .inr (ci, fs))] s.heap.size) (w G h0 u)) (va_A [(h0, .inr (ci, fs))] s.heap.size)) [.ref h0].toArray s mc ms (va_A [(h0, .inr (ci, fs))] s.heap.size), va_A [(h0, .inr (ci, fs))] s.heap.size) ⟨B.exec, B.bytes, hml, findClass_of_methodNamed B.named, fun w hw => hts w (List.mem_cons_of_mem _ hw), hK, B.notSynchronized, B.returns, (name_of_methodNamed B.named B.method).1.trans hyn, hNW, fun q hq => Or.inr hq, Nat.le_refl _, Nat.le_refl _, Nat.le_refl _, Nat.le_refl _⟩ ⟨rfl, rfl⟩ hZ
  rw [lg_entry_eq]
  exact h s.heap [] _ hP hD va_S.rf (lv_entry [.ref h0] (hlen h0))
