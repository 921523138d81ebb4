/-! constructors: worlds as lists, rows over them -/
def nwl : List (String × Nat × MethodName) := [("BestWalks", 9, yX9_init), ("BestWalks", 18, yX8_init), ("BestWalks", 28, yX0_init), ("BestWalks$History", 17, yX8_init), ("BestWalks", 56, yX4_init), ("BestWalks", 69, yX1_init), ("BestWalks", 76, yX10_init), ("BestWalks", 101, yX3_init)]
/-- the words that aren't told anew at a call -/
def NWs (s : State) : Prop := (∀ q ∈ nwl, va_Nw (.methodLinkNest q.1 q.2.1 q.2.2 "BestWalks") s) ∧ va_AO "BestWalks$State" s ∧ va_AO "BestWalks$Order" s ∧ va_AO "BestWalks$Cursor" s
theorem NWs.warm {s U : State} (hW : s.WarmedH U.vm) (h : NWs s) : NWs U := ⟨fun q hq => va_Nw.warmM hW (h.1 q hq), va_AO.moved hW.alike h.2.1, va_AO.moved hW.alike h.2.2.1, va_AO.moved hW.alike h.2.2.2⟩
abbrev Kx : Type := Program × Launch × Env × Room × State × MethodId × Array Value × List Frame × Method × Code × (State → Prop) × (Nat → Prop)
def KW (cl : List vw_C) (G : Gx) (C : Kx) (nL : Nat) (ws : va_W) (cells slots pc : Nat) (L : List (Nat × Value)) (st : List Value) : Prop := match C with
  | (p, l, e, R, s, m, args, below, meth, c, Q, A) => ∀ (H : Heap) (locs : List Loc) (ls : Array Slot), va_P G.1 cl ws H → va_D A ws → va_S A s.heap H locs → lv_has ls nL L → W p l e R s m args below meth c H locs cells slots Q (F0 m pc ls st)
def KO (cl : List vw_C) (G : Gx) (C : Kx) (cc : ByteArray) (own : String) (nL fr lc mc ms : Nat) : Prop := match C with
  | (p, _, _, R, s, m, args, _, meth, c, _, A) => p.tables.exec = Jvm.exec ∧ c.code = cc ∧ c.maxLocals = nL ∧ s.vm.findClass own = some m.cls ∧ (∀ w ∈ TB, w.before args s = true) ∧ va_K G.1 cl (fm_t G) s ∧ meth.locks = false ∧ meth.sig.returnType = none ∧ meth.name = "<init>" ∧ NWs s ∧ (∀ q : Nat, s.heap.size ≤ q → A q) ∧ fr ≤ R.frames ∧ lc ≤ R.locals ∧ mc ≤ R.cells ∧ ms ≤ R.slots
def KP (cl : List vw_C) (G : Gx) (h0 sz ci : Nat) (fs : List Value) (U : State) : Prop := U.heap.size = sz ∧ va_P G.1 cl [(h0, .inr (ci, fs))] U.heap ∧ va_K G.1 cl (fm_t G) U ∧ va_D (fun _ => True) [(h0, .inr (ci, fs))] ∧ NWs U
/-- a constructor's contract: the world that it leaves, told by the addresses of what it made -/
def CnK (cl : List vw_C) (y : MethodName) (b : ByteArray) (n fr lc mc ms ci : Nat) (fs : List Value) (as : List Value) (w : Gx → Nat → (Nat → Nat) → va_W) : Prop := ∀ (l : Launch) (G : Gx) (h0 sz : Nat), Met l y (Cond.code y b n none :: TB) { frames := fr, cells := mc, slots := ms, locals := lc } (va_Pc (.ref h0 :: as) (KP cl G h0 sz ci fs)) (va_Qv (S := Nat → Nat) (fun _ => True) (fun u t => va_P G.1 cl (w G h0 u) t.heap ∧ va_D (va_A [(h0, .inr (ci, fs))] sz) (w G h0 u)) (va_A [(h0, .inr (ci, fs))] sz)) mc ms (va_A [(h0, .inr (ci, fs))] sz)
theorem ra_u {U : State} {c1 c2 : ClassId} {t : FieldType} (h1 : va_RA U c1 t) (h2 : va_RA U c2 t) : c1 = c2 := by
  cases t with
  | object C =>
    obtain ⟨_, _, _, _, _, k1⟩ := h1
    obtain ⟨_, _, _, _, _, k2⟩ := h2
    exact Option.some.inj (k1.symm.trans k2)
  | _ => exact Option.some.inj (Eq.trans (Eq.symm h1) h2)
theorem ka_u {D : va_G} {cl : List vw_C} {tys : List (ClassId × FieldType)} {s : State} {c1 c2 : ClassId} {t : FieldType} {k : Nat} (hK : va_K D cl (tys ++ [(c1, t)]) s) (hk : tys[k]? = some (c2, t)) : c1 = c2 := by
  have e1 : (tys ++ [(c1, t)])[tys.length]? = some (c1, t) := by simp
  have e2 : (tys ++ [(c1, t)])[k]? = some (c2, t) := by
    rw [List.getElem?_append_left (List.getElem?_eq_some_iff.mp hk).1]
    exact hk
  exact ra_u (hK.2 _ _ e1).2 (hK.2 _ _ e2).2
theorem nd_r : ∀ n k : Nat, va_nd (List.range' k n) = true
  | 0, _ => rfl
  | n + 1, k => by
    rw [List.range'_succ]
    simp only [va_nd, Bool.and_eq_true, decide_eq_true_eq]
    refine ⟨fun h => ?_, nd_r n (k + 1)⟩
    obtain ⟨i, _, e⟩ := List.mem_range'.mp h
    omega
theorem rg_map (ws : va_W) (x : Nat × va_E) : (List.range' 0 ws.length).map (fun i => (ws ++ [x])[i]?) = ws.map some := by
  refine List.ext_getElem (by simp) (fun i h1 h2 => ?_)
  simp only [List.length_map, List.length_range'] at h1
  simp [List.getElem?_append_left h1]
theorem kw_join {A : Nat → Prop} {D : va_G} {cl : List vw_C} {ws w1 : va_W} {x : Nat × va_E} {H1 H2 : Heap} (hP : va_P D cl (ws ++ [x]) H1) (hD : va_D A (ws ++ [x])) (hk : ∀ q : Nat, q < H1.size → ¬ va_A [x] H1.size q → H2[q]? = H1[q]?) (hF : ∀ q, va_A [x] H1.size q → A q) (hP2 : va_P D cl w1 H2) (hD2 : va_D (va_A [x] H1.size) w1) : va_P D cl (ws ++ w1) H2 ∧ va_D A (ws ++ w1) :=
  va_join hP hD [ws.length] (List.range' 0 ws.length) (by simp) (rg_map ws x) (nd_r _ _) (fun i hi q => by
    obtain ⟨j, hj, e⟩ := List.mem_range'.mp hi
    have := List.mem_singleton.mp q
    omega) hk hF hP2 hD2
section KWR
variable {cl : List vw_C} {G : Gx} {C : Kx} {cc : ByteArray} {own : String} {nL fr lc mc ms : Nat} {ws ws' : va_W} {cells slots pc : Nat} {L L' : List (Nat × Value)} {st : List Value}
theorem kw_aload (h : KO cl G C cc own nL fr lc mc ms) {f : Fin 4} {i a : Nat} (hi : (f : Nat) = i) (j : Nat) (hk : L[j]? = some (i, .ref a)) (hd : decode cc pc = .ok (.aload_n f, 1)) (k : KW cl G C nL ws cells slots (pc + 1) L (.ref a :: st)) : KW cl G C nL ws cells slots pc L st := by
  obtain ⟨p, l, e, R, s, m, args, below, meth, c, Q, A⟩ := C
  obtain ⟨hx, hb, hml, hown, hts, hK, hlocks, hret, hin, hNW, hA, hfr, hlc, hmc, hms⟩ := h
  intro H locs ls hP hD hS hl
  exact lv_aload_n hx hb hd hi (lv_at hl j hk) (k H locs ls hP hD hS hl)
theorem kw_iload (h : KO cl G C cc own nL fr lc mc ms) {f : Fin 4} {i : Nat} {z : Int} (hi : (f : Nat) = i) (j : Nat) (hk : L[j]? = some (i, vi z)) (hd : decode cc pc = .ok (.iload_n f, 1)) (k : KW cl G C nL ws cells slots (pc + 1) L (vi z :: st)) : KW cl G C nL ws cells slots pc L st := by
  obtain ⟨p, l, e, R, s, m, args, below, meth, c, Q, A⟩ := C
  obtain ⟨hx, hb, hml, hown, hts, hK, hlocks, hret, hin, hNW, hA, hfr, hlc, hmc, hms⟩ := h
  intro H locs ls hP hD hS hl
  exact lv_iload_n hx hb hd hi (lv_at hl j hk) (k H locs ls hP hD hS hl)
theorem kw_iconst (h : KO cl G C cc own nL fr lc mc ms) {n : Int} (hd : decode cc pc = .ok (.iconst n, 1)) (k : KW cl G C nL ws cells slots (pc + 1) L (vi n :: st)) : KW cl G C nL ws cells slots pc L st := by
  obtain ⟨p, l, e, R, s, m, args, below, meth, c, Q, A⟩ := C
  obtain ⟨hx, hb, hml, hown, hts, hK, hlocks, hret, hin, hNW, hA, hfr, hlc, hmc, hms⟩ := h
  intro H locs ls hP hD hS hl
  exact lv_iconst hx hb hd rfl (k H locs ls hP hD hS hl)
theorem kw_bipush (h : KO cl G C cc own nL fr lc mc ms) {n : Int} (hv : (Int8.ofInt n).toInt32 = iI n) (hd : decode cc pc = .ok (.bipush n, 2)) (k : KW cl G C nL ws cells slots (pc + 2) L (vi n :: st)) : KW cl G C nL ws cells slots pc L st := by
  obtain ⟨p, l, e, R, s, m, args, below, meth, c, Q, A⟩ := C
  obtain ⟨hx, hb, hml, hown, hts, hK, hlocks, hret, hin, hNW, hA, hfr, hlc, hmc, hms⟩ := h
  intro H locs ls hP hD hS hl
  exact lv_bipush hx hb hd hv (k H locs ls hP hD hS hl)
theorem kw_sipush (h : KO cl G C cc own nL fr lc mc ms) {n : Int} (hv : (Int16.ofInt n).toInt32 = iI n) (hd : decode cc pc = .ok (.sipush n, 3)) (k : KW cl G C nL ws cells slots (pc + 3) L (vi n :: st)) : KW cl G C nL ws cells slots pc L st := by
  obtain ⟨p, l, e, R, s, m, args, below, meth, c, Q, A⟩ := C
  obtain ⟨hx, hb, hml, hown, hts, hK, hlocks, hret, hin, hNW, hA, hfr, hlc, hmc, hms⟩ := h
  intro H locs ls hP hD hS hl
  exact lv_sipush hx hb hd hv (k H locs ls hP hD hS hl)
theorem kw_dup (h : KO cl G C cc own nL fr lc mc ms) {v : Value} (hv : v.category = 1) (hd : decode cc pc = .ok (.dup, 1)) (k : KW cl G C nL ws cells slots (pc + 1) L (v :: v :: st)) : KW cl G C nL ws cells slots pc L (v :: st) := by
  obtain ⟨p, l, e, R, s, m, args, below, meth, c, Q, A⟩ := C
  obtain ⟨hx, hb, hml, hown, hts, hK, hlocks, hret, hin, hNW, hA, hfr, hlc, hmc, hms⟩ := h
  intro H locs ls hP hD hS hl
  exact lv_dup hx hb hd hv (k H locs ls hP hD hS hl)
theorem kw_istore (h : KO cl G C cc own nL fr lc mc ms) {f : Fin 4} {i : Nat} {z : Int} (hi : (f : Nat) = i) (hd : decode cc pc = .ok (.istore_n f, 1)) (hn : i < nL) (ks : List Nat) (hL : lv_pick ((i, vi z) :: L.filter (fun q => !(q.1 == i) && !(q.1 + 1 == i && q.2.category == 2))) ks = L') (k : KW cl G C nL ws cells slots (pc + 1) L' st) : KW cl G C nL ws cells slots pc L (vi z :: st) := by
  obtain ⟨p, l, e, R, s, m, args, below, meth, c, Q, A⟩ := C
  obtain ⟨hx, hb, hml, hown, hts, hK, hlocks, hret, hin, hNW, hA, hfr, hlc, hmc, hms⟩ := h
  intro H locs ls hP hD hS hl
  exact lv_istore_n hx hb hd hi hl hn rfl (fun ls hl => k H locs ls hP hD hS (lv_sub hl ks hL))
theorem kw_iinc (h : KO cl G C cc own nL fr lc mc ms) {i j : Nat} {n z : Int} (hd : decode cc pc = .ok (.iinc i n, 3)) (hk : L[j]? = some (i, vi z)) (hn : i < nL) (ks : List Nat) (hL : lv_pick ((i, vi (z + n)) :: L.filter (fun q => !(q.1 == i) && !(q.1 + 1 == i && q.2.category == 2))) ks = L') (k : KW cl G C nL ws cells slots (pc + 3) L' st) : KW cl G C nL ws cells slots pc L st := by
  obtain ⟨p, l, e, R, s, m, args, below, meth, c, Q, A⟩ := C
  obtain ⟨hx, hb, hml, hown, hts, hK, hlocks, hret, hin, hNW, hA, hfr, hlc, hmc, hms⟩ := h
  intro H locs ls hP hD hS hl
  exact lv_iinc hx hb hd hl hk (iI_add z n) hn rfl (fun ls hl => k H locs ls hP hD hS (lv_sub hl ks hL))
theorem kw_ge_t (h : KO cl G C cc own nL fr lc mc ms) {a b off : Int} {tgt : Nat} (hd : decode cc pc = .ok (.if_icmp .ge off, 3)) (ht : (pc : Int) + off = (tgt : Int)) (ha : fm_r a) (hb0 : fm_r b) (hc : b ≤ a) (kt : KW cl G C nL ws cells slots tgt L st) : KW cl G C nL ws cells slots pc L (vi b :: vi a :: st) := by
  obtain ⟨p, l, e, R, s, m, args, below, meth, c, Q, A⟩ := C
  obtain ⟨hx, hb, hml, hown, hts, hK, hlocks, hret, hin, hNW, hA, hfr, hlc, hmc, hms⟩ := h
  intro H locs ls hP hD hS hl
  exact lv_icmp_ge hx hb hd ht (fun _ => kt H locs ls hP hD hS hl) (fun q => absurd ((iI_le hb0 ha).mpr hc) q)
theorem kw_ge_f (h : KO cl G C cc own nL fr lc mc ms) {a b off : Int} {tgt : Nat} (hd : decode cc pc = .ok (.if_icmp .ge off, 3)) (ht : (pc : Int) + off = (tgt : Int)) (ha : fm_r a) (hb0 : fm_r b) (hc : a < b) (kf : KW cl G C nL ws cells slots (pc + 3) L st) : KW cl G C nL ws cells slots pc L (vi b :: vi a :: st) := by
  obtain ⟨p, l, e, R, s, m, args, below, meth, c, Q, A⟩ := C
  obtain ⟨hx, hb, hml, hown, hts, hK, hlocks, hret, hin, hNW, hA, hfr, hlc, hmc, hms⟩ := h
  intro H locs ls hP hD hS hl
  exact lv_icmp_ge hx hb hd ht (fun q => absurd ((iI_le hb0 ha).mp q) (by omega)) (fun _ => kf H locs ls hP hD hS hl)
theorem kw_goto (h : KO cl G C cc own nL fr lc mc ms) {off : Int} {tgt : Nat} (hd : decode cc pc = .ok (.goto off, 3)) (ht : (pc : Int) + off = (tgt : Int)) (k : KW cl G C nL ws cells slots tgt L st) : KW cl G C nL ws cells slots pc L st := by
  obtain ⟨p, l, e, R, s, m, args, below, meth, c, Q, A⟩ := C
  obtain ⟨hx, hb, hml, hown, hts, hK, hlocks, hret, hin, hNW, hA, hfr, hlc, hmc, hms⟩ := h
  intro H locs ls hP hD hS hl
  exact lv_goto hx hb hd ht (k H locs ls hP hD hS hl)
theorem kw_ws (e : ws = ws') (k : KW cl G C nL ws' cells slots pc L st) : KW cl G C nL ws cells slots pc L st := by
  rw [e]
  exact k
/-- Object() -/
theorem kw_obj (h : KO cl G C cc own nL fr lc mc ms) {idx a : Nat} (h1 : Cond.methodLink own idx Lib.objectInit ∈ TB) (h2 : Cond.instanceMethod Lib.objectInit ∈ TB) (h3 : Cond.code Lib.objectInit ⟨#[0xb1]⟩ 1 none ∈ TB) (hf : 1 ≤ fr) (hl0 : (st.map fun v => v.category).sum + 12 ≤ lc) (hd : decode cc pc = .ok (.invokespecial idx, 3)) (k : KW cl G C nL ws cells slots (pc + 3) L st) : KW cl G C nL ws cells slots pc L (.ref a :: st) := by
  obtain ⟨p, l, e, R, s, m, args, below, meth, c, Q, A⟩ := C
  obtain ⟨hx, hb, hml, hown, hts, hK, hlocks, hret, hin, hNW, hA, hfr, hlc, hmc, hms⟩ := h
  intro H locs ls hP hD hS hl
  refine W.objInit hx hb hown (hts _ h1) (hts _ h2) (hts _ h3) rfl (by rw [hml]; exact hl.1) rfl hd (by omega) (by show 2 * 0 + _ + 12 ≤ _; omega) ?_
  exact W.eq (g2 := F0 m (pc + 3) ls st) rfl (k H locs ls hP hD hS hl)
/-- newarray of ints and the like: kind k of the array classes -/
theorem kw_newa (h : KO cl G C cc own nL fr lc mc ms) {atype : ArrayType} {ty : FieldType} {k : Nat} {n : Int} {N : Nat} {a0 : vp_A} (hty : newarray.typeOf atype = ty) (hw : Cond.arrayClass (newarray.typeOf atype) ∈ TB) (hk : (fm_t G)[k]? = some (G.2.1 k, ty)) (ha : ∀ cA : ClassId, vp_cell cA a0 = arrV cA N (fun _ => defaultValue ty)) (hn : n = (N : Int)) (hN : N ≤ 20000) (hby : N * componentBytes ty ≤ 536870912) (hcells : cells + 1 ≤ mc) (hslots : slots + N ≤ ms) (hd : decode cc pc = .ok (.newarray atype, 2)) (kk : ∀ q : Nat, KW cl G C nL (ws ++ [(q, .inl (G.2.1 k, a0))]) (cells + 1) (slots + N) (pc + 2) L (.ref q :: st)) : KW cl G C nL ws cells slots pc L (vi n :: st) := by
  obtain ⟨p, l, e, R, s, m, args, below, meth, c, Q, A⟩ := C
  obtain ⟨hx, hb, hml, hown, hts, hK, hlocks, hret, hin, hNW, hA, hfr, hlc, hmc, hms⟩ := h
  intro H locs ls hP hD hS hl
  subst hn
  refine va_newa (atype := atype) (a0 := a0) hx hb (hts _ hw) hty hK hP hD hS hA ha (fun q => ?_) (by rw [iI_cl (by omega) (by omega)]; omega) hby (by omega) (by omega) hd (fun q cA H1 hK1 hP1 hD1 hS1 => ?_)
  · have h0 := (iI_lt (a := (N : Int)) (b := 0) (by omega) (by omega)).mp q
    omega
  · have e1 := ka_u hK1 hk
    subst e1
    exact kk q H1 locs ls hP1 hD1 hS1 hl
/-- a final field in the constructor -/
theorem kw_putF (h : KO cl G C cc own nL fr lc mc ms) {ci N k a index : Nat} {Cn : String} {T : u_T} {tyf : Nat → FieldType} {fs fs' : List Value} {v : Value} {ty : FieldType} (q0 : Nat) (he : ws[q0]? = some (a, .inr (ci, fs))) (hc : cl[ci]? = some (Cn, T, N)) (hcw : ∀ w ∈ u_ws Cn T N, w ∈ TB) (hty : ∀ k, k < N → parseFieldDescriptor (T k).2.2.1 = some (tyf k)) (hnm : ∀ a, a < N → ∀ b, b < N → a ≠ b → (T a).2.1 ≠ (T b).2.1) (hF : fm_fld own index T N k) (hfin : (T k).2.2.2 = true) (hdecl : (T k).1 = own) (hdf : parseFieldDescriptor (T k).2.2.1 = some ty) (hnr : narrow ty v = v) (hfit : fits ty v = true) (hlen : k < fs.length) (hfs : fs.set k v = fs') (hws : ws.set q0 (a, .inr (ci, fs')) = ws') (hd : decode cc pc = .ok (.putfield index, 3)) (kk : KW cl G C nL ws' cells slots (pc + 3) L st) : KW cl G C nL ws cells slots pc L (v :: .ref a :: st) := by
  obtain ⟨p, l, e, R, s, m, args, below, meth, c, Q, A⟩ := C
  obtain ⟨hx, hb, hml, hown, hts, hK, hlocks, hret, hin, hNW, hA, hfr, hlc, hmc, hms⟩ := h
  intro H locs ls hP hD hS hl
  refine va_putF hx hb hts hcw tyf hty hnm hown hK hP hD hS q0 he hc k hF.1 (hts _ hF.2) (fun _ q => q) hfin hin hdecl hdf hnr hfit hlen hd (fun H1 locs1 hP1 hD1 hS1 => ?_)
  rw [hfs, hws] at hP1 hD1
  exact kk H1 locs1 ls hP1 hD1 hS1 hl
theorem kw_put (h : KO cl G C cc own nL fr lc mc ms) {ci N k a index : Nat} {Cn : String} {T : u_T} {tyf : Nat → FieldType} {fs fs' : List Value} {v : Value} {ty : FieldType} (q0 : Nat) (he : ws[q0]? = some (a, .inr (ci, fs))) (hc : cl[ci]? = some (Cn, T, N)) (hcw : ∀ w ∈ u_ws Cn T N, w ∈ TB) (hty : ∀ k, k < N → parseFieldDescriptor (T k).2.2.1 = some (tyf k)) (hnm : ∀ a, a < N → ∀ b, b < N → a ≠ b → (T a).2.1 ≠ (T b).2.1) (hF : fm_fld own index T N k) (hfin : (T k).2.2.2 = false) (hdf : parseFieldDescriptor (T k).2.2.1 = some ty) (hnr : narrow ty v = v) (hfit : fits ty v = true) (hlen : k < fs.length) (hfs : fs.set k v = fs') (hws : ws.set q0 (a, .inr (ci, fs')) = ws') (hd : decode cc pc = .ok (.putfield index, 3)) (kk : KW cl G C nL ws' cells slots (pc + 3) L st) : KW cl G C nL ws cells slots pc L (v :: .ref a :: st) := by
  obtain ⟨p, l, e, R, s, m, args, below, meth, c, Q, A⟩ := C
  obtain ⟨hx, hb, hml, hown, hts, hK, hlocks, hret, hin, hNW, hA, hfr, hlc, hmc, hms⟩ := h
  intro H locs ls hP hD hS hl
  refine va_put hx hb hts hcw tyf hty hnm hown hK hP hD hS q0 he hc k hF.1 (hts _ hF.2) (fun _ q => q) hfin hdf hnr hfit hlen hd (fun H1 locs1 hP1 hD1 hS1 => ?_)
  rw [hfs, hws] at hP1 hD1
  exact kk H1 locs1 ls hP1 hD1 hS1 hl
/-- the end -/
theorem kw_ret (h : KO cl G C cc own nL fr lc mc ms) {as : List Value} {h0 ci sz : Nat} {fs : List Value} {w : Gx → Nat → (Nat → Nat) → va_W} (hq : match C with | (_, _, _, _, s, _, args, below, _, _, Q, A) => A = va_A [(h0, .inr (ci, fs))] sz ∧ Q = MQ below (va_Qv (S := Nat → Nat) (fun _ => True) (fun u t => va_P G.1 cl (w G h0 u) t.heap ∧ va_D A (w G h0 u)) A) args s mc ms A) (u : Nat → Nat) (hw : ws = w G h0 u) (hc1 : cells ≤ mc) (hs1 : slots ≤ ms) (hd : decode cc pc = .ok (.return_, 1)) : KW cl G C nL ws cells slots pc L [] := by
  obtain ⟨p, l, e, R, s, m, args, below, meth, c, Q, A⟩ := C
  obtain ⟨hx, hb, hml, hown, hts, hK, hlocks, hret, hin, hNW, hA, hfr, hlc, hmc, hms⟩ := h
  intro H locs ls hP hD hS hl
  obtain ⟨hA2, hQ⟩ := hq
  subst hQ
  subst hw
  refine W.widen (k := mc) (n := ms) hc1 hs1 ?_
  exact W.vret hx hb hret (fun t ht hW => ⟨⟨u, rfl, trivial, by rw [ht]; exact hP, hD⟩, hS.F ht⟩) hS.2.2 hd
end KWR
