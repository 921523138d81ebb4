/-! returns, contracts, calls: a contract speaks of the whole flat memory ahead of the call and behind it -/
def fm_in (Y : Ly) (G : Gx) (x : Mm) (U : State) : Prop := fm_R Y x ∧ va_P G.1 (fm_c Y) (fm_w Y G x) U.heap ∧ va_K G.1 (fm_c Y) (fm_t G) U ∧ (∀ y, va_D (fm_A Y G) (fm_w Y G y)) ∧ fm_x Y G (fm_A Y G) U ∧ fm_Xc Y
def fm_QI (Y : Ly) (G : Gx) (post : Int → Mm → Prop) : Array Value → State → Outcome → State → Prop := va_Qi (S := Int × Mm) (fun r u => r = iI u.1 ∧ fm_r u.1 ∧ post u.1 u.2 ∧ fm_R Y u.2) (fun u t => va_P G.1 (fm_c Y) (fm_w Y G u.2) t.heap) (fm_A Y G)
def fm_QL (Y : Ly) (G : Gx) (post : Int → Mm → Prop) : Array Value → State → Outcome → State → Prop := va_Ql (S := Int × Mm) (fun r u => r = lI u.1 ∧ fm_l u.1 ∧ post u.1 u.2 ∧ fm_R Y u.2) (fun u t => va_P G.1 (fm_c Y) (fm_w Y G u.2) t.heap) (fm_A Y G)
def fm_QV (Y : Ly) (G : Gx) (post : Mm → Prop) : Array Value → State → Outcome → State → Prop := va_Qv (S := Mm) (fun u => post u ∧ fm_R Y u) (fun u t => va_P G.1 (fm_c Y) (fm_w Y G u) t.heap) (fm_A Y G)
def fm_QR (Y : Ly) (G : Gx) (post : Int → Mm → Prop) : Array Value → State → Outcome → State → Prop := va_Qr (S := Int × Mm) (fun u => post u.1 u.2 ∧ fm_R Y u.2) (fun u a t => a = G.2.2 u.1 ∧ va_P G.1 (fm_c Y) (fm_w Y G u.2) t.heap) (fm_A Y G)
abbrev fm_rm (fr lc : Nat) : Room := { frames := fr, cells := 0, slots := 0, locals := lc }
def CnI (Y : Ly) (y : MethodName) (b : ByteArray) (n : Nat) (rt : FieldType) (fr lc : Nat) (as : Gx → List Value) (x : Mm) (post : Int → Mm → Prop) : Prop := ∀ (l : Launch) (G : Gx), Met l y (Cond.code y b n (some rt) :: TB) (fm_rm fr lc) (va_Pc (as G) (fm_in Y G x)) (fm_QI Y G post) 0 0 (fm_A Y G)
def CnL (Y : Ly) (y : MethodName) (b : ByteArray) (n : Nat) (fr lc : Nat) (as : Gx → List Value) (x : Mm) (post : Int → Mm → Prop) : Prop := ∀ (l : Launch) (G : Gx), Met l y (Cond.code y b n (some .long) :: TB) (fm_rm fr lc) (va_Pc (as G) (fm_in Y G x)) (fm_QL Y G post) 0 0 (fm_A Y G)
def CnV (Y : Ly) (y : MethodName) (b : ByteArray) (n : Nat) (fr lc : Nat) (as : Gx → List Value) (x : Mm) (post : Mm → Prop) : Prop := ∀ (l : Launch) (G : Gx), Met l y (Cond.code y b n none :: TB) (fm_rm fr lc) (va_Pc (as G) (fm_in Y G x)) (fm_QV Y G post) 0 0 (fm_A Y G)
def CnR (Y : Ly) (y : MethodName) (b : ByteArray) (n : Nat) (rt : FieldType) (fr lc : Nat) (as : Gx → List Value) (x : Mm) (post : Int → Mm → Prop) : Prop := ∀ (l : Launch) (G : Gx), Met l y (Cond.code y b n (some rt) :: TB) (fm_rm fr lc) (va_Pc (as G) (fm_in Y G x)) (fm_QR Y G post) 0 0 (fm_A Y G)
def RTm (Y : Ly) (G : Gx) (C : Cx) (QQ : Array Value → State → Outcome → State → Prop) : Prop := match C with
  | (_, _, _, _, s, _, args, below, _, _, cells, slots, Q) => Q = MQ below QQ args s cells slots (fm_A Y G)
set_option maxHeartbeats 100000 in
theorem fm_in_m {Y : Ly} {G : Gx} {x : Mm} {u U : State} (h : fm_in Y G x u) (hW : u.WarmedH U.vm) (hh : U.heap = u.heap) : fm_in Y G x U :=
  ⟨h.1, by rw [hh]; exact h.2.1, va_K.moved hW.alike h.2.2.1, h.2.2.2.1, h.2.2.2.2.2 G _ u U hW h.2.2.2.2.1 (fun q _ _ => by rw [hh]), h.2.2.2.2.2⟩
set_option maxHeartbeats 100000 in
theorem fm_blind {Y : Ly} {G : Gx} {x : Mm} {av : List Value} : FrameBlind (va_Pc av (fm_in Y G x)) := fun a U g mk q => ⟨q.1, fm_in_m (u := U) (U := U.calling g mk a) q.2 (State.WarmedH.refl U) rfl⟩
/-- the words of a method that is called by its object, and of a static one -/
def fm_wv (y : MethodName) (b : ByteArray) (n : Nat) (ret : Option FieldType) (np : Nat) : Prop := Cond.instanceMethod y ∈ TB ∧ Cond.selects y.cls y y ∈ TB ∧ Cond.initialized y.cls ∈ TB ∧ Cond.code y b n ret ∈ TB ∧ y.cls = y.cls ∧ y.cls ≠ "java/lang/invoke/MethodHandle" ∧ y.cls ≠ "java/lang/invoke/VarHandle" ∧ (parseMethodDescriptor y.desc).map (fun d => d.parameters.length) = some np
def fm_ws (y : MethodName) (b : ByteArray) (n : Nat) (ret : Option FieldType) (np : Nat) : Prop := Cond.static y ∈ TB ∧ Cond.initialized y.cls ∈ TB ∧ Cond.code y b n ret ∈ TB ∧ y.cls ≠ "java/lang/invoke/MethodHandle" ∧ y.cls ≠ "java/lang/invoke/VarHandle" ∧ (parseMethodDescriptor y.desc).map (fun d => d.parameters.length) = some np
set_option maxHeartbeats 100000 in
theorem gd_v {own : String} {index : Nat} {y : MethodName} {b : ByteArray} {n np : Nat} {ret : Option FieldType} (hw : fm_wv y b n ret np) (hk : Cond.methodLink own index y ∈ TB) : GoodIn TB (wsV own index y.cls y (Cond.code y b n ret :: TB)) := by
  intro w hm
  have h1 : w ∈ TB := by
    unfold wsV at hm
    simp only [List.mem_append, List.mem_cons, List.not_mem_nil, or_false] at hm
    rcases hm with (rfl | rfl | rfl | rfl) | rfl | hm
    · exact hk
    · exact hw.1
    · exact hw.2.1
    · exact hw.2.2.1
    · exact hw.2.2.2.1
    · exact hm
  exact ⟨h1, good_of_word (tb_g w h1)⟩
set_option maxHeartbeats 100000 in
theorem gd_s {own : String} {index : Nat} {y : MethodName} {b : ByteArray} {n np : Nat} {ret : Option FieldType} (hw : fm_ws y b n ret np) (hk : Cond.methodLink own index y ∈ TB) : GoodIn TB (va_wsS own index y (Cond.code y b n ret :: TB)) := by
  intro w hm
  have h1 : w ∈ TB := by
    unfold va_wsS at hm
    simp only [List.mem_append, List.mem_cons, List.not_mem_nil, or_false] at hm
    rcases hm with (rfl | rfl | rfl) | rfl | hm
    · exact hk
    · exact hw.1
    · exact hw.2.1
    · exact hw.2.2.1
    · exact hm
  exact ⟨h1, good_of_word (tb_g w h1)⟩
section FMC
variable {Y : Ly} {G : Gx} {C : Cx} {cc : ByteArray} {own : String} {nL : Nat} {fr lc : Nat} {x : Mm} {pc : Nat} {L L' : List (Nat × Value)} {st : List Value}
set_option maxHeartbeats 100000 in
theorem cn_I {y : MethodName} {b : ByteArray} {n : Nat} {rt : FieldType} {fr lc : Nat} {as : Gx → List Value} {x : Mm} {post : Int → Mm → Prop} (hy : plainName y.cls = true) (hlen : ∀ G, (lg_sl (as G)).length ≤ n) (body : ∀ (G : Gx) (C : Cx), OK Y G C b y.cls n (some rt) fr lc → RTm Y G C (fm_QI Y G post) → FW Y G C n x 0 (lv_args 0 (as G)) []) : CnI Y y b n rt fr lc as x post := by
  intro l G
  refine Met.ofW (cc := b) (maxL := n) (ret := some rt) hy rfl ?_
  intro p e s m args below meth c s₁ B hml hv
  obtain ⟨rfl, hR, hP, hK, hD, hX, hXc⟩ := hv
  have hts := atoms_spec (ws := Cond.code y b n (some rt) :: TB) B.pre
  have h := body G (p, l, e, fm_rm fr lc, s, m, (as G).toArray, below, meth, c, 0, 0, MQ below (fm_QI Y G post) (as G).toArray s 0 0 (fm_A Y G)) ⟨B.exec, B.bytes, hml, findClass_of_methodNamed B.named, fun w hw => hts w (List.mem_cons_of_mem _ hw), hK, hD, B.notSynchronized, Nat.zero_le _, Nat.zero_le _, hX, hXc, B.returns, Nat.le_refl _, Nat.le_refl _⟩ rfl
  rw [lg_entry_eq]
  exact h hR s.heap [] _ hP va_S.rf (lv_entry (as G) (hlen G))
set_option maxHeartbeats 100000 in
theorem cn_L {y : MethodName} {b : ByteArray} {n : Nat} {fr lc : Nat} {as : Gx → List Value} {x : Mm} {post : Int → Mm → Prop} (hy : plainName y.cls = true) (hlen : ∀ G, (lg_sl (as G)).length ≤ n) (body : ∀ (G : Gx) (C : Cx), OK Y G C b y.cls n (some .long) fr lc → RTm Y G C (fm_QL Y G post) → FW Y G C n x 0 (lv_args 0 (as G)) []) : CnL Y y b n fr lc as x post := by
  intro l G
  refine Met.ofW (cc := b) (maxL := n) (ret := some .long) hy rfl ?_
  intro p e s m args below meth c s₁ B hml hv
  obtain ⟨rfl, hR, hP, hK, hD, hX, hXc⟩ := hv
  have hts := atoms_spec (ws := Cond.code y b n (some .long) :: TB) B.pre
  have h := body G (p, l, e, fm_rm fr lc, s, m, (as G).toArray, below, meth, c, 0, 0, MQ below (fm_QL Y G post) (as G).toArray s 0 0 (fm_A Y G)) ⟨B.exec, B.bytes, hml, findClass_of_methodNamed B.named, fun w hw => hts w (List.mem_cons_of_mem _ hw), hK, hD, B.notSynchronized, Nat.zero_le _, Nat.zero_le _, hX, hXc, B.returns, Nat.le_refl _, Nat.le_refl _⟩ rfl
  rw [lg_entry_eq]
  exact h hR s.heap [] _ hP va_S.rf (lv_entry (as G) (hlen G))
set_option maxHeartbeats 100000 in
theorem cn_V {y : MethodName} {b : ByteArray} {n : Nat} {fr lc : Nat} {as : Gx → List Value} {x : Mm} {post : Mm → Prop} (hy : plainName y.cls = true) (hlen : ∀ G, (lg_sl (as G)).length ≤ n) (body : ∀ (G : Gx) (C : Cx), OK Y G C b y.cls n (none) fr lc → RTm Y G C (fm_QV Y G post) → FW Y G C n x 0 (lv_args 0 (as G)) []) : CnV Y y b n fr lc as x post := by
  intro l G
  refine Met.ofW (cc := b) (maxL := n) (ret := none) hy rfl ?_
  intro p e s m args below meth c s₁ B hml hv
  obtain ⟨rfl, hR, hP, hK, hD, hX, hXc⟩ := hv
  have hts := atoms_spec (ws := Cond.code y b n (none) :: TB) B.pre
  have h := body G (p, l, e, fm_rm fr lc, s, m, (as G).toArray, below, meth, c, 0, 0, MQ below (fm_QV Y G post) (as G).toArray s 0 0 (fm_A Y G)) ⟨B.exec, B.bytes, hml, findClass_of_methodNamed B.named, fun w hw => hts w (List.mem_cons_of_mem _ hw), hK, hD, B.notSynchronized, Nat.zero_le _, Nat.zero_le _, hX, hXc, B.returns, Nat.le_refl _, Nat.le_refl _⟩ rfl
  rw [lg_entry_eq]
  exact h hR s.heap [] _ hP va_S.rf (lv_entry (as G) (hlen G))
set_option maxHeartbeats 100000 in
theorem cn_R {y : MethodName} {b : ByteArray} {n : Nat} {rt : FieldType} {fr lc : Nat} {as : Gx → List Value} {x : Mm} {post : Int → Mm → Prop} (hy : plainName y.cls = true) (hlen : ∀ G, (lg_sl (as G)).length ≤ n) (body : ∀ (G : Gx) (C : Cx), OK Y G C b y.cls n (some rt) fr lc → RTm Y G C (fm_QR Y G post) → FW Y G C n x 0 (lv_args 0 (as G)) []) : CnR Y y b n rt fr lc as x post := by
  intro l G
  refine Met.ofW (cc := b) (maxL := n) (ret := some rt) hy rfl ?_
  intro p e s m args below meth c s₁ B hml hv
  obtain ⟨rfl, hR, hP, hK, hD, hX, hXc⟩ := hv
  have hts := atoms_spec (ws := Cond.code y b n (some rt) :: TB) B.pre
  have h := body G (p, l, e, fm_rm fr lc, s, m, (as G).toArray, below, meth, c, 0, 0, MQ below (fm_QR Y G post) (as G).toArray s 0 0 (fm_A Y G)) ⟨B.exec, B.bytes, hml, findClass_of_methodNamed B.named, fun w hw => hts w (List.mem_cons_of_mem _ hw), hK, hD, B.notSynchronized, Nat.zero_le _, Nat.zero_le _, hX, hXc, B.returns, Nat.le_refl _, Nat.le_refl _⟩ rfl
  rw [lg_entry_eq]
  exact h hR s.heap [] _ hP va_S.rf (lv_entry (as G) (hlen G))
set_option maxHeartbeats 100000 in
theorem fr_iret (h : OK Y G C cc own nL (some .int) fr lc) {z : Int} {post : Int → Mm → Prop} (hq : RTm Y G C (fm_QI Y G post)) (hz : fm_r z) (hp : post z x) (hd : decode cc pc = .ok (.ireturn, 1)) : FW Y G C nL x pc L [vi z] := by
  obtain ⟨p, l, e, R, s, m, args, below, meth, c, cells, slots, Q⟩ := C
  obtain ⟨hx, hb, hml, hown, hts, hK, hD, hlocks, hcl, hsl, hX, hXc, hret, hfr, hlc⟩ := h
  intro hR H locs ls hP hS hl
  have hq : Q = _ := hq
  subst hq
  exact W.iret (v := iI z) hx hb hret (fun t ht hW => ⟨⟨iI z, (z, x), rfl, ⟨rfl, hz, hp, hR⟩, by show va_P _ _ _ t.heap; rw [ht]; exact hP⟩, hS.F ht⟩) hS.2.2 hd
set_option maxHeartbeats 100000 in
theorem fr_zret {rt : FieldType} (h : OK Y G C cc own nL (some rt) fr lc) {z : Int} {post : Int → Mm → Prop} (hn : narrow rt (vi z) = vi z) (hq : RTm Y G C (fm_QI Y G post)) (hz : fm_r z) (hp : post z x) (hd : decode cc pc = .ok (.ireturn, 1)) : FW Y G C nL x pc L [vi z] := by
  obtain ⟨p, l, e, R, s, m, args, below, meth, c, cells, slots, Q⟩ := C
  obtain ⟨hx, hb, hml, hown, hts, hK, hD, hlocks, hcl, hsl, hX, hXc, hret, hfr, hlc⟩ := h
  intro hR H locs ls hP hS hl
  have hq : Q = _ := hq
  subst hq
  exact W.zret (v := iI z) hx hb hret hn (fun t ht hW => ⟨⟨iI z, (z, x), rfl, ⟨rfl, hz, hp, hR⟩, by show va_P _ _ _ t.heap; rw [ht]; exact hP⟩, hS.F ht⟩) hS.2.2 hd
set_option maxHeartbeats 100000 in
theorem fr_lret (h : OK Y G C cc own nL (some .long) fr lc) {z : Int} {post : Int → Mm → Prop} (hq : RTm Y G C (fm_QL Y G post)) (hz : fm_l z) (hp : post z x) (hd : decode cc pc = .ok (.lreturn, 1)) : FW Y G C nL x pc L [vj z] := by
  obtain ⟨p, l, e, R, s, m, args, below, meth, c, cells, slots, Q⟩ := C
  obtain ⟨hx, hb, hml, hown, hts, hK, hD, hlocks, hcl, hsl, hX, hXc, hret, hfr, hlc⟩ := h
  intro hR H locs ls hP hS hl
  have hq : Q = _ := hq
  subst hq
  exact W.lret (v := lI z) hx hb hret (fun t ht hW => ⟨⟨lI z, (z, x), rfl, ⟨rfl, hz, hp, hR⟩, by show va_P _ _ _ t.heap; rw [ht]; exact hP⟩, hS.F ht⟩) hS.2.2 hd
set_option maxHeartbeats 100000 in
theorem fr_vret (h : OK Y G C cc own nL none fr lc) {post : Mm → Prop} (hq : RTm Y G C (fm_QV Y G post)) (hp : post x) (hd : decode cc pc = .ok (.return_, 1)) : FW Y G C nL x pc L [] := by
  obtain ⟨p, l, e, R, s, m, args, below, meth, c, cells, slots, Q⟩ := C
  obtain ⟨hx, hb, hml, hown, hts, hK, hD, hlocks, hcl, hsl, hX, hXc, hret, hfr, hlc⟩ := h
  intro hR H locs ls hP hS hl
  have hq : Q = _ := hq
  subst hq
  exact W.vret hx hb hret (fun t ht hW => ⟨⟨x, rfl, ⟨hp, hR⟩, by show va_P _ _ _ t.heap; rw [ht]; exact hP⟩, hS.F ht⟩) hS.2.2 hd
set_option maxHeartbeats 100000 in
theorem fr_aret {rt : FieldType} (h : OK Y G C cc own nL (some rt) fr lc) {z : Int} {post : Int → Mm → Prop} (hrt : (∃ n, rt = .object n) ∨ ∃ t, rt = .array t) (hq : RTm Y G C (fm_QR Y G post)) (hp : post z x) (hd : decode cc pc = .ok (.areturn, 1)) : FW Y G C nL x pc L [vr G z] := by
  obtain ⟨p, l, e, R, s, m, args, below, meth, c, cells, slots, Q⟩ := C
  obtain ⟨hx, hb, hml, hown, hts, hK, hD, hlocks, hcl, hsl, hX, hXc, hret, hfr, hlc⟩ := h
  intro hR H locs ls hP hS hl
  have hq : Q = _ := hq
  subst hq
  exact W.aret (v := vr G z) hx hb hret hrt (Or.inr ⟨_, rfl⟩) (fun t ht hW => ⟨⟨(z, x), G.2.2 z, rfl, ⟨hp, hR⟩, rfl, by show va_P _ _ _ t.heap; rw [ht]; exact hP⟩, hS.F ht⟩) hS.2.2 hd
set_option maxHeartbeats 100000 in
theorem fr_cvI {ret0 : Option FieldType} (h : OK Y G C cc own nL ret0 fr lc) {y : MethodName} {b : ByteArray} {n np fr1 lc1 index : Nat} {rt : FieldType} {as : Gx → List Value} {k : Int} {ci : Nat} {ts : List Nat} {T : u_T} {N : Nat} {ty : Nat → FieldType} {post : Int → Mm → Prop} (hC : fm_cls Y ci y.cls T N ty) (hk : fm_at Y k ci ts) (hw : fm_wv y b n (some rt) np) (hlk : Cond.methodLink own index y ∈ TB) (hc : CnI Y y b n rt fr1 lc1 (fun G => vr G k :: as G) x post) (hnp : (as G).length = np) (hf : fr1 + 1 ≤ fr) (hlo : 19 + n + lc1 ≤ lc) {stk : List Value} (hst : stk = (as G).reverse ++ vr G k :: st) (hsum : (st.map fun v => v.category).sum ≤ 8) (hd : decode cc pc = .ok (.invokevirtual index, 3)) (kk : ∀ (z : Int) (x' : Mm), fm_r z → post z x' → FW Y G C nL x' (pc + 3) L (vi z :: st)) : FW Y G C nL x pc L stk := by
  obtain ⟨p, l, e, R, s, m, args, below, meth, c, cells, slots, Q⟩ := C
  obtain ⟨hx, hb, hml, hown, hts, hK, hD, hlocks, hcl, hsl, hX, hXc, hret, hfr, hlc⟩ := h
  intro hR H locs ls hP hS hl
  subst hst
  refine va_calli (va_runV (As := as G) (rest := st) ⟨hx, hb, hml, hown, hts⟩ (hc l G) (cwV np hts (gd_v hw hlk) rfl rfl rfl hw.2.2.2.2 ⟨by show fr1 + 1 ≤ R.frames; omega, by show 8 + (n + 11) + lc1 ≤ R.locals; omega⟩) ⟨fm_blind, va_recv hK hP (ci := ci) (q0 := k.toNat) hC.1 (fm_w_obj hk), fun U hU hW => ⟨rfl, hR, by rw [hU]; exact hP, va_K.moved hW.alike hK, hD, hXc G _ s U hW hX (fun q h1 h2 => by rw [hU]; exact hS.2.1 q h1 h2), hXc⟩⟩ rfl hnp hl.1 rfl (lv_room hsum) hd ⟨by simpa using hcl, by simpa using hsl⟩) hS (fun q _ h => h) (fun q h => h) (fun r u t H1 locs1 ht hvm hpost hB hz hk hS1 => ?_)
  obtain ⟨z, x'⟩ := u
  obtain ⟨rfl, hz1, hp1, hR1⟩ := hpost
  rw [ht] at hB
  exact kk z x' hz1 hp1 hR1 H1 locs1 ls hB hS1 hl
set_option maxHeartbeats 100000 in
theorem fr_csI {ret0 : Option FieldType} (h : OK Y G C cc own nL ret0 fr lc) {y : MethodName} {b : ByteArray} {n np fr1 lc1 index : Nat} {rt : FieldType} {as : Gx → List Value} {post : Int → Mm → Prop} (hw : fm_ws y b n (some rt) np) (hlk : Cond.methodLink own index y ∈ TB) (hc : CnI Y y b n rt fr1 lc1 as x post) (hnp : (as G).length = np) (hf : fr1 + 1 ≤ fr) (hlo : 19 + n + lc1 ≤ lc) {stk : List Value} (hst : stk = (as G).reverse ++ st) (hsum : (st.map fun v => v.category).sum ≤ 8) (hd : decode cc pc = .ok (.invokestatic index, 3)) (kk : ∀ (z : Int) (x' : Mm), fm_r z → post z x' → FW Y G C nL x' (pc + 3) L (vi z :: st)) : FW Y G C nL x pc L stk := by
  obtain ⟨p, l, e, R, s, m, args, below, meth, c, cells, slots, Q⟩ := C
  obtain ⟨hx, hb, hml, hown, hts, hK, hD, hlocks, hcl, hsl, hX, hXc, hret, hfr, hlc⟩ := h
  intro hR H locs ls hP hS hl
  subst hst
  refine va_calli (va_runS (As := as G) (rest := st) ⟨hx, hb, hml, hown, hts⟩ (hc l G) (va_cwS np hts (gd_s hw hlk) rfl rfl rfl hw.2.2.2 ⟨by show fr1 + 1 ≤ R.frames; omega, by show 8 + (n + 11) + lc1 ≤ R.locals; omega⟩) ⟨fm_blind, fun U hU hW => ⟨rfl, hR, by rw [hU]; exact hP, va_K.moved hW.alike hK, hD, hXc G _ s U hW hX (fun q h1 h2 => by rw [hU]; exact hS.2.1 q h1 h2), hXc⟩⟩ rfl hnp hl.1 rfl (lv_room hsum) hd ⟨by simpa using hcl, by simpa using hsl⟩) hS (fun q _ h => h) (fun q h => h) (fun r u t H1 locs1 ht hvm hpost hB hz hk hS1 => ?_)
  obtain ⟨z, x'⟩ := u
  obtain ⟨rfl, hz1, hp1, hR1⟩ := hpost
  rw [ht] at hB
  exact kk z x' hz1 hp1 hR1 H1 locs1 ls hB hS1 hl
set_option maxHeartbeats 100000 in
theorem fr_cvL {ret0 : Option FieldType} (h : OK Y G C cc own nL ret0 fr lc) {y : MethodName} {b : ByteArray} {n np fr1 lc1 index : Nat} {as : Gx → List Value} {k : Int} {ci : Nat} {ts : List Nat} {T : u_T} {N : Nat} {ty : Nat → FieldType} {post : Int → Mm → Prop} (hC : fm_cls Y ci y.cls T N ty) (hk : fm_at Y k ci ts) (hw : fm_wv y b n (some .long) np) (hlk : Cond.methodLink own index y ∈ TB) (hc : CnL Y y b n fr1 lc1 (fun G => vr G k :: as G) x post) (hnp : (as G).length = np) (hf : fr1 + 1 ≤ fr) (hlo : 19 + n + lc1 ≤ lc) {stk : List Value} (hst : stk = (as G).reverse ++ vr G k :: st) (hsum : (st.map fun v => v.category).sum ≤ 8) (hd : decode cc pc = .ok (.invokevirtual index, 3)) (kk : ∀ (z : Int) (x' : Mm), fm_l z → post z x' → FW Y G C nL x' (pc + 3) L (vj z :: st)) : FW Y G C nL x pc L stk := by
  obtain ⟨p, l, e, R, s, m, args, below, meth, c, cells, slots, Q⟩ := C
  obtain ⟨hx, hb, hml, hown, hts, hK, hD, hlocks, hcl, hsl, hX, hXc, hret, hfr, hlc⟩ := h
  intro hR H locs ls hP hS hl
  subst hst
  refine va_calll (va_runV (As := as G) (rest := st) ⟨hx, hb, hml, hown, hts⟩ (hc l G) (cwV np hts (gd_v hw hlk) rfl rfl rfl hw.2.2.2.2 ⟨by show fr1 + 1 ≤ R.frames; omega, by show 8 + (n + 11) + lc1 ≤ R.locals; omega⟩) ⟨fm_blind, va_recv hK hP (ci := ci) (q0 := k.toNat) hC.1 (fm_w_obj hk), fun U hU hW => ⟨rfl, hR, by rw [hU]; exact hP, va_K.moved hW.alike hK, hD, hXc G _ s U hW hX (fun q h1 h2 => by rw [hU]; exact hS.2.1 q h1 h2), hXc⟩⟩ rfl hnp hl.1 rfl (lv_room hsum) hd ⟨by simpa using hcl, by simpa using hsl⟩) hS (fun q _ h => h) (fun q h => h) (fun r u t H1 locs1 ht hvm hpost hB hz hk hS1 => ?_)
  obtain ⟨z, x'⟩ := u
  obtain ⟨rfl, hz1, hp1, hR1⟩ := hpost
  rw [ht] at hB
  exact kk z x' hz1 hp1 hR1 H1 locs1 ls hB hS1 hl
set_option maxHeartbeats 100000 in
theorem fr_csL {ret0 : Option FieldType} (h : OK Y G C cc own nL ret0 fr lc) {y : MethodName} {b : ByteArray} {n np fr1 lc1 index : Nat} {as : Gx → List Value} {post : Int → Mm → Prop} (hw : fm_ws y b n (some .long) np) (hlk : Cond.methodLink own index y ∈ TB) (hc : CnL Y y b n fr1 lc1 as x post) (hnp : (as G).length = np) (hf : fr1 + 1 ≤ fr) (hlo : 19 + n + lc1 ≤ lc) {stk : List Value} (hst : stk = (as G).reverse ++ st) (hsum : (st.map fun v => v.category).sum ≤ 8) (hd : decode cc pc = .ok (.invokestatic index, 3)) (kk : ∀ (z : Int) (x' : Mm), fm_l z → post z x' → FW Y G C nL x' (pc + 3) L (vj z :: st)) : FW Y G C nL x pc L stk := by
  obtain ⟨p, l, e, R, s, m, args, below, meth, c, cells, slots, Q⟩ := C
  obtain ⟨hx, hb, hml, hown, hts, hK, hD, hlocks, hcl, hsl, hX, hXc, hret, hfr, hlc⟩ := h
  intro hR H locs ls hP hS hl
  subst hst
  refine va_calll (va_runS (As := as G) (rest := st) ⟨hx, hb, hml, hown, hts⟩ (hc l G) (va_cwS np hts (gd_s hw hlk) rfl rfl rfl hw.2.2.2 ⟨by show fr1 + 1 ≤ R.frames; omega, by show 8 + (n + 11) + lc1 ≤ R.locals; omega⟩) ⟨fm_blind, fun U hU hW => ⟨rfl, hR, by rw [hU]; exact hP, va_K.moved hW.alike hK, hD, hXc G _ s U hW hX (fun q h1 h2 => by rw [hU]; exact hS.2.1 q h1 h2), hXc⟩⟩ rfl hnp hl.1 rfl (lv_room hsum) hd ⟨by simpa using hcl, by simpa using hsl⟩) hS (fun q _ h => h) (fun q h => h) (fun r u t H1 locs1 ht hvm hpost hB hz hk hS1 => ?_)
  obtain ⟨z, x'⟩ := u
  obtain ⟨rfl, hz1, hp1, hR1⟩ := hpost
  rw [ht] at hB
  exact kk z x' hz1 hp1 hR1 H1 locs1 ls hB hS1 hl
set_option maxHeartbeats 100000 in
theorem fr_cvV {ret0 : Option FieldType} (h : OK Y G C cc own nL ret0 fr lc) {y : MethodName} {b : ByteArray} {n np fr1 lc1 index : Nat} {as : Gx → List Value} {k : Int} {ci : Nat} {ts : List Nat} {T : u_T} {N : Nat} {ty : Nat → FieldType} {post : Mm → Prop} (hC : fm_cls Y ci y.cls T N ty) (hk : fm_at Y k ci ts) (hw : fm_wv y b n (none) np) (hlk : Cond.methodLink own index y ∈ TB) (hc : CnV Y y b n fr1 lc1 (fun G => vr G k :: as G) x post) (hnp : (as G).length = np) (hf : fr1 + 1 ≤ fr) (hlo : 19 + n + lc1 ≤ lc) {stk : List Value} (hst : stk = (as G).reverse ++ vr G k :: st) (hsum : (st.map fun v => v.category).sum ≤ 8) (hd : decode cc pc = .ok (.invokevirtual index, 3)) (kk : ∀ (x' : Mm), post x' → FW Y G C nL x' (pc + 3) L st) : FW Y G C nL x pc L stk := by
  obtain ⟨p, l, e, R, s, m, args, below, meth, c, cells, slots, Q⟩ := C
  obtain ⟨hx, hb, hml, hown, hts, hK, hD, hlocks, hcl, hsl, hX, hXc, hret, hfr, hlc⟩ := h
  intro hR H locs ls hP hS hl
  subst hst
  refine va_callv (va_runV (As := as G) (rest := st) ⟨hx, hb, hml, hown, hts⟩ (hc l G) (cwV np hts (gd_v hw hlk) rfl rfl rfl hw.2.2.2.2 ⟨by show fr1 + 1 ≤ R.frames; omega, by show 8 + (n + 11) + lc1 ≤ R.locals; omega⟩) ⟨fm_blind, va_recv hK hP (ci := ci) (q0 := k.toNat) hC.1 (fm_w_obj hk), fun U hU hW => ⟨rfl, hR, by rw [hU]; exact hP, va_K.moved hW.alike hK, hD, hXc G _ s U hW hX (fun q h1 h2 => by rw [hU]; exact hS.2.1 q h1 h2), hXc⟩⟩ rfl hnp hl.1 rfl (lv_room hsum) hd ⟨by simpa using hcl, by simpa using hsl⟩) hS (fun q _ h => h) (fun q h => h) (fun u t H1 locs1 ht hvm hpost hB hz hk hS1 => ?_)
  rw [ht] at hB
  exact kk u hpost.1 hpost.2 H1 locs1 ls hB hS1 hl
set_option maxHeartbeats 100000 in
theorem fr_csV {ret0 : Option FieldType} (h : OK Y G C cc own nL ret0 fr lc) {y : MethodName} {b : ByteArray} {n np fr1 lc1 index : Nat} {as : Gx → List Value} {post : Mm → Prop} (hw : fm_ws y b n (none) np) (hlk : Cond.methodLink own index y ∈ TB) (hc : CnV Y y b n fr1 lc1 as x post) (hnp : (as G).length = np) (hf : fr1 + 1 ≤ fr) (hlo : 19 + n + lc1 ≤ lc) {stk : List Value} (hst : stk = (as G).reverse ++ st) (hsum : (st.map fun v => v.category).sum ≤ 8) (hd : decode cc pc = .ok (.invokestatic index, 3)) (kk : ∀ (x' : Mm), post x' → FW Y G C nL x' (pc + 3) L st) : FW Y G C nL x pc L stk := by
  obtain ⟨p, l, e, R, s, m, args, below, meth, c, cells, slots, Q⟩ := C
  obtain ⟨hx, hb, hml, hown, hts, hK, hD, hlocks, hcl, hsl, hX, hXc, hret, hfr, hlc⟩ := h
  intro hR H locs ls hP hS hl
  subst hst
  refine va_callv (va_runS (As := as G) (rest := st) ⟨hx, hb, hml, hown, hts⟩ (hc l G) (va_cwS np hts (gd_s hw hlk) rfl rfl rfl hw.2.2.2 ⟨by show fr1 + 1 ≤ R.frames; omega, by show 8 + (n + 11) + lc1 ≤ R.locals; omega⟩) ⟨fm_blind, fun U hU hW => ⟨rfl, hR, by rw [hU]; exact hP, va_K.moved hW.alike hK, hD, hXc G _ s U hW hX (fun q h1 h2 => by rw [hU]; exact hS.2.1 q h1 h2), hXc⟩⟩ rfl hnp hl.1 rfl (lv_room hsum) hd ⟨by simpa using hcl, by simpa using hsl⟩) hS (fun q _ h => h) (fun q h => h) (fun u t H1 locs1 ht hvm hpost hB hz hk hS1 => ?_)
  rw [ht] at hB
  exact kk u hpost.1 hpost.2 H1 locs1 ls hB hS1 hl
set_option maxHeartbeats 100000 in
theorem fr_cvR {ret0 : Option FieldType} (h : OK Y G C cc own nL ret0 fr lc) {y : MethodName} {b : ByteArray} {n np fr1 lc1 index : Nat} {rt : FieldType} {as : Gx → List Value} {k : Int} {ci : Nat} {ts : List Nat} {T : u_T} {N : Nat} {ty : Nat → FieldType} {post : Int → Mm → Prop} (hC : fm_cls Y ci y.cls T N ty) (hk : fm_at Y k ci ts) (hw : fm_wv y b n (some rt) np) (hlk : Cond.methodLink own index y ∈ TB) (hc : CnR Y y b n rt fr1 lc1 (fun G => vr G k :: as G) x post) (hnp : (as G).length = np) (hf : fr1 + 1 ≤ fr) (hlo : 19 + n + lc1 ≤ lc) {stk : List Value} (hst : stk = (as G).reverse ++ vr G k :: st) (hsum : (st.map fun v => v.category).sum ≤ 8) (hd : decode cc pc = .ok (.invokevirtual index, 3)) (kk : ∀ (z : Int) (x' : Mm), post z x' → FW Y G C nL x' (pc + 3) L (vr G z :: st)) : FW Y G C nL x pc L stk := by
  obtain ⟨p, l, e, R, s, m, args, below, meth, c, cells, slots, Q⟩ := C
  obtain ⟨hx, hb, hml, hown, hts, hK, hD, hlocks, hcl, hsl, hX, hXc, hret, hfr, hlc⟩ := h
  intro hR H locs ls hP hS hl
  subst hst
  refine va_callr (va_runV (As := as G) (rest := st) ⟨hx, hb, hml, hown, hts⟩ (hc l G) (cwV np hts (gd_v hw hlk) rfl rfl rfl hw.2.2.2.2 ⟨by show fr1 + 1 ≤ R.frames; omega, by show 8 + (n + 11) + lc1 ≤ R.locals; omega⟩) ⟨fm_blind, va_recv hK hP (ci := ci) (q0 := k.toNat) hC.1 (fm_w_obj hk), fun U hU hW => ⟨rfl, hR, by rw [hU]; exact hP, va_K.moved hW.alike hK, hD, hXc G _ s U hW hX (fun q h1 h2 => by rw [hU]; exact hS.2.1 q h1 h2), hXc⟩⟩ rfl hnp hl.1 rfl (lv_room hsum) hd ⟨by simpa using hcl, by simpa using hsl⟩) hS (fun q _ h => h) (fun q h => h) (fun u ra t H1 locs1 ht hvm hpost hB hz hk hS1 => ?_)
  obtain ⟨z, x'⟩ := u
  obtain ⟨rfl, hB⟩ := hB
  rw [ht] at hB
  exact kk z x' hpost.1 hpost.2 H1 locs1 ls hB hS1 hl
set_option maxHeartbeats 100000 in
theorem fr_csR {ret0 : Option FieldType} (h : OK Y G C cc own nL ret0 fr lc) {y : MethodName} {b : ByteArray} {n np fr1 lc1 index : Nat} {rt : FieldType} {as : Gx → List Value} {post : Int → Mm → Prop} (hw : fm_ws y b n (some rt) np) (hlk : Cond.methodLink own index y ∈ TB) (hc : CnR Y y b n rt fr1 lc1 as x post) (hnp : (as G).length = np) (hf : fr1 + 1 ≤ fr) (hlo : 19 + n + lc1 ≤ lc) {stk : List Value} (hst : stk = (as G).reverse ++ st) (hsum : (st.map fun v => v.category).sum ≤ 8) (hd : decode cc pc = .ok (.invokestatic index, 3)) (kk : ∀ (z : Int) (x' : Mm), post z x' → FW Y G C nL x' (pc + 3) L (vr G z :: st)) : FW Y G C nL x pc L stk := by
  obtain ⟨p, l, e, R, s, m, args, below, meth, c, cells, slots, Q⟩ := C
  obtain ⟨hx, hb, hml, hown, hts, hK, hD, hlocks, hcl, hsl, hX, hXc, hret, hfr, hlc⟩ := h
  intro hR H locs ls hP hS hl
  subst hst
  refine va_callr (va_runS (As := as G) (rest := st) ⟨hx, hb, hml, hown, hts⟩ (hc l G) (va_cwS np hts (gd_s hw hlk) rfl rfl rfl hw.2.2.2 ⟨by show fr1 + 1 ≤ R.frames; omega, by show 8 + (n + 11) + lc1 ≤ R.locals; omega⟩) ⟨fm_blind, fun U hU hW => ⟨rfl, hR, by rw [hU]; exact hP, va_K.moved hW.alike hK, hD, hXc G _ s U hW hX (fun q h1 h2 => by rw [hU]; exact hS.2.1 q h1 h2), hXc⟩⟩ rfl hnp hl.1 rfl (lv_room hsum) hd ⟨by simpa using hcl, by simpa using hsl⟩) hS (fun q _ h => h) (fun q h => h) (fun u ra t H1 locs1 ht hvm hpost hB hz hk hS1 => ?_)
  obtain ⟨z, x'⟩ := u
  obtain ⟨rfl, hB⟩ := hB
  rw [ht] at hB
  exact kk z x' hpost.1 hpost.2 H1 locs1 ls hB hS1 hl
end FMC
