def RL : String := "BestWalksLaw"
abbrev cL_number : ByteArray := method_3_code
def yL_number : MethodName := ⟨RL, "number", "(LBestWalks;II[J)I"⟩
theorem dL_number_0 : decode cL_number 0 = .ok (.aload_n 3, 1) := by decide +kernel
theorem dL_number_1 : decode cL_number 1 = .ok (.iconst 0, 1) := by decide +kernel
theorem dL_number_2 : decode cL_number 2 = .ok (.aload_n 0, 1) := by decide +kernel
theorem dL_number_3 : decode cL_number 3 = .ok (.iload_n 1, 1) := by decide +kernel
theorem dL_number_4 : decode cL_number 4 = .ok (.iload_n 2, 1) := by decide +kernel
theorem dL_number_5 : decode cL_number 5 = .ok (.invokevirtual 7, 3) := by decide +kernel
theorem dL_number_8 : decode cL_number 8 = .ok (.i2l, 1) := by decide +kernel
theorem dL_number_9 : decode cL_number 9 = .ok (.lastore, 1) := by decide +kernel
theorem dL_number_10 : decode cL_number 10 = .ok (.goto 7, 3) := by decide +kernel
theorem dL_number_13 : decode cL_number 13 = .ok (.astore 4, 2) := by decide +kernel
theorem dL_number_15 : decode cL_number 15 = .ok (.iconst 1, 1) := by decide +kernel
theorem dL_number_16 : decode cL_number 16 = .ok (.ireturn, 1) := by decide +kernel
theorem dL_number_17 : decode cL_number 17 = .ok (.iconst 0, 1) := by decide +kernel
theorem dL_number_18 : decode cL_number 18 = .ok (.ireturn, 1) := by decide +kernel
theorem wcL_number : Cond.codeWith yL_number cL_number 5 (some .int) [(0, 10, 13, 13)] ∈ TB := tb_5 (i := 106) (by rfl) (by decide +kernel)
theorem wsL_number : Cond.static yL_number ∈ TB := tb_5 (i := 105) (by decide +kernel) (by decide +kernel)
abbrev cL_edge : ByteArray := method_4_code
def yL_edge : MethodName := ⟨RL, "edge", "(LBestWalks;II[J)I"⟩
theorem dL_edge_0 : decode cL_edge 0 = .ok (.aload_n 3, 1) := by decide +kernel
theorem dL_edge_1 : decode cL_edge 1 = .ok (.iconst 0, 1) := by decide +kernel
theorem dL_edge_2 : decode cL_edge 2 = .ok (.aload_n 0, 1) := by decide +kernel
theorem dL_edge_3 : decode cL_edge 3 = .ok (.iload_n 1, 1) := by decide +kernel
theorem dL_edge_4 : decode cL_edge 4 = .ok (.iload_n 2, 1) := by decide +kernel
theorem dL_edge_5 : decode cL_edge 5 = .ok (.invokevirtual 15, 3) := by decide +kernel
theorem dL_edge_8 : decode cL_edge 8 = .ok (.i2l, 1) := by decide +kernel
theorem dL_edge_9 : decode cL_edge 9 = .ok (.lastore, 1) := by decide +kernel
theorem dL_edge_10 : decode cL_edge 10 = .ok (.goto 7, 3) := by decide +kernel
theorem dL_edge_13 : decode cL_edge 13 = .ok (.astore 4, 2) := by decide +kernel
theorem dL_edge_15 : decode cL_edge 15 = .ok (.iconst 1, 1) := by decide +kernel
theorem dL_edge_16 : decode cL_edge 16 = .ok (.ireturn, 1) := by decide +kernel
theorem dL_edge_17 : decode cL_edge 17 = .ok (.iconst 0, 1) := by decide +kernel
theorem dL_edge_18 : decode cL_edge 18 = .ok (.ireturn, 1) := by decide +kernel
theorem wcL_edge : Cond.codeWith yL_edge cL_edge 5 (some .int) [(0, 10, 13, 13)] ∈ TB := tb_5 (i := 179) (by rfl) (by decide +kernel)
theorem wsL_edge : Cond.static yL_edge ∈ TB := tb_5 (i := 178) (by decide +kernel) (by decide +kernel)
abbrev cL_row : ByteArray := method_5_code
def yL_row : MethodName := ⟨RL, "row", "(LBestWalks;I[J)I"⟩
theorem dL_row_0 : decode cL_row 0 = .ok (.aload_n 2, 1) := by decide +kernel
theorem dL_row_1 : decode cL_row 1 = .ok (.iconst 0, 1) := by decide +kernel
theorem dL_row_2 : decode cL_row 2 = .ok (.aload_n 0, 1) := by decide +kernel
theorem dL_row_3 : decode cL_row 3 = .ok (.iload_n 1, 1) := by decide +kernel
theorem dL_row_4 : decode cL_row 4 = .ok (.invokevirtual 18, 3) := by decide +kernel
theorem dL_row_7 : decode cL_row 7 = .ok (.lastore, 1) := by decide +kernel
theorem dL_row_8 : decode cL_row 8 = .ok (.goto 6, 3) := by decide +kernel
theorem dL_row_11 : decode cL_row 11 = .ok (.astore_n 3, 1) := by decide +kernel
theorem dL_row_12 : decode cL_row 12 = .ok (.iconst 1, 1) := by decide +kernel
theorem dL_row_13 : decode cL_row 13 = .ok (.ireturn, 1) := by decide +kernel
theorem dL_row_14 : decode cL_row 14 = .ok (.iconst 0, 1) := by decide +kernel
theorem dL_row_15 : decode cL_row 15 = .ok (.ireturn, 1) := by decide +kernel
theorem wcL_row : Cond.codeWith yL_row cL_row 4 (some .int) [(0, 8, 11, 13)] ∈ TB := tb_5 (i := 192) (by rfl) (by decide +kernel)
theorem wsL_row : Cond.static yL_row ∈ TB := tb_5 (i := 191) (by decide +kernel) (by decide +kernel)
theorem lL_7 : Cond.methodLink RL 7 yX11_number ∈ TB := tb_5 (i := 108) (by decide +kernel) (by decide +kernel)
theorem lL_15 : Cond.methodLink RL 15 yX11_edge ∈ TB := tb_5 (i := 180) (by decide +kernel) (by decide +kernel)
theorem lL_18 : Cond.methodLink RL 18 yX11_row ∈ TB := tb_5 (i := 193) (by decide +kernel) (by decide +kernel)
theorem iL : Cond.initialized RL ∈ TB := tb_1 (i := 0) (by decide +kernel) (by decide +kernel)
theorem kL_13 : Cond.classLink RL 13 "java/util/NoSuchElementException" ∈ TB := tb_5 (i := 107) (by decide +kernel) (by decide +kernel)
def CnIW (y : MethodName) (b : ByteArray) (n : Nat) (fr lc : Nat) (hh : List (Nat × Nat × Nat × Nat)) (as : Gx → List Value) (x : Mm) (post : Int → Mm → Prop) : Prop := ∀ (l : Launch), l.stackTraces = false → ∀ (G : Gx), Met l y (Cond.codeWith y b n (some .int) hh :: TB) { frames := fr, cells := 1, slots := 6, locals := lc } (va_Pc (as G) (fm_in YC G x)) (fm_QI YC G post) 1 6 (fm_A YC G)
def RTw (G : Gx) (C : Cx) (QQ : Array Value → State → Outcome → State → Prop) : Prop := match C with
  | (_, _, _, _, s, _, args, below, _, _, cells, slots, Q) => Q = MQ below QQ args s 1 6 (fm_A YC G) ∧ cells ≤ 1 ∧ slots ≤ 6
def WTx (hh : List (Nat × Nat × Nat × Nat)) (C : Cx) : Prop := match C with
  | (_, l, _, R, _, _, _, _, _, c, cells, slots, _) => l.stackTraces = false ∧ c.exceptionTable.toList = tableOf hh ∧ cells = 0 ∧ slots = 0 ∧ 1 ≤ R.cells ∧ 6 ≤ R.slots
def bumpx (C : Cx) : Cx := match C with
  | (p, l, e, R, s, m, args, below, meth, c, cells, slots, Q) => (p, l, e, R, s, m, args, below, meth, c, cells + 1, slots + 6, Q)
theorem OK_bump {G : Gx} {C : Cx} {cc : ByteArray} {own : String} {nL : Nat} {ret : Option FieldType} {fr lc : Nat} {hh : List (Nat × Nat × Nat × Nat)} (h : OK YC G C cc own nL ret fr lc) (hw : WTx hh C) : OK YC G (bumpx C) cc own nL ret fr lc := by
  obtain ⟨p, l, e, R, s, m, args, below, meth, c, cells, slots, Q⟩ := C
  obtain ⟨hx, hb, hml, hown, hts, hK, hD, hlocks, hcl, hsl, hX, hXc, hret, hfr, hlc⟩ := h
  obtain ⟨_, _, h0, h1, h2, h3⟩ : l.stackTraces = false ∧ c.exceptionTable.toList = tableOf hh ∧ cells = 0 ∧ slots = 0 ∧ 1 ≤ R.cells ∧ 6 ≤ R.slots := hw
  exact ⟨hx, hb, hml, hown, hts, hK, hD, hlocks, by omega, by omega, hX, hXc, hret, hfr, hlc⟩
theorem RTw_bump {G : Gx} {C : Cx} {QQ : Array Value → State → Outcome → State → Prop} {hh : List (Nat × Nat × Nat × Nat)} (h : RTw G C QQ) (hw : WTx hh C) : RTw G (bumpx C) QQ := by
  obtain ⟨p, l, e, R, s, m, args, below, meth, c, cells, slots, Q⟩ := C
  obtain ⟨_, _, h0, h1, _, _⟩ : l.stackTraces = false ∧ c.exceptionTable.toList = tableOf hh ∧ cells = 0 ∧ slots = 0 ∧ 1 ≤ R.cells ∧ 6 ≤ R.slots := hw
  exact ⟨h.1, by omega, by omega⟩
theorem cn_W {y : MethodName} {b : ByteArray} {n : Nat} {fr lc : Nat} {hh : List (Nat × Nat × Nat × Nat)} {as : Gx → List Value} {x : Mm} {post : Int → Mm → Prop} (hy : plainName y.cls = true) (hlen : ∀ G, (lg_sl (as G)).length ≤ n) (body : ∀ (G : Gx) (C : Cx), OK YC G C b y.cls n (some .int) fr lc → RTw G C (fm_QI YC G post) → WTx hh C → FW YC G C n x 0 (lv_args 0 (as G)) []) : CnIW y b n fr lc hh as x post := by
  intro l hst G
  refine va_MetW (cc := b) (maxL := n) (ret := some .int) (hh := hh) hy rfl ?_
  intro p e s m args below meth c s₁ B hml hv
  obtain ⟨rfl, hR, hP, hK, hD, hX, hXc⟩ := hv
  have hts := atoms_spec (ws := Cond.codeWith y b n (some .int) hh :: TB) B.pre
  have htab := vx_table (x := y) B (hts _ List.mem_cons_self)
  have h := body G (p, l, e, { frames := fr, cells := 1, slots := 6, locals := lc }, s, m, (as G).toArray, below, meth, c, 0, 0, MQ below (fm_QI YC G post) (as G).toArray s 1 6 (fm_A YC G)) ⟨B.exec, B.bytes, hml, findClass_of_methodNamed B.named, fun w hw => hts w (List.mem_cons_of_mem _ hw), hK, hD, B.notSynchronized, Nat.zero_le _, Nat.zero_le _, hX, hXc, B.returns, Nat.le_refl _, Nat.le_refl _⟩ ⟨rfl, Nat.zero_le _, Nat.zero_le _⟩ ⟨hst, htab, rfl, rfl, Nat.le_refl _, Nat.le_refl _⟩
  rw [lg_entry_eq]
  exact h hR s.heap [] _ hP va_S.rf (lv_entry (as G) (hlen G))
section FWP
variable {G : Gx} {C : Cx} {cc : ByteArray} {own : String} {nL : Nat} {fr lc : Nat} {x : Mm} {pc : Nat} {L : List (Nat × Value)} {st : List Value}
theorem fr_wret (h : OK YC G C cc own nL (some .int) fr lc) {z : Int} {post : Int → Mm → Prop} (hq : RTw G C (fm_QI YC G post)) (hz : fm_r z) (hp : post z x) (hd : decode cc pc = .ok (.ireturn, 1)) : FW YC G C nL x pc L [vi z] := by
  obtain ⟨p, l, e, R, s, m, args, below, meth, c, cells, slots, Q⟩ := C
  obtain ⟨hx, hb, hml, hown, hts, hK, hD, hlocks, hcl, hsl, hX, hXc, hret, hfr, hlc⟩ := h
  intro hR H locs ls hP hS hl
  obtain ⟨hq, h1, h2⟩ : Q = MQ below (fm_QI YC G post) args s 1 6 (fm_A YC G) ∧ cells ≤ 1 ∧ slots ≤ 6 := hq
  subst hq
  refine W.widen (k := 1) (n := 6) h1 h2 ?_
  exact W.iret (v := iI z) hx hb hret (fun t ht hW => ⟨⟨iI z, (z, x), rfl, ⟨rfl, hz, hp, hR⟩, by show va_P _ _ _ t.heap; rw [ht]; exact hP⟩, hS.F ht⟩) hS.2.2 hd

theorem fr_cvTI {ret0 : Option FieldType} {hh : List (Nat × Nat × Nat × Nat)} (h : OK YC G C cc RL nL ret0 fr lc) (hwt : WTx hh C) {y : MethodName} {b : ByteArray} {n np fr1 lc1 index hpc : Nat} {as : Gx → List Value} {post : Int → Mm → Prop} (hw : fm_wv y b n (some .int) np) (hy : y.cls = RX11) (hlk : Cond.methodLink RL index y ∈ TB) (hc : CnTI y b n fr1 lc1 (fun G => vr G 0 :: as G) x post) (hnp : (as G).length = np) (hf : fr1 + 1 ≤ fr) (hlo : 19 + n + lc1 ≤ lc) {stk : List Value} (hst : stk = (as G).reverse ++ vr G 0 :: st) (hsum : (st.map fun v => v.category).sum ≤ 8) (hd : decode cc pc = .ok (.invokevirtual index, 3)) (htb : tableOf hh = [⟨0, (hh.head?.getD (0, 0, 0, 0)).2.1, hpc, 13⟩]) (hcov : covers (⟨0, (hh.head?.getD (0, 0, 0, 0)).2.1, hpc, 13⟩ : ExceptionTableEntry) pc = true) (kx : ∀ q9 : Nat, FW YC G (bumpx C) nL x hpc L [.ref q9]) (kk : ∀ (z : Int) (x' : Mm), fm_r z → post z x' → FW YC G (bumpx C) nL x' (pc + 3) L (vi z :: st)) : FW YC G C nL x pc L stk := by
  obtain ⟨p, l, e, R, s, m, args, below, meth, c, cells, slots, Q⟩ := C
  obtain ⟨hx, hb, hml, hown, hts, hK, hD, hlocks, hcl, hsl, hX, hXc, hret, hfr, hlc⟩ := h
  intro hR H locs ls hP hS hl
  subst hst
  obtain ⟨hst, htab, hc0, hs0, hc1, hs1⟩ : l.stackTraces = false ∧ c.exceptionTable.toList = tableOf hh ∧ cells = 0 ∧ slots = 0 ∧ 1 ≤ R.cells ∧ 6 ≤ R.slots := hwt
  have hX0 : ZC G (fm_A YC G) s := hX
  have hrv := va_recv hK hP (ci := 11) (q0 := 0) kX11.1 (fm_w_obj at_0)
  refine vx_calli (vx_runV (C := y.cls) (As := as G) (rest := st) (b := G.2.2 0) ⟨hx, hb, hml, hown, hts⟩ (hc l hst G) (cwV np hts (gd_v hw hlk) rfl rfl rfl hw.2.2.2.2 ⟨by show fr1 + 1 ≤ R.frames; omega, by show 8 + (n + 11) + lc1 ≤ R.locals; omega⟩) ⟨fm_blind, by rw [hy]; exact hrv, fun U hU hW => ⟨rfl, hR, by rw [hU]; exact hP, va_K.moved hW.alike hK, hD, hXc G _ s U hW hX (fun q h1 h2 => by rw [hU]; exact hS.2.1 q h1 h2), hXc⟩⟩ rfl hnp hl.1 rfl (lv_room hsum) hd ⟨by omega, by omega⟩) hS (fun q _ h => h) (fun q h => h) (fun q _ h => h) (fun E ce q9 u t H1 locs1 ht hvm _ hB hz hk hS1 hcell hv hcl1 => ?_) (fun r u t H1 locs1 ht hvm hpost hB hz hk hS1 => ?_)
  · obtain ⟨rfl, hPx⟩ := hB
    rw [ht] at hPx
    exact vx_catch hown [] ⟨0, (hh.head?.getD (0, 0, 0, 0)).2.1, hpc, 13⟩ [] (by rw [htab, htb]; rfl) (fun z hz => absurd hz List.not_mem_nil) hcov (by show (13 : Nat) ≠ 0; decide) (hts _ kL_13) (va_Nw.use rfl hX0.2.2.2.2.1.2.2.2.2.2) hcell hv hcl1 (kx q9 hR H1 locs1 ls hPx hS1 hl)
  · obtain ⟨z, x'⟩ := u
    obtain ⟨rfl, hz1, hp1, hR1⟩ := hpost
    rw [ht] at hB
    exact kk z x' hz1 hp1 hR1 H1 locs1 ls hB hS1 hl
theorem fr_cvTL {ret0 : Option FieldType} {hh : List (Nat × Nat × Nat × Nat)} (h : OK YC G C cc RL nL ret0 fr lc) (hwt : WTx hh C) {y : MethodName} {b : ByteArray} {n np fr1 lc1 index hpc : Nat} {as : Gx → List Value} {post : Int → Mm → Prop} (hw : fm_wv y b n (some .long) np) (hy : y.cls = RX11) (hlk : Cond.methodLink RL index y ∈ TB) (hc : CnTL y b n fr1 lc1 (fun G => vr G 0 :: as G) x post) (hnp : (as G).length = np) (hf : fr1 + 1 ≤ fr) (hlo : 19 + n + lc1 ≤ lc) {stk : List Value} (hst : stk = (as G).reverse ++ vr G 0 :: st) (hsum : (st.map fun v => v.category).sum ≤ 8) (hd : decode cc pc = .ok (.invokevirtual index, 3)) (htb : tableOf hh = [⟨0, (hh.head?.getD (0, 0, 0, 0)).2.1, hpc, 13⟩]) (hcov : covers (⟨0, (hh.head?.getD (0, 0, 0, 0)).2.1, hpc, 13⟩ : ExceptionTableEntry) pc = true) (kx : ∀ q9 : Nat, FW YC G (bumpx C) nL x hpc L [.ref q9]) (kk : ∀ (z : Int) (x' : Mm), fm_l z → post z x' → FW YC G (bumpx C) nL x' (pc + 3) L (vj z :: st)) : FW YC G C nL x pc L stk := by
  obtain ⟨p, l, e, R, s, m, args, below, meth, c, cells, slots, Q⟩ := C
  obtain ⟨hx, hb, hml, hown, hts, hK, hD, hlocks, hcl, hsl, hX, hXc, hret, hfr, hlc⟩ := h
  intro hR H locs ls hP hS hl
  subst hst
  obtain ⟨hst, htab, hc0, hs0, hc1, hs1⟩ : l.stackTraces = false ∧ c.exceptionTable.toList = tableOf hh ∧ cells = 0 ∧ slots = 0 ∧ 1 ≤ R.cells ∧ 6 ≤ R.slots := hwt
  have hX0 : ZC G (fm_A YC G) s := hX
  have hrv := va_recv hK hP (ci := 11) (q0 := 0) kX11.1 (fm_w_obj at_0)
  refine vx_calll (vx_runV (C := y.cls) (As := as G) (rest := st) (b := G.2.2 0) ⟨hx, hb, hml, hown, hts⟩ (hc l hst G) (cwV np hts (gd_v hw hlk) rfl rfl rfl hw.2.2.2.2 ⟨by show fr1 + 1 ≤ R.frames; omega, by show 8 + (n + 11) + lc1 ≤ R.locals; omega⟩) ⟨fm_blind, by rw [hy]; exact hrv, fun U hU hW => ⟨rfl, hR, by rw [hU]; exact hP, va_K.moved hW.alike hK, hD, hXc G _ s U hW hX (fun q h1 h2 => by rw [hU]; exact hS.2.1 q h1 h2), hXc⟩⟩ rfl hnp hl.1 rfl (lv_room hsum) hd ⟨by omega, by omega⟩) hS (fun q _ h => h) (fun q h => h) (fun q _ h => h) (fun E ce q9 u t H1 locs1 ht hvm _ hB hz hk hS1 hcell hv hcl1 => ?_) (fun r u t H1 locs1 ht hvm hpost hB hz hk hS1 => ?_)
  · obtain ⟨rfl, hPx⟩ := hB
    rw [ht] at hPx
    exact vx_catch hown [] ⟨0, (hh.head?.getD (0, 0, 0, 0)).2.1, hpc, 13⟩ [] (by rw [htab, htb]; rfl) (fun z hz => absurd hz List.not_mem_nil) hcov (by show (13 : Nat) ≠ 0; decide) (hts _ kL_13) (va_Nw.use rfl hX0.2.2.2.2.1.2.2.2.2.2) hcell hv hcl1 (kx q9 hR H1 locs1 ls hPx hS1 hl)
  · obtain ⟨z, x'⟩ := u
    obtain ⟨rfl, hz1, hp1, hR1⟩ := hpost
    rw [ht] at hB
    exact kk z x' hz1 hp1 hR1 H1 locs1 ls hB hS1 hl
end FWP
theorem c_L_number (x : Mm) {p w : Int} (hp : fm_r p) (hw : fm_r w) : CnIW yL_number cL_number 5 20 300 [(0, 10, 13, 13)] (fun G => [vr G 0, vi p, vi w, vr G 120]) x (fun z y' => (z = 0 ∨ z = 1) ∧ (∀ a : Int, a ≠ 120 → y' a = x a)) := by
  refine cn_W (by decide) (fun _ => Nat.le_of_ble_eq_true rfl) (fun G C h hq hwt => ?_)
  have h : OK YC G C cL_number RL 5 (some .int) 20 300 := h
  show FW YC G C 5 x 0 [(0, vr G 0), (1, vi p), (2, vi w), (3, vr G 120)] []
  have h2 := OK_bump h hwt
  have hq2 := RTw_bump hq hwt
  refine fr_aload_n h rfl 3 rfl dL_number_0 ?_
  refine fr_iconst h dL_number_1 ?_
  refine fr_aload_n h rfl 0 rfl dL_number_2 ?_
  refine fr_iload_n h rfl 1 rfl dL_number_3 ?_
  refine fr_iload_n h rfl 2 rfl dL_number_4 ?_
  refine fr_cvTI (hpc := 13) (as := fun _ => [vi p, vi w]) h hwt wX11_number rfl lL_7 (c_X11_number x p w hp hw) rfl (by decide) (by decide) rfl (Nat.le_of_ble_eq_true rfl) dL_number_5 rfl (by decide) (fun q9 => ?_) (fun z x' hz hpost => ?_)
  · refine fr_astore (L' := [(0, vr G 0), (1, vi p), (2, vi w), (3, vr G 120), (4, .ref q9)]) h2 dL_number_13 (by decide) [1, 2, 3, 4, 0] rfl ?_
    refine fr_iconst h2 dL_number_15 ?_
    exact fr_wret h2 hq2 (by omega) ⟨by omega, fun a _ => rfl⟩ dL_number_16
  · rw [hpost]
    refine fr_i2l h2 (by omega) dL_number_8 ?_
    refine fr_last h2 ar_120 (by omega) (by omega) (rr_120 0) (by omega) (by omega) dL_number_9 ?_
    refine fr_mem (fun x1 m1 => ?_)
    refine fr_goto (tgt := 17) h2 dL_number_10 (by decide) ?_
    refine fr_iconst h2 dL_number_17 ?_
    exact fr_wret h2 hq2 (by omega) ⟨by omega, fun a ha => fm_up_row m1 ha⟩ dL_number_18
theorem c_L_edge (x : Mm) {p w : Int} (hp : fm_r p) (hw : fm_r w) : CnIW yL_edge cL_edge 5 20 300 [(0, 10, 13, 13)] (fun G => [vr G 0, vi p, vi w, vr G 120]) x (fun z y' => (z = 0 ∨ z = 1) ∧ (∀ a : Int, a ≠ 120 → y' a = x a)) := by
  refine cn_W (by decide) (fun _ => Nat.le_of_ble_eq_true rfl) (fun G C h hq hwt => ?_)
  have h : OK YC G C cL_edge RL 5 (some .int) 20 300 := h
  show FW YC G C 5 x 0 [(0, vr G 0), (1, vi p), (2, vi w), (3, vr G 120)] []
  have h2 := OK_bump h hwt
  have hq2 := RTw_bump hq hwt
  refine fr_aload_n h rfl 3 rfl dL_edge_0 ?_
  refine fr_iconst h dL_edge_1 ?_
  refine fr_aload_n h rfl 0 rfl dL_edge_2 ?_
  refine fr_iload_n h rfl 1 rfl dL_edge_3 ?_
  refine fr_iload_n h rfl 2 rfl dL_edge_4 ?_
  refine fr_cvTI (hpc := 13) (as := fun _ => [vi p, vi w]) h hwt wX11_edge rfl lL_15 (c_X11_edge x p w hp hw) rfl (by decide) (by decide) rfl (Nat.le_of_ble_eq_true rfl) dL_edge_5 rfl (by decide) (fun q9 => ?_) (fun z x' hz hpost => ?_)
  · refine fr_astore (L' := [(0, vr G 0), (1, vi p), (2, vi w), (3, vr G 120), (4, .ref q9)]) h2 dL_edge_13 (by decide) [1, 2, 3, 4, 0] rfl ?_
    refine fr_iconst h2 dL_edge_15 ?_
    exact fr_wret h2 hq2 (by omega) ⟨by omega, fun a _ => rfl⟩ dL_edge_16
  · rw [hpost]
    refine fr_i2l h2 (by omega) dL_edge_8 ?_
    refine fr_last h2 ar_120 (by omega) (by omega) (rr_120 0) (by omega) (by omega) dL_edge_9 ?_
    refine fr_mem (fun x1 m1 => ?_)
    refine fr_goto (tgt := 17) h2 dL_edge_10 (by decide) ?_
    refine fr_iconst h2 dL_edge_17 ?_
    exact fr_wret h2 hq2 (by omega) ⟨by omega, fun a ha => fm_up_row m1 ha⟩ dL_edge_18
theorem c_L_row (x : Mm) {p : Int} (hp : fm_r p) : CnIW yL_row cL_row 4 20 300 [(0, 8, 11, 13)] (fun G => [vr G 0, vi p, vr G 120]) x (fun z y' => (z = 0 ∨ z = 1) ∧ (∀ a : Int, a ≠ 120 → y' a = x a)) := by
  refine cn_W (by decide) (fun _ => Nat.le_of_ble_eq_true rfl) (fun G C h hq hwt => ?_)
  have h : OK YC G C cL_row RL 4 (some .int) 20 300 := h
  show FW YC G C 4 x 0 [(0, vr G 0), (1, vi p), (2, vr G 120)] []
  have h2 := OK_bump h hwt
  have hq2 := RTw_bump hq hwt
  refine fr_aload_n h rfl 2 rfl dL_row_0 ?_
  refine fr_iconst h dL_row_1 ?_
  refine fr_aload_n h rfl 0 rfl dL_row_2 ?_
  refine fr_iload_n h rfl 1 rfl dL_row_3 ?_
  refine fr_cvTL (hpc := 11) (as := fun _ => [vi p]) h hwt wX11_row rfl lL_18 (c_X11_row x p hp) rfl (by decide) (by decide) rfl (Nat.le_of_ble_eq_true rfl) dL_row_4 rfl (by decide) (fun q9 => ?_) (fun z x' hz hpost => ?_)
  · refine fr_astore_n (L' := [(0, vr G 0), (1, vi p), (2, vr G 120), (3, .ref q9)]) h2 rfl dL_row_11 (by decide) [1, 2, 3, 0] rfl ?_
    refine fr_iconst h2 dL_row_12 ?_
    exact fr_wret h2 hq2 (by omega) ⟨by omega, fun a _ => rfl⟩ dL_row_13
  · rw [hpost]
    refine fr_last h2 ar_120 (by omega) (by omega) (rr_120 0) (by omega) (by omega) dL_row_7 ?_
    refine fr_mem (fun x1 m1 => ?_)
    refine fr_goto (tgt := 14) h2 dL_row_8 (by decide) ?_
    refine fr_iconst h2 dL_row_14 ?_
    exact fr_wret h2 hq2 (by omega) ⟨by omega, fun a ha => fm_up_row m1 ha⟩ dL_row_15
