abbrev rxN : ByteArray := prog_29_method_4_code
theorem rxN_0 : decode rxN 0 = .ok (.aload_n 0, 1) := by decide +kernel
theorem rxN_1 : decode rxN 1 = .ok (.aload_n 1, 1) := by decide +kernel
theorem rxN_2 : decode rxN 2 = .ok (.invokespecial 13, 3) := by decide +kernel
theorem rxN_5 : decode rxN 5 = .ok (.return_, 1) := by decide +kernel
theorem nse_c : Cond.classLink RX11 143 "java/util/NoSuchElementException" ∈ TB := tb_5 (i := 112) (by decide +kernel) (by decide +kernel)
theorem nse_i : Cond.initialized "java/util/NoSuchElementException" ∈ TB := tb_1 (i := 18) (by decide +kernel) (by decide +kernel)
theorem nse_d0 {args : Array Value} {s : State} (h : ∀ w ∈ TB, w.before args s = true) : (Cond.declares ({ cls := "java/lang/RuntimeException", name := "<init>", desc := "(Ljava/lang/String;)V" } : MethodName)).before args s = true := kx_decl (bytes := prog_21_method_2_code) (ml := 2) (ret := none) (h _ (tb_5 (i := 156) (by decide +kernel) (by decide +kernel))) (h _ (tb_5 (i := 157) (by rfl) (by decide +kernel)))
theorem nse_d1 {args : Array Value} {s : State} (h : ∀ w ∈ TB, w.before args s = true) : (Cond.declares ({ cls := "java/lang/Exception", name := "<init>", desc := "(Ljava/lang/String;)V" } : MethodName)).before args s = true := kx_decl (bytes := prog_18_method_2_code) (ml := 2) (ret := none) (h _ (tb_5 (i := 159) (by decide +kernel) (by decide +kernel))) (h _ (tb_5 (i := 160) (by rfl) (by decide +kernel)))
theorem nse_d2 {args : Array Value} {s : State} (h : ∀ w ∈ TB, w.before args s = true) : (Cond.declares ({ cls := "java/lang/Throwable", name := "<init>", desc := "(Ljava/lang/String;)V" } : MethodName)).before args s = true := kx_decl (bytes := prog_26_method_2_code) (ml := 2) (ret := none) (h _ (tb_5 (i := 162) (by decide +kernel) (by decide +kernel))) (h _ (tb_5 (i := 163) (by rfl) (by decide +kernel)))
theorem nse_x : ∀ w ∈ (kx_at RX11 147 "java/util/NoSuchElementException" 13 rxN ["java/lang/RuntimeException", "java/lang/Exception"]).filter goodWord, w ∈ lw_tbl := by decide +kernel
theorem nse_a : ∀ w ∈ (kx_at RX11 147 "java/util/NoSuchElementException" 13 rxN ["java/lang/RuntimeException", "java/lang/Exception"]).filter goodWord, w ∈ TB := fun w h => tb_of (nse_x w h) (List.mem_filter.mp h).2
theorem nse_b : ∀ w ∈ (kx_at RX11 147 "java/util/NoSuchElementException" 13 rxN ["java/lang/RuntimeException", "java/lang/Exception"]).filter (fun w => !goodWord w), w ∈ [Cond.declares ({ cls := "java/lang/RuntimeException", name := "<init>", desc := "(Ljava/lang/String;)V" } : MethodName), Cond.declares ({ cls := "java/lang/Exception", name := "<init>", desc := "(Ljava/lang/String;)V" } : MethodName), Cond.declares ({ cls := "java/lang/Throwable", name := "<init>", desc := "(Ljava/lang/String;)V" } : MethodName), Cond.castable "java/util/NoSuchElementException" "java/util/NoSuchElementException"] := by decide +kernel
theorem nse_g : ∀ w ∈ Cond.classLink RX11 143 "java/util/NoSuchElementException" :: Cond.initialized "java/util/NoSuchElementException" :: kx_at RX11 147 "java/util/NoSuchElementException" 13 rxN ["java/lang/RuntimeException", "java/lang/Exception"], vx_ot w = true := by decide +kernel
/-- thrown: the memory is as it was -/
abbrev XCm (G : Gx) (x : Mm) : String → State → State → Prop := vx_X (S := Unit) (fun _ => True) (fun E _ t => E = "java/util/NoSuchElementException" ∧ va_P G.1 (fm_c YC) (fm_w YC G x) t.heap) (fm_A YC G)
def CnTI (y : MethodName) (b : ByteArray) (n : Nat) (fr lc : Nat) (as : Gx → List Value) (x : Mm) (post : Int → Mm → Prop) : Prop := ∀ (l : Launch), l.stackTraces = false → ∀ (G : Gx), vx_Met l y (Cond.code y b n (some .int) :: TB) { frames := fr, cells := 1, slots := 6, locals := lc } (va_Pc (as G) (fm_in YC G x)) (fm_QI YC G post) (XCm G x) 1 6 (fm_A YC G)
def CnTL (y : MethodName) (b : ByteArray) (n : Nat) (fr lc : Nat) (as : Gx → List Value) (x : Mm) (post : Int → Mm → Prop) : Prop := ∀ (l : Launch), l.stackTraces = false → ∀ (G : Gx), vx_Met l y (Cond.code y b n (some .long) :: TB) { frames := fr, cells := 1, slots := 6, locals := lc } (va_Pc (as G) (fm_in YC G x)) (fm_QL YC G post) (XCm G x) 1 6 (fm_A YC G)
def RTx (G : Gx) (C : Cx) (QQ : Array Value → State → Outcome → State → Prop) (XC : String → State → State → Prop) : Prop := match C with
  | (_, _, _, _, s, _, args, below, _, _, _, _, Q) => Q = vx_MQ below QQ XC args s 1 6 (fm_A YC G)
def NTx (C : Cx) : Prop := match C with
  | (_, l, _, R, _, _, _, _, _, c, cells, slots, _) => l.stackTraces = false ∧ (∀ x ∈ c.exceptionTable.toList, False) ∧ cells = 0 ∧ slots = 0 ∧ 1 ≤ R.cells ∧ 6 ≤ R.slots
theorem cn_TI {y : MethodName} {b : ByteArray} {n : Nat} {fr lc : Nat} {as : Gx → List Value} {x : Mm} {post : Int → Mm → Prop} (hy : plainName y.cls = true) (hlen : ∀ G, (lg_sl (as G)).length ≤ n) (body : ∀ (G : Gx) (C : Cx), OK YC G C b y.cls n (some .int) fr lc → RTx G C (fm_QI YC G post) (XCm G x) → NTx C → FW YC G C n x 0 (lv_args 0 (as G)) []) : CnTI y b n fr lc as x post := by
  intro l hst G
  refine vx_ofW (cc := b) (maxL := n) (ret := some .int) hy rfl ?_
  intro p e s m args below meth c s₁ B hml htab hv
  obtain ⟨rfl, hR, hP, hK, hD, hX, hXc⟩ := hv
  have hts := atoms_spec (ws := Cond.code y b n (some .int) :: TB) B.pre
  have h := body G (p, l, e, { frames := fr, cells := 1, slots := 6, locals := lc }, s, m, (as G).toArray, below, meth, c, 0, 0, vx_MQ below (fm_QI YC G post) (XCm G x) (as G).toArray s 1 6 (fm_A YC G)) ⟨B.exec, B.bytes, hml, findClass_of_methodNamed B.named, fun w hw => hts w (List.mem_cons_of_mem _ hw), hK, hD, B.notSynchronized, Nat.zero_le _, Nat.zero_le _, hX, hXc, B.returns, Nat.le_refl _, Nat.le_refl _⟩ rfl ⟨hst, htab, rfl, rfl, Nat.le_refl _, Nat.le_refl _⟩
  rw [lg_entry_eq]
  exact h hR s.heap [] _ hP va_S.rf (lv_entry (as G) (hlen G))
theorem cn_TL {y : MethodName} {b : ByteArray} {n : Nat} {fr lc : Nat} {as : Gx → List Value} {x : Mm} {post : Int → Mm → Prop} (hy : plainName y.cls = true) (hlen : ∀ G, (lg_sl (as G)).length ≤ n) (body : ∀ (G : Gx) (C : Cx), OK YC G C b y.cls n (some .long) fr lc → RTx G C (fm_QL YC G post) (XCm G x) → NTx C → FW YC G C n x 0 (lv_args 0 (as G)) []) : CnTL y b n fr lc as x post := by
  intro l hst G
  refine vx_ofW (cc := b) (maxL := n) (ret := some .long) hy rfl ?_
  intro p e s m args below meth c s₁ B hml htab hv
  obtain ⟨rfl, hR, hP, hK, hD, hX, hXc⟩ := hv
  have hts := atoms_spec (ws := Cond.code y b n (some .long) :: TB) B.pre
  have h := body G (p, l, e, { frames := fr, cells := 1, slots := 6, locals := lc }, s, m, (as G).toArray, below, meth, c, 0, 0, vx_MQ below (fm_QL YC G post) (XCm G x) (as G).toArray s 1 6 (fm_A YC G)) ⟨B.exec, B.bytes, hml, findClass_of_methodNamed B.named, fun w hw => hts w (List.mem_cons_of_mem _ hw), hK, hD, B.notSynchronized, Nat.zero_le _, Nat.zero_le _, hX, hXc, B.returns, Nat.le_refl _, Nat.le_refl _⟩ rfl ⟨hst, htab, rfl, rfl, Nat.le_refl _, Nat.le_refl _⟩
  rw [lg_entry_eq]
  exact h hR s.heap [] _ hP va_S.rf (lv_entry (as G) (hlen G))
section FTH
variable {G : Gx} {C : Cx} {cc : ByteArray} {own : String} {nL : Nat} {ret : Option FieldType} {fr lc : Nat} {x : Mm} {pc : Nat} {L : List (Nat × Value)} {st : List Value}
theorem fr_ixret (h : OK YC G C cc own nL (some .int) fr lc) {z : Int} {post : Int → Mm → Prop} {XC : String → State → State → Prop} (hq : RTx G C (fm_QI YC G post) XC) (hn : NTx C) (hz : fm_r z) (hp : post z x) (hd : decode cc pc = .ok (.ireturn, 1)) : FW YC G C nL x pc L [vi z] := by
  obtain ⟨p, l, e, R, s, m, args, below, meth, c, cells, slots, Q⟩ := C
  obtain ⟨hx, hb, hml, hown, hts, hK, hD, hlocks, hcl, hsl, hX, hXc, hret, hfr, hlc⟩ := h
  intro hR H locs ls hP hS hl
  have hq : Q = _ := hq
  subst hq
  obtain ⟨_, _, hc0, hs0, _, _⟩ : l.stackTraces = false ∧ (∀ x ∈ c.exceptionTable.toList, False) ∧ cells = 0 ∧ slots = 0 ∧ 1 ≤ R.cells ∧ 6 ≤ R.slots := hn
  refine vx_ret ?_
  refine W.widen (k := 1) (n := 6) (by omega) (by omega) ?_
  exact W.iret (v := iI z) hx hb hret (fun t ht hW => ⟨⟨iI z, (z, x), rfl, ⟨rfl, hz, hp, hR⟩, by show va_P _ _ _ t.heap; rw [ht]; exact hP⟩, hS.F ht⟩) hS.2.2 hd
theorem fr_lxret (h : OK YC G C cc own nL (some .long) fr lc) {z : Int} {post : Int → Mm → Prop} {XC : String → State → State → Prop} (hq : RTx G C (fm_QL YC G post) XC) (hn : NTx C) (hz : fm_l z) (hp : post z x) (hd : decode cc pc = .ok (.lreturn, 1)) : FW YC G C nL x pc L [vj z] := by
  obtain ⟨p, l, e, R, s, m, args, below, meth, c, cells, slots, Q⟩ := C
  obtain ⟨hx, hb, hml, hown, hts, hK, hD, hlocks, hcl, hsl, hX, hXc, hret, hfr, hlc⟩ := h
  intro hR H locs ls hP hS hl
  have hq : Q = _ := hq
  subst hq
  obtain ⟨_, _, hc0, hs0, _, _⟩ : l.stackTraces = false ∧ (∀ x ∈ c.exceptionTable.toList, False) ∧ cells = 0 ∧ slots = 0 ∧ 1 ≤ R.cells ∧ 6 ≤ R.slots := hn
  refine vx_ret ?_
  refine W.widen (k := 1) (n := 6) (by omega) (by omega) ?_
  exact W.lret (v := lI z) hx hb hret (fun t ht hW => ⟨⟨lI z, (z, x), rfl, ⟨rfl, hz, hp, hR⟩, by show va_P _ _ _ t.heap; rw [ht]; exact hP⟩, hS.F ht⟩) hS.2.2 hd

theorem fr_throwS (h : OK YC G C cc RX11 nL ret fr lc) {QQ : Array Value → State → Outcome → State → Prop} {i is : Nat} {tx : String} (hq : RTx G C QQ (XCm G x)) (hn : NTx C) (hi : i < 10) (hz : zs_l[i]? = some (RX11, is, tx)) (hf : 6 ≤ fr) (hlo : 90 ≤ lc) (hsum : (st.map fun v => v.category).sum ≤ 8) (d0 : decode cc pc = .ok (.new 143, 3)) (d3 : decode cc (pc + 3) = .ok (.dup, 1)) (d4 : decode cc (pc + 4) = .ok (.ldc is, 2)) (d6 : decode cc (pc + 6) = .ok (.invokespecial 147, 3)) (d9 : decode cc (pc + 9) = .ok (.athrow, 1)) : FW YC G C nL x pc L st := by
  obtain ⟨p, l, e, R, s, m, args, below, meth, c, cells, slots, Q⟩ := C
  obtain ⟨hx, hb, hml, hown, hts, hK, hD, hlocks, hcl, hsl, hX, hXc, hret, hfr, hlc⟩ := h
  intro hR H locs ls hP hS hl
  have hq : Q = _ := hq
  subst hq
  obtain ⟨hst, htab, hc0, hs0, hc1, hs1⟩ : l.stackTraces = false ∧ (∀ x ∈ c.exceptionTable.toList, False) ∧ cells = 0 ∧ slots = 0 ∧ 1 ≤ R.cells ∧ 6 ≤ R.slots := hn
  have hX : ZC G (fm_A YC G) s := hX
  have hzs := hX.2.2.2.2.1
  exact kx_throwS (names := ["java/lang/RuntimeException", "java/lang/Exception"]) hx hb hst rxN_0 rxN_1 rxN_2 rxN_5 hown (by decide) (by decide) (hts _ nse_c) (hts _ nse_i) (hzs.2.1 i hi _ hz) (vx_hat (fun w hw => hts _ (nse_a w hw)) nse_b (vx_c (nse_d0 hts) (vx_c (nse_d1 hts) (vx_c (nse_d2 hts) (vx_c (va_Nw.use rfl hzs.2.2.2.2.2) vx_n))))) nse_g hzs.2.2.2.1 hzs.2.2.2.2.1 hS (hl.1.trans hml.symm) d0 d3 d4 d6 d9 (fun x hx => (htab x hx).elim) (by show 2 + 3 < R.frames; omega) (by show _ + (13 * (2 + 1) + 43) ≤ R.locals; omega) (by omega) (by omega) hlocks (fun t _ hsz hk => ⟨(), trivial, ⟨rfl, hP.kept (fun k q hq => hk _ (hP k q hq).lt)⟩, Nat.le_trans hS.1 hsz, fun q h1 h2 => (hk q (Nat.lt_of_lt_of_le h1 hS.1)).trans (hS.2.1 q h1 h2)⟩) hS.2.2 (by omega) (by omega)
theorem fr_throwSW (h : OK YC G C cc RX11 nL ret fr lc) {QQ : Array Value → State → Outcome → State → Prop} {i is : Nat} {tx : String} (hq : RTx G C QQ (XCm G x)) (hn : NTx C) (hi : i < 10) (hz : zs_l[i]? = some (RX11, is, tx)) (hf : 6 ≤ fr) (hlo : 90 ≤ lc) (hsum : (st.map fun v => v.category).sum ≤ 8) (d0 : decode cc pc = .ok (.new 143, 3)) (d3 : decode cc (pc + 3) = .ok (.dup, 1)) (d4 : decode cc (pc + 4) = .ok (.ldc_w is, 3)) (d6 : decode cc (pc + 7) = .ok (.invokespecial 147, 3)) (d9 : decode cc (pc + 10) = .ok (.athrow, 1)) : FW YC G C nL x pc L st := by
  obtain ⟨p, l, e, R, s, m, args, below, meth, c, cells, slots, Q⟩ := C
  obtain ⟨hx, hb, hml, hown, hts, hK, hD, hlocks, hcl, hsl, hX, hXc, hret, hfr, hlc⟩ := h
  intro hR H locs ls hP hS hl
  have hq : Q = _ := hq
  subst hq
  obtain ⟨hst, htab, hc0, hs0, hc1, hs1⟩ : l.stackTraces = false ∧ (∀ x ∈ c.exceptionTable.toList, False) ∧ cells = 0 ∧ slots = 0 ∧ 1 ≤ R.cells ∧ 6 ≤ R.slots := hn
  have hX : ZC G (fm_A YC G) s := hX
  have hzs := hX.2.2.2.2.1
  exact kx_throwSW (names := ["java/lang/RuntimeException", "java/lang/Exception"]) hx hb hst rxN_0 rxN_1 rxN_2 rxN_5 hown (by decide) (by decide) (hts _ nse_c) (hts _ nse_i) (hzs.2.1 i hi _ hz) (vx_hat (fun w hw => hts _ (nse_a w hw)) nse_b (vx_c (nse_d0 hts) (vx_c (nse_d1 hts) (vx_c (nse_d2 hts) (vx_c (va_Nw.use rfl hzs.2.2.2.2.2) vx_n))))) nse_g hzs.2.2.2.1 hzs.2.2.2.2.1 hS (hl.1.trans hml.symm) d0 d3 d4 d6 d9 (fun x hx => (htab x hx).elim) (by show 2 + 3 < R.frames; omega) (by show _ + (13 * (2 + 1) + 43) ≤ R.locals; omega) (by omega) (by omega) hlocks (fun t _ hsz hk => ⟨(), trivial, ⟨rfl, hP.kept (fun k q hq => hk _ (hP k q hq).lt)⟩, Nat.le_trans hS.1 hsz, fun q h1 h2 => (hk q (Nat.lt_of_lt_of_le h1 hS.1)).trans (hS.2.1 q h1 h2)⟩) hS.2.2 (by omega) (by omega)
end FTH
set_option maxHeartbeats 200000 in
theorem c_X11_number (x : Mm) (p : Int) (w : Int) (h_p : fm_r p) (h_w : fm_r w) : CnTI yX11_number cX11_number 4 6 90 (fun G => [vr G 0, vi p, vi w]) x (fun z y' => (y' = x)) := by
  refine cn_TI (by decide) (fun _ => Nat.le_of_ble_eq_true rfl) (fun G C h hq hn => ?_)
  have h : OK YC G C cX11_number RX11 4 (some .int) 6 90 := h
  show FW YC G C 4 x 0 [(0, vr G 0), (1, vi p), (2, vi w)] []
  refine fr_aload_n h rfl 0 rfl dX11_number_0 ?_
  refine fr_getc (z := 3) (iz := 1) h kX11 fX11_19 at_0 rfl rfl rf_0_1 (by omega) dX11_number_1 ?_
  refine fr_iload_n h rfl 1 rfl dX11_number_4 ?_
  refine fr_iload_n h rfl 2 rfl dX11_number_5 ?_
  refine fr_cvI h kX8 (St_at St_3) wX8_numberAt lX11_139 (c_X8_numberAt x 3 St_3 p w (by omega) (by omega)) rfl (by decide) (by decide) rfl (Nat.le_of_ble_eq_true rfl) dX11_number_6 (fun z2 x1 w3 p4 => ?_)
  obtain ⟨p5, p6, p7, y8⟩ := p4
  rw [y8]
  clear y8
  refine fr_istore_n (L' := [(0, vr G 0), (1, vi p), (2, vi w), (3, vi z2)]) h rfl dX11_number_9 (by decide) [1, 2, 3, 0] rfl ?_
  refine fr_iload_n h rfl 3 rfl dX11_number_10 ?_
  refine fr_if_ge (tgt := 24) h dX11_number_11 (by decide) (by omega) (fun c9 => ?_) (fun c9 => ?_)
  ·
    refine fr_iload_n h rfl 3 rfl dX11_number_24 ?_
    exact fr_ixret h hq hn (by omega) rfl dX11_number_25
  ·
    exact fr_throwS (i := 7) h hq hn (by decide) rfl (by decide) (by decide) (Nat.le_of_ble_eq_true rfl) dX11_number_14 dX11_number_17 dX11_number_18 dX11_number_20 dX11_number_23
set_option maxHeartbeats 200000 in
theorem c_X11_edge (x : Mm) (p : Int) (w : Int) (h_p : fm_r p) (h_w : fm_r w) : CnTI yX11_edge cX11_edge 6 6 90 (fun G => [vr G 0, vi p, vi w]) x (fun z y' => (y' = x)) := by
  refine cn_TI (by decide) (fun _ => Nat.le_of_ble_eq_true rfl) (fun G C h hq hn => ?_)
  have h : OK YC G C cX11_edge RX11 6 (some .int) 6 90 := h
  show FW YC G C 6 x 0 [(0, vr G 0), (1, vi p), (2, vi w)] []
  refine fr_aload_n h rfl 0 rfl dX11_edge_0 ?_
  refine fr_getc (z := 3) (iz := 1) h kX11 fX11_19 at_0 rfl rfl rf_0_1 (by omega) dX11_edge_1 ?_
  refine fr_iload_n h rfl 1 rfl dX11_edge_4 ?_
  refine fr_cvI h kX8 (St_at St_3) wX8_pairOfEdge lX11_150 (c_X8_pairOfEdge x 3 St_3 p (by omega)) rfl (by decide) (by decide) rfl (Nat.le_of_ble_eq_true rfl) dX11_edge_5 (fun z2 x1 w3 p4 => ?_)
  obtain ⟨p5, p6, y7⟩ := p4
  rw [y7]
  clear y7
  refine fr_istore_n (L' := [(0, vr G 0), (1, vi p), (2, vi w), (3, vi z2)]) h rfl dX11_edge_8 (by decide) [1, 2, 3, 0] rfl ?_
  refine fr_iload_n h rfl 3 rfl dX11_edge_9 ?_
  refine fr_if_lt (tgt := 22) h dX11_edge_10 (by decide) (by omega) (fun c8 => ?_) (fun c8 => ?_)
  ·
    exact fr_throwS (i := 8) h hq hn (by decide) rfl (by decide) (by decide) (Nat.le_of_ble_eq_true rfl) dX11_edge_22 dX11_edge_25 dX11_edge_26 dX11_edge_28 dX11_edge_31
  ·
    refine fr_iload_n h rfl 2 rfl dX11_edge_13 ?_
    refine fr_if_lt (tgt := 22) h dX11_edge_14 (by decide) (by omega) (fun c9 => ?_) (fun c9 => ?_)
    ·
      exact fr_throwS (i := 8) h hq hn (by decide) rfl (by decide) (by decide) (Nat.le_of_ble_eq_true rfl) dX11_edge_22 dX11_edge_25 dX11_edge_26 dX11_edge_28 dX11_edge_31
    ·
      refine fr_iload_n h rfl 2 rfl dX11_edge_17 ?_
      refine fr_iconst h dX11_edge_18 ?_
      refine fr_icmp_le (tgt := 32) h dX11_edge_19 (by decide) (by omega) (by omega) (fun c10 => ?_) (fun c10 => ?_)
      ·
        refine fr_iload_n h rfl 3 rfl dX11_edge_32 ?_
        refine fr_bipush h rfl dX11_edge_33 ?_
        refine fr_idiv h (by omega) (by omega) (by omega) dX11_edge_35 (fun z11 w12 q13 w14 => ?_)
        have w15 := w14
        refine fr_istore (L' := [(0, vr G 0), (1, vi p), (2, vi w), (3, vi z2), (4, vi z11)]) h dX11_edge_36 (by decide) [1, 2, 3, 4, 0] rfl ?_
        refine fr_iload_n h rfl 3 rfl dX11_edge_38 ?_
        refine fr_bipush h rfl dX11_edge_39 ?_
        refine fr_irem h (by omega) (by omega) (by omega) dX11_edge_41 (fun z16 w17 q18 w19 => ?_)
        have w20 := w19
        refine fr_istore (L' := [(0, vr G 0), (1, vi p), (2, vi w), (3, vi z2), (4, vi z11), (5, vi z16)]) h dX11_edge_42 (by decide) [1, 2, 3, 4, 5, 0] rfl ?_
        refine fr_iload_n h rfl 2 rfl dX11_edge_44 ?_
        refine fr_iconst h dX11_edge_45 ?_
        refine fr_icmp_ne (tgt := 61) h dX11_edge_46 (by decide) (by omega) (by omega) (fun c21 => ?_) (fun c21 => ?_)
        ·
          refine fr_iload_n h rfl 2 rfl dX11_edge_61 ?_
          refine fr_if_ne (tgt := 70) h dX11_edge_62 (by decide) (by omega) (fun c22 => ?_) (fun c22 => ?_)
          ·
            refine fr_iload h 5 rfl dX11_edge_70 ?_
            exact fr_ixret h hq hn (by omega) rfl dX11_edge_72
          ·
            refine fr_iload h 4 rfl dX11_edge_65 ?_
            refine fr_goto (tgt := 72) h dX11_edge_67 (by decide) ?_
            exact fr_ixret h hq hn (by omega) rfl dX11_edge_72
        ·
          refine fr_aload_n h rfl 0 rfl dX11_edge_49 ?_
          refine fr_getc (z := 3) (iz := 1) h kX11 fX11_19 at_0 rfl rfl rf_0_1 (by omega) dX11_edge_50 ?_
          refine fr_iload h 4 rfl dX11_edge_53 ?_
          refine fr_iload h 5 rfl dX11_edge_55 ?_
          refine fr_cvI h kX8 (St_at St_3) wX8_weight lX11_155 (c_X8_weight x 3 St_3 z11 z16 (by omega) (by omega)) rfl (by decide) (by decide) rfl (Nat.le_of_ble_eq_true rfl) dX11_edge_57 (fun z24 x23 w25 p26 => ?_)
          obtain ⟨p27, p28, y29⟩ := p26
          rw [y29]
          clear y29
          exact fr_ixret h hq hn (by omega) rfl dX11_edge_60
      ·
        exact fr_throwS (i := 8) h hq hn (by decide) rfl (by decide) (by decide) (Nat.le_of_ble_eq_true rfl) dX11_edge_22 dX11_edge_25 dX11_edge_26 dX11_edge_28 dX11_edge_31
set_option maxHeartbeats 200000 in
theorem c_X11_row (x : Mm) (p : Int) (h_p : fm_r p) : CnTL yX11_row cX11_row 2 6 90 (fun G => [vr G 0, vi p]) x (fun z y' => (y' = x)) := by
  refine cn_TL (by decide) (fun _ => Nat.le_of_ble_eq_true rfl) (fun G C h hq hn => ?_)
  have h : OK YC G C cX11_row RX11 2 (some .long) 6 90 := h
  show FW YC G C 2 x 0 [(0, vr G 0), (1, vi p)] []
  refine fr_iload_n h rfl 1 rfl dX11_row_0 ?_
  refine fr_if_lt (tgt := 15) h dX11_row_1 (by decide) (by omega) (fun c1 => ?_) (fun c1 => ?_)
  ·
    exact fr_throwSW (i := 9) h hq hn (by decide) rfl (by decide) (by decide) (Nat.le_of_ble_eq_true rfl) dX11_row_15 dX11_row_18 dX11_row_19 dX11_row_22 dX11_row_25
  ·
    refine fr_iload_n h rfl 1 rfl dX11_row_4 ?_
    refine fr_aload_n h rfl 0 rfl dX11_row_5 ?_
    refine fr_getc (z := 107) (iz := 11) h kX11 fX11_77 at_0 rfl rfl rf_0_11 (by omega) dX11_row_6 ?_
    refine fr_cvI h kX10 at_107 wX10_size lX11_354 (c_X10_size x) rfl (by decide) (by decide) rfl (Nat.le_of_ble_eq_true rfl) dX11_row_9 (fun z3 x2 w4 p5 => ?_)
    obtain ⟨p6, p7, p8, y9⟩ := p5
    rw [y9]
    clear y9
    refine fr_icmp_lt (tgt := 26) h dX11_row_12 (by decide) (by omega) (by omega) (fun c10 => ?_) (fun c10 => ?_)
    ·
      refine fr_aload_n h rfl 0 rfl dX11_row_26 ?_
      refine fr_getc (z := 107) (iz := 11) h kX11 fX11_77 at_0 rfl rfl rf_0_11 (by omega) dX11_row_27 ?_
      refine fr_iload_n h rfl 1 rfl dX11_row_30 ?_
      refine fr_cvL h kX10 at_107 wX10_at lX11_360 (c_X10_at x p (by omega)) rfl (by decide) (by decide) rfl (Nat.le_of_ble_eq_true rfl) dX11_row_31 (fun z12 x11 w13 p14 => ?_)
      have y15 := p14
      rw [y15]
      clear y15
      exact fr_lxret h hq hn (by omega) rfl dX11_row_34
    ·
      exact fr_throwSW (i := 9) h hq hn (by decide) rfl (by decide) (by decide) (Nat.le_of_ble_eq_true rfl) dX11_row_15 dX11_row_18 dX11_row_19 dX11_row_22 dX11_row_25
