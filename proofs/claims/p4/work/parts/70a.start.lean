/-! THE LAW'S START: the two objects and the array -/
theorem st_mk {p : Program} {l : Launch} {e : Env} {s : State} {m : MethodId} {below : List Frame} {meth : Method} {c : Code} {b : Nat} {Q : State → Prop} (hx : p.tables.exec = Jvm.exec) (hb : c.code = code) (hml : c.maxLocals = 8) (hown : s.vm.findClass R_law = some m.cls) (hts : ∀ w ∈ TB, w.before #[Value.ref b] s = true) {cl : List vw_C} {G : Gx} (hK : va_K G.1 cl (fm_t G) s) (hNW : NWs s) {ci N ik ic n1 fr1 lc1 mc1 ms1 : Nat} {Cn : String} {T : u_T} {tyf : Nat → FieldType} {fs : List Value} {y : MethodName} {bb : ByteArray} {w : Gx → Nat → (Nat → Nat) → va_W} {PP : Nat → Nat → State → Prop}
    (hcon : ∀ h0 sz : Nat, Met l y (Cond.code y bb n1 none :: TB) { frames := fr1, cells := mc1, slots := ms1, locals := lc1 } (va_Pc [.ref h0] (PP h0 sz)) (va_Qv (S := Nat → Nat) (fun _ => True) (fun u t => va_P G.1 cl (w G h0 u) t.heap ∧ va_D (va_A [(h0, .inr (ci, fs))] sz) (w G h0 u)) (va_A [(h0, .inr (ci, fs))] sz)) mc1 ms1 (va_A [(h0, .inr (ci, fs))] sz))
    (hbl : ∀ h0 sz : Nat, FrameBlind (va_Pc [.ref h0] (PP h0 sz))) {H : Heap} {locs : List Loc} (hS0 : va_S (fun q => s.heap.size ≤ q) s.heap H locs)
    (hPP : ∀ (h0 sz : Nat) (U : State), KP cl G h0 sz ci fs U → s.WarmedH U.vm → s.heap.size ≤ h0 → s.heap.size ≤ sz → (∀ q : Nat, q < s.heap.size → U.heap[q]? = s.heap[q]?) → PP h0 sz U)
    (hc : cl[ci]? = some (Cn, T, N)) (hcw : ∀ w ∈ u_ws Cn T N, w ∈ TB) (hty : ∀ k, k < N → parseFieldDescriptor (T k).2.2.1 = some (tyf k)) (hcl : Cond.classLink R_law ik Cn ∈ TB) (hinst : Cond.instantiable Cn N ∈ TB) (hini : Cond.initialized Cn ∈ TB) (hfs : ∀ j, j < N → defaultValue (tyf j) = vp_V fs j) (hy : y.cls = Cn) (hyn : y.name = "<init>") (hyp : y.cls ≠ "java/lang/invoke/MethodHandle" ∧ y.cls ≠ "java/lang/invoke/VarHandle" ∧ (parseMethodDescriptor y.desc).map (fun d => d.parameters.length) = some 0) (hcode : Cond.code y bb n1 none ∈ TB) (hinm : Cond.instanceMethod y ∈ TB) (hlk : Cond.methodLink R_law ic y ∈ TB)
    (hf : fr1 + 1 ≤ room_1.frames) (hlo : 19 + n1 + lc1 ≤ room_1.locals) {cells slots : Nat} (hce : cells + 1 + mc1 ≤ room_1.cells) (hsl : slots + N + ms1 ≤ room_1.slots) {ls : Array Slot} (hls : ls.size = 8) {pc : Nat} (d0 : decode code pc = .ok (.new ik, 3)) (d3 : decode code (pc + 3) = .ok (.dup, 1)) (d4 : decode code (pc + 4) = .ok (.invokespecial ic, 3))
    (kk : ∀ (q : Nat) (u : Nat → Nat) (H1 : Heap), H.size ≤ H1.size → (∀ z : Nat, z < H.size → H1[z]? = H[z]?) → va_P G.1 cl (w G q u) H1 → va_D (fun z => H.size ≤ z) (w G q u) → W p l e room_1 s m #[Value.ref b] below meth c H1 [] (cells + 1 + mc1) (slots + N + ms1) Q (F0 m (pc + 7) ls [.ref q])) : W p l e room_1 s m #[Value.ref b] below meth c H locs cells slots Q (F0 m pc ls []) := by
  refine va_forget (fun q hq => hS0.2.2 q hq) ?_
  have e0P : va_P G.1 cl [] H := fun k q hk => by simp at hk
  have e0D : va_D (fun q => H.size ≤ q) [] := ⟨fun i j p q hi _ _ => (by simp at hi), fun k q hk => (by simp at hk)⟩
  refine va_new (A := fun q => H.size ≤ q) (H0 := H) (ws := []) (ci := ci) (fs := fs) hx hb hts hcw tyf hty hown (hts _ hcl) (hts _ hinst) (hts _ hini) hK e0P e0D va_S.rf (fun q h => h) hc hfs (by omega) (by omega) d0 (fun q H1 hP1 hD1 hS1 => ?_)
  have hq : H.size ≤ q := hD1.2 0 _ rfl
  refine lv_dup hx hb d3 rfl ?_
  have hFc : ∀ z : Nat, va_A [(q, .inr (ci, fs))] H1.size z → H.size ≤ z := by
    intro z hz
    rcases hz with ⟨k, e9, hk⟩ | hz
    · cases k with
      | zero =>
        have h9 := congrArg Prod.fst (Option.some.inj hk)
        have h9 : q = z := h9
        omega
      | succ k => cases hk
    · exact Nat.le_trans hS1.1 hz
  have h01 := hS0.1
  have h11 := hS1.1
  subst hy
  refine va_callv (va_runI (As := []) (rest := [.ref q]) ⟨hx, hb, hml, hown, hts⟩ (hcon q H1.size) (cwI 0 hts (gd_c hcode) rfl rfl rfl (hts _ hini) (hts _ hlk) (hts _ hinm) hyn hyp ⟨hf, by show 8 + (n1 + 11) + lc1 ≤ room_1.locals; omega⟩) ⟨hbl q H1.size, fun U hU hW => ⟨rfl, hPP q H1.size U ⟨by rw [hU], by rw [hU]; exact hP1, va_K.moved hW.alike hK, hD1.weaken (fun _ _ _ _ => trivial), NWs.warm hW hNW⟩ hW (by omega) (by omega) (fun q9 h9 => by rw [hU]; exact (hS1.2.1 q9 (by omega) (by omega)).trans (hS0.2.1 q9 h9 (by omega)))⟩⟩ rfl rfl hls rfl (lv_room (Nat.le_of_ble_eq_true rfl)) d4 ⟨by omega, by omega⟩) hS1 (fun z _ h => hFc z h) hFc (fun u t H2 locs2 ht _ _ hB hz hk hS2 => ?_)
  obtain ⟨hP2, hD2⟩ := hB
  rw [ht] at hP2
  refine va_forget (fun z hz2 => Nat.le_trans hS0.1 (hS2.2.2 z hz2)) ?_
  exact kk q u H2 hS2.1 (fun z h1 => hS2.2.1 z h1 (by omega)) hP2 (hD2.weaken (fun _ _ _ h => hFc _ h))
