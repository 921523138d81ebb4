theorem st_arr {s : State} {args : Array Value} {ty : FieldType} (h : (Cond.arrayClass ty).before args s = true) (hr : ∀ cA : ClassId, s.vm.findClass ("[" ++ ty.toString) = some cA → va_RA s cA ty) : ∃ cA : ClassId, ArrOfT s cA ty ∧ va_RA s cA ty := by
  obtain ⟨c, k, comp, h1, h2, h3⟩ := Cond.arrayClass_spec h
  exact ⟨c, fun n z => ⟨fun _ h => (by cases h), k, h2, comp, h3⟩, hr c h1⟩
theorem st_arrO {s : State} {Cn : String} (h : va_AO Cn s) : ∃ cA : ClassId, ArrOfT s cA (.object Cn) ∧ va_RA s cA (.object Cn) := by
  obtain ⟨comp, c, k, h1, _, h3, h4, h5⟩ := Cond.arrayOver_spec h
  exact ⟨c, fun n z => ⟨fun _ h => (by cases h), k, h3, comp, h4⟩, k, comp, h3, h4, h1, h5⟩
theorem st_arrA {s : State} (h : va_AOA .int s) : ∃ cA : ClassId, ArrOfT s cA (.array .int) ∧ va_RA s cA (.array .int) := by
  obtain ⟨comp, c, k, h1, _, h3, h4, h5⟩ := Jvm.Stand.arrayOver_specB h
  exact ⟨c, fun n z => ⟨fun _ h => (by cases h), k, h3, comp, h4⟩, h5⟩
theorem st_T {s : State} {args : Array Value} (hts : ∀ w ∈ TB, w.before args s = true) (hN : NWs s) : ∃ dT : Nat → ClassId, ∀ (D : va_G) (a : Int → Nat) (k : Nat) (q : ClassId × FieldType), (fm_t (D, dT, a))[k]? = some q → ArrOfT s q.1 q.2 ∧ va_RA s q.1 q.2 := by
  obtain ⟨c0, a0⟩ := st_arr (ty := .int) (hts _ ac_int) (fun _ h => h)
  obtain ⟨c1, a1⟩ := st_arr (ty := .byte) (hts _ ac_byte) (fun _ h => h)
  obtain ⟨c2, a2⟩ := st_arr (ty := .char) (hts _ ac_char) (fun _ h => h)
  obtain ⟨c3, a3⟩ := st_arr (ty := .boolean) (hts _ ac_boolean) (fun _ h => h)
  obtain ⟨c4, a4⟩ := st_arr (ty := .long) (hts _ ac_long) (fun _ h => h)
  obtain ⟨c5, a5⟩ := st_arrO hN.2.1
  obtain ⟨c6, a6⟩ := st_arrO hN.2.2.1
  obtain ⟨c7, a7⟩ := st_arrO hN.2.2.2.1
  obtain ⟨c8, a8⟩ := st_arrA hN.2.2.2.2
  refine ⟨fun k => ([c0, c1, c2, c3, c4, c5, c6, c7, c8] : List ClassId).getD k 0, fun D a k q hk => ?_⟩
  have hm := List.mem_of_getElem? hk
  simp only [fm_t, List.mem_cons, List.not_mem_nil, or_false] at hm
  rcases hm with rfl | rfl | rfl | rfl | rfl | rfl | rfl | rfl | rfl
  · exact a0
  · exact a1
  · exact a2
  · exact a3
  · exact a4
  · exact a5
  · exact a6
  · exact a7
  · exact a8
theorem st_C {s : State} {args : Array Value} (hts : ∀ w ∈ TB, w.before args s = true) : ∃ D : va_G, ∀ (c : Nat) (q : vw_C), YC_cl[c]? = some q → u_Kn s q.1 q.2.1 q.2.2 (D.1 c) (D.2 c) := by
  obtain ⟨c0, i0, k0⟩ := u_known (C := RX0) (T := TX0) (N := 1) (n := 1) hts ktX0 (hts _ (tb_1 (i := 80) (by decide +kernel) (by decide +kernel)))
  obtain ⟨c1, i1, k1⟩ := u_known (C := RX1) (T := TX1) (N := 4) (n := 4) hts ktX1 (hts _ (tb_1 (i := 148) (by decide +kernel) (by decide +kernel)))
  obtain ⟨c3, i3, k3⟩ := u_known (C := RX3) (T := TX3) (N := 4) (n := 4) hts ktX3 (hts _ (tb_1 (i := 233) (by decide +kernel) (by decide +kernel)))
  obtain ⟨c4, i4, k4⟩ := u_known (C := RX4) (T := TX4) (N := 9) (n := 9) hts ktX4 (hts _ (tb_1 (i := 111) (by decide +kernel) (by decide +kernel)))
  obtain ⟨c5, i5, k5⟩ := u_known (C := RX5) (T := TX5) (N := 3) (n := 3) hts ktX5 (hts _ (tb_1 (i := 90) (by decide +kernel) (by decide +kernel)))
  obtain ⟨c6, i6, k6⟩ := u_known (C := RX6) (T := TX6) (N := 3) (n := 3) hts ktX6 (hts _ (tb_1 (i := 213) (by decide +kernel) (by decide +kernel)))
  obtain ⟨c7, i7, k7⟩ := u_known (C := RX7) (T := TX7) (N := 8) (n := 8) hts ktX7 (hts _ (tb_1 (i := 183) (by decide +kernel) (by decide +kernel)))
  obtain ⟨c8, i8, k8⟩ := u_known (C := RX8) (T := TX8) (N := 8) (n := 8) hts ktX8 (hts _ (tb_1 (i := 48) (by decide +kernel) (by decide +kernel)))
  obtain ⟨c9, i9, k9⟩ := u_known (C := RX9) (T := TX9) (N := 2) (n := 2) hts ktX9 (hts _ (tb_1 (i := 34) (by decide +kernel) (by decide +kernel)))
  obtain ⟨c10, i10, k10⟩ := u_known (C := RX10) (T := TX10) (N := 2) (n := 2) hts ktX10 (hts _ (tb_1 (i := 169) (by decide +kernel) (by decide +kernel)))
  obtain ⟨c11, i11, k11⟩ := u_known (C := RX11) (T := TX11) (N := 16) (n := 16) hts ktX11 (hts _ (tb_1 (i := 26) (by decide +kernel) (by decide +kernel)))
  refine ⟨(fun c => ([c0, c1, c0, c3, c4, c5, c6, c7, c8, c9, c10, c11] : List ClassId).getD c 0, fun c => ([i0, i1, i0, i3, i4, i5, i6, i7, i8, i9, i10, i11] : List (Nat → Nat)).getD c (fun _ => 0)), fun c q hq => ?_⟩
  have hl : c < 12 := (List.getElem?_eq_some_iff.mp hq).1
  rcases (show c = 0 ∨ c = 1 ∨ c = 2 ∨ c = 3 ∨ c = 4 ∨ c = 5 ∨ c = 6 ∨ c = 7 ∨ c = 8 ∨ c = 9 ∨ c = 10 ∨ c = 11 by omega) with rfl | rfl | rfl | rfl | rfl | rfl | rfl | rfl | rfl | rfl | rfl | rfl
  · cases hq; exact k0
  · cases hq; exact k1
  · cases hq; exact k0
  · cases hq; exact k3
  · cases hq; exact k4
  · cases hq; exact k5
  · cases hq; exact k6
  · cases hq; exact k7
  · cases hq; exact k8
  · cases hq; exact k9
  · cases hq; exact k10
  · cases hq; exact k11
theorem st_M {s : State} {args : Array Value} (hts : ∀ w ∈ TB, w.before args s = true) : ∃ D : va_G, ∀ (c : Nat) (q : vw_C), YM_cl[c]? = some q → u_Kn s q.1 q.2.1 q.2.2 (D.1 c) (D.2 c) := by
  obtain ⟨c12, i12, k12⟩ := u_known (C := RX12) (T := TX12) (N := 42) (n := 42) hts ktX12 (hts _ (tb_5 (i := 203) (by decide +kernel) (by decide +kernel)))
  refine ⟨(fun c => ([c12] : List ClassId).getD c 0, fun c => ([i12] : List (Nat → Nat)).getD c (fun _ => 0)), fun c q hq => ?_⟩
  have hl : c < 1 := (List.getElem?_eq_some_iff.mp hq).1
  obtain rfl : c = 0 := by omega
  · cases hq; exact k12
