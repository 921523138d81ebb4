theorem adC_0 {h : Nat} {u : Nat → Nat} {o : Nat} {aK aV : Nat → Nat} : adC h u o aK aV 0 = h := by
  unfold adC
  rw [if_pos (by decide)]
  rfl
theorem adC_120 {h : Nat} {u : Nat → Nat} {o : Nat} {aK aV : Nat → Nat} : adC h u o aK aV 120 = o := by
  unfold adC
  rw [if_pos (by decide)]
  rfl
theorem adM_0 {h : Nat} {u : Nat → Nat} : adM h u 0 = h := rfl
set_option maxHeartbeats 1000000 in
theorem whole_start {p : Program} {e : Env} {s : State} {m : MethodId} {below : List Frame} {meth : Method} {c : Code} (l : Launch) (hflags : l.flags = flags0) {b L : Nat} {xs : Nat → Int32} (hL : L ≤ 5) (C0 : lw_At p s m meth c b L xs) : W p l e room_1 s m #[Value.ref b] below meth c s.heap [] 0 0 (lw_Z below #[Value.ref b] s) (entryFrame m ([Value.ref b] : List Value).toArray 8) := by
  obtain ⟨hx, hb, hr, hml, hown, hts0, hX, hbl, hlocks, hgv⟩ := id C0
  have hts := tb_h hts0
  have hst : l.stackTraces = false := by unfold Launch.stackTraces; rw [hflags]; decide +kernel
  have hA0 : ∀ a : Nat, a < s.heap.size → ¬ (fun q => s.heap.size ≤ q) a := fun a ha => Nat.not_le.mpr ha
  have hN := st_N hts0
  obtain ⟨dT, hT⟩ := st_T hts hN
  obtain ⟨DC, hDC⟩ := st_C hts
  obtain ⟨DM, hDM⟩ := st_M hts
  obtain ⟨aK, aV, hZ⟩ := st_ZC (A := fun q => s.heap.size ≤ q) hts0 hgv hA0
  have kC_ : ∀ a : Int → Nat, va_K DC YC_cl (fm_t (DC, dT, a)) s := fun a => ⟨hDC, hT DC a⟩
  have kM_ : ∀ a : Int → Nat, va_K DM YM_cl (fm_t (DM, dT, a)) s := fun a => ⟨hDM, hT DM a⟩
  have hl := lv_entry ([.ref b]) (n := 8) (Nat.le_of_ble_eq_true rfl)
  rw [lg_entry_eq]
  generalize (lg_sl ([.ref b]) ++ List.replicate (8 - (lg_sl ([.ref b])).length) Slot.unset).toArray = ls at hl ⊢
  have hl : lv_has ls 8 [(0, .ref b)] := hl
  refine st_mk (cl := YC_cl) (G := (DC, dT, fun _ => 0)) (ci := 11) (N := 16) (tyf := tyX11) (fs := [.null, .null, .null, .null, .null, .null, .null, .null, .null, .null, .null, .null, .null, .null, .null, vi 0]) (w := kw_11) (mc1 := 119) (ms1 := 4920) hx hb hml hown hts (kC_ _) hN (fun h0 sz => k_X11 l _ h0 sz) (fun h0 sz => KPz_blind) va_S.rf (fun h0 sz U hk hW h1 h2 hq => ⟨hk, zf_0_c hW (fun q hq1 _ => hq q hq1) (st_z0 hts0 hgv (fun a ha => st_nA h1 h2 ha))⟩) rfl ktX11 tyX11_ok (tb_1 (i := 25) (by decide +kernel) (by decide +kernel)) (tb_1 (i := 26) (by decide +kernel) (by decide +kernel)) (tb_1 (i := 1) (by decide +kernel) (by decide +kernel)) (fun j hj => by rcases (show j = 0 ∨ j = 1 ∨ j = 2 ∨ j = 3 ∨ j = 4 ∨ j = 5 ∨ j = 6 ∨ j = 7 ∨ j = 8 ∨ j = 9 ∨ j = 10 ∨ j = 11 ∨ j = 12 ∨ j = 13 ∨ j = 14 ∨ j = 15 by omega) with rfl | rfl | rfl | rfl | rfl | rfl | rfl | rfl | rfl | rfl | rfl | rfl | rfl | rfl | rfl | rfl <;> rfl) rfl rfl (by decide +kernel) (tb_1 (i := 29) (by rfl) (by decide +kernel)) (tb_1 (i := 28) (by decide +kernel) (by decide +kernel)) (tb_1 (i := 27) (by decide +kernel) (by decide +kernel)) (Nat.le_of_ble_eq_true rfl) (Nat.le_of_ble_eq_true rfl) (by show _ ≤ 600002; omega) (by show _ ≤ 7302232; omega) hl.1 dl_0 dl_3 dl_4 (fun q1 u1 H1 z1 o1 hP1 hD1 => ?_)
  refine lv_astore_n hx hb dl_7 rfl hl (by decide) rfl (fun ls1 hl1 => ?_)
  have hS1 : va_S (fun q => s.heap.size ≤ q) s.heap H1 [] := ⟨z1, fun q h1 _ => o1 q h1, fun _ h => by cases h⟩
  refine st_mk (cl := YM_cl) (G := (DM, dT, fun _ => 0)) (ci := 0) (N := 42) (tyf := tyX12) (fs := [.null, .null, vi 0, .null, vi 0, vi 0, .null, vi 0, vi 0, vi 0, vi 0, .null, .null, .null, vi 0, vi 0, .null, .null, vi 0, .null, .null, vi 0, .null, .null, .null, .null, vi 0, .null, .null, .null, .null, .null, .null, .null, .null, .null, .null, vi 0, .null, vi 0, .null, .null]) (w := kw_12) (PP := fun h0 sz => KP YM_cl (DM, dT, fun _ => 0) h0 sz 0 [.null, .null, vi 0, .null, vi 0, vi 0, .null, vi 0, vi 0, vi 0, vi 0, .null, .null, .null, vi 0, vi 0, .null, .null, vi 0, .null, .null, vi 0, .null, .null, .null, .null, vi 0, .null, .null, .null, .null, .null, .null, .null, .null, .null, .null, vi 0, .null, vi 0, .null, .null]) (mc1 := 27) (ms1 := 19053) hx hb hml hown hts (kM_ _) hN (fun h0 sz => k_X12 l _ h0 sz) (fun h0 sz => KP_blind) hS1 (fun h0 sz U hk hW h1 h2 hq => hk) rfl ktX12 tyX12_ok (tb_5 (i := 202) (by decide +kernel) (by decide +kernel)) (tb_5 (i := 203) (by decide +kernel) (by decide +kernel)) (tb_1 (i := 13) (by decide +kernel) (by decide +kernel)) (fun j hj => by rcases (show j = 0 ∨ j = 1 ∨ j = 2 ∨ j = 3 ∨ j = 4 ∨ j = 5 ∨ j = 6 ∨ j = 7 ∨ j = 8 ∨ j = 9 ∨ j = 10 ∨ j = 11 ∨ j = 12 ∨ j = 13 ∨ j = 14 ∨ j = 15 ∨ j = 16 ∨ j = 17 ∨ j = 18 ∨ j = 19 ∨ j = 20 ∨ j = 21 ∨ j = 22 ∨ j = 23 ∨ j = 24 ∨ j = 25 ∨ j = 26 ∨ j = 27 ∨ j = 28 ∨ j = 29 ∨ j = 30 ∨ j = 31 ∨ j = 32 ∨ j = 33 ∨ j = 34 ∨ j = 35 ∨ j = 36 ∨ j = 37 ∨ j = 38 ∨ j = 39 ∨ j = 40 ∨ j = 41 by omega) with rfl | rfl | rfl | rfl | rfl | rfl | rfl | rfl | rfl | rfl | rfl | rfl | rfl | rfl | rfl | rfl | rfl | rfl | rfl | rfl | rfl | rfl | rfl | rfl | rfl | rfl | rfl | rfl | rfl | rfl | rfl | rfl | rfl | rfl | rfl | rfl | rfl | rfl | rfl | rfl | rfl | rfl <;> rfl) rfl rfl (by decide +kernel) (tb_5 (i := 206) (by rfl) (by decide +kernel)) (tb_5 (i := 205) (by decide +kernel) (by decide +kernel)) (tb_5 (i := 204) (by decide +kernel) (by decide +kernel)) (Nat.le_of_ble_eq_true rfl) (Nat.le_of_ble_eq_true rfl) (by show _ ≤ 600002; omega) (by show _ ≤ 7302232; omega) hl1.1 dl_8 dl_11 dl_12 (fun q2 u2 H2 z2 o2 hP2 hD2 => ?_)
  refine lv_astore_n hx hb dl_15 rfl hl1 (by decide) rfl (fun ls2 hl2 => ?_)
  refine lv_iconst hx hb dl_16 rfl ?_
  refine va_newaK hx hb (hts _ ac_long) rfl dl_17 rfl (n := iI 1) (N := 1) (by decide) (by decide) (by decide) (by show _ ≤ 600002; omega) (by show _ ≤ 7302232; omega) (h := H2.size) rfl (fun H3 cA e3 z3 o3 hAr hNm => ?_)
  have hcA : dT 4 = cA := Option.some.inj (((hT DC (fun _ => 0) 4 _ rfl).2 : s.vm.findClass ("[" ++ FieldType.long.toString) = some (dT 4)).symm.trans hNm)
  subst hcA
  refine lv_astore_n hx hb dl_19 rfl hl2 (by decide) rfl (fun ls3 hl3 => ?_)
  refine lv_iconst hx hb dl_20 rfl ?_
  refine lv_istore hx hb dl_21 hl3 (by decide) rfl (fun ls4 hl4 => ?_)
  have b1 : ∀ (k : Nat) (q : Nat × va_E), (kw_11 (DC, dT, fun _ => 0) q1 u1)[k]? = some q → q.1 < H1.size := fun k q h => (hP1 k q h).lt
  have b2 : ∀ (k : Nat) (q : Nat × va_E), (kw_12 (DM, dT, fun _ => 0) q2 u2)[k]? = some q → q.1 < H2.size := fun k q h => (hP2 k q h).lt
  have a2 : ∀ (k : Nat) (q : Nat × va_E), (kw_12 (DM, dT, fun _ => 0) q2 u2)[k]? = some q → H1.size ≤ q.1 := hD2.2
  have hP1c : va_P DC YC_cl (kw_11 (DC, dT, fun _ => 0) q1 u1) H2 := hP1.kept (fun k q h => o2 _ (b1 k q h))
  have hDc : va_D (fun q => s.heap.size ≤ q ∧ (q < H1.size ∨ H2.size ≤ q)) (kw_11 (DC, dT, fun _ => 0) q1 u1 ++ [(H2.size, .inl (dT 4, 1, .inr (.inl (fun _ => 0))))]) := va_D.push (hD1.weaken (fun k q h h1 => ⟨h1, Or.inl (b1 k q h)⟩)) hP1c rfl ⟨Nat.le_trans z1 z2, Or.inr (Nat.le_refl _)⟩
  have hDm : va_D (fun q => H1.size ≤ q ∧ q < H2.size) (kw_12 (DM, dT, fun _ => 0) q2 u2) := hD2.weaken (fun k q h h1 => ⟨h1, b2 k q h⟩)
  have hPc : va_P DC YC_cl (kw_11 (DC, dT, fun _ => 0) q1 u1 ++ [(H2.size, .inl (dT 4, 1, .inr (.inl (fun _ => 0))))]) H3 := (hP1c.kept (fun k q h => o3 _ (Nat.lt_of_lt_of_le (b1 k q h) z2))).app (fun k q h => by
    have hz : k < 1 := (List.getElem?_eq_some_iff.mp h).1
    rw [show k = 0 by omega] at h
    cases h
    exact e3)
  have hPm : va_P DM YM_cl (kw_12 (DM, dT, fun _ => 0) q2 u2) H3 := hP2.kept (fun k q h => o3 _ (b2 k q h))
  have fP : va_P DC YC_cl (fm_w YC (DC, dT, adC q1 u1 H2.size aK aV) x0C) H3 := toFm PLC wC_all hPc
  have fD := toFmD (Y := YC) (x := x0C) (a := adC q1 u1 H2.size aK aV) PLC PLC_n wC_all hDc
  have gP : va_P DM YM_cl (fm_w YM (DM, dT, adM q2 u2) x0M) H3 := toFm PLM wM_all hPm
  have gD := toFmD (Y := YM) (x := x0M) (a := adM q2 u2) PLM PLM_n wM_all hDm
  have a0 : adC q1 u1 H2.size aK aV 0 = q1 := adC_0
  have a120 : adC q1 u1 H2.size aK aV 120 = H2.size := adC_120
  have b0 : adM q2 u2 0 = q2 := adM_0
  have eK : ∀ i : Nat, i < 100 → adC q1 u1 H2.size aK aV (200 + (i : Int)) = aK i := fun i hi => adC_K i hi
  have eV : ∀ i : Nat, adC q1 u1 H2.size aK aV (300 + (i : Int)) = aV i := fun i => adC_V i
  generalize adC q1 u1 H2.size aK aV = kC at fP fD a0 a120 eK eV
  generalize adM q2 u2 = kM at gP gD b0
  have hz1 := z1
  have hz2 := z2
  have hOK : LOK (p, l, e, s, m, below, meth, c, b, L, xs, (DC, dT, kC), (DM, dT, kM)) 5 := by
    unfold LOK
    refine ⟨hx, hb, hr, hml, hown, hts, hX, hbl, hlocks, hst, hL, kC_ kC, kM_ kM, fD.1, gD.1, fun q h => ⟨(fD.2 q h).1, fun h2 => ?_⟩, fun q h => ⟨?_, fun h2 => ?_⟩, ?_, trivial, YC_x, YM_x⟩
    · have r1 := (fD.2 q h).2
      have r2 := gD.2 q h2
      omega
    · have r2 := gD.2 q h
      show s.heap.size ≤ q
      omega
    · have r1 := (fD.2 q h2).2
      have r2 := gD.2 q h
      omega
    · exact ZC_we (A := fun q => s.heap.size ≤ q) (fun q h => (fD.2 q h).1) (hZ (DC, dT, kC) eK eV)
  have hl5 : lv_has ls4 8 [(0, .ref b), (1, .ref q1), (2, .ref q2), (3, .ref H2.size), (4, vi 0)] := lv_sub hl4 [4, 3, 2, 1, 0] rfl
  rw [← a0, ← b0, ← a120] at hl5
  have hSS : va_S (fun q => s.heap.size ≤ q) s.heap H3 [] := ⟨by omega, fun q h1 h2 => by rw [o3 q (by omega), o2 q (by omega), o1 q h1], fun _ h => by cases h⟩
  exact law_loop hOK L x0C x0M 0 0 LI_0 (by decide) rfl (by decide) (show (L : Int) - 0 ≤ (L : Int) by omega) R0_C R0_M H3 [] ls4 fP gP hSS hl5
