theorem toFm {Y : Ly} {D : va_G} {dT : Nat → ClassId} {a : Int → Nat} {cl : List vw_C} {ws : va_W} {x : Mm} (PL : List Nat) (hall : ∀ k : Nat, k < Y.1 → ∃ e : va_E, ws[(PL[k]?).getD 0]? = some (a ((k : Nat) : Int), e) ∧ ∀ H : Heap, va_at D cl (a ((k : Nat) : Int), e) H → va_at D cl (a ((k : Nat) : Int), fm_e (D, dT, a) (Y.2.1 ((k : Nat) : Int)) (x ((k : Nat) : Int))) H) {H : Heap} (hP : va_P D cl ws H) : va_P D cl (fm_w Y (D, dT, a) x) H := by
  intro k q hq
  have hl : k < Y.1 := by
    have := (List.getElem?_eq_some_iff.mp hq).1
    rwa [fm_w_len] at this
  rw [fm_w_get hl] at hq
  cases hq
  obtain ⟨e, h1, h2⟩ := hall k hl
  exact h2 H (hP _ _ h1)
theorem toFmD {Y : Ly} {D : va_G} {dT : Nat → ClassId} {a : Int → Nat} {cl : List vw_C} {ws : va_W} {x : Mm} {A : Nat → Prop} (PL : List Nat) (hn : ∀ i : Nat, i < Y.1 → ∀ j : Nat, j < Y.1 → (PL[i]?).getD 0 = (PL[j]?).getD 0 → i = j) (hall : ∀ k : Nat, k < Y.1 → ∃ e : va_E, ws[(PL[k]?).getD 0]? = some (a ((k : Nat) : Int), e) ∧ ∀ H : Heap, va_at D cl (a ((k : Nat) : Int), e) H → va_at D cl (a ((k : Nat) : Int), fm_e (D, dT, a) (Y.2.1 ((k : Nat) : Int)) (x ((k : Nat) : Int))) H) (hD : va_D A ws) : (∀ y, va_D (fm_A Y (D, dT, a)) (fm_w Y (D, dT, a) y)) ∧ ∀ q, fm_A Y (D, dT, a) q → A q := by
  refine ⟨fun y => ⟨fun i j p q hi hj hpq => ?_, fun k q hk => fm_wA hk⟩, fun q hq => ?_⟩
  · have li : i < Y.1 := by
      have := (List.getElem?_eq_some_iff.mp hi).1
      rwa [fm_w_len] at this
    have lj : j < Y.1 := by
      have := (List.getElem?_eq_some_iff.mp hj).1
      rwa [fm_w_len] at this
    rw [fm_w_get li] at hi
    rw [fm_w_get lj] at hj
    cases hi
    cases hj
    obtain ⟨e1, h1, _⟩ := hall i li
    obtain ⟨e2, h2, _⟩ := hall j lj
    exact hn i li j lj (hD.1 _ _ _ _ h1 h2 hpq)
  · obtain ⟨k, hk, rfl⟩ := hq
    obtain ⟨e1, h1, _⟩ := hall k hk
    exact hD.2 _ _ h1
theorem va_Z_we {C n d : String} {v : Value} {A B : Nat → Prop} {U : State} {H : Heap} (hw : ∀ q, B q → A q) (h : va_Z C n d v A U H) : va_Z C n d v B U H := by
  obtain ⟨cf, kf, fi, f, a, cell, h1, h2, h3, h4, h5, h6, h7, h8⟩ := h
  exact ⟨cf, kf, fi, f, a, cell, h1, h2, h3, h4, h5, h6, h7, fun q => h8 (hw _ q)⟩
theorem va_T_we {ty : FieldType} {t N : Nat} {f : Nat → Value} {A B : Nat → Prop} {U : State} {H : Heap} (hw : ∀ q, B q → A q) (h : va_T ty t N f A U H) : va_T ty t N f B U H := by
  obtain ⟨cell, h1, h2, h3, h4, h5, h6, h7⟩ := h
  exact ⟨cell, h1, h2, h3, h4, h5, h6, fun q => h7 (hw _ q)⟩
theorem va_Zq_we {C n d : String} {A B : Nat → Prop} {U : State} {H : Heap} (hw : ∀ q, B q → A q) (h : va_Zq C n d A U H) : va_Zq C n d B U H := by
  rcases h with h | ⟨t, h⟩
  · exact Or.inl (va_Z_we hw h)
  · exact Or.inr ⟨t, va_Z_we hw h⟩
theorem vx_Zq_we {C n d : String} {A B : Nat → Prop} {U : State} {H : Heap} (hw : ∀ q, B q → A q) (h : vx_Zq C n d A U H) : vx_Zq C n d B U H := by
  obtain ⟨h0, c, k, i, f, a, cell, h1, h2, h3, h4, h5, h6, h7, h8, h9, h10⟩ := h
  exact ⟨va_Zq_we hw h0, c, k, i, f, a, cell, h1, h2, h3, h4, h5, h6, h7, h8, h9, fun q => h10 (hw _ q)⟩
theorem vk_S_we {N : Nat} {len : List Nat} {byt : List (List Int32)} {adK adV : Nat → Nat} {A B : Nat → Prop} {U : State} {H : Heap} (hw : ∀ q, B q → A q) (h : vk_S N len byt adK adV A U H) : vk_S N len byt adK adV B U H := by
  refine ⟨fun i hi => ?_, h.2⟩
  obtain ⟨⟨c1, a1, a2, a3, a4⟩, ⟨cf, k, j, f, c2, b1, b2, b3, b4, b5, b6⟩, ⟨cf2, k2, j2, f2, c3, d1, d2, d3, d4, d5, d6⟩, h4⟩ := h.1 i hi
  exact ⟨⟨c1, a1, a2, a3, fun q => a4 (hw _ q)⟩, ⟨cf, k, j, f, c2, b1, b2, b3, b4, b5, fun q => b6 (hw _ q)⟩, ⟨cf2, k2, j2, f2, c3, d1, d2, d3, d4, d5, fun q => d6 (hw _ q)⟩, va_T_we hw h4⟩
theorem ZC_we {G : Gx} {A B : Nat → Prop} {U : State} (hw : ∀ q, B q → A q) (h : ZC G A U) : ZC G B U := by
  obtain ⟨⟨t0, z0, z1⟩, ⟨t1, z2, z3⟩, ⟨t2, z4, z5⟩, z6, ⟨s1, s2, s3, s4, s5, s6⟩, z7, z8⟩ := h
  exact ⟨⟨t0, va_Z_we hw z0, va_T_we hw z1⟩, ⟨t1, va_Z_we hw z2, va_T_we hw z3⟩, ⟨t2, va_Z_we hw z4, va_T_we hw z5⟩, va_Z_we hw z6, ⟨vk_S_we hw s1, s2, va_Zq_we hw s3, vx_Zq_we hw s4, vx_Zq_we hw s5, s6⟩, z7, z8⟩
theorem st_nA {h0 sz n a : Nat} {e : va_E} (h1 : n ≤ h0) (h2 : n ≤ sz) (ha : a < n) : ¬ va_A [(h0, e)] sz a := by
  intro hz
  rcases hz with ⟨k, e9, hk⟩ | hz
  · cases k with
    | zero =>
      have h9 := congrArg Prod.fst (Option.some.inj hk)
      have h9 : h0 = a := h9
      omega
    | succ k => cases hk
  · omega
theorem KPz_blind {G : Gx} {h0 sz ci : Nat} {fs : List Value} : FrameBlind (va_Pc [.ref h0] (fun U => KP YC_cl G h0 sz ci fs U ∧ zf_0 (va_A [(h0, .inr (ci, fs))] sz) U)) := fun a U g mk q => ⟨q.1, (KP_blind a U g mk ⟨q.1, q.2.1⟩).2, zf_0_c (s := U) (U := U.calling g mk a) (State.WarmedH.refl U) (fun _ _ _ => rfl) q.2.2⟩
theorem adC_K {h : Nat} {u : Nat → Nat} {o : Nat} {aK aV : Nat → Nat} (i : Nat) (hi : i < 100) : adC h u o aK aV (200 + (i : Int)) = aK i := by
  unfold adC
  rw [if_neg (by omega), if_pos (by omega), show (200 + (i : Int) - 200).toNat = i by omega]
theorem adC_V {h : Nat} {u : Nat → Nat} {o : Nat} {aK aV : Nat → Nat} (i : Nat) : adC h u o aK aV (300 + (i : Int)) = aV i := by
  unfold adC
  rw [if_neg (by omega), if_neg (by omega), show (300 + (i : Int) - 300).toNat = i by omega]
theorem PLC_n : ∀ i : Nat, i < 121 → ∀ j : Nat, j < 121 → (PLC[i]?).getD 0 = (PLC[j]?).getD 0 → i = j := by decide +kernel
theorem PLM_n : ∀ i : Nat, i < 28 → ∀ j : Nat, j < 28 → (PLM[i]?).getD 0 = (PLM[j]?).getD 0 → i = j := by decide +kernel
theorem FRC_0 : FRC x0C := ⟨fun _ _ _ => rfl, fun _ _ _ => rfl, fun _ _ _ => rfl, fun k a b => by rcases (show k = 0 ∨ k = 1 ∨ k = 2 ∨ k = 3 ∨ k = 4 by omega) with rfl | rfl | rfl | rfl | rfl <;> rfl, fun k a b => by rcases (show k = 0 ∨ k = 1 ∨ k = 2 ∨ k = 3 ∨ k = 4 by omega) with rfl | rfl | rfl | rfl | rfl <;> rfl, rfl, rfl, rfl, rfl, rfl, rfl, rfl, rfl, rfl, rfl, rfl, rfl, fun c a b => by rcases (show c = 95 ∨ c = 96 ∨ c = 97 by omega) with rfl | rfl | rfl <;> rfl, fun _ _ _ => rfl⟩
theorem FRM_0 : FRM x0M := ⟨fun j a b => by show (if j = 104 then (1 : Int) else 0) = 0; exact if_neg (by omega), rfl, rfl, rfl, rfl, rfl, rfl, rfl, fun j a b => by rcases (show j = 0 ∨ j = 1 ∨ j = 2 by omega) with rfl | rfl | rfl <;> rfl, fun _ _ _ => rfl, rfl, rfl, rfl, rfl⟩
theorem LI_0 : LI x0C x0M ((0 : Nat) : Int) := fun _ => ⟨FRC_0, FRM_0, Or.inl ⟨rfl, rfl⟩, GI_0, by decide +kernel, rfl, rfl, rfl, fun j => rfl⟩
