theorem st_N {s : State} {args : Array Value} (hts : ∀ w ∈ lw_tbl, w.before args s = true) : NWs s := by
  have hm : ∀ q ∈ nwl, Cond.methodLinkNest q.1 q.2.1 q.2.2 "BestWalks" ∈ lw_tbl := by decide +kernel
  exact ⟨fun q hq => va_Nw.of rfl (hts _ (hm q hq)), va_AO.of (hts (.arrayOver (.object "BestWalks$State")) (by decide +kernel)), va_AO.of (hts (.arrayOver (.object "BestWalks$Order")) (by decide +kernel)), va_AO.of (hts (.arrayOver (.object "BestWalks$Cursor")) (by decide +kernel)), va_AOA.of (hts (.arrayOver (.array .int)) (by decide +kernel))⟩
theorem st_z0 {s : State} {args : Array Value} (hts : ∀ w ∈ lw_tbl, w.before args s = true) (hg : (Jvm.Cond.and given_1 narrow_1).before args s = true) {A : Nat → Prop} (hA : ∀ a : Nat, a < s.heap.size → ¬ A a) : zf_0 A s := by
  have hs := flat_of_before _ hg
  obtain ⟨t, e, hT⟩ := va_Tof (tm := (.static "BestWalks" "MOST_OF_KIND" "[I")) (ty := .int) (N := 5) (f := fun j => vi (zt_0.getD j 0)) (A := A) (by decide) (hs _ (by decide +kernel)) (va_eqt (hs (.eq (.length (.static "BestWalks" "MOST_OF_KIND" "[I")) (.int 5)) (by decide +kernel))) (fun j hj => by
    rcases (show j = 0 ∨ j = 1 ∨ j = 2 ∨ j = 3 ∨ j = 4 by omega) with rfl | rfl | rfl | rfl | rfl
    · exact va_eqt (hs (.eq (.elem (.static "BestWalks" "MOST_OF_KIND" "[I") (.int 0)) (.int 1296)) (by decide +kernel))
    · exact va_eqt (hs (.eq (.elem (.static "BestWalks" "MOST_OF_KIND" "[I") (.int 1)) (.int 924)) (by decide +kernel))
    · exact va_eqt (hs (.eq (.elem (.static "BestWalks" "MOST_OF_KIND" "[I") (.int 2)) (.int 120)) (by decide +kernel))
    · exact va_eqt (hs (.eq (.elem (.static "BestWalks" "MOST_OF_KIND" "[I") (.int 3)) (.int 64)) (by decide +kernel))
    · exact va_eqt (hs (.eq (.elem (.static "BestWalks" "MOST_OF_KIND" "[I") (.int 4)) (.int 326)) (by decide +kernel))) hA
  exact ⟨t, va_Zof (hts (.laysStatic "BestWalks" "MOST_OF_KIND" "[I") (by decide +kernel)) (hts (.initialized "BestWalks") (by decide +kernel)) e hA, hT⟩
theorem st_z1 {s : State} {args : Array Value} (hts : ∀ w ∈ lw_tbl, w.before args s = true) (hg : (Jvm.Cond.and given_1 narrow_1).before args s = true) {A : Nat → Prop} (hA : ∀ a : Nat, a < s.heap.size → ¬ A a) : zf_1 A s := by
  have hs := flat_of_before _ hg
  obtain ⟨t, e, hT⟩ := va_Tof (tm := (.static "BestWalks" "SORT_STEPS" "[I")) (ty := .int) (N := 8) (f := fun j => vi (zt_1.getD j 0)) (A := A) (by decide) (hs _ (by decide +kernel)) (va_eqt (hs (.eq (.length (.static "BestWalks" "SORT_STEPS" "[I")) (.int 8)) (by decide +kernel))) (fun j hj => by
    rcases (show j = 0 ∨ j = 1 ∨ j = 2 ∨ j = 3 ∨ j = 4 ∨ j = 5 ∨ j = 6 ∨ j = 7 by omega) with rfl | rfl | rfl | rfl | rfl | rfl | rfl | rfl
    · exact va_eqt (hs (.eq (.elem (.static "BestWalks" "SORT_STEPS" "[I") (.int 0)) (.int 701)) (by decide +kernel))
    · exact va_eqt (hs (.eq (.elem (.static "BestWalks" "SORT_STEPS" "[I") (.int 1)) (.int 301)) (by decide +kernel))
    · exact va_eqt (hs (.eq (.elem (.static "BestWalks" "SORT_STEPS" "[I") (.int 2)) (.int 132)) (by decide +kernel))
    · exact va_eqt (hs (.eq (.elem (.static "BestWalks" "SORT_STEPS" "[I") (.int 3)) (.int 57)) (by decide +kernel))
    · exact va_eqt (hs (.eq (.elem (.static "BestWalks" "SORT_STEPS" "[I") (.int 4)) (.int 23)) (by decide +kernel))
    · exact va_eqt (hs (.eq (.elem (.static "BestWalks" "SORT_STEPS" "[I") (.int 5)) (.int 10)) (by decide +kernel))
    · exact va_eqt (hs (.eq (.elem (.static "BestWalks" "SORT_STEPS" "[I") (.int 6)) (.int 4)) (by decide +kernel))
    · exact va_eqt (hs (.eq (.elem (.static "BestWalks" "SORT_STEPS" "[I") (.int 7)) (.int 1)) (by decide +kernel))) hA
  exact ⟨t, va_Zof (hts (.laysStatic "BestWalks" "SORT_STEPS" "[I") (by decide +kernel)) (hts (.initialized "BestWalks") (by decide +kernel)) e hA, hT⟩
theorem st_z2 {s : State} {args : Array Value} (hts : ∀ w ∈ lw_tbl, w.before args s = true) (hg : (Jvm.Cond.and given_1 narrow_1).before args s = true) {A : Nat → Prop} (hA : ∀ a : Nat, a < s.heap.size → ¬ A a) : zf_2 A s := by
  have hs := flat_of_before _ hg
  obtain ⟨t, e, hT⟩ := va_Tof (tm := (.static "BestWalks" "CLUE_GREATEST" "[I")) (ty := .int) (N := 5) (f := fun j => vi (zt_2.getD j 0)) (A := A) (by decide) (hs _ (by decide +kernel)) (va_eqt (hs (.eq (.length (.static "BestWalks" "CLUE_GREATEST" "[I")) (.int 5)) (by decide +kernel))) (fun j hj => by
    rcases (show j = 0 ∨ j = 1 ∨ j = 2 ∨ j = 3 ∨ j = 4 by omega) with rfl | rfl | rfl | rfl | rfl
    · exact va_eqt (hs (.eq (.elem (.static "BestWalks" "CLUE_GREATEST" "[I") (.int 0)) (.int 30)) (by decide +kernel))
    · exact va_eqt (hs (.eq (.elem (.static "BestWalks" "CLUE_GREATEST" "[I") (.int 1)) (.int 11)) (by decide +kernel))
    · exact va_eqt (hs (.eq (.elem (.static "BestWalks" "CLUE_GREATEST" "[I") (.int 2)) (.int 11)) (by decide +kernel))
    · exact va_eqt (hs (.eq (.elem (.static "BestWalks" "CLUE_GREATEST" "[I") (.int 3)) (.int 8)) (by decide +kernel))
    · exact va_eqt (hs (.eq (.elem (.static "BestWalks" "CLUE_GREATEST" "[I") (.int 4)) (.int 11)) (by decide +kernel))) hA
  exact ⟨t, va_Zof (hts (.laysStatic "BestWalks" "CLUE_GREATEST" "[I") (by decide +kernel)) (hts (.initialized "BestWalks") (by decide +kernel)) e hA, hT⟩
