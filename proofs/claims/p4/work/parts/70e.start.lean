theorem st_ZC {s : State} {args : Array Value} (hts : ∀ w ∈ lw_tbl, w.before args s = true) (hg : (Jvm.Cond.and given_1 narrow_1).before args s = true) {A : Nat → Prop} (hA : ∀ a : Nat, a < s.heap.size → ¬ A a) : ∃ aK aV : Nat → Nat, ∀ G : Gx, (∀ i : Nat, i < 100 → G.2.2 (200 + (i : Int)) = aK i) → (∀ i : Nat, G.2.2 (300 + (i : Int)) = aV i) → ZC G A s := by
  have hs := flat_of_before _ hg
  obtain ⟨k, v, hS, hE⟩ := st_s hts hg hA
  obtain ⟨a7, _, _, _, q7, _⟩ := Cond.exactly_spec (args := args) (first := s) (o := none) (s := s) (idx := []) (hs (.exactly (.string "BestWalks" 145) "java/lang/String") (by decide +kernel))
  obtain ⟨a8, _, _, _, q8, _⟩ := Cond.exactly_spec (args := args) (first := s) (o := none) (s := s) (idx := []) (hs (.exactly (.string "BestWalks" 153) "java/lang/String") (by decide +kernel))
  obtain ⟨a9, _, _, _, q9, _⟩ := Cond.exactly_spec (args := args) (first := s) (o := none) (s := s) (idx := []) (hs (.exactly (.string "BestWalks" 358) "java/lang/String") (by decide +kernel))
  refine ⟨fun i => if i < 7 then k i else ([a7, a8, a9] : List Nat).getD (i - 7) 0, v, fun G e1 e2 => ?_⟩
  refine ⟨st_z0 hts hg hA, st_z1 hts hg hA, st_z2 hts hg hA, va_Zof (hts (.laysStatic "java/lang/String" "COMPACT_STRINGS" "Z") (by decide +kernel)) (hts (.initialized "java/lang/String") (by decide +kernel)) (va_eqi (hs (.eq (.static "java/lang/String" "COMPACT_STRINGS" "Z") (.int 1)) (by decide +kernel))) hA, ⟨⟨fun i hi => ?_, fun i j hi hj hij => ?_⟩, fun i hi q hq => ?_, va_Zqof (hts (.laysStatic "jdk/internal/util/Preconditions" "SIOOBE_FORMATTER" "Ljava/util/function/BiFunction;") (by decide +kernel)) (hts (.initialized "jdk/internal/util/Preconditions") (by decide +kernel)) (hs (.isRef (.static "jdk/internal/util/Preconditions" "SIOOBE_FORMATTER" "Ljava/util/function/BiFunction;")) (by decide +kernel)) hA, vx_Zqof (hts (.laysStatic Bundle.tN "UNASSIGNED_STACK" Bundle.steD) (by decide +kernel)) (hts (.initialized Bundle.tN) (by decide +kernel)) (hs (.isRef (.static Bundle.tN "UNASSIGNED_STACK" Bundle.steD)) (by decide +kernel)) hA, vx_Zqof (hts (.laysStatic Bundle.tN "SUPPRESSED_SENTINEL" Bundle.listD) (by decide +kernel)) (hts (.initialized Bundle.tN) (by decide +kernel)) (hs (.isRef (.static Bundle.tN "SUPPRESSED_SENTINEL" Bundle.listD)) (by decide +kernel)) hA, va_Nw.of rfl (hts (.castable "java/util/NoSuchElementException" "java/util/NoSuchElementException") (by decide +kernel))⟩, va_Nw.of rfl (hts (.fieldLinkNest "BestWalks$Order" 31 "BestWalks" "SORT_STEPS" "[I" "BestWalks") (by decide +kernel)), va_Nw.of rfl (hts (.fieldLinkNest "BestWalks$Clues" 27 "BestWalks" "CLUE_GREATEST" "[I" "BestWalks") (by decide +kernel))⟩
  · have h9 := hS.1 i hi
    have u1 : G.2.2 (200 + (i : Int)) = k i := (e1 i (by omega)).trans (if_pos hi)
    simp only [u1, e2 i]
    exact h9
  · have u1 : G.2.2 (200 + (i : Int)) = k i := (e1 i (by omega)).trans (if_pos hi)
    have u2 : G.2.2 (200 + (j : Int)) = k j := (e1 j (by omega)).trans (if_pos hj)
    exact hS.2 i j hi hj (u1.symm.trans (hij.trans u2))
  · rcases (show i = 0 ∨ i = 1 ∨ i = 2 ∨ i = 3 ∨ i = 4 ∨ i = 5 ∨ i = 6 ∨ i = 7 ∨ i = 8 ∨ i = 9 by omega) with rfl | rfl | rfl | rfl | rfl | rfl | rfl | rfl | rfl | rfl
    · cases hq
      exact vk_R.of (hts (.stringRef "BestWalks$Acts" 84 "399") (by decide +kernel)) (by rw [e1 0 (by decide)]; exact (hE 0 (by decide)))
    · cases hq
      exact vk_R.of (hts (.stringRef "BestWalks$Acts" 86 "39") (by decide +kernel)) (by rw [e1 1 (by decide)]; exact (hE 1 (by decide)))
    · cases hq
      exact vk_R.of (hts (.stringRef "BestWalks$Acts" 88 "gg99") (by decide +kernel)) (by rw [e1 2 (by decide)]; exact (hE 2 (by decide)))
    · cases hq
      exact vk_R.of (hts (.stringRef "BestWalks$Acts" 90 "4499") (by decide +kernel)) (by rw [e1 3 (by decide)]; exact (hE 3 (by decide)))
    · cases hq
      exact vk_R.of (hts (.stringRef "BestWalks$Acts" 92 "9") (by decide +kernel)) (by rw [e1 4 (by decide)]; exact (hE 4 (by decide)))
    · cases hq
      exact vk_R.of (hts (.stringRef "BestWalks$Acts" 94 "gg") (by decide +kernel)) (by rw [e1 5 (by decide)]; exact (hE 5 (by decide)))
    · cases hq
      exact vk_R.of (hts (.stringRef "BestWalks$Acts" 96 "") (by decide +kernel)) (by rw [e1 6 (by decide)]; exact (hE 6 (by decide)))
    · cases hq
      exact vk_R.of (hts (.stringRef "BestWalks" 145 "no such number") (by decide +kernel)) (by rw [e1 7 (by decide)]; exact q7)
    · cases hq
      exact vk_R.of (hts (.stringRef "BestWalks" 153 "no such edge") (by decide +kernel)) (by rw [e1 8 (by decide)]; exact q8)
    · cases hq
      exact vk_R.of (hts (.stringRef "BestWalks" 358 "no such number of the row") (by decide +kernel)) (by rw [e1 9 (by decide)]; exact q9)
