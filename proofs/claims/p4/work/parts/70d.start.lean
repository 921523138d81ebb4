theorem st_s {s : State} {args : Array Value} (hts : ∀ w ∈ lw_tbl, w.before args s = true) (hg : (Jvm.Cond.and given_1 narrow_1).before args s = true) {A : Nat → Prop} (hA : ∀ a : Nat, a < s.heap.size → ¬ A a) : ∃ adK adV : Nat → Nat, vk_S 7 zs_n zs_b adK adV A s s.heap ∧ ∀ i : Nat, i < 7 → (Term.string "BestWalks$Acts" (84 + 2 * i)).eval args s none [] s = some (.ref (adK i)) := by
  have hs := flat_of_before _ hg
  refine vk_Sof (tm := fun i => .string "BestWalks$Acts" (84 + 2 * i)) (fun i hi => ?_) (fun i hi => ?_) (fun i hi => ?_) (fun i hi => ?_) (fun i hi => ?_) (fun i hi j hj => ?_) (fun i j hi hj hij => ?_) hA
  · rcases (show i = 0 ∨ i = 1 ∨ i = 2 ∨ i = 3 ∨ i = 4 ∨ i = 5 ∨ i = 6 by omega) with rfl | rfl | rfl | rfl | rfl | rfl | rfl <;> decide
  · rcases (show i = 0 ∨ i = 1 ∨ i = 2 ∨ i = 3 ∨ i = 4 ∨ i = 5 ∨ i = 6 by omega) with rfl | rfl | rfl | rfl | rfl | rfl | rfl
    · exact hs (.exactly (.string "BestWalks$Acts" 84) "java/lang/String") (by decide +kernel)
    · exact hs (.exactly (.string "BestWalks$Acts" 86) "java/lang/String") (by decide +kernel)
    · exact hs (.exactly (.string "BestWalks$Acts" 88) "java/lang/String") (by decide +kernel)
    · exact hs (.exactly (.string "BestWalks$Acts" 90) "java/lang/String") (by decide +kernel)
    · exact hs (.exactly (.string "BestWalks$Acts" 92) "java/lang/String") (by decide +kernel)
    · exact hs (.exactly (.string "BestWalks$Acts" 94) "java/lang/String") (by decide +kernel)
    · exact hs (.exactly (.string "BestWalks$Acts" 96) "java/lang/String") (by decide +kernel)
  · rcases (show i = 0 ∨ i = 1 ∨ i = 2 ∨ i = 3 ∨ i = 4 ∨ i = 5 ∨ i = 6 by omega) with rfl | rfl | rfl | rfl | rfl | rfl | rfl
    · exact hs (.eq (.field (.string "BestWalks$Acts" 84) "java/lang/String" "coder" "B") (.int 0)) (by decide +kernel)
    · exact hs (.eq (.field (.string "BestWalks$Acts" 86) "java/lang/String" "coder" "B") (.int 0)) (by decide +kernel)
    · exact hs (.eq (.field (.string "BestWalks$Acts" 88) "java/lang/String" "coder" "B") (.int 0)) (by decide +kernel)
    · exact hs (.eq (.field (.string "BestWalks$Acts" 90) "java/lang/String" "coder" "B") (.int 0)) (by decide +kernel)
    · exact hs (.eq (.field (.string "BestWalks$Acts" 92) "java/lang/String" "coder" "B") (.int 0)) (by decide +kernel)
    · exact hs (.eq (.field (.string "BestWalks$Acts" 94) "java/lang/String" "coder" "B") (.int 0)) (by decide +kernel)
    · exact hs (.eq (.field (.string "BestWalks$Acts" 96) "java/lang/String" "coder" "B") (.int 0)) (by decide +kernel)
  · rcases (show i = 0 ∨ i = 1 ∨ i = 2 ∨ i = 3 ∨ i = 4 ∨ i = 5 ∨ i = 6 by omega) with rfl | rfl | rfl | rfl | rfl | rfl | rfl
    · exact hs (.arrayOf (.field (.string "BestWalks$Acts" 84) "java/lang/String" "value" "[B") .byte) (by decide +kernel)
    · exact hs (.arrayOf (.field (.string "BestWalks$Acts" 86) "java/lang/String" "value" "[B") .byte) (by decide +kernel)
    · exact hs (.arrayOf (.field (.string "BestWalks$Acts" 88) "java/lang/String" "value" "[B") .byte) (by decide +kernel)
    · exact hs (.arrayOf (.field (.string "BestWalks$Acts" 90) "java/lang/String" "value" "[B") .byte) (by decide +kernel)
    · exact hs (.arrayOf (.field (.string "BestWalks$Acts" 92) "java/lang/String" "value" "[B") .byte) (by decide +kernel)
    · exact hs (.arrayOf (.field (.string "BestWalks$Acts" 94) "java/lang/String" "value" "[B") .byte) (by decide +kernel)
    · exact hs (.arrayOf (.field (.string "BestWalks$Acts" 96) "java/lang/String" "value" "[B") .byte) (by decide +kernel)
  · rcases (show i = 0 ∨ i = 1 ∨ i = 2 ∨ i = 3 ∨ i = 4 ∨ i = 5 ∨ i = 6 by omega) with rfl | rfl | rfl | rfl | rfl | rfl | rfl
    · exact hs (.eq (.length (.field (.string "BestWalks$Acts" 84) "java/lang/String" "value" "[B")) (.int 3)) (by decide +kernel)
    · exact hs (.eq (.length (.field (.string "BestWalks$Acts" 86) "java/lang/String" "value" "[B")) (.int 2)) (by decide +kernel)
    · exact hs (.eq (.length (.field (.string "BestWalks$Acts" 88) "java/lang/String" "value" "[B")) (.int 4)) (by decide +kernel)
    · exact hs (.eq (.length (.field (.string "BestWalks$Acts" 90) "java/lang/String" "value" "[B")) (.int 4)) (by decide +kernel)
    · exact hs (.eq (.length (.field (.string "BestWalks$Acts" 92) "java/lang/String" "value" "[B")) (.int 1)) (by decide +kernel)
    · exact hs (.eq (.length (.field (.string "BestWalks$Acts" 94) "java/lang/String" "value" "[B")) (.int 2)) (by decide +kernel)
    · exact hs (.eq (.length (.field (.string "BestWalks$Acts" 96) "java/lang/String" "value" "[B")) (.int 0)) (by decide +kernel)
  · rcases (show i = 0 ∨ i = 1 ∨ i = 2 ∨ i = 3 ∨ i = 4 ∨ i = 5 ∨ i = 6 by omega) with rfl | rfl | rfl | rfl | rfl | rfl | rfl
    · rcases (show j = 0 ∨ j = 1 ∨ j = 2 by have : j < 3 := hj; omega) with rfl | rfl | rfl
      · exact hs (.eq (.elem (.field (.string "BestWalks$Acts" 84) "java/lang/String" "value" "[B") (.int 0)) (.int 51)) (by decide +kernel)
      · exact hs (.eq (.elem (.field (.string "BestWalks$Acts" 84) "java/lang/String" "value" "[B") (.int 1)) (.int 57)) (by decide +kernel)
      · exact hs (.eq (.elem (.field (.string "BestWalks$Acts" 84) "java/lang/String" "value" "[B") (.int 2)) (.int 57)) (by decide +kernel)
    · rcases (show j = 0 ∨ j = 1 by have : j < 2 := hj; omega) with rfl | rfl
      · exact hs (.eq (.elem (.field (.string "BestWalks$Acts" 86) "java/lang/String" "value" "[B") (.int 0)) (.int 51)) (by decide +kernel)
      · exact hs (.eq (.elem (.field (.string "BestWalks$Acts" 86) "java/lang/String" "value" "[B") (.int 1)) (.int 57)) (by decide +kernel)
    · rcases (show j = 0 ∨ j = 1 ∨ j = 2 ∨ j = 3 by have : j < 4 := hj; omega) with rfl | rfl | rfl | rfl
      · exact hs (.eq (.elem (.field (.string "BestWalks$Acts" 88) "java/lang/String" "value" "[B") (.int 0)) (.int 103)) (by decide +kernel)
      · exact hs (.eq (.elem (.field (.string "BestWalks$Acts" 88) "java/lang/String" "value" "[B") (.int 1)) (.int 103)) (by decide +kernel)
      · exact hs (.eq (.elem (.field (.string "BestWalks$Acts" 88) "java/lang/String" "value" "[B") (.int 2)) (.int 57)) (by decide +kernel)
      · exact hs (.eq (.elem (.field (.string "BestWalks$Acts" 88) "java/lang/String" "value" "[B") (.int 3)) (.int 57)) (by decide +kernel)
    · rcases (show j = 0 ∨ j = 1 ∨ j = 2 ∨ j = 3 by have : j < 4 := hj; omega) with rfl | rfl | rfl | rfl
      · exact hs (.eq (.elem (.field (.string "BestWalks$Acts" 90) "java/lang/String" "value" "[B") (.int 0)) (.int 52)) (by decide +kernel)
      · exact hs (.eq (.elem (.field (.string "BestWalks$Acts" 90) "java/lang/String" "value" "[B") (.int 1)) (.int 52)) (by decide +kernel)
      · exact hs (.eq (.elem (.field (.string "BestWalks$Acts" 90) "java/lang/String" "value" "[B") (.int 2)) (.int 57)) (by decide +kernel)
      · exact hs (.eq (.elem (.field (.string "BestWalks$Acts" 90) "java/lang/String" "value" "[B") (.int 3)) (.int 57)) (by decide +kernel)
    · obtain rfl : j = 0 := by have : j < 1 := hj; omega
      exact hs (.eq (.elem (.field (.string "BestWalks$Acts" 92) "java/lang/String" "value" "[B") (.int 0)) (.int 57)) (by decide +kernel)
    · rcases (show j = 0 ∨ j = 1 by have : j < 2 := hj; omega) with rfl | rfl
      · exact hs (.eq (.elem (.field (.string "BestWalks$Acts" 94) "java/lang/String" "value" "[B") (.int 0)) (.int 103)) (by decide +kernel)
      · exact hs (.eq (.elem (.field (.string "BestWalks$Acts" 94) "java/lang/String" "value" "[B") (.int 1)) (.int 103)) (by decide +kernel)
    · exact absurd hj (Nat.not_lt_zero j)
  · rcases (show i = 0 ∨ i = 1 ∨ i = 2 ∨ i = 3 ∨ i = 4 ∨ i = 5 ∨ i = 6 by omega) with rfl | rfl | rfl | rfl | rfl | rfl | rfl
    · rcases (show j = 0 ∨ j = 1 ∨ j = 2 ∨ j = 3 ∨ j = 4 ∨ j = 5 ∨ j = 6 by omega) with rfl | rfl | rfl | rfl | rfl | rfl | rfl
      · exact absurd rfl hij
      · first | exact Or.inl (hs (.not (.eq (.string "BestWalks$Acts" 84) (.string "BestWalks$Acts" 86))) (by decide +kernel)) | exact Or.inr (hs (.not (.eq (.string "BestWalks$Acts" 86) (.string "BestWalks$Acts" 84))) (by decide +kernel))
      · first | exact Or.inl (hs (.not (.eq (.string "BestWalks$Acts" 84) (.string "BestWalks$Acts" 88))) (by decide +kernel)) | exact Or.inr (hs (.not (.eq (.string "BestWalks$Acts" 88) (.string "BestWalks$Acts" 84))) (by decide +kernel))
      · first | exact Or.inl (hs (.not (.eq (.string "BestWalks$Acts" 84) (.string "BestWalks$Acts" 90))) (by decide +kernel)) | exact Or.inr (hs (.not (.eq (.string "BestWalks$Acts" 90) (.string "BestWalks$Acts" 84))) (by decide +kernel))
      · first | exact Or.inl (hs (.not (.eq (.string "BestWalks$Acts" 84) (.string "BestWalks$Acts" 92))) (by decide +kernel)) | exact Or.inr (hs (.not (.eq (.string "BestWalks$Acts" 92) (.string "BestWalks$Acts" 84))) (by decide +kernel))
      · first | exact Or.inl (hs (.not (.eq (.string "BestWalks$Acts" 84) (.string "BestWalks$Acts" 94))) (by decide +kernel)) | exact Or.inr (hs (.not (.eq (.string "BestWalks$Acts" 94) (.string "BestWalks$Acts" 84))) (by decide +kernel))
      · first | exact Or.inl (hs (.not (.eq (.string "BestWalks$Acts" 84) (.string "BestWalks$Acts" 96))) (by decide +kernel)) | exact Or.inr (hs (.not (.eq (.string "BestWalks$Acts" 96) (.string "BestWalks$Acts" 84))) (by decide +kernel))
    · rcases (show j = 0 ∨ j = 1 ∨ j = 2 ∨ j = 3 ∨ j = 4 ∨ j = 5 ∨ j = 6 by omega) with rfl | rfl | rfl | rfl | rfl | rfl | rfl
      · first | exact Or.inr (hs (.not (.eq (.string "BestWalks$Acts" 84) (.string "BestWalks$Acts" 86))) (by decide +kernel)) | exact Or.inl (hs (.not (.eq (.string "BestWalks$Acts" 86) (.string "BestWalks$Acts" 84))) (by decide +kernel))
      · exact absurd rfl hij
      · first | exact Or.inl (hs (.not (.eq (.string "BestWalks$Acts" 86) (.string "BestWalks$Acts" 88))) (by decide +kernel)) | exact Or.inr (hs (.not (.eq (.string "BestWalks$Acts" 88) (.string "BestWalks$Acts" 86))) (by decide +kernel))
      · first | exact Or.inl (hs (.not (.eq (.string "BestWalks$Acts" 86) (.string "BestWalks$Acts" 90))) (by decide +kernel)) | exact Or.inr (hs (.not (.eq (.string "BestWalks$Acts" 90) (.string "BestWalks$Acts" 86))) (by decide +kernel))
      · first | exact Or.inl (hs (.not (.eq (.string "BestWalks$Acts" 86) (.string "BestWalks$Acts" 92))) (by decide +kernel)) | exact Or.inr (hs (.not (.eq (.string "BestWalks$Acts" 92) (.string "BestWalks$Acts" 86))) (by decide +kernel))
      · first | exact Or.inl (hs (.not (.eq (.string "BestWalks$Acts" 86) (.string "BestWalks$Acts" 94))) (by decide +kernel)) | exact Or.inr (hs (.not (.eq (.string "BestWalks$Acts" 94) (.string "BestWalks$Acts" 86))) (by decide +kernel))
      · first | exact Or.inl (hs (.not (.eq (.string "BestWalks$Acts" 86) (.string "BestWalks$Acts" 96))) (by decide +kernel)) | exact Or.inr (hs (.not (.eq (.string "BestWalks$Acts" 96) (.string "BestWalks$Acts" 86))) (by decide +kernel))
    · rcases (show j = 0 ∨ j = 1 ∨ j = 2 ∨ j = 3 ∨ j = 4 ∨ j = 5 ∨ j = 6 by omega) with rfl | rfl | rfl | rfl | rfl | rfl | rfl
      · first | exact Or.inr (hs (.not (.eq (.string "BestWalks$Acts" 84) (.string "BestWalks$Acts" 88))) (by decide +kernel)) | exact Or.inl (hs (.not (.eq (.string "BestWalks$Acts" 88) (.string "BestWalks$Acts" 84))) (by decide +kernel))
      · first | exact Or.inr (hs (.not (.eq (.string "BestWalks$Acts" 86) (.string "BestWalks$Acts" 88))) (by decide +kernel)) | exact Or.inl (hs (.not (.eq (.string "BestWalks$Acts" 88) (.string "BestWalks$Acts" 86))) (by decide +kernel))
      · exact absurd rfl hij
      · first | exact Or.inl (hs (.not (.eq (.string "BestWalks$Acts" 88) (.string "BestWalks$Acts" 90))) (by decide +kernel)) | exact Or.inr (hs (.not (.eq (.string "BestWalks$Acts" 90) (.string "BestWalks$Acts" 88))) (by decide +kernel))
      · first | exact Or.inl (hs (.not (.eq (.string "BestWalks$Acts" 88) (.string "BestWalks$Acts" 92))) (by decide +kernel)) | exact Or.inr (hs (.not (.eq (.string "BestWalks$Acts" 92) (.string "BestWalks$Acts" 88))) (by decide +kernel))
      · first | exact Or.inl (hs (.not (.eq (.string "BestWalks$Acts" 88) (.string "BestWalks$Acts" 94))) (by decide +kernel)) | exact Or.inr (hs (.not (.eq (.string "BestWalks$Acts" 94) (.string "BestWalks$Acts" 88))) (by decide +kernel))
      · first | exact Or.inl (hs (.not (.eq (.string "BestWalks$Acts" 88) (.string "BestWalks$Acts" 96))) (by decide +kernel)) | exact Or.inr (hs (.not (.eq (.string "BestWalks$Acts" 96) (.string "BestWalks$Acts" 88))) (by decide +kernel))
    · rcases (show j = 0 ∨ j = 1 ∨ j = 2 ∨ j = 3 ∨ j = 4 ∨ j = 5 ∨ j = 6 by omega) with rfl | rfl | rfl | rfl | rfl | rfl | rfl
      · first | exact Or.inr (hs (.not (.eq (.string "BestWalks$Acts" 84) (.string "BestWalks$Acts" 90))) (by decide +kernel)) | exact Or.inl (hs (.not (.eq (.string "BestWalks$Acts" 90) (.string "BestWalks$Acts" 84))) (by decide +kernel))
      · first | exact Or.inr (hs (.not (.eq (.string "BestWalks$Acts" 86) (.string "BestWalks$Acts" 90))) (by decide +kernel)) | exact Or.inl (hs (.not (.eq (.string "BestWalks$Acts" 90) (.string "BestWalks$Acts" 86))) (by decide +kernel))
      · first | exact Or.inr (hs (.not (.eq (.string "BestWalks$Acts" 88) (.string "BestWalks$Acts" 90))) (by decide +kernel)) | exact Or.inl (hs (.not (.eq (.string "BestWalks$Acts" 90) (.string "BestWalks$Acts" 88))) (by decide +kernel))
      · exact absurd rfl hij
      · first | exact Or.inl (hs (.not (.eq (.string "BestWalks$Acts" 90) (.string "BestWalks$Acts" 92))) (by decide +kernel)) | exact Or.inr (hs (.not (.eq (.string "BestWalks$Acts" 92) (.string "BestWalks$Acts" 90))) (by decide +kernel))
      · first | exact Or.inl (hs (.not (.eq (.string "BestWalks$Acts" 90) (.string "BestWalks$Acts" 94))) (by decide +kernel)) | exact Or.inr (hs (.not (.eq (.string "BestWalks$Acts" 94) (.string "BestWalks$Acts" 90))) (by decide +kernel))
      · first | exact Or.inl (hs (.not (.eq (.string "BestWalks$Acts" 90) (.string "BestWalks$Acts" 96))) (by decide +kernel)) | exact Or.inr (hs (.not (.eq (.string "BestWalks$Acts" 96) (.string "BestWalks$Acts" 90))) (by decide +kernel))
    · rcases (show j = 0 ∨ j = 1 ∨ j = 2 ∨ j = 3 ∨ j = 4 ∨ j = 5 ∨ j = 6 by omega) with rfl | rfl | rfl | rfl | rfl | rfl | rfl
      · first | exact Or.inr (hs (.not (.eq (.string "BestWalks$Acts" 84) (.string "BestWalks$Acts" 92))) (by decide +kernel)) | exact Or.inl (hs (.not (.eq (.string "BestWalks$Acts" 92) (.string "BestWalks$Acts" 84))) (by decide +kernel))
      · first | exact Or.inr (hs (.not (.eq (.string "BestWalks$Acts" 86) (.string "BestWalks$Acts" 92))) (by decide +kernel)) | exact Or.inl (hs (.not (.eq (.string "BestWalks$Acts" 92) (.string "BestWalks$Acts" 86))) (by decide +kernel))
      · first | exact Or.inr (hs (.not (.eq (.string "BestWalks$Acts" 88) (.string "BestWalks$Acts" 92))) (by decide +kernel)) | exact Or.inl (hs (.not (.eq (.string "BestWalks$Acts" 92) (.string "BestWalks$Acts" 88))) (by decide +kernel))
      · first | exact Or.inr (hs (.not (.eq (.string "BestWalks$Acts" 90) (.string "BestWalks$Acts" 92))) (by decide +kernel)) | exact Or.inl (hs (.not (.eq (.string "BestWalks$Acts" 92) (.string "BestWalks$Acts" 90))) (by decide +kernel))
      · exact absurd rfl hij
      · first | exact Or.inl (hs (.not (.eq (.string "BestWalks$Acts" 92) (.string "BestWalks$Acts" 94))) (by decide +kernel)) | exact Or.inr (hs (.not (.eq (.string "BestWalks$Acts" 94) (.string "BestWalks$Acts" 92))) (by decide +kernel))
      · first | exact Or.inl (hs (.not (.eq (.string "BestWalks$Acts" 92) (.string "BestWalks$Acts" 96))) (by decide +kernel)) | exact Or.inr (hs (.not (.eq (.string "BestWalks$Acts" 96) (.string "BestWalks$Acts" 92))) (by decide +kernel))
    · rcases (show j = 0 ∨ j = 1 ∨ j = 2 ∨ j = 3 ∨ j = 4 ∨ j = 5 ∨ j = 6 by omega) with rfl | rfl | rfl | rfl | rfl | rfl | rfl
      · first | exact Or.inr (hs (.not (.eq (.string "BestWalks$Acts" 84) (.string "BestWalks$Acts" 94))) (by decide +kernel)) | exact Or.inl (hs (.not (.eq (.string "BestWalks$Acts" 94) (.string "BestWalks$Acts" 84))) (by decide +kernel))
      · first | exact Or.inr (hs (.not (.eq (.string "BestWalks$Acts" 86) (.string "BestWalks$Acts" 94))) (by decide +kernel)) | exact Or.inl (hs (.not (.eq (.string "BestWalks$Acts" 94) (.string "BestWalks$Acts" 86))) (by decide +kernel))
      · first | exact Or.inr (hs (.not (.eq (.string "BestWalks$Acts" 88) (.string "BestWalks$Acts" 94))) (by decide +kernel)) | exact Or.inl (hs (.not (.eq (.string "BestWalks$Acts" 94) (.string "BestWalks$Acts" 88))) (by decide +kernel))
      · first | exact Or.inr (hs (.not (.eq (.string "BestWalks$Acts" 90) (.string "BestWalks$Acts" 94))) (by decide +kernel)) | exact Or.inl (hs (.not (.eq (.string "BestWalks$Acts" 94) (.string "BestWalks$Acts" 90))) (by decide +kernel))
      · first | exact Or.inr (hs (.not (.eq (.string "BestWalks$Acts" 92) (.string "BestWalks$Acts" 94))) (by decide +kernel)) | exact Or.inl (hs (.not (.eq (.string "BestWalks$Acts" 94) (.string "BestWalks$Acts" 92))) (by decide +kernel))
      · exact absurd rfl hij
      · first | exact Or.inl (hs (.not (.eq (.string "BestWalks$Acts" 94) (.string "BestWalks$Acts" 96))) (by decide +kernel)) | exact Or.inr (hs (.not (.eq (.string "BestWalks$Acts" 96) (.string "BestWalks$Acts" 94))) (by decide +kernel))
    · rcases (show j = 0 ∨ j = 1 ∨ j = 2 ∨ j = 3 ∨ j = 4 ∨ j = 5 ∨ j = 6 by omega) with rfl | rfl | rfl | rfl | rfl | rfl | rfl
      · first | exact Or.inr (hs (.not (.eq (.string "BestWalks$Acts" 84) (.string "BestWalks$Acts" 96))) (by decide +kernel)) | exact Or.inl (hs (.not (.eq (.string "BestWalks$Acts" 96) (.string "BestWalks$Acts" 84))) (by decide +kernel))
      · first | exact Or.inr (hs (.not (.eq (.string "BestWalks$Acts" 86) (.string "BestWalks$Acts" 96))) (by decide +kernel)) | exact Or.inl (hs (.not (.eq (.string "BestWalks$Acts" 96) (.string "BestWalks$Acts" 86))) (by decide +kernel))
      · first | exact Or.inr (hs (.not (.eq (.string "BestWalks$Acts" 88) (.string "BestWalks$Acts" 96))) (by decide +kernel)) | exact Or.inl (hs (.not (.eq (.string "BestWalks$Acts" 96) (.string "BestWalks$Acts" 88))) (by decide +kernel))
      · first | exact Or.inr (hs (.not (.eq (.string "BestWalks$Acts" 90) (.string "BestWalks$Acts" 96))) (by decide +kernel)) | exact Or.inl (hs (.not (.eq (.string "BestWalks$Acts" 96) (.string "BestWalks$Acts" 90))) (by decide +kernel))
      · first | exact Or.inr (hs (.not (.eq (.string "BestWalks$Acts" 92) (.string "BestWalks$Acts" 96))) (by decide +kernel)) | exact Or.inl (hs (.not (.eq (.string "BestWalks$Acts" 96) (.string "BestWalks$Acts" 92))) (by decide +kernel))
      · first | exact Or.inr (hs (.not (.eq (.string "BestWalks$Acts" 94) (.string "BestWalks$Acts" 96))) (by decide +kernel)) | exact Or.inl (hs (.not (.eq (.string "BestWalks$Acts" 96) (.string "BestWalks$Acts" 94))) (by decide +kernel))
      · exact absurd rfl hij
