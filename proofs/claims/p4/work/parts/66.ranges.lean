def chk : List (Int × Int) → List Int → Bool
  | [], [] => true
  | a :: l, b :: v => decide (a.1 ≤ b) && decide (b ≤ a.2) && chk l v
  | _, _ => false
theorem lr : ∀ (l : List (Int × Int)) (v : List Int), chk l v = true → ∀ n : Nat, (l[n]?.getD (0, 0)).1 ≤ v[n]?.getD 0 ∧ v[n]?.getD 0 ≤ (l[n]?.getD (0, 0)).2
  | [], [], _, n => by simp
  | a :: l, b :: v, h, n => by
    simp only [chk, Bool.and_eq_true, decide_eq_true_eq] at h
    cases n with
    | zero => exact h.1
    | succ n => exact lr l v h.2 n
  | [], _ :: _, h, _ => by simp [chk] at h
  | _ :: _, [], h, _ => by simp [chk] at h
def chk1 (q : Int × Int) : List Int → Bool
  | [] => decide (q.1 ≤ 0) && decide (0 ≤ q.2)
  | b :: v => decide (q.1 ≤ b) && decide (b ≤ q.2) && chk1 q v
theorem sr (q : Int × Int) : ∀ v : List Int, chk1 q v = true → ∀ n : Nat, q.1 ≤ v[n]?.getD 0 ∧ v[n]?.getD 0 ≤ q.2
  | [], h, n => by
    simp only [chk1, Bool.and_eq_true, decide_eq_true_eq] at h
    simpa using h
  | b :: v, h, n => by
    simp only [chk1, Bool.and_eq_true, decide_eq_true_eq] at h
    cases n with
    | zero => exact h.1
    | succ n => exact sr q v h.2 n
theorem rC_0 (i : Int) : (YC_g ((0 : Nat) : Int) i).1 ≤ x0C ((0 : Nat) : Int) i ∧ x0C ((0 : Nat) : Int) i ≤ (YC_g ((0 : Nat) : Int) i).2 := lr _ _ (by decide) i.toNat
theorem rC_1 (i : Int) : (YC_g ((1 : Nat) : Int) i).1 ≤ x0C ((1 : Nat) : Int) i ∧ x0C ((1 : Nat) : Int) i ≤ (YC_g ((1 : Nat) : Int) i).2 := lr _ _ (by decide) i.toNat
theorem rC_2 (i : Int) : (YC_g ((2 : Nat) : Int) i).1 ≤ x0C ((2 : Nat) : Int) i ∧ x0C ((2 : Nat) : Int) i ≤ (YC_g ((2 : Nat) : Int) i).2 := ⟨of_decide_eq_true rfl, of_decide_eq_true rfl⟩
theorem rC_3 (i : Int) : (YC_g ((3 : Nat) : Int) i).1 ≤ x0C ((3 : Nat) : Int) i ∧ x0C ((3 : Nat) : Int) i ≤ (YC_g ((3 : Nat) : Int) i).2 := lr _ _ (by decide) i.toNat
theorem rC_4 (i : Int) : (YC_g ((4 : Nat) : Int) i).1 ≤ x0C ((4 : Nat) : Int) i ∧ x0C ((4 : Nat) : Int) i ≤ (YC_g ((4 : Nat) : Int) i).2 := ⟨of_decide_eq_true rfl, of_decide_eq_true rfl⟩
theorem rC_5 (i : Int) : (YC_g ((5 : Nat) : Int) i).1 ≤ x0C ((5 : Nat) : Int) i ∧ x0C ((5 : Nat) : Int) i ≤ (YC_g ((5 : Nat) : Int) i).2 := ⟨of_decide_eq_true rfl, of_decide_eq_true rfl⟩
theorem rC_6 (i : Int) : (YC_g ((6 : Nat) : Int) i).1 ≤ x0C ((6 : Nat) : Int) i ∧ x0C ((6 : Nat) : Int) i ≤ (YC_g ((6 : Nat) : Int) i).2 := ⟨of_decide_eq_true rfl, of_decide_eq_true rfl⟩
theorem rC_7 (i : Int) : (YC_g ((7 : Nat) : Int) i).1 ≤ x0C ((7 : Nat) : Int) i ∧ x0C ((7 : Nat) : Int) i ≤ (YC_g ((7 : Nat) : Int) i).2 := ⟨of_decide_eq_true rfl, of_decide_eq_true rfl⟩
theorem rC_8 (i : Int) : (YC_g ((8 : Nat) : Int) i).1 ≤ x0C ((8 : Nat) : Int) i ∧ x0C ((8 : Nat) : Int) i ≤ (YC_g ((8 : Nat) : Int) i).2 := lr _ _ (by decide) i.toNat
theorem rC_9 (i : Int) : (YC_g ((9 : Nat) : Int) i).1 ≤ x0C ((9 : Nat) : Int) i ∧ x0C ((9 : Nat) : Int) i ≤ (YC_g ((9 : Nat) : Int) i).2 := ⟨of_decide_eq_true rfl, of_decide_eq_true rfl⟩
theorem rC_10 (i : Int) : (YC_g ((10 : Nat) : Int) i).1 ≤ x0C ((10 : Nat) : Int) i ∧ x0C ((10 : Nat) : Int) i ≤ (YC_g ((10 : Nat) : Int) i).2 := ⟨of_decide_eq_true rfl, of_decide_eq_true rfl⟩
theorem rC_11 (i : Int) : (YC_g ((11 : Nat) : Int) i).1 ≤ x0C ((11 : Nat) : Int) i ∧ x0C ((11 : Nat) : Int) i ≤ (YC_g ((11 : Nat) : Int) i).2 := ⟨of_decide_eq_true rfl, of_decide_eq_true rfl⟩
theorem rC_12 (i : Int) : (YC_g ((12 : Nat) : Int) i).1 ≤ x0C ((12 : Nat) : Int) i ∧ x0C ((12 : Nat) : Int) i ≤ (YC_g ((12 : Nat) : Int) i).2 := ⟨of_decide_eq_true rfl, of_decide_eq_true rfl⟩
theorem rC_13 (i : Int) : (YC_g ((13 : Nat) : Int) i).1 ≤ x0C ((13 : Nat) : Int) i ∧ x0C ((13 : Nat) : Int) i ≤ (YC_g ((13 : Nat) : Int) i).2 := sr _ _ rfl i.toNat
theorem rC_14 (i : Int) : (YC_g ((14 : Nat) : Int) i).1 ≤ x0C ((14 : Nat) : Int) i ∧ x0C ((14 : Nat) : Int) i ≤ (YC_g ((14 : Nat) : Int) i).2 := lr _ _ (by decide) i.toNat
theorem rC_15 (i : Int) : (YC_g ((15 : Nat) : Int) i).1 ≤ x0C ((15 : Nat) : Int) i ∧ x0C ((15 : Nat) : Int) i ≤ (YC_g ((15 : Nat) : Int) i).2 := lr _ _ (by decide) i.toNat
theorem rC_16 (i : Int) : (YC_g ((16 : Nat) : Int) i).1 ≤ x0C ((16 : Nat) : Int) i ∧ x0C ((16 : Nat) : Int) i ≤ (YC_g ((16 : Nat) : Int) i).2 := lr _ _ (by decide) i.toNat
theorem rC_17 (i : Int) : (YC_g ((17 : Nat) : Int) i).1 ≤ x0C ((17 : Nat) : Int) i ∧ x0C ((17 : Nat) : Int) i ≤ (YC_g ((17 : Nat) : Int) i).2 := ⟨of_decide_eq_true rfl, of_decide_eq_true rfl⟩
theorem rC_18 (i : Int) : (YC_g ((18 : Nat) : Int) i).1 ≤ x0C ((18 : Nat) : Int) i ∧ x0C ((18 : Nat) : Int) i ≤ (YC_g ((18 : Nat) : Int) i).2 := ⟨of_decide_eq_true rfl, of_decide_eq_true rfl⟩
theorem rC_19 (i : Int) : (YC_g ((19 : Nat) : Int) i).1 ≤ x0C ((19 : Nat) : Int) i ∧ x0C ((19 : Nat) : Int) i ≤ (YC_g ((19 : Nat) : Int) i).2 := ⟨of_decide_eq_true rfl, of_decide_eq_true rfl⟩
theorem rC_20 (i : Int) : (YC_g ((20 : Nat) : Int) i).1 ≤ x0C ((20 : Nat) : Int) i ∧ x0C ((20 : Nat) : Int) i ≤ (YC_g ((20 : Nat) : Int) i).2 := ⟨of_decide_eq_true rfl, of_decide_eq_true rfl⟩
theorem rC_21 (i : Int) : (YC_g ((21 : Nat) : Int) i).1 ≤ x0C ((21 : Nat) : Int) i ∧ x0C ((21 : Nat) : Int) i ≤ (YC_g ((21 : Nat) : Int) i).2 := lr _ _ (by decide) i.toNat
theorem rC_22 (i : Int) : (YC_g ((22 : Nat) : Int) i).1 ≤ x0C ((22 : Nat) : Int) i ∧ x0C ((22 : Nat) : Int) i ≤ (YC_g ((22 : Nat) : Int) i).2 := ⟨of_decide_eq_true rfl, of_decide_eq_true rfl⟩
theorem rC_23 (i : Int) : (YC_g ((23 : Nat) : Int) i).1 ≤ x0C ((23 : Nat) : Int) i ∧ x0C ((23 : Nat) : Int) i ≤ (YC_g ((23 : Nat) : Int) i).2 := ⟨of_decide_eq_true rfl, of_decide_eq_true rfl⟩
theorem rC_24 (i : Int) : (YC_g ((24 : Nat) : Int) i).1 ≤ x0C ((24 : Nat) : Int) i ∧ x0C ((24 : Nat) : Int) i ≤ (YC_g ((24 : Nat) : Int) i).2 := ⟨of_decide_eq_true rfl, of_decide_eq_true rfl⟩
theorem rC_25 (i : Int) : (YC_g ((25 : Nat) : Int) i).1 ≤ x0C ((25 : Nat) : Int) i ∧ x0C ((25 : Nat) : Int) i ≤ (YC_g ((25 : Nat) : Int) i).2 := ⟨of_decide_eq_true rfl, of_decide_eq_true rfl⟩
theorem rC_26 (i : Int) : (YC_g ((26 : Nat) : Int) i).1 ≤ x0C ((26 : Nat) : Int) i ∧ x0C ((26 : Nat) : Int) i ≤ (YC_g ((26 : Nat) : Int) i).2 := lr _ _ (by decide) i.toNat
theorem rC_27 (i : Int) : (YC_g ((27 : Nat) : Int) i).1 ≤ x0C ((27 : Nat) : Int) i ∧ x0C ((27 : Nat) : Int) i ≤ (YC_g ((27 : Nat) : Int) i).2 := ⟨of_decide_eq_true rfl, of_decide_eq_true rfl⟩
theorem rC_28 (i : Int) : (YC_g ((28 : Nat) : Int) i).1 ≤ x0C ((28 : Nat) : Int) i ∧ x0C ((28 : Nat) : Int) i ≤ (YC_g ((28 : Nat) : Int) i).2 := ⟨of_decide_eq_true rfl, of_decide_eq_true rfl⟩
theorem rC_29 (i : Int) : (YC_g ((29 : Nat) : Int) i).1 ≤ x0C ((29 : Nat) : Int) i ∧ x0C ((29 : Nat) : Int) i ≤ (YC_g ((29 : Nat) : Int) i).2 := ⟨of_decide_eq_true rfl, of_decide_eq_true rfl⟩
theorem rC_30 (i : Int) : (YC_g ((30 : Nat) : Int) i).1 ≤ x0C ((30 : Nat) : Int) i ∧ x0C ((30 : Nat) : Int) i ≤ (YC_g ((30 : Nat) : Int) i).2 := ⟨of_decide_eq_true rfl, of_decide_eq_true rfl⟩
theorem rC_31 (i : Int) : (YC_g ((31 : Nat) : Int) i).1 ≤ x0C ((31 : Nat) : Int) i ∧ x0C ((31 : Nat) : Int) i ≤ (YC_g ((31 : Nat) : Int) i).2 := lr _ _ (by decide) i.toNat
theorem rC_32 (i : Int) : (YC_g ((32 : Nat) : Int) i).1 ≤ x0C ((32 : Nat) : Int) i ∧ x0C ((32 : Nat) : Int) i ≤ (YC_g ((32 : Nat) : Int) i).2 := ⟨of_decide_eq_true rfl, of_decide_eq_true rfl⟩
theorem rC_33 (i : Int) : (YC_g ((33 : Nat) : Int) i).1 ≤ x0C ((33 : Nat) : Int) i ∧ x0C ((33 : Nat) : Int) i ≤ (YC_g ((33 : Nat) : Int) i).2 := ⟨of_decide_eq_true rfl, of_decide_eq_true rfl⟩
theorem rC_34 (i : Int) : (YC_g ((34 : Nat) : Int) i).1 ≤ x0C ((34 : Nat) : Int) i ∧ x0C ((34 : Nat) : Int) i ≤ (YC_g ((34 : Nat) : Int) i).2 := ⟨of_decide_eq_true rfl, of_decide_eq_true rfl⟩
theorem rC_35 (i : Int) : (YC_g ((35 : Nat) : Int) i).1 ≤ x0C ((35 : Nat) : Int) i ∧ x0C ((35 : Nat) : Int) i ≤ (YC_g ((35 : Nat) : Int) i).2 := ⟨of_decide_eq_true rfl, of_decide_eq_true rfl⟩
theorem rC_36 (i : Int) : (YC_g ((36 : Nat) : Int) i).1 ≤ x0C ((36 : Nat) : Int) i ∧ x0C ((36 : Nat) : Int) i ≤ (YC_g ((36 : Nat) : Int) i).2 := lr _ _ (by decide) i.toNat
theorem rC_37 (i : Int) : (YC_g ((37 : Nat) : Int) i).1 ≤ x0C ((37 : Nat) : Int) i ∧ x0C ((37 : Nat) : Int) i ≤ (YC_g ((37 : Nat) : Int) i).2 := ⟨of_decide_eq_true rfl, of_decide_eq_true rfl⟩
theorem rC_38 (i : Int) : (YC_g ((38 : Nat) : Int) i).1 ≤ x0C ((38 : Nat) : Int) i ∧ x0C ((38 : Nat) : Int) i ≤ (YC_g ((38 : Nat) : Int) i).2 := ⟨of_decide_eq_true rfl, of_decide_eq_true rfl⟩
theorem rC_39 (i : Int) : (YC_g ((39 : Nat) : Int) i).1 ≤ x0C ((39 : Nat) : Int) i ∧ x0C ((39 : Nat) : Int) i ≤ (YC_g ((39 : Nat) : Int) i).2 := ⟨of_decide_eq_true rfl, of_decide_eq_true rfl⟩
theorem rC_40 (i : Int) : (YC_g ((40 : Nat) : Int) i).1 ≤ x0C ((40 : Nat) : Int) i ∧ x0C ((40 : Nat) : Int) i ≤ (YC_g ((40 : Nat) : Int) i).2 := ⟨of_decide_eq_true rfl, of_decide_eq_true rfl⟩
theorem rC_41 (i : Int) : (YC_g ((41 : Nat) : Int) i).1 ≤ x0C ((41 : Nat) : Int) i ∧ x0C ((41 : Nat) : Int) i ≤ (YC_g ((41 : Nat) : Int) i).2 := lr _ _ (by decide) i.toNat
theorem rC_42 (i : Int) : (YC_g ((42 : Nat) : Int) i).1 ≤ x0C ((42 : Nat) : Int) i ∧ x0C ((42 : Nat) : Int) i ≤ (YC_g ((42 : Nat) : Int) i).2 := ⟨of_decide_eq_true rfl, of_decide_eq_true rfl⟩
theorem rC_43 (i : Int) : (YC_g ((43 : Nat) : Int) i).1 ≤ x0C ((43 : Nat) : Int) i ∧ x0C ((43 : Nat) : Int) i ≤ (YC_g ((43 : Nat) : Int) i).2 := ⟨of_decide_eq_true rfl, of_decide_eq_true rfl⟩
theorem rC_44 (i : Int) : (YC_g ((44 : Nat) : Int) i).1 ≤ x0C ((44 : Nat) : Int) i ∧ x0C ((44 : Nat) : Int) i ≤ (YC_g ((44 : Nat) : Int) i).2 := ⟨of_decide_eq_true rfl, of_decide_eq_true rfl⟩
theorem rC_45 (i : Int) : (YC_g ((45 : Nat) : Int) i).1 ≤ x0C ((45 : Nat) : Int) i ∧ x0C ((45 : Nat) : Int) i ≤ (YC_g ((45 : Nat) : Int) i).2 := ⟨of_decide_eq_true rfl, of_decide_eq_true rfl⟩
theorem rC_46 (i : Int) : (YC_g ((46 : Nat) : Int) i).1 ≤ x0C ((46 : Nat) : Int) i ∧ x0C ((46 : Nat) : Int) i ≤ (YC_g ((46 : Nat) : Int) i).2 := lr _ _ (by decide) i.toNat
theorem rC_47 (i : Int) : (YC_g ((47 : Nat) : Int) i).1 ≤ x0C ((47 : Nat) : Int) i ∧ x0C ((47 : Nat) : Int) i ≤ (YC_g ((47 : Nat) : Int) i).2 := ⟨of_decide_eq_true rfl, of_decide_eq_true rfl⟩
theorem rC_48 (i : Int) : (YC_g ((48 : Nat) : Int) i).1 ≤ x0C ((48 : Nat) : Int) i ∧ x0C ((48 : Nat) : Int) i ≤ (YC_g ((48 : Nat) : Int) i).2 := ⟨of_decide_eq_true rfl, of_decide_eq_true rfl⟩
theorem rC_49 (i : Int) : (YC_g ((49 : Nat) : Int) i).1 ≤ x0C ((49 : Nat) : Int) i ∧ x0C ((49 : Nat) : Int) i ≤ (YC_g ((49 : Nat) : Int) i).2 := ⟨of_decide_eq_true rfl, of_decide_eq_true rfl⟩
theorem rC_50 (i : Int) : (YC_g ((50 : Nat) : Int) i).1 ≤ x0C ((50 : Nat) : Int) i ∧ x0C ((50 : Nat) : Int) i ≤ (YC_g ((50 : Nat) : Int) i).2 := ⟨of_decide_eq_true rfl, of_decide_eq_true rfl⟩
theorem rC_51 (i : Int) : (YC_g ((51 : Nat) : Int) i).1 ≤ x0C ((51 : Nat) : Int) i ∧ x0C ((51 : Nat) : Int) i ≤ (YC_g ((51 : Nat) : Int) i).2 := lr _ _ (by decide) i.toNat
theorem rC_52 (i : Int) : (YC_g ((52 : Nat) : Int) i).1 ≤ x0C ((52 : Nat) : Int) i ∧ x0C ((52 : Nat) : Int) i ≤ (YC_g ((52 : Nat) : Int) i).2 := ⟨of_decide_eq_true rfl, of_decide_eq_true rfl⟩
theorem rC_53 (i : Int) : (YC_g ((53 : Nat) : Int) i).1 ≤ x0C ((53 : Nat) : Int) i ∧ x0C ((53 : Nat) : Int) i ≤ (YC_g ((53 : Nat) : Int) i).2 := ⟨of_decide_eq_true rfl, of_decide_eq_true rfl⟩
theorem rC_54 (i : Int) : (YC_g ((54 : Nat) : Int) i).1 ≤ x0C ((54 : Nat) : Int) i ∧ x0C ((54 : Nat) : Int) i ≤ (YC_g ((54 : Nat) : Int) i).2 := ⟨of_decide_eq_true rfl, of_decide_eq_true rfl⟩
theorem rC_55 (i : Int) : (YC_g ((55 : Nat) : Int) i).1 ≤ x0C ((55 : Nat) : Int) i ∧ x0C ((55 : Nat) : Int) i ≤ (YC_g ((55 : Nat) : Int) i).2 := ⟨of_decide_eq_true rfl, of_decide_eq_true rfl⟩
theorem rC_56 (i : Int) : (YC_g ((56 : Nat) : Int) i).1 ≤ x0C ((56 : Nat) : Int) i ∧ x0C ((56 : Nat) : Int) i ≤ (YC_g ((56 : Nat) : Int) i).2 := lr _ _ (by decide) i.toNat
theorem rC_57 (i : Int) : (YC_g ((57 : Nat) : Int) i).1 ≤ x0C ((57 : Nat) : Int) i ∧ x0C ((57 : Nat) : Int) i ≤ (YC_g ((57 : Nat) : Int) i).2 := ⟨of_decide_eq_true rfl, of_decide_eq_true rfl⟩
theorem rC_58 (i : Int) : (YC_g ((58 : Nat) : Int) i).1 ≤ x0C ((58 : Nat) : Int) i ∧ x0C ((58 : Nat) : Int) i ≤ (YC_g ((58 : Nat) : Int) i).2 := ⟨of_decide_eq_true rfl, of_decide_eq_true rfl⟩
theorem rC_59 (i : Int) : (YC_g ((59 : Nat) : Int) i).1 ≤ x0C ((59 : Nat) : Int) i ∧ x0C ((59 : Nat) : Int) i ≤ (YC_g ((59 : Nat) : Int) i).2 := ⟨of_decide_eq_true rfl, of_decide_eq_true rfl⟩
theorem rC_60 (i : Int) : (YC_g ((60 : Nat) : Int) i).1 ≤ x0C ((60 : Nat) : Int) i ∧ x0C ((60 : Nat) : Int) i ≤ (YC_g ((60 : Nat) : Int) i).2 := ⟨of_decide_eq_true rfl, of_decide_eq_true rfl⟩
theorem rC_61 (i : Int) : (YC_g ((61 : Nat) : Int) i).1 ≤ x0C ((61 : Nat) : Int) i ∧ x0C ((61 : Nat) : Int) i ≤ (YC_g ((61 : Nat) : Int) i).2 := lr _ _ (by decide) i.toNat
theorem rC_62 (i : Int) : (YC_g ((62 : Nat) : Int) i).1 ≤ x0C ((62 : Nat) : Int) i ∧ x0C ((62 : Nat) : Int) i ≤ (YC_g ((62 : Nat) : Int) i).2 := ⟨of_decide_eq_true rfl, of_decide_eq_true rfl⟩
theorem rC_63 (i : Int) : (YC_g ((63 : Nat) : Int) i).1 ≤ x0C ((63 : Nat) : Int) i ∧ x0C ((63 : Nat) : Int) i ≤ (YC_g ((63 : Nat) : Int) i).2 := ⟨of_decide_eq_true rfl, of_decide_eq_true rfl⟩
theorem rC_64 (i : Int) : (YC_g ((64 : Nat) : Int) i).1 ≤ x0C ((64 : Nat) : Int) i ∧ x0C ((64 : Nat) : Int) i ≤ (YC_g ((64 : Nat) : Int) i).2 := ⟨of_decide_eq_true rfl, of_decide_eq_true rfl⟩
theorem rC_65 (i : Int) : (YC_g ((65 : Nat) : Int) i).1 ≤ x0C ((65 : Nat) : Int) i ∧ x0C ((65 : Nat) : Int) i ≤ (YC_g ((65 : Nat) : Int) i).2 := ⟨of_decide_eq_true rfl, of_decide_eq_true rfl⟩
theorem rC_66 (i : Int) : (YC_g ((66 : Nat) : Int) i).1 ≤ x0C ((66 : Nat) : Int) i ∧ x0C ((66 : Nat) : Int) i ≤ (YC_g ((66 : Nat) : Int) i).2 := lr _ _ (by decide) i.toNat
theorem rC_67 (i : Int) : (YC_g ((67 : Nat) : Int) i).1 ≤ x0C ((67 : Nat) : Int) i ∧ x0C ((67 : Nat) : Int) i ≤ (YC_g ((67 : Nat) : Int) i).2 := lr _ _ (by decide) i.toNat
theorem rC_68 (i : Int) : (YC_g ((68 : Nat) : Int) i).1 ≤ x0C ((68 : Nat) : Int) i ∧ x0C ((68 : Nat) : Int) i ≤ (YC_g ((68 : Nat) : Int) i).2 := ⟨of_decide_eq_true rfl, of_decide_eq_true rfl⟩
theorem rC_69 (i : Int) : (YC_g ((69 : Nat) : Int) i).1 ≤ x0C ((69 : Nat) : Int) i ∧ x0C ((69 : Nat) : Int) i ≤ (YC_g ((69 : Nat) : Int) i).2 := ⟨of_decide_eq_true rfl, of_decide_eq_true rfl⟩
theorem rC_70 (i : Int) : (YC_g ((70 : Nat) : Int) i).1 ≤ x0C ((70 : Nat) : Int) i ∧ x0C ((70 : Nat) : Int) i ≤ (YC_g ((70 : Nat) : Int) i).2 := ⟨of_decide_eq_true rfl, of_decide_eq_true rfl⟩
theorem rC_71 (i : Int) : (YC_g ((71 : Nat) : Int) i).1 ≤ x0C ((71 : Nat) : Int) i ∧ x0C ((71 : Nat) : Int) i ≤ (YC_g ((71 : Nat) : Int) i).2 := ⟨of_decide_eq_true rfl, of_decide_eq_true rfl⟩
theorem rC_72 (i : Int) : (YC_g ((72 : Nat) : Int) i).1 ≤ x0C ((72 : Nat) : Int) i ∧ x0C ((72 : Nat) : Int) i ≤ (YC_g ((72 : Nat) : Int) i).2 := lr _ _ (by decide) i.toNat
theorem rC_73 (i : Int) : (YC_g ((73 : Nat) : Int) i).1 ≤ x0C ((73 : Nat) : Int) i ∧ x0C ((73 : Nat) : Int) i ≤ (YC_g ((73 : Nat) : Int) i).2 := ⟨of_decide_eq_true rfl, of_decide_eq_true rfl⟩
theorem rC_74 (i : Int) : (YC_g ((74 : Nat) : Int) i).1 ≤ x0C ((74 : Nat) : Int) i ∧ x0C ((74 : Nat) : Int) i ≤ (YC_g ((74 : Nat) : Int) i).2 := ⟨of_decide_eq_true rfl, of_decide_eq_true rfl⟩
theorem rC_75 (i : Int) : (YC_g ((75 : Nat) : Int) i).1 ≤ x0C ((75 : Nat) : Int) i ∧ x0C ((75 : Nat) : Int) i ≤ (YC_g ((75 : Nat) : Int) i).2 := ⟨of_decide_eq_true rfl, of_decide_eq_true rfl⟩
theorem rC_76 (i : Int) : (YC_g ((76 : Nat) : Int) i).1 ≤ x0C ((76 : Nat) : Int) i ∧ x0C ((76 : Nat) : Int) i ≤ (YC_g ((76 : Nat) : Int) i).2 := ⟨of_decide_eq_true rfl, of_decide_eq_true rfl⟩
theorem rC_77 (i : Int) : (YC_g ((77 : Nat) : Int) i).1 ≤ x0C ((77 : Nat) : Int) i ∧ x0C ((77 : Nat) : Int) i ≤ (YC_g ((77 : Nat) : Int) i).2 := ⟨of_decide_eq_true rfl, of_decide_eq_true rfl⟩
theorem rC_78 (i : Int) : (YC_g ((78 : Nat) : Int) i).1 ≤ x0C ((78 : Nat) : Int) i ∧ x0C ((78 : Nat) : Int) i ≤ (YC_g ((78 : Nat) : Int) i).2 := lr _ _ (by decide) i.toNat
theorem rC_79 (i : Int) : (YC_g ((79 : Nat) : Int) i).1 ≤ x0C ((79 : Nat) : Int) i ∧ x0C ((79 : Nat) : Int) i ≤ (YC_g ((79 : Nat) : Int) i).2 := lr _ _ (by decide) i.toNat
theorem rC_80 (i : Int) : (YC_g ((80 : Nat) : Int) i).1 ≤ x0C ((80 : Nat) : Int) i ∧ x0C ((80 : Nat) : Int) i ≤ (YC_g ((80 : Nat) : Int) i).2 := ⟨of_decide_eq_true rfl, of_decide_eq_true rfl⟩
theorem rC_81 (i : Int) : (YC_g ((81 : Nat) : Int) i).1 ≤ x0C ((81 : Nat) : Int) i ∧ x0C ((81 : Nat) : Int) i ≤ (YC_g ((81 : Nat) : Int) i).2 := lr _ _ (by decide) i.toNat
theorem rC_82 (i : Int) : (YC_g ((82 : Nat) : Int) i).1 ≤ x0C ((82 : Nat) : Int) i ∧ x0C ((82 : Nat) : Int) i ≤ (YC_g ((82 : Nat) : Int) i).2 := ⟨of_decide_eq_true rfl, of_decide_eq_true rfl⟩
theorem rC_83 (i : Int) : (YC_g ((83 : Nat) : Int) i).1 ≤ x0C ((83 : Nat) : Int) i ∧ x0C ((83 : Nat) : Int) i ≤ (YC_g ((83 : Nat) : Int) i).2 := lr _ _ (by decide) i.toNat
theorem rC_84 (i : Int) : (YC_g ((84 : Nat) : Int) i).1 ≤ x0C ((84 : Nat) : Int) i ∧ x0C ((84 : Nat) : Int) i ≤ (YC_g ((84 : Nat) : Int) i).2 := ⟨of_decide_eq_true rfl, of_decide_eq_true rfl⟩
theorem rC_85 (i : Int) : (YC_g ((85 : Nat) : Int) i).1 ≤ x0C ((85 : Nat) : Int) i ∧ x0C ((85 : Nat) : Int) i ≤ (YC_g ((85 : Nat) : Int) i).2 := lr _ _ (by decide) i.toNat
theorem rC_86 (i : Int) : (YC_g ((86 : Nat) : Int) i).1 ≤ x0C ((86 : Nat) : Int) i ∧ x0C ((86 : Nat) : Int) i ≤ (YC_g ((86 : Nat) : Int) i).2 := ⟨of_decide_eq_true rfl, of_decide_eq_true rfl⟩
theorem rC_87 (i : Int) : (YC_g ((87 : Nat) : Int) i).1 ≤ x0C ((87 : Nat) : Int) i ∧ x0C ((87 : Nat) : Int) i ≤ (YC_g ((87 : Nat) : Int) i).2 := lr _ _ (by decide) i.toNat
theorem rC_88 (i : Int) : (YC_g ((88 : Nat) : Int) i).1 ≤ x0C ((88 : Nat) : Int) i ∧ x0C ((88 : Nat) : Int) i ≤ (YC_g ((88 : Nat) : Int) i).2 := ⟨of_decide_eq_true rfl, of_decide_eq_true rfl⟩
theorem rC_89 (i : Int) : (YC_g ((89 : Nat) : Int) i).1 ≤ x0C ((89 : Nat) : Int) i ∧ x0C ((89 : Nat) : Int) i ≤ (YC_g ((89 : Nat) : Int) i).2 := lr _ _ (by decide) i.toNat
theorem rC_90 (i : Int) : (YC_g ((90 : Nat) : Int) i).1 ≤ x0C ((90 : Nat) : Int) i ∧ x0C ((90 : Nat) : Int) i ≤ (YC_g ((90 : Nat) : Int) i).2 := ⟨of_decide_eq_true rfl, of_decide_eq_true rfl⟩
theorem rC_91 (i : Int) : (YC_g ((91 : Nat) : Int) i).1 ≤ x0C ((91 : Nat) : Int) i ∧ x0C ((91 : Nat) : Int) i ≤ (YC_g ((91 : Nat) : Int) i).2 := ⟨of_decide_eq_true rfl, of_decide_eq_true rfl⟩
theorem rC_92 (i : Int) : (YC_g ((92 : Nat) : Int) i).1 ≤ x0C ((92 : Nat) : Int) i ∧ x0C ((92 : Nat) : Int) i ≤ (YC_g ((92 : Nat) : Int) i).2 := ⟨of_decide_eq_true rfl, of_decide_eq_true rfl⟩
theorem rC_93 (i : Int) : (YC_g ((93 : Nat) : Int) i).1 ≤ x0C ((93 : Nat) : Int) i ∧ x0C ((93 : Nat) : Int) i ≤ (YC_g ((93 : Nat) : Int) i).2 := ⟨of_decide_eq_true rfl, of_decide_eq_true rfl⟩
theorem rC_94 (i : Int) : (YC_g ((94 : Nat) : Int) i).1 ≤ x0C ((94 : Nat) : Int) i ∧ x0C ((94 : Nat) : Int) i ≤ (YC_g ((94 : Nat) : Int) i).2 := lr _ _ (by decide) i.toNat
theorem rC_95 (i : Int) : (YC_g ((95 : Nat) : Int) i).1 ≤ x0C ((95 : Nat) : Int) i ∧ x0C ((95 : Nat) : Int) i ≤ (YC_g ((95 : Nat) : Int) i).2 := lr _ _ (by decide) i.toNat
theorem rC_96 (i : Int) : (YC_g ((96 : Nat) : Int) i).1 ≤ x0C ((96 : Nat) : Int) i ∧ x0C ((96 : Nat) : Int) i ≤ (YC_g ((96 : Nat) : Int) i).2 := lr _ _ (by decide) i.toNat
theorem rC_97 (i : Int) : (YC_g ((97 : Nat) : Int) i).1 ≤ x0C ((97 : Nat) : Int) i ∧ x0C ((97 : Nat) : Int) i ≤ (YC_g ((97 : Nat) : Int) i).2 := lr _ _ (by decide) i.toNat
theorem rC_98 (i : Int) : (YC_g ((98 : Nat) : Int) i).1 ≤ x0C ((98 : Nat) : Int) i ∧ x0C ((98 : Nat) : Int) i ≤ (YC_g ((98 : Nat) : Int) i).2 := lr _ _ (by decide) i.toNat
theorem rC_99 (i : Int) : (YC_g ((99 : Nat) : Int) i).1 ≤ x0C ((99 : Nat) : Int) i ∧ x0C ((99 : Nat) : Int) i ≤ (YC_g ((99 : Nat) : Int) i).2 := ⟨of_decide_eq_true rfl, of_decide_eq_true rfl⟩
theorem rC_100 (i : Int) : (YC_g ((100 : Nat) : Int) i).1 ≤ x0C ((100 : Nat) : Int) i ∧ x0C ((100 : Nat) : Int) i ≤ (YC_g ((100 : Nat) : Int) i).2 := ⟨of_decide_eq_true rfl, of_decide_eq_true rfl⟩
theorem rC_101 (i : Int) : (YC_g ((101 : Nat) : Int) i).1 ≤ x0C ((101 : Nat) : Int) i ∧ x0C ((101 : Nat) : Int) i ≤ (YC_g ((101 : Nat) : Int) i).2 := lr _ _ (by decide) i.toNat
theorem rC_102 (i : Int) : (YC_g ((102 : Nat) : Int) i).1 ≤ x0C ((102 : Nat) : Int) i ∧ x0C ((102 : Nat) : Int) i ≤ (YC_g ((102 : Nat) : Int) i).2 := ⟨of_decide_eq_true rfl, of_decide_eq_true rfl⟩
theorem rC_103 (i : Int) : (YC_g ((103 : Nat) : Int) i).1 ≤ x0C ((103 : Nat) : Int) i ∧ x0C ((103 : Nat) : Int) i ≤ (YC_g ((103 : Nat) : Int) i).2 := ⟨of_decide_eq_true rfl, of_decide_eq_true rfl⟩
theorem rC_104 (i : Int) : (YC_g ((104 : Nat) : Int) i).1 ≤ x0C ((104 : Nat) : Int) i ∧ x0C ((104 : Nat) : Int) i ≤ (YC_g ((104 : Nat) : Int) i).2 := ⟨of_decide_eq_true rfl, of_decide_eq_true rfl⟩
theorem rC_105 (i : Int) : (YC_g ((105 : Nat) : Int) i).1 ≤ x0C ((105 : Nat) : Int) i ∧ x0C ((105 : Nat) : Int) i ≤ (YC_g ((105 : Nat) : Int) i).2 := ⟨of_decide_eq_true rfl, of_decide_eq_true rfl⟩
theorem rC_106 (i : Int) : (YC_g ((106 : Nat) : Int) i).1 ≤ x0C ((106 : Nat) : Int) i ∧ x0C ((106 : Nat) : Int) i ≤ (YC_g ((106 : Nat) : Int) i).2 := ⟨of_decide_eq_true rfl, of_decide_eq_true rfl⟩
theorem rC_107 (i : Int) : (YC_g ((107 : Nat) : Int) i).1 ≤ x0C ((107 : Nat) : Int) i ∧ x0C ((107 : Nat) : Int) i ≤ (YC_g ((107 : Nat) : Int) i).2 := lr _ _ (by decide) i.toNat
theorem rC_108 (i : Int) : (YC_g ((108 : Nat) : Int) i).1 ≤ x0C ((108 : Nat) : Int) i ∧ x0C ((108 : Nat) : Int) i ≤ (YC_g ((108 : Nat) : Int) i).2 := ⟨of_decide_eq_true rfl, of_decide_eq_true rfl⟩
theorem rC_109 (i : Int) : (YC_g ((109 : Nat) : Int) i).1 ≤ x0C ((109 : Nat) : Int) i ∧ x0C ((109 : Nat) : Int) i ≤ (YC_g ((109 : Nat) : Int) i).2 := ⟨of_decide_eq_true rfl, of_decide_eq_true rfl⟩
theorem rC_110 (i : Int) : (YC_g ((110 : Nat) : Int) i).1 ≤ x0C ((110 : Nat) : Int) i ∧ x0C ((110 : Nat) : Int) i ≤ (YC_g ((110 : Nat) : Int) i).2 := lr _ _ (by decide) i.toNat
theorem rC_111 (i : Int) : (YC_g ((111 : Nat) : Int) i).1 ≤ x0C ((111 : Nat) : Int) i ∧ x0C ((111 : Nat) : Int) i ≤ (YC_g ((111 : Nat) : Int) i).2 := sr _ _ rfl i.toNat
theorem rC_112 (i : Int) : (YC_g ((112 : Nat) : Int) i).1 ≤ x0C ((112 : Nat) : Int) i ∧ x0C ((112 : Nat) : Int) i ≤ (YC_g ((112 : Nat) : Int) i).2 := ⟨of_decide_eq_true rfl, of_decide_eq_true rfl⟩
theorem rC_113 (i : Int) : (YC_g ((113 : Nat) : Int) i).1 ≤ x0C ((113 : Nat) : Int) i ∧ x0C ((113 : Nat) : Int) i ≤ (YC_g ((113 : Nat) : Int) i).2 := ⟨of_decide_eq_true rfl, of_decide_eq_true rfl⟩
theorem rC_114 (i : Int) : (YC_g ((114 : Nat) : Int) i).1 ≤ x0C ((114 : Nat) : Int) i ∧ x0C ((114 : Nat) : Int) i ≤ (YC_g ((114 : Nat) : Int) i).2 := ⟨of_decide_eq_true rfl, of_decide_eq_true rfl⟩
theorem rC_115 (i : Int) : (YC_g ((115 : Nat) : Int) i).1 ≤ x0C ((115 : Nat) : Int) i ∧ x0C ((115 : Nat) : Int) i ≤ (YC_g ((115 : Nat) : Int) i).2 := lr _ _ (by decide) i.toNat
theorem rC_116 (i : Int) : (YC_g ((116 : Nat) : Int) i).1 ≤ x0C ((116 : Nat) : Int) i ∧ x0C ((116 : Nat) : Int) i ≤ (YC_g ((116 : Nat) : Int) i).2 := sr _ _ rfl i.toNat
theorem rC_117 (i : Int) : (YC_g ((117 : Nat) : Int) i).1 ≤ x0C ((117 : Nat) : Int) i ∧ x0C ((117 : Nat) : Int) i ≤ (YC_g ((117 : Nat) : Int) i).2 := ⟨of_decide_eq_true rfl, of_decide_eq_true rfl⟩
theorem rC_118 (i : Int) : (YC_g ((118 : Nat) : Int) i).1 ≤ x0C ((118 : Nat) : Int) i ∧ x0C ((118 : Nat) : Int) i ≤ (YC_g ((118 : Nat) : Int) i).2 := ⟨of_decide_eq_true rfl, of_decide_eq_true rfl⟩
theorem rC_119 (i : Int) : (YC_g ((119 : Nat) : Int) i).1 ≤ x0C ((119 : Nat) : Int) i ∧ x0C ((119 : Nat) : Int) i ≤ (YC_g ((119 : Nat) : Int) i).2 := ⟨of_decide_eq_true rfl, of_decide_eq_true rfl⟩
theorem rC_120 (i : Int) : (YC_g ((120 : Nat) : Int) i).1 ≤ x0C ((120 : Nat) : Int) i ∧ x0C ((120 : Nat) : Int) i ≤ (YC_g ((120 : Nat) : Int) i).2 := ⟨of_decide_eq_true rfl, of_decide_eq_true rfl⟩
theorem rC_all (i : Int) : ∀ k : Nat, k < 121 → (YC_g ((k : Nat) : Int) i).1 ≤ x0C ((k : Nat) : Int) i ∧ x0C ((k : Nat) : Int) i ≤ (YC_g ((k : Nat) : Int) i).2 := by
  intro k hk
  by_cases c0_121 : k < 60
  ·
    by_cases c0_60 : k < 30
    ·
      by_cases c0_30 : k < 15
      ·
        by_cases c0_15 : k < 7
        ·
          by_cases c0_7 : k < 3
          ·
            by_cases c0_3 : k < 1
            ·
              obtain rfl : k = 0 := by omega
              exact rC_0 i
            ·
              by_cases c1_3 : k < 2
              ·
                obtain rfl : k = 1 := by omega
                exact rC_1 i
              ·
                obtain rfl : k = 2 := by omega
                exact rC_2 i
          ·
            by_cases c3_7 : k < 5
            ·
              by_cases c3_5 : k < 4
              ·
                obtain rfl : k = 3 := by omega
                exact rC_3 i
              ·
                obtain rfl : k = 4 := by omega
                exact rC_4 i
            ·
              by_cases c5_7 : k < 6
              ·
                obtain rfl : k = 5 := by omega
                exact rC_5 i
              ·
                obtain rfl : k = 6 := by omega
                exact rC_6 i
        ·
          by_cases c7_15 : k < 11
          ·
            by_cases c7_11 : k < 9
            ·
              by_cases c7_9 : k < 8
              ·
                obtain rfl : k = 7 := by omega
                exact rC_7 i
              ·
                obtain rfl : k = 8 := by omega
                exact rC_8 i
            ·
              by_cases c9_11 : k < 10
              ·
                obtain rfl : k = 9 := by omega
                exact rC_9 i
              ·
                obtain rfl : k = 10 := by omega
                exact rC_10 i
          ·
            by_cases c11_15 : k < 13
            ·
              by_cases c11_13 : k < 12
              ·
                obtain rfl : k = 11 := by omega
                exact rC_11 i
              ·
                obtain rfl : k = 12 := by omega
                exact rC_12 i
            ·
              by_cases c13_15 : k < 14
              ·
                obtain rfl : k = 13 := by omega
                exact rC_13 i
              ·
                obtain rfl : k = 14 := by omega
                exact rC_14 i
      ·
        by_cases c15_30 : k < 22
        ·
          by_cases c15_22 : k < 18
          ·
            by_cases c15_18 : k < 16
            ·
              obtain rfl : k = 15 := by omega
              exact rC_15 i
            ·
              by_cases c16_18 : k < 17
              ·
                obtain rfl : k = 16 := by omega
                exact rC_16 i
              ·
                obtain rfl : k = 17 := by omega
                exact rC_17 i
          ·
            by_cases c18_22 : k < 20
            ·
              by_cases c18_20 : k < 19
              ·
                obtain rfl : k = 18 := by omega
                exact rC_18 i
              ·
                obtain rfl : k = 19 := by omega
                exact rC_19 i
            ·
              by_cases c20_22 : k < 21
              ·
                obtain rfl : k = 20 := by omega
                exact rC_20 i
              ·
                obtain rfl : k = 21 := by omega
                exact rC_21 i
        ·
          by_cases c22_30 : k < 26
          ·
            by_cases c22_26 : k < 24
            ·
              by_cases c22_24 : k < 23
              ·
                obtain rfl : k = 22 := by omega
                exact rC_22 i
              ·
                obtain rfl : k = 23 := by omega
                exact rC_23 i
            ·
              by_cases c24_26 : k < 25
              ·
                obtain rfl : k = 24 := by omega
                exact rC_24 i
              ·
                obtain rfl : k = 25 := by omega
                exact rC_25 i
          ·
            by_cases c26_30 : k < 28
            ·
              by_cases c26_28 : k < 27
              ·
                obtain rfl : k = 26 := by omega
                exact rC_26 i
              ·
                obtain rfl : k = 27 := by omega
                exact rC_27 i
            ·
              by_cases c28_30 : k < 29
              ·
                obtain rfl : k = 28 := by omega
                exact rC_28 i
              ·
                obtain rfl : k = 29 := by omega
                exact rC_29 i
    ·
      by_cases c30_60 : k < 45
      ·
        by_cases c30_45 : k < 37
        ·
          by_cases c30_37 : k < 33
          ·
            by_cases c30_33 : k < 31
            ·
              obtain rfl : k = 30 := by omega
              exact rC_30 i
            ·
              by_cases c31_33 : k < 32
              ·
                obtain rfl : k = 31 := by omega
                exact rC_31 i
              ·
                obtain rfl : k = 32 := by omega
                exact rC_32 i
          ·
            by_cases c33_37 : k < 35
            ·
              by_cases c33_35 : k < 34
              ·
                obtain rfl : k = 33 := by omega
                exact rC_33 i
              ·
                obtain rfl : k = 34 := by omega
                exact rC_34 i
            ·
              by_cases c35_37 : k < 36
              ·
                obtain rfl : k = 35 := by omega
                exact rC_35 i
              ·
                obtain rfl : k = 36 := by omega
                exact rC_36 i
        ·
          by_cases c37_45 : k < 41
          ·
            by_cases c37_41 : k < 39
            ·
              by_cases c37_39 : k < 38
              ·
                obtain rfl : k = 37 := by omega
                exact rC_37 i
              ·
                obtain rfl : k = 38 := by omega
                exact rC_38 i
            ·
              by_cases c39_41 : k < 40
              ·
                obtain rfl : k = 39 := by omega
                exact rC_39 i
              ·
                obtain rfl : k = 40 := by omega
                exact rC_40 i
          ·
            by_cases c41_45 : k < 43
            ·
              by_cases c41_43 : k < 42
              ·
                obtain rfl : k = 41 := by omega
                exact rC_41 i
              ·
                obtain rfl : k = 42 := by omega
                exact rC_42 i
            ·
              by_cases c43_45 : k < 44
              ·
                obtain rfl : k = 43 := by omega
                exact rC_43 i
              ·
                obtain rfl : k = 44 := by omega
                exact rC_44 i
      ·
        by_cases c45_60 : k < 52
        ·
          by_cases c45_52 : k < 48
          ·
            by_cases c45_48 : k < 46
            ·
              obtain rfl : k = 45 := by omega
              exact rC_45 i
            ·
              by_cases c46_48 : k < 47
              ·
                obtain rfl : k = 46 := by omega
                exact rC_46 i
              ·
                obtain rfl : k = 47 := by omega
                exact rC_47 i
          ·
            by_cases c48_52 : k < 50
            ·
              by_cases c48_50 : k < 49
              ·
                obtain rfl : k = 48 := by omega
                exact rC_48 i
              ·
                obtain rfl : k = 49 := by omega
                exact rC_49 i
            ·
              by_cases c50_52 : k < 51
              ·
                obtain rfl : k = 50 := by omega
                exact rC_50 i
              ·
                obtain rfl : k = 51 := by omega
                exact rC_51 i
        ·
          by_cases c52_60 : k < 56
          ·
            by_cases c52_56 : k < 54
            ·
              by_cases c52_54 : k < 53
              ·
                obtain rfl : k = 52 := by omega
                exact rC_52 i
              ·
                obtain rfl : k = 53 := by omega
                exact rC_53 i
            ·
              by_cases c54_56 : k < 55
              ·
                obtain rfl : k = 54 := by omega
                exact rC_54 i
              ·
                obtain rfl : k = 55 := by omega
                exact rC_55 i
          ·
            by_cases c56_60 : k < 58
            ·
              by_cases c56_58 : k < 57
              ·
                obtain rfl : k = 56 := by omega
                exact rC_56 i
              ·
                obtain rfl : k = 57 := by omega
                exact rC_57 i
            ·
              by_cases c58_60 : k < 59
              ·
                obtain rfl : k = 58 := by omega
                exact rC_58 i
              ·
                obtain rfl : k = 59 := by omega
                exact rC_59 i
  ·
    by_cases c60_121 : k < 90
    ·
      by_cases c60_90 : k < 75
      ·
        by_cases c60_75 : k < 67
        ·
          by_cases c60_67 : k < 63
          ·
            by_cases c60_63 : k < 61
            ·
              obtain rfl : k = 60 := by omega
              exact rC_60 i
            ·
              by_cases c61_63 : k < 62
              ·
                obtain rfl : k = 61 := by omega
                exact rC_61 i
              ·
                obtain rfl : k = 62 := by omega
                exact rC_62 i
          ·
            by_cases c63_67 : k < 65
            ·
              by_cases c63_65 : k < 64
              ·
                obtain rfl : k = 63 := by omega
                exact rC_63 i
              ·
                obtain rfl : k = 64 := by omega
                exact rC_64 i
            ·
              by_cases c65_67 : k < 66
              ·
                obtain rfl : k = 65 := by omega
                exact rC_65 i
              ·
                obtain rfl : k = 66 := by omega
                exact rC_66 i
        ·
          by_cases c67_75 : k < 71
          ·
            by_cases c67_71 : k < 69
            ·
              by_cases c67_69 : k < 68
              ·
                obtain rfl : k = 67 := by omega
                exact rC_67 i
              ·
                obtain rfl : k = 68 := by omega
                exact rC_68 i
            ·
              by_cases c69_71 : k < 70
              ·
                obtain rfl : k = 69 := by omega
                exact rC_69 i
              ·
                obtain rfl : k = 70 := by omega
                exact rC_70 i
          ·
            by_cases c71_75 : k < 73
            ·
              by_cases c71_73 : k < 72
              ·
                obtain rfl : k = 71 := by omega
                exact rC_71 i
              ·
                obtain rfl : k = 72 := by omega
                exact rC_72 i
            ·
              by_cases c73_75 : k < 74
              ·
                obtain rfl : k = 73 := by omega
                exact rC_73 i
              ·
                obtain rfl : k = 74 := by omega
                exact rC_74 i
      ·
        by_cases c75_90 : k < 82
        ·
          by_cases c75_82 : k < 78
          ·
            by_cases c75_78 : k < 76
            ·
              obtain rfl : k = 75 := by omega
              exact rC_75 i
            ·
              by_cases c76_78 : k < 77
              ·
                obtain rfl : k = 76 := by omega
                exact rC_76 i
              ·
                obtain rfl : k = 77 := by omega
                exact rC_77 i
          ·
            by_cases c78_82 : k < 80
            ·
              by_cases c78_80 : k < 79
              ·
                obtain rfl : k = 78 := by omega
                exact rC_78 i
              ·
                obtain rfl : k = 79 := by omega
                exact rC_79 i
            ·
              by_cases c80_82 : k < 81
              ·
                obtain rfl : k = 80 := by omega
                exact rC_80 i
              ·
                obtain rfl : k = 81 := by omega
                exact rC_81 i
        ·
          by_cases c82_90 : k < 86
          ·
            by_cases c82_86 : k < 84
            ·
              by_cases c82_84 : k < 83
              ·
                obtain rfl : k = 82 := by omega
                exact rC_82 i
              ·
                obtain rfl : k = 83 := by omega
                exact rC_83 i
            ·
              by_cases c84_86 : k < 85
              ·
                obtain rfl : k = 84 := by omega
                exact rC_84 i
              ·
                obtain rfl : k = 85 := by omega
                exact rC_85 i
          ·
            by_cases c86_90 : k < 88
            ·
              by_cases c86_88 : k < 87
              ·
                obtain rfl : k = 86 := by omega
                exact rC_86 i
              ·
                obtain rfl : k = 87 := by omega
                exact rC_87 i
            ·
              by_cases c88_90 : k < 89
              ·
                obtain rfl : k = 88 := by omega
                exact rC_88 i
              ·
                obtain rfl : k = 89 := by omega
                exact rC_89 i
    ·
      by_cases c90_121 : k < 105
      ·
        by_cases c90_105 : k < 97
        ·
          by_cases c90_97 : k < 93
          ·
            by_cases c90_93 : k < 91
            ·
              obtain rfl : k = 90 := by omega
              exact rC_90 i
            ·
              by_cases c91_93 : k < 92
              ·
                obtain rfl : k = 91 := by omega
                exact rC_91 i
              ·
                obtain rfl : k = 92 := by omega
                exact rC_92 i
          ·
            by_cases c93_97 : k < 95
            ·
              by_cases c93_95 : k < 94
              ·
                obtain rfl : k = 93 := by omega
                exact rC_93 i
              ·
                obtain rfl : k = 94 := by omega
                exact rC_94 i
            ·
              by_cases c95_97 : k < 96
              ·
                obtain rfl : k = 95 := by omega
                exact rC_95 i
              ·
                obtain rfl : k = 96 := by omega
                exact rC_96 i
        ·
          by_cases c97_105 : k < 101
          ·
            by_cases c97_101 : k < 99
            ·
              by_cases c97_99 : k < 98
              ·
                obtain rfl : k = 97 := by omega
                exact rC_97 i
              ·
                obtain rfl : k = 98 := by omega
                exact rC_98 i
            ·
              by_cases c99_101 : k < 100
              ·
                obtain rfl : k = 99 := by omega
                exact rC_99 i
              ·
                obtain rfl : k = 100 := by omega
                exact rC_100 i
          ·
            by_cases c101_105 : k < 103
            ·
              by_cases c101_103 : k < 102
              ·
                obtain rfl : k = 101 := by omega
                exact rC_101 i
              ·
                obtain rfl : k = 102 := by omega
                exact rC_102 i
            ·
              by_cases c103_105 : k < 104
              ·
                obtain rfl : k = 103 := by omega
                exact rC_103 i
              ·
                obtain rfl : k = 104 := by omega
                exact rC_104 i
      ·
        by_cases c105_121 : k < 113
        ·
          by_cases c105_113 : k < 109
          ·
            by_cases c105_109 : k < 107
            ·
              by_cases c105_107 : k < 106
              ·
                obtain rfl : k = 105 := by omega
                exact rC_105 i
              ·
                obtain rfl : k = 106 := by omega
                exact rC_106 i
            ·
              by_cases c107_109 : k < 108
              ·
                obtain rfl : k = 107 := by omega
                exact rC_107 i
              ·
                obtain rfl : k = 108 := by omega
                exact rC_108 i
          ·
            by_cases c109_113 : k < 111
            ·
              by_cases c109_111 : k < 110
              ·
                obtain rfl : k = 109 := by omega
                exact rC_109 i
              ·
                obtain rfl : k = 110 := by omega
                exact rC_110 i
            ·
              by_cases c111_113 : k < 112
              ·
                obtain rfl : k = 111 := by omega
                exact rC_111 i
              ·
                obtain rfl : k = 112 := by omega
                exact rC_112 i
        ·
          by_cases c113_121 : k < 117
          ·
            by_cases c113_117 : k < 115
            ·
              by_cases c113_115 : k < 114
              ·
                obtain rfl : k = 113 := by omega
                exact rC_113 i
              ·
                obtain rfl : k = 114 := by omega
                exact rC_114 i
            ·
              by_cases c115_117 : k < 116
              ·
                obtain rfl : k = 115 := by omega
                exact rC_115 i
              ·
                obtain rfl : k = 116 := by omega
                exact rC_116 i
          ·
            by_cases c117_121 : k < 119
            ·
              by_cases c117_119 : k < 118
              ·
                obtain rfl : k = 117 := by omega
                exact rC_117 i
              ·
                obtain rfl : k = 118 := by omega
                exact rC_118 i
            ·
              by_cases c119_121 : k < 120
              ·
                obtain rfl : k = 119 := by omega
                exact rC_119 i
              ·
                obtain rfl : k = 120 := by omega
                exact rC_120 i
theorem R0_C : fm_R YC x0C := by
  intro k i
  have e1 : YC_g k i = YC_g ((k.toNat : Nat) : Int) i := by
    unfold YC_g
    rw [Int.toNat_natCast]
  have e2 : x0C k i = x0C ((k.toNat : Nat) : Int) i := by
    unfold x0C
    rw [Int.toNat_natCast]
  show (YC_g k i).1 ≤ x0C k i ∧ x0C k i ≤ (YC_g k i).2
  rw [e1, e2]
  by_cases h : k.toNat < 121
  · exact rC_all i k.toNat h
  · have h1 : YC_l[k.toNat]? = none := List.getElem?_eq_none (by rw [show YC_l.length = 121 from by decide +kernel]; omega)
    have h2 : XCL[k.toNat]? = none := List.getElem?_eq_none (by rw [show XCL.length = 121 from by decide +kernel]; omega)
    have e3 : YC_g ((k.toNat : Nat) : Int) i = (0, 0) := by
      unfold YC_g
      rw [Int.toNat_natCast, h1]
    have e4 : x0C ((k.toNat : Nat) : Int) i = 0 := by
      unfold x0C
      rw [Int.toNat_natCast, h2]
      rfl
    rw [e3, e4]
    exact ⟨of_decide_eq_true rfl, of_decide_eq_true rfl⟩
theorem sg_any2 (j : Int) : (YM_s j).1 = 0 ∧ 0 ≤ (YM_s j).2 := by
  unfold YM_s
  split
  · decide
  · split
    · decide
    · split
      · decide
      · split
        · decide
        · split <;> decide
theorem rM_0 (i : Int) : (YM_g ((0 : Nat) : Int) i).1 ≤ x0M ((0 : Nat) : Int) i ∧ x0M ((0 : Nat) : Int) i ≤ (YM_g ((0 : Nat) : Int) i).2 := lr _ _ (by decide) i.toNat
theorem rM_1 (i : Int) : (YM_g ((1 : Nat) : Int) i).1 ≤ x0M ((1 : Nat) : Int) i ∧ x0M ((1 : Nat) : Int) i ≤ (YM_g ((1 : Nat) : Int) i).2 := (by
  show (YM_s i).1 ≤ (if i = 104 then 1 else 0) ∧ (if i = 104 then 1 else 0) ≤ (YM_s i).2
  by_cases e : i = 104
  · rw [e, if_pos rfl, sg_e2]
    decide
  · rw [if_neg e]
    have := sg_any2 i
    omega)
theorem rM_2 (i : Int) : (YM_g ((2 : Nat) : Int) i).1 ≤ x0M ((2 : Nat) : Int) i ∧ x0M ((2 : Nat) : Int) i ≤ (YM_g ((2 : Nat) : Int) i).2 := ⟨of_decide_eq_true rfl, of_decide_eq_true rfl⟩
theorem rM_3 (i : Int) : (YM_g ((3 : Nat) : Int) i).1 ≤ x0M ((3 : Nat) : Int) i ∧ x0M ((3 : Nat) : Int) i ≤ (YM_g ((3 : Nat) : Int) i).2 := ⟨of_decide_eq_true rfl, of_decide_eq_true rfl⟩
theorem rM_4 (i : Int) : (YM_g ((4 : Nat) : Int) i).1 ≤ x0M ((4 : Nat) : Int) i ∧ x0M ((4 : Nat) : Int) i ≤ (YM_g ((4 : Nat) : Int) i).2 := ⟨of_decide_eq_true rfl, of_decide_eq_true rfl⟩
theorem rM_5 (i : Int) : (YM_g ((5 : Nat) : Int) i).1 ≤ x0M ((5 : Nat) : Int) i ∧ x0M ((5 : Nat) : Int) i ≤ (YM_g ((5 : Nat) : Int) i).2 := ⟨of_decide_eq_true rfl, of_decide_eq_true rfl⟩
theorem rM_6 (i : Int) : (YM_g ((6 : Nat) : Int) i).1 ≤ x0M ((6 : Nat) : Int) i ∧ x0M ((6 : Nat) : Int) i ≤ (YM_g ((6 : Nat) : Int) i).2 := ⟨of_decide_eq_true rfl, of_decide_eq_true rfl⟩
theorem rM_7 (i : Int) : (YM_g ((7 : Nat) : Int) i).1 ≤ x0M ((7 : Nat) : Int) i ∧ x0M ((7 : Nat) : Int) i ≤ (YM_g ((7 : Nat) : Int) i).2 := ⟨of_decide_eq_true rfl, of_decide_eq_true rfl⟩
theorem rM_8 (i : Int) : (YM_g ((8 : Nat) : Int) i).1 ≤ x0M ((8 : Nat) : Int) i ∧ x0M ((8 : Nat) : Int) i ≤ (YM_g ((8 : Nat) : Int) i).2 := (by show (YM_s i).1 ≤ 0 ∧ 0 ≤ (YM_s i).2; have := sg_any2 i; omega)
theorem rM_9 (i : Int) : (YM_g ((9 : Nat) : Int) i).1 ≤ x0M ((9 : Nat) : Int) i ∧ x0M ((9 : Nat) : Int) i ≤ (YM_g ((9 : Nat) : Int) i).2 := (by show (YM_s i).1 ≤ 0 ∧ 0 ≤ (YM_s i).2; have := sg_any2 i; omega)
theorem rM_10 (i : Int) : (YM_g ((10 : Nat) : Int) i).1 ≤ x0M ((10 : Nat) : Int) i ∧ x0M ((10 : Nat) : Int) i ≤ (YM_g ((10 : Nat) : Int) i).2 := (by show (YM_s i).1 ≤ 0 ∧ 0 ≤ (YM_s i).2; have := sg_any2 i; omega)
theorem rM_11 (i : Int) : (YM_g ((11 : Nat) : Int) i).1 ≤ x0M ((11 : Nat) : Int) i ∧ x0M ((11 : Nat) : Int) i ≤ (YM_g ((11 : Nat) : Int) i).2 := ⟨of_decide_eq_true rfl, of_decide_eq_true rfl⟩
theorem rM_12 (i : Int) : (YM_g ((12 : Nat) : Int) i).1 ≤ x0M ((12 : Nat) : Int) i ∧ x0M ((12 : Nat) : Int) i ≤ (YM_g ((12 : Nat) : Int) i).2 := ⟨of_decide_eq_true rfl, of_decide_eq_true rfl⟩
theorem rM_13 (i : Int) : (YM_g ((13 : Nat) : Int) i).1 ≤ x0M ((13 : Nat) : Int) i ∧ x0M ((13 : Nat) : Int) i ≤ (YM_g ((13 : Nat) : Int) i).2 := ⟨of_decide_eq_true rfl, of_decide_eq_true rfl⟩
theorem rM_14 (i : Int) : (YM_g ((14 : Nat) : Int) i).1 ≤ x0M ((14 : Nat) : Int) i ∧ x0M ((14 : Nat) : Int) i ≤ (YM_g ((14 : Nat) : Int) i).2 := ⟨of_decide_eq_true rfl, of_decide_eq_true rfl⟩
theorem rM_15 (i : Int) : (YM_g ((15 : Nat) : Int) i).1 ≤ x0M ((15 : Nat) : Int) i ∧ x0M ((15 : Nat) : Int) i ≤ (YM_g ((15 : Nat) : Int) i).2 := ⟨of_decide_eq_true rfl, of_decide_eq_true rfl⟩
theorem rM_16 (i : Int) : (YM_g ((16 : Nat) : Int) i).1 ≤ x0M ((16 : Nat) : Int) i ∧ x0M ((16 : Nat) : Int) i ≤ (YM_g ((16 : Nat) : Int) i).2 := ⟨of_decide_eq_true rfl, of_decide_eq_true rfl⟩
theorem rM_17 (i : Int) : (YM_g ((17 : Nat) : Int) i).1 ≤ x0M ((17 : Nat) : Int) i ∧ x0M ((17 : Nat) : Int) i ≤ (YM_g ((17 : Nat) : Int) i).2 := ⟨of_decide_eq_true rfl, of_decide_eq_true rfl⟩
theorem rM_18 (i : Int) : (YM_g ((18 : Nat) : Int) i).1 ≤ x0M ((18 : Nat) : Int) i ∧ x0M ((18 : Nat) : Int) i ≤ (YM_g ((18 : Nat) : Int) i).2 := ⟨of_decide_eq_true rfl, of_decide_eq_true rfl⟩
theorem rM_19 (i : Int) : (YM_g ((19 : Nat) : Int) i).1 ≤ x0M ((19 : Nat) : Int) i ∧ x0M ((19 : Nat) : Int) i ≤ (YM_g ((19 : Nat) : Int) i).2 := ⟨of_decide_eq_true rfl, of_decide_eq_true rfl⟩
theorem rM_20 (i : Int) : (YM_g ((20 : Nat) : Int) i).1 ≤ x0M ((20 : Nat) : Int) i ∧ x0M ((20 : Nat) : Int) i ≤ (YM_g ((20 : Nat) : Int) i).2 := sr _ _ rfl i.toNat
theorem rM_21 (i : Int) : (YM_g ((21 : Nat) : Int) i).1 ≤ x0M ((21 : Nat) : Int) i ∧ x0M ((21 : Nat) : Int) i ≤ (YM_g ((21 : Nat) : Int) i).2 := ⟨of_decide_eq_true rfl, of_decide_eq_true rfl⟩
theorem rM_22 (i : Int) : (YM_g ((22 : Nat) : Int) i).1 ≤ x0M ((22 : Nat) : Int) i ∧ x0M ((22 : Nat) : Int) i ≤ (YM_g ((22 : Nat) : Int) i).2 := ⟨of_decide_eq_true rfl, of_decide_eq_true rfl⟩
theorem rM_23 (i : Int) : (YM_g ((23 : Nat) : Int) i).1 ≤ x0M ((23 : Nat) : Int) i ∧ x0M ((23 : Nat) : Int) i ≤ (YM_g ((23 : Nat) : Int) i).2 := ⟨of_decide_eq_true rfl, of_decide_eq_true rfl⟩
theorem rM_24 (i : Int) : (YM_g ((24 : Nat) : Int) i).1 ≤ x0M ((24 : Nat) : Int) i ∧ x0M ((24 : Nat) : Int) i ≤ (YM_g ((24 : Nat) : Int) i).2 := ⟨of_decide_eq_true rfl, of_decide_eq_true rfl⟩
theorem rM_25 (i : Int) : (YM_g ((25 : Nat) : Int) i).1 ≤ x0M ((25 : Nat) : Int) i ∧ x0M ((25 : Nat) : Int) i ≤ (YM_g ((25 : Nat) : Int) i).2 := ⟨of_decide_eq_true rfl, of_decide_eq_true rfl⟩
theorem rM_26 (i : Int) : (YM_g ((26 : Nat) : Int) i).1 ≤ x0M ((26 : Nat) : Int) i ∧ x0M ((26 : Nat) : Int) i ≤ (YM_g ((26 : Nat) : Int) i).2 := (by show (YM_s i).1 ≤ 0 ∧ 0 ≤ (YM_s i).2; have := sg_any2 i; omega)
theorem rM_27 (i : Int) : (YM_g ((27 : Nat) : Int) i).1 ≤ x0M ((27 : Nat) : Int) i ∧ x0M ((27 : Nat) : Int) i ≤ (YM_g ((27 : Nat) : Int) i).2 := ⟨of_decide_eq_true rfl, of_decide_eq_true rfl⟩
theorem rM_all (i : Int) : ∀ k : Nat, k < 28 → (YM_g ((k : Nat) : Int) i).1 ≤ x0M ((k : Nat) : Int) i ∧ x0M ((k : Nat) : Int) i ≤ (YM_g ((k : Nat) : Int) i).2 := by
  intro k hk
  by_cases c0_28 : k < 14
  ·
    by_cases c0_14 : k < 7
    ·
      by_cases c0_7 : k < 3
      ·
        by_cases c0_3 : k < 1
        ·
          obtain rfl : k = 0 := by omega
          exact rM_0 i
        ·
          by_cases c1_3 : k < 2
          ·
            obtain rfl : k = 1 := by omega
            exact rM_1 i
          ·
            obtain rfl : k = 2 := by omega
            exact rM_2 i
      ·
        by_cases c3_7 : k < 5
        ·
          by_cases c3_5 : k < 4
          ·
            obtain rfl : k = 3 := by omega
            exact rM_3 i
          ·
            obtain rfl : k = 4 := by omega
            exact rM_4 i
        ·
          by_cases c5_7 : k < 6
          ·
            obtain rfl : k = 5 := by omega
            exact rM_5 i
          ·
            obtain rfl : k = 6 := by omega
            exact rM_6 i
    ·
      by_cases c7_14 : k < 10
      ·
        by_cases c7_10 : k < 8
        ·
          obtain rfl : k = 7 := by omega
          exact rM_7 i
        ·
          by_cases c8_10 : k < 9
          ·
            obtain rfl : k = 8 := by omega
            exact rM_8 i
          ·
            obtain rfl : k = 9 := by omega
            exact rM_9 i
      ·
        by_cases c10_14 : k < 12
        ·
          by_cases c10_12 : k < 11
          ·
            obtain rfl : k = 10 := by omega
            exact rM_10 i
          ·
            obtain rfl : k = 11 := by omega
            exact rM_11 i
        ·
          by_cases c12_14 : k < 13
          ·
            obtain rfl : k = 12 := by omega
            exact rM_12 i
          ·
            obtain rfl : k = 13 := by omega
            exact rM_13 i
  ·
    by_cases c14_28 : k < 21
    ·
      by_cases c14_21 : k < 17
      ·
        by_cases c14_17 : k < 15
        ·
          obtain rfl : k = 14 := by omega
          exact rM_14 i
        ·
          by_cases c15_17 : k < 16
          ·
            obtain rfl : k = 15 := by omega
            exact rM_15 i
          ·
            obtain rfl : k = 16 := by omega
            exact rM_16 i
      ·
        by_cases c17_21 : k < 19
        ·
          by_cases c17_19 : k < 18
          ·
            obtain rfl : k = 17 := by omega
            exact rM_17 i
          ·
            obtain rfl : k = 18 := by omega
            exact rM_18 i
        ·
          by_cases c19_21 : k < 20
          ·
            obtain rfl : k = 19 := by omega
            exact rM_19 i
          ·
            obtain rfl : k = 20 := by omega
            exact rM_20 i
    ·
      by_cases c21_28 : k < 24
      ·
        by_cases c21_24 : k < 22
        ·
          obtain rfl : k = 21 := by omega
          exact rM_21 i
        ·
          by_cases c22_24 : k < 23
          ·
            obtain rfl : k = 22 := by omega
            exact rM_22 i
          ·
            obtain rfl : k = 23 := by omega
            exact rM_23 i
      ·
        by_cases c24_28 : k < 26
        ·
          by_cases c24_26 : k < 25
          ·
            obtain rfl : k = 24 := by omega
            exact rM_24 i
          ·
            obtain rfl : k = 25 := by omega
            exact rM_25 i
        ·
          by_cases c26_28 : k < 27
          ·
            obtain rfl : k = 26 := by omega
            exact rM_26 i
          ·
            obtain rfl : k = 27 := by omega
            exact rM_27 i
theorem R0_M : fm_R YM x0M := by
  intro k i
  have e1 : YM_g k i = YM_g ((k.toNat : Nat) : Int) i := by
    unfold YM_g
    rw [Int.toNat_natCast]
  have e2 : x0M k i = x0M ((k.toNat : Nat) : Int) i := by
    unfold x0M
    rw [Int.toNat_natCast]
  show (YM_g k i).1 ≤ x0M k i ∧ x0M k i ≤ (YM_g k i).2
  rw [e1, e2]
  by_cases h : k.toNat < 28
  · exact rM_all i k.toNat h
  · have h1 : YM_l[k.toNat]? = none := List.getElem?_eq_none (by rw [show YM_l.length = 28 from by decide +kernel]; omega)
    have h2 : XML[k.toNat]? = none := List.getElem?_eq_none (by rw [show XML.length = 28 from by decide +kernel]; omega)
    have e3 : YM_g ((k.toNat : Nat) : Int) i = (0, 0) := by
      unfold YM_g
      rw [Int.toNat_natCast, h1]
    have e4 : x0M ((k.toNat : Nat) : Int) i = 0 := by
      unfold x0M
      rw [Int.toNat_natCast, h2]
      rfl
    rw [e3, e4]
    exact ⟨of_decide_eq_true rfl, of_decide_eq_true rfl⟩
theorem ec_zero {f : Int → Int} (h : ∀ q : Int, 0 ≤ q → q < 49 → f (28 + q) = 0) : ∀ n : Nat, n ≤ 49 → ec f n = 0
  | 0, _ => rfl
  | n + 1, hn => by
    rw [ec, ec_zero h n (by omega)]
    unfold ep
    rw [if_neg (fun q => by have := h n (by omega) (by omega); omega)]
    rfl
theorem MI_zero {f : Int → Int} (h : ∀ i : Int, 28 ≤ i → i < 77 → f i = 0) : MI f := by
  refine ⟨fun a b h1 h2 h3 h4 => ?_, ?_⟩
  · rw [h _ (by omega) (by omega), h _ (by omega) (by omega)]
  · rw [ec_zero (fun q a b => h _ (by omega) (by omega)) 49 (Nat.le_refl _)]
    decide
theorem GI_0 : GI x0M := by
  refine ⟨MI_zero (fun i a b => ?_), fun j _ _ => MI_zero (fun i _ _ => rfl), fun j _ _ => MI_zero (fun i _ _ => rfl), rfl⟩
  show (if i = 104 then (1 : Int) else 0) = 0
  rw [if_neg (by omega)]
theorem CU_0 : CU 0 x0M := fun c c0 c3 => by
  left
  rcases (show c = 0 ∨ c = 1 ∨ c = 2 by omega) with rfl | rfl | rfl <;> rfl
