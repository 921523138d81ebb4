def RJ0 : String := "java/lang/String"
def RJ1 : String := "java/lang/StringLatin1"
def RJ3 : String := "jdk/internal/util/Preconditions"
abbrev cJ0_length_8abf5 : ByteArray := prog_22_method_54_code
def yJ0_length_8abf5 : MethodName := ⟨RJ0, "length", "()I"⟩
theorem dJ0_length_8abf5_0 : decode cJ0_length_8abf5 0 = .ok (.aload_n 0, 1) := by decide +kernel
theorem dJ0_length_8abf5_1 : decode cJ0_length_8abf5 1 = .ok (.getfield 9, 3) := by decide +kernel
theorem dJ0_length_8abf5_4 : decode cJ0_length_8abf5 4 = .ok (.arraylength, 1) := by decide +kernel
theorem dJ0_length_8abf5_5 : decode cJ0_length_8abf5 5 = .ok (.aload_n 0, 1) := by decide +kernel
theorem dJ0_length_8abf5_6 : decode cJ0_length_8abf5 6 = .ok (.invokevirtual 335, 3) := by decide +kernel
theorem dJ0_length_8abf5_9 : decode cJ0_length_8abf5 9 = .ok (.ishr, 1) := by decide +kernel
theorem dJ0_length_8abf5_10 : decode cJ0_length_8abf5 10 = .ok (.ireturn, 1) := by decide +kernel
theorem wJ0_length_8abf5 : fm_wv yJ0_length_8abf5 cJ0_length_8abf5 1 (some .int) 0 := ⟨tb_3 (i := 61) (by decide +kernel) (by decide +kernel), tb_3 (i := 62) (by decide +kernel) (by decide +kernel), tb_1 (i := 19) (by decide +kernel) (by decide +kernel), tb_3 (i := 63) (by rfl) (by decide +kernel), rfl, by decide +kernel, by decide +kernel, by decide +kernel⟩
theorem lX0_41 : Cond.methodLink RX0 41 yJ0_length_8abf5 ∈ TB := tb_3 (i := 60) (by decide +kernel) (by decide +kernel)
abbrev cJ0_isEmpty_aae02 : ByteArray := prog_22_method_55_code
def yJ0_isEmpty_aae02 : MethodName := ⟨RJ0, "isEmpty", "()Z"⟩
theorem dJ0_isEmpty_aae02_0 : decode cJ0_isEmpty_aae02 0 = .ok (.aload_n 0, 1) := by decide +kernel
theorem dJ0_isEmpty_aae02_1 : decode cJ0_isEmpty_aae02 1 = .ok (.getfield 9, 3) := by decide +kernel
theorem dJ0_isEmpty_aae02_4 : decode cJ0_isEmpty_aae02 4 = .ok (.arraylength, 1) := by decide +kernel
theorem dJ0_isEmpty_aae02_5 : decode cJ0_isEmpty_aae02 5 = .ok (.ifCond .ne 7, 3) := by decide +kernel
theorem dJ0_isEmpty_aae02_8 : decode cJ0_isEmpty_aae02 8 = .ok (.iconst 1, 1) := by decide +kernel
theorem dJ0_isEmpty_aae02_9 : decode cJ0_isEmpty_aae02 9 = .ok (.goto 4, 3) := by decide +kernel
theorem dJ0_isEmpty_aae02_12 : decode cJ0_isEmpty_aae02 12 = .ok (.iconst 0, 1) := by decide +kernel
theorem dJ0_isEmpty_aae02_13 : decode cJ0_isEmpty_aae02 13 = .ok (.ireturn, 1) := by decide +kernel
theorem wJ0_isEmpty_aae02 : fm_wv yJ0_isEmpty_aae02 cJ0_isEmpty_aae02 1 (some .boolean) 0 := ⟨tb_3 (i := 57) (by decide +kernel) (by decide +kernel), tb_3 (i := 58) (by decide +kernel) (by decide +kernel), tb_1 (i := 19) (by decide +kernel) (by decide +kernel), tb_3 (i := 59) (by rfl) (by decide +kernel), rfl, by decide +kernel, by decide +kernel, by decide +kernel⟩
theorem lX0_35 : Cond.methodLink RX0 35 yJ0_isEmpty_aae02 ∈ TB := tb_3 (i := 56) (by decide +kernel) (by decide +kernel)
abbrev cJ0_charAt_5068e : ByteArray := prog_22_method_56_code
def yJ0_charAt_5068e : MethodName := ⟨RJ0, "charAt", "(I)C"⟩
theorem dJ0_charAt_5068e_0 : decode cJ0_charAt_5068e 0 = .ok (.aload_n 0, 1) := by decide +kernel
theorem dJ0_charAt_5068e_1 : decode cJ0_charAt_5068e 1 = .ok (.invokevirtual 492, 3) := by decide +kernel
theorem dJ0_charAt_5068e_4 : decode cJ0_charAt_5068e 4 = .ok (.ifCond .eq 12, 3) := by decide +kernel
theorem dJ0_charAt_5068e_7 : decode cJ0_charAt_5068e 7 = .ok (.aload_n 0, 1) := by decide +kernel
theorem dJ0_charAt_5068e_8 : decode cJ0_charAt_5068e 8 = .ok (.getfield 9, 3) := by decide +kernel
theorem dJ0_charAt_5068e_11 : decode cJ0_charAt_5068e 11 = .ok (.iload_n 1, 1) := by decide +kernel
theorem dJ0_charAt_5068e_12 : decode cJ0_charAt_5068e 12 = .ok (.invokestatic 495, 3) := by decide +kernel
theorem dJ0_charAt_5068e_15 : decode cJ0_charAt_5068e 15 = .ok (.ireturn, 1) := by decide +kernel
theorem dJ0_charAt_5068e_16 : decode cJ0_charAt_5068e 16 = .ok (.aload_n 0, 1) := by decide +kernel
theorem dJ0_charAt_5068e_17 : decode cJ0_charAt_5068e 17 = .ok (.getfield 9, 3) := by decide +kernel
theorem dJ0_charAt_5068e_20 : decode cJ0_charAt_5068e 20 = .ok (.iload_n 1, 1) := by decide +kernel
theorem dJ0_charAt_5068e_21 : decode cJ0_charAt_5068e 21 = .ok (.invokestatic 498, 3) := by decide +kernel
theorem dJ0_charAt_5068e_24 : decode cJ0_charAt_5068e 24 = .ok (.ireturn, 1) := by decide +kernel
theorem wJ0_charAt_5068e : fm_wv yJ0_charAt_5068e cJ0_charAt_5068e 2 (some .char) 1 := ⟨tb_3 (i := 71) (by decide +kernel) (by decide +kernel), tb_3 (i := 72) (by decide +kernel) (by decide +kernel), tb_1 (i := 19) (by decide +kernel) (by decide +kernel), tb_3 (i := 73) (by rfl) (by decide +kernel), rfl, by decide +kernel, by decide +kernel, by decide +kernel⟩
theorem lX0_42 : Cond.methodLink RX0 42 yJ0_charAt_5068e ∈ TB := tb_3 (i := 70) (by decide +kernel) (by decide +kernel)
abbrev cJ0_coder_7d493 : ByteArray := prog_22_method_152_code
def yJ0_coder_7d493 : MethodName := ⟨RJ0, "coder", "()B"⟩
theorem dJ0_coder_7d493_0 : decode cJ0_coder_7d493 0 = .ok (.getstatic 38, 3) := by decide +kernel
theorem dJ0_coder_7d493_3 : decode cJ0_coder_7d493 3 = .ok (.ifCond .eq 10, 3) := by decide +kernel
theorem dJ0_coder_7d493_6 : decode cJ0_coder_7d493 6 = .ok (.aload_n 0, 1) := by decide +kernel
theorem dJ0_coder_7d493_7 : decode cJ0_coder_7d493 7 = .ok (.getfield 15, 3) := by decide +kernel
theorem dJ0_coder_7d493_10 : decode cJ0_coder_7d493 10 = .ok (.goto 4, 3) := by decide +kernel
theorem dJ0_coder_7d493_13 : decode cJ0_coder_7d493 13 = .ok (.iconst 1, 1) := by decide +kernel
theorem dJ0_coder_7d493_14 : decode cJ0_coder_7d493 14 = .ok (.ireturn, 1) := by decide +kernel
theorem wJ0_coder_7d493 : fm_wv yJ0_coder_7d493 cJ0_coder_7d493 1 (some .byte) 0 := ⟨tb_3 (i := 65) (by decide +kernel) (by decide +kernel), tb_3 (i := 66) (by decide +kernel) (by decide +kernel), tb_1 (i := 19) (by decide +kernel) (by decide +kernel), tb_3 (i := 67) (by rfl) (by decide +kernel), rfl, by decide +kernel, by decide +kernel, by decide +kernel⟩
theorem lJ0_335 : Cond.methodLink RJ0 335 yJ0_coder_7d493 ∈ TB := tb_3 (i := 64) (by decide +kernel) (by decide +kernel)
abbrev cJ0_isLatin1_aae02 : ByteArray := prog_22_method_154_code
def yJ0_isLatin1_aae02 : MethodName := ⟨RJ0, "isLatin1", "()Z"⟩
theorem dJ0_isLatin1_aae02_0 : decode cJ0_isLatin1_aae02 0 = .ok (.getstatic 38, 3) := by decide +kernel
theorem dJ0_isLatin1_aae02_3 : decode cJ0_isLatin1_aae02 3 = .ok (.ifCond .eq 14, 3) := by decide +kernel
theorem dJ0_isLatin1_aae02_6 : decode cJ0_isLatin1_aae02 6 = .ok (.aload_n 0, 1) := by decide +kernel
theorem dJ0_isLatin1_aae02_7 : decode cJ0_isLatin1_aae02 7 = .ok (.getfield 15, 3) := by decide +kernel
theorem dJ0_isLatin1_aae02_10 : decode cJ0_isLatin1_aae02 10 = .ok (.ifCond .ne 7, 3) := by decide +kernel
theorem dJ0_isLatin1_aae02_13 : decode cJ0_isLatin1_aae02 13 = .ok (.iconst 1, 1) := by decide +kernel
theorem dJ0_isLatin1_aae02_14 : decode cJ0_isLatin1_aae02 14 = .ok (.goto 4, 3) := by decide +kernel
theorem dJ0_isLatin1_aae02_17 : decode cJ0_isLatin1_aae02 17 = .ok (.iconst 0, 1) := by decide +kernel
theorem dJ0_isLatin1_aae02_18 : decode cJ0_isLatin1_aae02 18 = .ok (.ireturn, 1) := by decide +kernel
theorem wJ0_isLatin1_aae02 : fm_wv yJ0_isLatin1_aae02 cJ0_isLatin1_aae02 1 (some .boolean) 0 := ⟨tb_3 (i := 75) (by decide +kernel) (by decide +kernel), tb_3 (i := 76) (by decide +kernel) (by decide +kernel), tb_1 (i := 19) (by decide +kernel) (by decide +kernel), tb_3 (i := 77) (by rfl) (by decide +kernel), rfl, by decide +kernel, by decide +kernel, by decide +kernel⟩
theorem lJ0_492 : Cond.methodLink RJ0 492 yJ0_isLatin1_aae02 ∈ TB := tb_3 (i := 74) (by decide +kernel) (by decide +kernel)
abbrev cJ0_checkIndex_df160 : ByteArray := prog_22_method_155_code
def yJ0_checkIndex_df160 : MethodName := ⟨RJ0, "checkIndex", "(II)V"⟩
theorem dJ0_checkIndex_df160_0 : decode cJ0_checkIndex_df160 0 = .ok (.iload_n 0, 1) := by decide +kernel
theorem dJ0_checkIndex_df160_1 : decode cJ0_checkIndex_df160 1 = .ok (.iload_n 1, 1) := by decide +kernel
theorem dJ0_checkIndex_df160_2 : decode cJ0_checkIndex_df160 2 = .ok (.getstatic 1053, 3) := by decide +kernel
theorem dJ0_checkIndex_df160_5 : decode cJ0_checkIndex_df160 5 = .ok (.invokestatic 1059, 3) := by decide +kernel
theorem dJ0_checkIndex_df160_8 : decode cJ0_checkIndex_df160 8 = .ok (.pop, 1) := by decide +kernel
theorem dJ0_checkIndex_df160_9 : decode cJ0_checkIndex_df160 9 = .ok (.return_, 1) := by decide +kernel
theorem wJ0_checkIndex_df160 : fm_ws yJ0_checkIndex_df160 cJ0_checkIndex_df160 2 none 2 := ⟨tb_3 (i := 82) (by decide +kernel) (by decide +kernel), tb_1 (i := 19) (by decide +kernel) (by decide +kernel), tb_3 (i := 83) (by rfl) (by decide +kernel), by decide +kernel, by decide +kernel, by decide +kernel⟩
theorem lJ1_9 : Cond.methodLink RJ1 9 yJ0_checkIndex_df160 ∈ TB := tb_3 (i := 81) (by decide +kernel) (by decide +kernel)
abbrev cJ1_charAt_3b067 : ByteArray := prog_23_method_2_code
def yJ1_charAt_3b067 : MethodName := ⟨RJ1, "charAt", "([BI)C"⟩
theorem dJ1_charAt_3b067_0 : decode cJ1_charAt_3b067 0 = .ok (.iload_n 1, 1) := by decide +kernel
theorem dJ1_charAt_3b067_1 : decode cJ1_charAt_3b067 1 = .ok (.aload_n 0, 1) := by decide +kernel
theorem dJ1_charAt_3b067_2 : decode cJ1_charAt_3b067 2 = .ok (.arraylength, 1) := by decide +kernel
theorem dJ1_charAt_3b067_3 : decode cJ1_charAt_3b067 3 = .ok (.invokestatic 9, 3) := by decide +kernel
theorem dJ1_charAt_3b067_6 : decode cJ1_charAt_3b067 6 = .ok (.aload_n 0, 1) := by decide +kernel
theorem dJ1_charAt_3b067_7 : decode cJ1_charAt_3b067 7 = .ok (.iload_n 1, 1) := by decide +kernel
theorem dJ1_charAt_3b067_8 : decode cJ1_charAt_3b067 8 = .ok (.baload, 1) := by decide +kernel
theorem dJ1_charAt_3b067_9 : decode cJ1_charAt_3b067 9 = .ok (.sipush 255, 3) := by decide +kernel
theorem dJ1_charAt_3b067_12 : decode cJ1_charAt_3b067 12 = .ok (.iand, 1) := by decide +kernel
theorem dJ1_charAt_3b067_13 : decode cJ1_charAt_3b067 13 = .ok (.i2c, 1) := by decide +kernel
theorem dJ1_charAt_3b067_14 : decode cJ1_charAt_3b067 14 = .ok (.ireturn, 1) := by decide +kernel
theorem wJ1_charAt_3b067 : fm_ws yJ1_charAt_3b067 cJ1_charAt_3b067 2 (some .char) 2 := ⟨tb_3 (i := 79) (by decide +kernel) (by decide +kernel), tb_1 (i := 20) (by decide +kernel) (by decide +kernel), tb_3 (i := 80) (by rfl) (by decide +kernel), by decide +kernel, by decide +kernel, by decide +kernel⟩
theorem lJ0_495 : Cond.methodLink RJ0 495 yJ1_charAt_3b067 ∈ TB := tb_3 (i := 78) (by decide +kernel) (by decide +kernel)
abbrev cJ3_checkIndex_8e157 : ByteArray := prog_30_method_11_code
def yJ3_checkIndex_8e157 : MethodName := ⟨RJ3, "checkIndex", "(IILjava/util/function/BiFunction;)I"⟩
theorem dJ3_checkIndex_8e157_0 : decode cJ3_checkIndex_8e157 0 = .ok (.iload_n 0, 1) := by decide +kernel
theorem dJ3_checkIndex_8e157_1 : decode cJ3_checkIndex_8e157 1 = .ok (.ifCond .lt 8, 3) := by decide +kernel
theorem dJ3_checkIndex_8e157_4 : decode cJ3_checkIndex_8e157 4 = .ok (.iload_n 0, 1) := by decide +kernel
theorem dJ3_checkIndex_8e157_5 : decode cJ3_checkIndex_8e157 5 = .ok (.iload_n 1, 1) := by decide +kernel
theorem dJ3_checkIndex_8e157_6 : decode cJ3_checkIndex_8e157 6 = .ok (.if_icmp .lt 10, 3) := by decide +kernel
theorem dJ3_checkIndex_8e157_9 : decode cJ3_checkIndex_8e157 9 = .ok (.aload_n 2, 1) := by decide +kernel
theorem dJ3_checkIndex_8e157_10 : decode cJ3_checkIndex_8e157 10 = .ok (.iload_n 0, 1) := by decide +kernel
theorem dJ3_checkIndex_8e157_11 : decode cJ3_checkIndex_8e157 11 = .ok (.iload_n 1, 1) := by decide +kernel
theorem dJ3_checkIndex_8e157_12 : decode cJ3_checkIndex_8e157 12 = .ok (.invokestatic 95, 3) := by decide +kernel
theorem dJ3_checkIndex_8e157_15 : decode cJ3_checkIndex_8e157 15 = .ok (.athrow, 1) := by decide +kernel
theorem dJ3_checkIndex_8e157_16 : decode cJ3_checkIndex_8e157 16 = .ok (.iload_n 0, 1) := by decide +kernel
theorem dJ3_checkIndex_8e157_17 : decode cJ3_checkIndex_8e157 17 = .ok (.ireturn, 1) := by decide +kernel
theorem wJ3_checkIndex_8e157 : fm_ws yJ3_checkIndex_8e157 cJ3_checkIndex_8e157 3 (some .int) 3 := ⟨tb_3 (i := 87) (by decide +kernel) (by decide +kernel), tb_1 (i := 21) (by decide +kernel) (by decide +kernel), tb_3 (i := 88) (by rfl) (by decide +kernel), by decide +kernel, by decide +kernel, by decide +kernel⟩
theorem lJ0_1059 : Cond.methodLink RJ0 1059 yJ3_checkIndex_8e157 ∈ TB := tb_3 (i := 86) (by decide +kernel) (by decide +kernel)
theorem sl_9 : Cond.fieldLink RJ0 9 "java/lang/String" "value" "[B" ∈ TB := tb_8 (i := 30) (by decide +kernel) (by decide +kernel)
theorem sl_15 : Cond.fieldLink RJ0 15 "java/lang/String" "coder" "B" ∈ TB := tb_8 (i := 31) (by decide +kernel) (by decide +kernel)
theorem sl_38 : Cond.fieldLink RJ0 38 "java/lang/String" "COMPACT_STRINGS" "Z" ∈ TB := tb_3 (i := 68) (by decide +kernel) (by decide +kernel)
theorem sl_1053 : Cond.fieldLink RJ0 1053 "jdk/internal/util/Preconditions" "SIOOBE_FORMATTER" "Ljava/util/function/BiFunction;" ∈ TB := tb_3 (i := 84) (by decide +kernel) (by decide +kernel)
/-- a String of the class: its place, its length -/
def sln (i : Nat) : Int := (zs_n.getD i 0 : Nat)
theorem sln_b {i : Nat} (hi : i < 7) : 0 ≤ sln i ∧ sln i ≤ 4 := by
  have key : ∀ i : Nat, i < 7 → 0 ≤ sln i ∧ sln i ≤ 4 := by decide
  exact key i hi
theorem zs_by : ∀ i : Nat, i < 7 → ∀ j : Nat, j < zs_n.getD i 0 → ∃ n : Nat, n < 128 ∧ (zs_b.getD i []).getD j 0 = iI (n : Int) := by
  have key : ∀ i : Nat, i < 7 → ∀ j : Nat, j < zs_n.getD i 0 → ((zs_b.getD i []).getD j 0).toInt.toNat < 128 ∧ (zs_b.getD i []).getD j 0 = iI (((zs_b.getD i []).getD j 0).toInt.toNat : Int) := by decide +kernel
  intro i hi j hj
  exact ⟨_, (key i hi j hj).1, (key i hi j hj).2⟩
section FSR
variable {G : Gx} {C : Cx} {cc : ByteArray} {own : String} {nL : Nat} {ret : Option FieldType} {fr lc : Nat} {x : Mm} {pc : Nat} {L : List (Nat × Value)} {st : List Value}
theorem fr_ldcS (h : OK YC G C cc own nL ret fr lc) {i index : Nat} {k : Int} {tx : String} (hi : i < 10) (hq : zs_l[i]? = some (own, index, tx)) (hk : k = 200 + (i : Int)) (hd : decode cc pc = .ok (.ldc index, 2)) (kk : FW YC G C nL x (pc + 2) L (vr G k :: st)) : FW YC G C nL x pc L st := by
  obtain ⟨p, l, e, R, s, m, args, below, meth, c, cells, slots, Q⟩ := C
  obtain ⟨hx, hb, hml, hown, hts, hK, hD, hlocks, hcl, hsl, hX, hXc, hret, hfr, hlc⟩ := h
  intro hR H locs ls hP hS hl
  have hX : ZC G (fm_A YC G) s := hX
  subst hk
  exact va_ldcS hx hb hown (hX.2.2.2.2.1.2.1 i hi _ hq) hd (kk hR H locs ls hP hS hl)
theorem fr_sval (h : OK YC G C cc RJ0 nL ret fr lc) {i : Nat} (hi : i < 7) (hd : decode cc pc = .ok (.getfield 9, 3)) (kk : FW YC G C nL x (pc + 3) L (vr G (300 + (i : Int)) :: st)) : FW YC G C nL x pc L (vr G (200 + (i : Int)) :: st) := by
  obtain ⟨p, l, e, R, s, m, args, below, meth, c, cells, slots, Q⟩ := C
  obtain ⟨hx, hb, hml, hown, hts, hK, hD, hlocks, hcl, hsl, hX, hXc, hret, hfr, hlc⟩ := h
  intro hR H locs ls hP hS hl
  have hX : ZC G (fm_A YC G) s := hX
  exact vk_getf hx hb (hX.2.2.2.2.1.1.1 i hi).2.2.1 hS hown (hts _ sl_9) (fun _ q => q) hd (kk hR H locs ls hP hS hl)
theorem fr_scod (h : OK YC G C cc RJ0 nL ret fr lc) {i : Nat} (hi : i < 7) (hd : decode cc pc = .ok (.getfield 15, 3)) (kk : FW YC G C nL x (pc + 3) L (vi 0 :: st)) : FW YC G C nL x pc L (vr G (200 + (i : Int)) :: st) := by
  obtain ⟨p, l, e, R, s, m, args, below, meth, c, cells, slots, Q⟩ := C
  obtain ⟨hx, hb, hml, hown, hts, hK, hD, hlocks, hcl, hsl, hX, hXc, hret, hfr, hlc⟩ := h
  intro hR H locs ls hP hS hl
  have hX : ZC G (fm_A YC G) s := hX
  exact vk_getf hx hb (hX.2.2.2.2.1.1.1 i hi).2.1 hS hown (hts _ sl_15) (fun _ q => q) hd (kk hR H locs ls hP hS hl)
theorem fr_slat (h : OK YC G C cc RJ0 nL ret fr lc) (hd : decode cc pc = .ok (.getstatic 38, 3)) (kk : FW YC G C nL x (pc + 3) L (vi 1 :: st)) : FW YC G C nL x pc L st := by
  obtain ⟨p, l, e, R, s, m, args, below, meth, c, cells, slots, Q⟩ := C
  obtain ⟨hx, hb, hml, hown, hts, hK, hD, hlocks, hcl, hsl, hX, hXc, hret, hfr, hlc⟩ := h
  intro hR H locs ls hP hS hl
  have hX : ZC G (fm_A YC G) s := hX
  exact va_gets hx hb hX.2.2.2.1 hS hown (hts _ sl_38) (fun _ q => q) hd (kk hR H locs ls hP hS hl)
theorem fr_sfmt (h : OK YC G C cc RJ0 nL ret fr lc) (hd : decode cc pc = .ok (.getstatic 1053, 3)) (kk : ∀ v : Value, v.category = 1 → (v = .null ∨ ∃ t : Nat, v = .ref t) → FW YC G C nL x (pc + 3) L (v :: st)) : FW YC G C nL x pc L st := by
  obtain ⟨p, l, e, R, s, m, args, below, meth, c, cells, slots, Q⟩ := C
  obtain ⟨hx, hb, hml, hown, hts, hK, hD, hlocks, hcl, hsl, hX, hXc, hret, hfr, hlc⟩ := h
  intro hR H locs ls hP hS hl
  have hX : ZC G (fm_A YC G) s := hX
  rcases hX.2.2.2.2.1.2.2.1 with q | ⟨t, q⟩
  · exact va_gets hx hb q hS hown (hts _ sl_1053) (fun _ q => q) hd (kk _ rfl (Or.inl rfl) hR H locs ls hP hS hl)
  · exact va_gets hx hb q hS hown (hts _ sl_1053) (fun _ q => q) hd (kk _ rfl (Or.inr ⟨t, rfl⟩) hR H locs ls hP hS hl)
theorem fr_bslen (h : OK YC G C cc own nL ret fr lc) {i : Nat} (hi : i < 7) (hd : decode cc pc = .ok (.arraylength, 1)) (kk : FW YC G C nL x (pc + 1) L (vi (sln i) :: st)) : FW YC G C nL x pc L (vr G (300 + (i : Int)) :: st) := by
  obtain ⟨p, l, e, R, s, m, args, below, meth, c, cells, slots, Q⟩ := C
  obtain ⟨hx, hb, hml, hown, hts, hK, hD, hlocks, hcl, hsl, hX, hXc, hret, hfr, hlc⟩ := h
  intro hR H locs ls hP hS hl
  have hX : ZC G (fm_A YC G) s := hX
  exact va_tlen hx hb (hX.2.2.2.2.1.1.1 i hi).2.2.2 hS (iI_nat (zs_n.getD i 0)).symm hd (kk hR H locs ls hP hS hl)
theorem fr_bsld (h : OK YC G C cc own nL ret fr lc) {i : Nat} (hi : i < 7) {j : Int} (h0 : 0 ≤ j) (hj : j < sln i) (hd : decode cc pc = .ok (.baload, 1)) (kk : ∀ z : Int, 0 ≤ z → z < 128 → FW YC G C nL x (pc + 1) L (vi z :: st)) : FW YC G C nL x pc L (vi j :: vr G (300 + (i : Int)) :: st) := by
  obtain ⟨p, l, e, R, s, m, args, below, meth, c, cells, slots, Q⟩ := C
  obtain ⟨hx, hb, hml, hown, hts, hK, hD, hlocks, hcl, hsl, hX, hXc, hret, hfr, hlc⟩ := h
  intro hR H locs ls hP hS hl
  have hX : ZC G (fm_A YC G) s := hX
  have hj2 : j < (zs_n.getD i 0 : Nat) := hj
  have hb4 := sln_b hi
  obtain ⟨n, hn, hv⟩ := zs_by i hi j.toNat (by omega)
  exact va_tb hx hb (hX.2.2.2.2.1.1.1 i hi).2.2.2 hS (iI_in h0 hj2 (by have : (zs_n.getD i 0 : Int) = sln i := rfl; omega)) (v := vi (n : Int)) (by rw [iI_cl h0 (by omega), hv]) hd (kk _ (by omega) (by omega) hR H locs ls hP hS hl)
theorem fr_cvSI {ret0 : Option FieldType} (h : OK YC G C cc own nL ret0 fr lc) {y : MethodName} {b : ByteArray} {n np fr1 lc1 index : Nat} {rt : FieldType} {as : Gx → List Value} {i : Nat} {post : Int → Mm → Prop} (hi : i < 7) (hy : y.cls = "java/lang/String") (hw : fm_wv y b n (some rt) np) (hlk : Cond.methodLink own index y ∈ TB) (hc : CnI YC y b n rt fr1 lc1 (fun G => vr G (200 + (i : Int)) :: as G) x post) (hnp : (as G).length = np) (hf : fr1 + 1 ≤ fr) (hlo : 19 + n + lc1 ≤ lc) {stk : List Value} (hst : stk = (as G).reverse ++ vr G (200 + (i : Int)) :: st) (hsum : (st.map fun v => v.category).sum ≤ 8) (hd : decode cc pc = .ok (.invokevirtual index, 3)) (kk : ∀ (z : Int) (x' : Mm), fm_r z → post z x' → FW YC G C nL x' (pc + 3) L (vi z :: st)) : FW YC G C nL x pc L stk := by
  obtain ⟨p, l, e, R, s, m, args, below, meth, c, cells, slots, Q⟩ := C
  obtain ⟨hx, hb, hml, hown, hts, hK, hD, hlocks, hcl, hsl, hX, hXc, hret, hfr, hlc⟩ := h
  intro hR H locs ls hP hS hl
  subst hst
  have hXq : ZC G (fm_A YC G) s := hX
  have hrv := vk_recv hXq.2.2.2.2.1.1 hi hS
  rw [← hy] at hrv
  refine va_calli (va_runV (As := as G) (rest := st) ⟨hx, hb, hml, hown, hts⟩ (hc l G) (cwV np hts (gd_v hw hlk) rfl rfl rfl hw.2.2.2.2 ⟨by show fr1 + 1 ≤ R.frames; omega, by show 8 + (n + 11) + lc1 ≤ R.locals; omega⟩) ⟨fm_blind, hrv, fun U hU hW => ⟨rfl, hR, by rw [hU]; exact hP, va_K.moved hW.alike hK, hD, hXc G _ s U hW hX (fun q h1 h2 => by rw [hU]; exact hS.2.1 q h1 h2), hXc⟩⟩ rfl hnp hl.1 rfl (lv_room hsum) hd ⟨by simpa using hcl, by simpa using hsl⟩) hS (fun q _ h => h) (fun q h => h) (fun r u t H1 locs1 ht hvm hpost hB hz hk hS1 => ?_)
  obtain ⟨z, x'⟩ := u
  obtain ⟨rfl, hz1, hp1, hR1⟩ := hpost
  rw [ht] at hB
  exact kk z x' hz1 hp1 hR1 H1 locs1 ls hB hS1 hl
end FSR
theorem c_coder (x : Mm) {i : Nat} (hi : i < 7) : CnI YC yJ0_coder_7d493 cJ0_coder_7d493 1 .byte 0 0 (fun G => [vr G (200 + (i : Int))]) x (fun z y' => z = 0 ∧ y' = x) := by
  refine cn_I (by decide) (fun _ => Nat.le_of_ble_eq_true rfl) (fun G C h hq => ?_)
  have h : OK YC G C cJ0_coder_7d493 RJ0 1 (some .byte) 0 0 := h
  show FW YC G C 1 x 0 [(0, vr G (200 + (i : Int)))] []
  refine fr_slat h dJ0_coder_7d493_0 ?_
  refine fr_if_eq (tgt := 13) h dJ0_coder_7d493_3 (by decide) (by omega) (fun c6 => by exfalso; omega) (fun c6 => ?_)
  refine fr_aload_n h rfl 0 rfl dJ0_coder_7d493_6 ?_
  refine fr_scod h hi dJ0_coder_7d493_7 ?_
  refine fr_goto (tgt := 14) h dJ0_coder_7d493_10 (by decide) ?_
  exact fr_zret h rfl hq (by omega) ⟨rfl, rfl⟩ dJ0_coder_7d493_14
theorem c_isLatin1 (x : Mm) {i : Nat} (hi : i < 7) : CnI YC yJ0_isLatin1_aae02 cJ0_isLatin1_aae02 1 .boolean 0 0 (fun G => [vr G (200 + (i : Int))]) x (fun z y' => z = 1 ∧ y' = x) := by
  refine cn_I (by decide) (fun _ => Nat.le_of_ble_eq_true rfl) (fun G C h hq => ?_)
  have h : OK YC G C cJ0_isLatin1_aae02 RJ0 1 (some .boolean) 0 0 := h
  show FW YC G C 1 x 0 [(0, vr G (200 + (i : Int)))] []
  refine fr_slat h dJ0_isLatin1_aae02_0 ?_
  refine fr_if_eq (tgt := 17) h dJ0_isLatin1_aae02_3 (by decide) (by omega) (fun c6 => by exfalso; omega) (fun c6 => ?_)
  refine fr_aload_n h rfl 0 rfl dJ0_isLatin1_aae02_6 ?_
  refine fr_scod h hi dJ0_isLatin1_aae02_7 ?_
  refine fr_if_ne (tgt := 17) h dJ0_isLatin1_aae02_10 (by decide) (by omega) (fun c6 => by exfalso; omega) (fun c6 => ?_)
  refine fr_iconst h dJ0_isLatin1_aae02_13 ?_
  refine fr_goto (tgt := 18) h dJ0_isLatin1_aae02_14 (by decide) ?_
  exact fr_zret h rfl hq (by omega) ⟨rfl, rfl⟩ dJ0_isLatin1_aae02_18
theorem sh0 {a z : Int} (h0 : 0 ≤ a) (ha : a ≤ 4) (hz : fm_r z) (h : iI a >>> (iI 0 &&& 31) = iI z) : z = a := by
  have key : ∀ n : Nat, n < 5 → iI (n : Int) >>> (iI 0 &&& 31) = iI (n : Int) := by decide +kernel
  have k := key a.toNat (by omega)
  rw [show ((a.toNat : Nat) : Int) = a by omega, h] at k
  exact iI_inj hz (by omega) k
theorem c_slength (x : Mm) {i : Nat} (hi : i < 7) : CnI YC yJ0_length_8abf5 cJ0_length_8abf5 1 .int 1 20 (fun G => [vr G (200 + (i : Int))]) x (fun z y' => z = sln i ∧ y' = x) := by
  refine cn_I (by decide) (fun _ => Nat.le_of_ble_eq_true rfl) (fun G C h hq => ?_)
  have h : OK YC G C cJ0_length_8abf5 RJ0 1 (some .int) 1 20 := h
  show FW YC G C 1 x 0 [(0, vr G (200 + (i : Int)))] []
  have hb := sln_b hi
  refine fr_aload_n h rfl 0 rfl dJ0_length_8abf5_0 ?_
  refine fr_sval h hi dJ0_length_8abf5_1 ?_
  refine fr_bslen h hi dJ0_length_8abf5_4 ?_
  refine fr_aload_n h rfl 0 rfl dJ0_length_8abf5_5 ?_
  refine fr_cvSI h hi rfl wJ0_coder_7d493 lJ0_335 (c_coder x hi) rfl (by decide) (by decide) rfl (Nat.le_of_ble_eq_true rfl) dJ0_length_8abf5_6 (fun z1 x1 w1 p1 => ?_)
  rw [p1.2, p1.1]
  refine fr_ishr h dJ0_length_8abf5_9 (fun z2 w2 q2 w3 => ?_)
  have k := sh0 (by omega) (by omega) w2 q2
  exact fr_iret h hq (by omega) ⟨k, rfl⟩ dJ0_length_8abf5_10
theorem c_sisEmpty (x : Mm) {i : Nat} (hi : i < 7) : CnI YC yJ0_isEmpty_aae02 cJ0_isEmpty_aae02 1 .boolean 0 0 (fun G => [vr G (200 + (i : Int))]) x (fun z y' => (z = 0 ∨ z = 1) ∧ y' = x) := by
  refine cn_I (by decide) (fun _ => Nat.le_of_ble_eq_true rfl) (fun G C h hq => ?_)
  have h : OK YC G C cJ0_isEmpty_aae02 RJ0 1 (some .boolean) 0 0 := h
  show FW YC G C 1 x 0 [(0, vr G (200 + (i : Int)))] []
  have hb := sln_b hi
  refine fr_aload_n h rfl 0 rfl dJ0_isEmpty_aae02_0 ?_
  refine fr_sval h hi dJ0_isEmpty_aae02_1 ?_
  refine fr_bslen h hi dJ0_isEmpty_aae02_4 ?_
  refine fr_if_ne (tgt := 12) h dJ0_isEmpty_aae02_5 (by decide) (by omega) (fun c6 => ?_) (fun c6 => ?_)
  · refine fr_iconst h dJ0_isEmpty_aae02_12 ?_
    exact fr_zret h rfl hq (by omega) ⟨Or.inl rfl, rfl⟩ dJ0_isEmpty_aae02_13
  · refine fr_iconst h dJ0_isEmpty_aae02_8 ?_
    refine fr_goto (tgt := 13) h dJ0_isEmpty_aae02_9 (by decide) ?_
    exact fr_zret h rfl hq (by omega) ⟨Or.inr rfl, rfl⟩ dJ0_isEmpty_aae02_13
theorem c_pcheck (x : Mm) {a b : Int} (ha : fm_r a) (hb : fm_r b) (v : Value) (hv : v = .null ∨ ∃ t : Nat, v = .ref t) (h0 : 0 ≤ a) (h1 : a < b) : CnI YC yJ3_checkIndex_8e157 cJ3_checkIndex_8e157 3 .int 0 0 (fun _ => [vi a, vi b, v]) x (fun _ y' => y' = x) := by
  refine cn_I (by decide) (fun _ => by rcases hv with rfl | ⟨t, rfl⟩ <;> exact Nat.le_of_ble_eq_true rfl) (fun G C h hq => ?_)
  have h : OK YC G C cJ3_checkIndex_8e157 RJ3 3 (some .int) 0 0 := h
  have key : FW YC G C 3 x 0 [(0, vi a), (1, vi b), (2, v)] [] := by
    refine fr_iload_n h rfl 0 rfl dJ3_checkIndex_8e157_0 ?_
    refine fr_if_lt (tgt := 9) h dJ3_checkIndex_8e157_1 (by decide) (by omega) (fun c6 => by exfalso; omega) (fun c6 => ?_)
    refine fr_iload_n h rfl 0 rfl dJ3_checkIndex_8e157_4 ?_
    refine fr_iload_n h rfl 1 rfl dJ3_checkIndex_8e157_5 ?_
    refine fr_icmp_lt (tgt := 16) h dJ3_checkIndex_8e157_6 (by decide) (by omega) (by omega) (fun c6 => ?_) (fun c6 => by exfalso; omega)
    refine fr_iload_n h rfl 0 rfl dJ3_checkIndex_8e157_16 ?_
    exact fr_iret h hq (by omega) rfl dJ3_checkIndex_8e157_17
  exact key
theorem c_scheck (x : Mm) {a b : Int} (ha : fm_r a) (hb : fm_r b) (h0 : 0 ≤ a) (h1 : a < b) : CnV YC yJ0_checkIndex_df160 cJ0_checkIndex_df160 2 1 22 (fun _ => [vi a, vi b]) x (fun y' => y' = x) := by
  refine cn_V (by decide) (fun _ => Nat.le_of_ble_eq_true rfl) (fun G C h hq => ?_)
  have h : OK YC G C cJ0_checkIndex_df160 RJ0 2 none 1 22 := h
  show FW YC G C 2 x 0 [(0, vi a), (1, vi b)] []
  refine fr_iload_n h rfl 0 rfl dJ0_checkIndex_df160_0 ?_
  refine fr_iload_n h rfl 1 rfl dJ0_checkIndex_df160_1 ?_
  refine fr_sfmt h dJ0_checkIndex_df160_2 (fun v hv1 hv2 => ?_)
  refine fr_csI h wJ3_checkIndex_8e157 lJ0_1059 (c_pcheck x ha hb v hv2 h0 h1) rfl (by decide) (by decide) rfl (Nat.le_of_ble_eq_true rfl) dJ0_checkIndex_df160_5 (fun z1 x1 w1 p1 => ?_)
  rw [p1]
  refine fr_pop h rfl dJ0_checkIndex_df160_8 ?_
  exact fr_vret h hq rfl dJ0_checkIndex_df160_9
theorem c_lcharAt (x : Mm) {i : Nat} (hi : i < 7) {j : Int} (hj : fm_r j) (h0 : 0 ≤ j) (h1 : j < sln i) : CnI YC yJ1_charAt_3b067 cJ1_charAt_3b067 2 .char 2 43 (fun G => [vr G (300 + (i : Int)), vi j]) x (fun z y' => (0 ≤ z ∧ z ≤ 255) ∧ y' = x) := by
  refine cn_I (by decide) (fun _ => Nat.le_of_ble_eq_true rfl) (fun G C h hq => ?_)
  have h : OK YC G C cJ1_charAt_3b067 RJ1 2 (some .char) 2 43 := h
  show FW YC G C 2 x 0 [(0, vr G (300 + (i : Int))), (1, vi j)] []
  have hb := sln_b hi
  refine fr_iload_n h rfl 1 rfl dJ1_charAt_3b067_0 ?_
  refine fr_aload_n h rfl 0 rfl dJ1_charAt_3b067_1 ?_
  refine fr_bslen h hi dJ1_charAt_3b067_2 ?_
  refine fr_csV h wJ0_checkIndex_df160 lJ1_9 (c_scheck x hj (by omega) h0 h1) rfl (by decide) (by decide) rfl (Nat.le_of_ble_eq_true rfl) dJ1_charAt_3b067_3 (fun x1 p1 => ?_)
  rw [p1]
  refine fr_aload_n h rfl 0 rfl dJ1_charAt_3b067_6 ?_
  refine fr_iload_n h rfl 1 rfl dJ1_charAt_3b067_7 ?_
  refine fr_bsld h hi h0 h1 dJ1_charAt_3b067_8 (fun z1 w1 w2 => ?_)
  refine fr_sipush h rfl dJ1_charAt_3b067_9 ?_
  refine fr_iand h dJ1_charAt_3b067_12 (fun z2 w3 q2 w4 => ?_)
  have w5 := w4 (by omega) (by omega)
  refine fr_i2c h dJ1_charAt_3b067_13 (fun z3 w6 q3 w7 => ?_)
  have w8 := w7.2.2 (by omega) (by omega)
  exact fr_zret h (nr_c (by omega) (by omega)) hq (by omega) ⟨by omega, rfl⟩ dJ1_charAt_3b067_14
theorem c_scharAt (x : Mm) {i : Nat} (hi : i < 7) {j : Int} (hj : fm_r j) (h0 : 0 ≤ j) (h1 : j < sln i) : CnI YC yJ0_charAt_5068e cJ0_charAt_5068e 2 .char 3 64 (fun G => [vr G (200 + (i : Int)), vi j]) x (fun z y' => (0 ≤ z ∧ z ≤ 255) ∧ y' = x) := by
  refine cn_I (by decide) (fun _ => Nat.le_of_ble_eq_true rfl) (fun G C h hq => ?_)
  have h : OK YC G C cJ0_charAt_5068e RJ0 2 (some .char) 3 64 := h
  show FW YC G C 2 x 0 [(0, vr G (200 + (i : Int))), (1, vi j)] []
  refine fr_aload_n h rfl 0 rfl dJ0_charAt_5068e_0 ?_
  refine fr_cvSI h hi rfl wJ0_isLatin1_aae02 lJ0_492 (c_isLatin1 x hi) rfl (by decide) (by decide) rfl (Nat.le_of_ble_eq_true rfl) dJ0_charAt_5068e_1 (fun z1 x1 w1 p1 => ?_)
  rw [p1.2, p1.1]
  refine fr_if_eq (tgt := 16) h dJ0_charAt_5068e_4 (by decide) (by omega) (fun c6 => by exfalso; omega) (fun c6 => ?_)
  refine fr_aload_n h rfl 0 rfl dJ0_charAt_5068e_7 ?_
  refine fr_sval h hi dJ0_charAt_5068e_8 ?_
  refine fr_iload_n h rfl 1 rfl dJ0_charAt_5068e_11 ?_
  refine fr_csI h wJ1_charAt_3b067 lJ0_495 (c_lcharAt x hi hj h0 h1) rfl (by decide) (by decide) rfl (Nat.le_of_ble_eq_true rfl) dJ0_charAt_5068e_12 (fun z2 x2 w2 p2 => ?_)
  rw [p2.2]
  have p21 := p2.1
  exact fr_zret h (nr_c (by omega) (by omega)) hq (by omega) ⟨p2.1, rfl⟩ dJ0_charAt_5068e_15
