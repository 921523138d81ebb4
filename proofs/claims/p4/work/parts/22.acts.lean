set_option maxHeartbeats 200000 in
theorem c_X0_stopped (x : Mm) : CnI YC yX0_stopped cX0_stopped 1 .boolean 0 0 (fun G => [vr G 13]) x (fun z y' => (z = 0 ∨ z = 1) ∧ (y' = x)) := by
  refine cn_I (by decide) (fun _ => Nat.le_of_ble_eq_true rfl) (fun G C h hq => ?_)
  have h : OK YC G C cX0_stopped RX0 1 (some .boolean) 0 0 := h
  show FW YC G C 1 x 0 [(0, vr G 13)] []
  refine fr_aload_n h rfl 0 rfl dX0_stopped_0 ?_
  refine fr_geti (iz := 0) h kX0 fX0_9 at_13 rfl rfl (by decide) (by decide) rf_13_0 dX0_stopped_1 (fun z1 w2 w3 q4 => ?_)
  exact fr_zret h (nr_z (by omega) (by omega)) hq (by omega) ⟨(by omega), rfl⟩ dX0_stopped_4
set_option maxHeartbeats 200000 in
theorem c_X0_formOf (x : Mm) (p : Int) (h_p : fm_r p) : CnR YC yX0_formOf cX0_formOf 1 (.object "java/lang/String") 0 0 (fun G => [vi p]) x (fun z y' => (200 ≤ z) ∧ (z ≤ 206) ∧ (y' = x)) := by
  refine cn_R (by decide) (fun _ => Nat.le_of_ble_eq_true rfl) (fun G C h hq => ?_)
  have h : OK YC G C cX0_formOf RX0 1 (some (.object "java/lang/String")) 0 0 := h
  show FW YC G C 1 x 0 [(0, vi p)] []
  refine fr_iload_n h rfl 0 rfl dX0_formOf_0 ?_
  by_cases c2 : p = 99
  ·
    refine fr_tab_in (off := 120) (tgt := 121) h dX0_formOf_1 (by omega) (by omega) (by omega) (by rw [c2]; rfl) (by decide) ?_
    refine fr_ldcS (i := 3) (k := 203) h (by decide) rfl (by decide) dX0_formOf_121 ?_
    exact fr_aret h (Or.inl ⟨_, rfl⟩) hq ⟨(by omega), (by omega), rfl⟩ dX0_formOf_123
  ·
    by_cases c3 : p = 101
    ·
      refine fr_tab_in (off := 129) (tgt := 130) h dX0_formOf_1 (by omega) (by omega) (by omega) (by rw [c3]; rfl) (by decide) ?_
      refine fr_ldcS (i := 5) (k := 205) h (by decide) rfl (by decide) dX0_formOf_130 ?_
      exact fr_aret h (Or.inl ⟨_, rfl⟩) hq ⟨(by omega), (by omega), rfl⟩ dX0_formOf_132
    ·
      by_cases c4 : p = 106
      ·
        refine fr_tab_in (off := 117) (tgt := 118) h dX0_formOf_1 (by omega) (by omega) (by omega) (by rw [c4]; rfl) (by decide) ?_
        refine fr_ldcS (i := 2) (k := 202) h (by decide) rfl (by decide) dX0_formOf_118 ?_
        exact fr_aret h (Or.inl ⟨_, rfl⟩) hq ⟨(by omega), (by omega), rfl⟩ dX0_formOf_120
      ·
        by_cases c5 : p = 107
        ·
          refine fr_tab_in (off := 126) (tgt := 127) h dX0_formOf_1 (by omega) (by omega) (by omega) (by rw [c5]; rfl) (by decide) ?_
          refine fr_ldcS (i := 4) (k := 204) h (by decide) rfl (by decide) dX0_formOf_127 ?_
          exact fr_aret h (Or.inl ⟨_, rfl⟩) hq ⟨(by omega), (by omega), rfl⟩ dX0_formOf_129
        ·
          by_cases c6 : p = 112
          ·
            refine fr_tab_in (off := 111) (tgt := 112) h dX0_formOf_1 (by omega) (by omega) (by omega) (by rw [c6]; rfl) (by decide) ?_
            refine fr_ldcS (i := 0) (k := 200) h (by decide) rfl (by decide) dX0_formOf_112 ?_
            exact fr_aret h (Or.inl ⟨_, rfl⟩) hq ⟨(by omega), (by omega), rfl⟩ dX0_formOf_114
          ·
            by_cases c7 : p = 116
            ·
              refine fr_tab_in (off := 114) (tgt := 115) h dX0_formOf_1 (by omega) (by omega) (by omega) (by rw [c7]; rfl) (by decide) ?_
              refine fr_ldcS (i := 1) (k := 201) h (by decide) rfl (by decide) dX0_formOf_115 ?_
              exact fr_aret h (Or.inl ⟨_, rfl⟩) hq ⟨(by omega), (by omega), rfl⟩ dX0_formOf_117
            ·
              by_cases c8 : p = 122
              ·
                refine fr_tab_in (off := 123) (tgt := 124) h dX0_formOf_1 (by omega) (by omega) (by omega) (by rw [c8]; rfl) (by decide) ?_
                refine fr_ldcS (i := 4) (k := 204) h (by decide) rfl (by decide) dX0_formOf_124 ?_
                exact fr_aret h (Or.inl ⟨_, rfl⟩) hq ⟨(by omega), (by omega), rfl⟩ dX0_formOf_126
              ·
                have J9 : FW YC G C 1 x 133 [(0, vi p)] [] := by
                  refine fr_ldcS (i := 6) (k := 206) h (by decide) rfl (by decide) dX0_formOf_133 ?_
                  exact fr_aret h (Or.inl ⟨_, rfl⟩) hq ⟨(by omega), (by omega), rfl⟩ dX0_formOf_135
                by_cases c10 : p < 99 ∨ 122 < p
                · exact fr_tab_out (tgt := 133) h dX0_formOf_1 (by omega) c10 (by decide) J9
                · have c11 : p = 100 ∨ p = 102 ∨ p = 103 ∨ p = 104 ∨ p = 105 ∨ p = 108 ∨ p = 109 ∨ p = 110 ∨ p = 111 ∨ p = 113 ∨ p = 114 ∨ p = 115 ∨ p = 117 ∨ p = 118 ∨ p = 119 ∨ p = 120 ∨ p = 121 := by omega
                  rcases c11 with c11 | c11 | c11 | c11 | c11 | c11 | c11 | c11 | c11 | c11 | c11 | c11 | c11 | c11 | c11 | c11 | c11 <;> exact fr_tab_in (tgt := 133) h dX0_formOf_1 (by omega) (by omega) (by omega) (by rw [c11]; rfl) (by decide) J9
set_option maxHeartbeats 200000 in
theorem c_X0_mayStand (x : Mm) (p : Int) (w : Int) (h_p : fm_r p) (h_w : fm_r w) : CnI YC yX0_mayStand cX0_mayStand 3 .boolean 0 0 (fun G => [vi p, vi w]) x (fun z y' => (z = 0 ∨ z = 1) ∧ (y' = x)) := by
  refine cn_I (by decide) (fun _ => Nat.le_of_ble_eq_true rfl) (fun G C h hq => ?_)
  have h : OK YC G C cX0_mayStand RX0 3 (some .boolean) 0 0 := h
  show FW YC G C 3 x 0 [(0, vi p), (1, vi w)] []
  refine fr_iload_n h rfl 1 rfl dX0_mayStand_0 ?_
  refine fr_bipush h rfl dX0_mayStand_1 ?_
  refine fr_icmp_ne (tgt := 11) h dX0_mayStand_3 (by decide) (by omega) (by omega) (fun c1 => ?_) (fun c1 => ?_)
  ·
    refine fr_bipush h rfl dX0_mayStand_11 ?_
    refine fr_istore_n (L' := [(0, vi p), (1, vi w), (2, vi 48)]) h rfl dX0_mayStand_13 (by decide) [1, 2, 0] rfl ?_
    refine fr_iload_n h rfl 0 rfl dX0_mayStand_14 ?_
    refine fr_iload_n h rfl 2 rfl dX0_mayStand_15 ?_
    refine fr_icmp_lt (tgt := 28) h dX0_mayStand_16 (by decide) (by omega) (by omega) (fun c2 => ?_) (fun c2 => ?_)
    ·
      refine fr_iconst h dX0_mayStand_28 ?_
      exact fr_zret h rfl hq (by omega) ⟨(by omega), rfl⟩ dX0_mayStand_29
    ·
      refine fr_iload_n h rfl 0 rfl dX0_mayStand_19 ?_
      refine fr_iload_n h rfl 1 rfl dX0_mayStand_20 ?_
      refine fr_icmp_gt (tgt := 28) h dX0_mayStand_21 (by decide) (by omega) (by omega) (fun c3 => ?_) (fun c3 => ?_)
      ·
        refine fr_iconst h dX0_mayStand_28 ?_
        exact fr_zret h rfl hq (by omega) ⟨(by omega), rfl⟩ dX0_mayStand_29
      ·
        refine fr_iconst h dX0_mayStand_24 ?_
        refine fr_goto (tgt := 29) h dX0_mayStand_25 (by decide) ?_
        exact fr_zret h rfl hq (by omega) ⟨(by omega), rfl⟩ dX0_mayStand_29
  ·
    refine fr_bipush h rfl dX0_mayStand_6 ?_
    refine fr_goto (tgt := 13) h dX0_mayStand_8 (by decide) ?_
    refine fr_istore_n (L' := [(0, vi p), (1, vi w), (2, vi 97)]) h rfl dX0_mayStand_13 (by decide) [1, 2, 0] rfl ?_
    refine fr_iload_n h rfl 0 rfl dX0_mayStand_14 ?_
    refine fr_iload_n h rfl 2 rfl dX0_mayStand_15 ?_
    refine fr_icmp_lt (tgt := 28) h dX0_mayStand_16 (by decide) (by omega) (by omega) (fun c4 => ?_) (fun c4 => ?_)
    ·
      refine fr_iconst h dX0_mayStand_28 ?_
      exact fr_zret h rfl hq (by omega) ⟨(by omega), rfl⟩ dX0_mayStand_29
    ·
      refine fr_iload_n h rfl 0 rfl dX0_mayStand_19 ?_
      refine fr_iload_n h rfl 1 rfl dX0_mayStand_20 ?_
      refine fr_icmp_gt (tgt := 28) h dX0_mayStand_21 (by decide) (by omega) (by omega) (fun c5 => ?_) (fun c5 => ?_)
      ·
        refine fr_iconst h dX0_mayStand_28 ?_
        exact fr_zret h rfl hq (by omega) ⟨(by omega), rfl⟩ dX0_mayStand_29
      ·
        refine fr_iconst h dX0_mayStand_24 ?_
        refine fr_goto (tgt := 29) h dX0_mayStand_25 (by decide) ?_
        exact fr_zret h rfl hq (by omega) ⟨(by omega), rfl⟩ dX0_mayStand_29
set_option maxHeartbeats 1000000 in
theorem c_X0_fault (x : Mm) : CnI YC yX0_fault cX0_fault 5 .int 4 85 (fun G => [vr G 1]) x (fun z y' => ((-1) ≤ z) ∧ (z ≤ 60) ∧ (y' = x)) := by
  refine cn_I (by decide) (fun _ => Nat.le_of_ble_eq_true rfl) (fun G C h hq => ?_)
  have h : OK YC G C cX0_fault RX0 5 (some .int) 4 85 := h
  show FW YC G C 5 x 0 [(0, vr G 1)] []
  refine fr_aload_n h rfl 0 rfl dX0_fault_0 ?_
  refine fr_cvI h kX9 at_1 wX9_length lX0_15 (c_X9_length x) rfl (by decide) (by decide) rfl (Nat.le_of_ble_eq_true rfl) dX0_fault_1 (fun z2 x1 w3 p4 => ?_)
  obtain ⟨p5, p6, p7, y8⟩ := p4
  rw [y8]
  clear y8
  refine fr_bipush h rfl dX0_fault_4 ?_
  refine fr_mmin h (by omega) (by omega) (tb_3 (i := 44) (by decide +kernel) (by decide +kernel)) w_mmin (by decide) (by decide) (Nat.le_of_ble_eq_true rfl) dX0_fault_6 (fun z9 w10 w11 w12 => ?_)
  refine fr_istore_n (L' := [(0, vr G 1), (1, vi z9)]) h rfl dX0_fault_9 (by decide) [1, 0] rfl ?_
  refine fr_iconst h dX0_fault_10 ?_
  refine fr_istore_n (L' := [(0, vr G 1), (1, vi z9), (2, vi 0)]) h rfl dX0_fault_11 (by decide) [1, 2, 0] rfl ?_
  have HL13 : ∀ (n13 : Nat) (l2_13 : Int), fm_r l2_13 → 0 ≤ l2_13 → l2_13 ≤ 60 → l2_13 ≤ z9 → (60 - l2_13) < n13 → FW YC G C 5 x 12 [(0, vr G 1), (1, vi z9), (2, vi l2_13)] [] := by
    intro n13
    induction n13 with
    | zero =>
      intro l2_13 g13_0 g13_1 g13_2 g13_3 g13_4
      exfalso; omega
    | succ n13 ih13 =>
      intro l2_13 g13_0 g13_1 g13_2 g13_3 g13_4
      refine fr_iload_n h rfl 2 rfl dX0_fault_12 ?_
      refine fr_iload_n h rfl 1 rfl dX0_fault_13 ?_
      refine fr_icmp_ge (tgt := 86) h dX0_fault_14 (by decide) (by omega) (by omega) (fun c14 => ?_) (fun c14 => ?_)
      ·
        refine fr_aload_n h rfl 0 rfl dX0_fault_86 ?_
        refine fr_cvI h kX9 at_1 wX9_length lX0_15 (c_X9_length x) rfl (by decide) (by decide) rfl (Nat.le_of_ble_eq_true rfl) dX0_fault_87 (fun z16 x15 w17 p18 => ?_)
        obtain ⟨p19, p20, p21, y22⟩ := p18
        rw [y22]
        clear y22
        refine fr_bipush h rfl dX0_fault_90 ?_
        refine fr_icmp_le (tgt := 100) h dX0_fault_92 (by decide) (by omega) (by omega) (fun c23 => ?_) (fun c23 => ?_)
        ·
          refine fr_iconst h dX0_fault_100 ?_
          exact fr_iret h hq (by omega) ⟨(by omega), (by omega), rfl⟩ dX0_fault_101
        ·
          refine fr_bipush h rfl dX0_fault_95 ?_
          refine fr_goto (tgt := 101) h dX0_fault_97 (by decide) ?_
          exact fr_iret h hq (by omega) ⟨(by omega), (by omega), rfl⟩ dX0_fault_101
      ·
        refine fr_aload_n h rfl 0 rfl dX0_fault_17 ?_
        refine fr_iload_n h rfl 2 rfl dX0_fault_18 ?_
        refine fr_cvI h kX9 at_1 wX9_at lX0_27 (c_X9_at x l2_13 (by omega)) rfl (by decide) (by decide) rfl (Nat.le_of_ble_eq_true rfl) dX0_fault_19 (fun z25 x24 w26 p27 => ?_)
        obtain ⟨p28, p29, p30, p31, y32⟩ := p27
        rw [y32]
        clear y32
        refine fr_csR h wX0_formOf lX0_31 (c_X0_formOf x z25 (by omega)) rfl (by decide) (by decide) rfl (Nat.le_of_ble_eq_true rfl) dX0_fault_22 (fun z34 x33 p36 => ?_)
        obtain ⟨p37, p38, y39⟩ := p36
        rw [y39]
        clear y39
        obtain ⟨i40, w42, q41⟩ : ∃ i : Nat, i < 7 ∧ z34 = 200 + (i : Int) := ⟨(z34 - 200).toNat, by omega, by omega⟩
        rw [q41]
        refine fr_astore_n (L' := [(0, vr G 1), (1, vi z9), (2, vi l2_13), (3, vr G (200 + (i40 : Int)))]) h rfl dX0_fault_25 (by decide) [1, 2, 3, 0] rfl ?_
        refine fr_aload_n h rfl 3 rfl dX0_fault_26 ?_
        have w47 := sln_b w42
        refine fr_cvSI h w42 rfl wJ0_isEmpty_aae02 lX0_35 (c_sisEmpty x w42) rfl (by decide) (by decide) rfl (Nat.le_of_ble_eq_true rfl) dX0_fault_27 (fun z43 x44 w45 p46 => ?_)
        rw [p46.2]
        have w48 := p46.1
        refine fr_if_eq (tgt := 35) h dX0_fault_30 (by decide) (by omega) (fun c49 => ?_) (fun c49 => ?_)
        ·
          refine fr_iinc (j := 2) (L' := [(0, vr G 1), (1, vi z9), (2, vi (l2_13 + 1)), (3, vr G (200 + (i40 : Int)))]) h dX0_fault_35 rfl (by decide) [1, 2, 0, 3] rfl ?_
          refine fr_iconst h dX0_fault_38 ?_
          refine fr_istore (L' := [(0, vr G 1), (1, vi z9), (2, vi (l2_13 + 1)), (3, vr G (200 + (i40 : Int))), (4, vi 0)]) h dX0_fault_39 (by decide) [1, 2, 3, 4, 0] rfl ?_
          have HL50 : ∀ (n50 : Nat) (l2_50 l4_50 : Int), fm_r l2_50 → 0 ≤ l2_50 → l2_50 ≤ 60 → fm_r l4_50 → 0 ≤ l4_50 → l4_50 ≤ 4 → l2_50 ≤ z9 → (l2_13 + 1) ≤ l2_50 → (4 - l4_50) < n50 → FW YC G C 5 x 41 [(0, vr G 1), (1, vi z9), (2, vi l2_50), (3, vr G (200 + (i40 : Int))), (4, vi l4_50)] [] := by
            intro n50
            induction n50 with
            | zero =>
              intro l2_50 l4_50 g50_0 g50_1 g50_2 g50_3 g50_4 g50_5 g50_6 g50_7 g50_8
              exfalso; omega
            | succ n50 ih50 =>
              intro l2_50 l4_50 g50_0 g50_1 g50_2 g50_3 g50_4 g50_5 g50_6 g50_7 g50_8
              refine fr_iload h 4 rfl dX0_fault_41 ?_
              refine fr_aload_n h rfl 3 rfl dX0_fault_43 ?_
              have w55 := sln_b w42
              refine fr_cvSI h w42 rfl wJ0_length_8abf5 lX0_41 (c_slength x w42) rfl (by decide) (by decide) rfl (Nat.le_of_ble_eq_true rfl) dX0_fault_44 (fun z51 x52 w53 p54 => ?_)
              rw [p54.2]
              have w56 := p54.1
              refine fr_icmp_ge (tgt := 83) h dX0_fault_47 (by decide) (by omega) (by omega) (fun c57 => ?_) (fun c57 => ?_)
              ·
                refine fr_goto (tgt := 12) h dX0_fault_83 (by decide) ?_
                refine fr_sub (L' := [(0, vr G 1), (1, vi z9), (2, vi l2_50)]) [0, 1, 2] rfl ?_
                exact ih13 l2_50 (by omega) (by omega) (by omega) (by omega) (by omega)
              ·
                refine fr_iload_n h rfl 2 rfl dX0_fault_50 ?_
                refine fr_iload_n h rfl 1 rfl dX0_fault_51 ?_
                refine fr_icmp_ge (tgt := 72) h dX0_fault_52 (by decide) (by omega) (by omega) (fun c58 => ?_) (fun c58 => ?_)
                ·
                  refine fr_iload_n h rfl 2 rfl dX0_fault_72 ?_
                  exact fr_iret h hq (by omega) ⟨(by omega), (by omega), rfl⟩ dX0_fault_73
                ·
                  refine fr_aload_n h rfl 0 rfl dX0_fault_55 ?_
                  refine fr_iload_n h rfl 2 rfl dX0_fault_56 ?_
                  refine fr_cvI h kX9 at_1 wX9_at lX0_27 (c_X9_at x l2_50 (by omega)) rfl (by decide) (by decide) rfl (Nat.le_of_ble_eq_true rfl) dX0_fault_57 (fun z60 x59 w61 p62 => ?_)
                  obtain ⟨p63, p64, p65, p66, y67⟩ := p62
                  rw [y67]
                  clear y67
                  refine fr_aload_n h rfl 3 rfl dX0_fault_60 ?_
                  refine fr_iload h 4 rfl dX0_fault_61 ?_
                  have w72 := sln_b w42
                  refine fr_cvSI h w42 rfl wJ0_charAt_5068e lX0_42 (c_scharAt x w42 (j := l4_50) (by omega) (by omega) (by omega)) rfl (by decide) (by decide) rfl (Nat.le_of_ble_eq_true rfl) dX0_fault_63 (fun z68 x69 w70 p71 => ?_)
                  rw [p71.2]
                  have w73 := p71.1
                  refine fr_csI h wX0_mayStand lX0_45 (c_X0_mayStand x z60 z68 (by omega) (by omega)) rfl (by decide) (by decide) rfl (Nat.le_of_ble_eq_true rfl) dX0_fault_66 (fun z75 x74 w76 p77 => ?_)
                  obtain ⟨p78, y79⟩ := p77
                  rw [y79]
                  clear y79
                  refine fr_if_ne (tgt := 74) h dX0_fault_69 (by decide) (by omega) (fun c80 => ?_) (fun c80 => ?_)
                  ·
                    refine fr_iinc (j := 2) (L' := [(0, vr G 1), (1, vi z9), (2, vi (l2_50 + 1)), (3, vr G (200 + (i40 : Int))), (4, vi l4_50)]) h dX0_fault_74 rfl (by decide) [1, 2, 0, 3, 4] rfl ?_
                    refine fr_iinc (j := 4) (L' := [(0, vr G 1), (1, vi z9), (2, vi (l2_50 + 1)), (3, vr G (200 + (i40 : Int))), (4, vi (l4_50 + 1))]) h dX0_fault_77 rfl (by decide) [1, 2, 3, 4, 0] rfl ?_
                    refine fr_goto (tgt := 41) h dX0_fault_80 (by decide) ?_
                    exact ih50 (l2_50 + 1) (l4_50 + 1) (by omega) (by omega) (by omega) (by omega) (by omega) (by omega) (by omega) (by omega) (by omega)
                  ·
                    refine fr_iload_n h rfl 2 rfl dX0_fault_72 ?_
                    exact fr_iret h hq (by omega) ⟨(by omega), (by omega), rfl⟩ dX0_fault_73
          exact HL50 ((4 - 0) + 1 : Int).toNat (l2_13 + 1) 0 (by omega) (by omega) (by omega) (by omega) (by omega) (by omega) (by omega) (by omega) (by omega)
        ·
          refine fr_iload_n h rfl 2 rfl dX0_fault_33 ?_
          exact fr_iret h hq (by omega) ⟨(by omega), (by omega), rfl⟩ dX0_fault_34
  exact HL13 ((60 - 0) + 1 : Int).toNat 0 (by omega) (by omega) (by omega) (by omega) (by omega)
set_option maxHeartbeats 2000000 in
theorem c_X0_performOne (x : Mm) (p : Int) (b : Int) (hb : isSt b) (h_p : fm_r p) (e0 : 0 ≤ p) (e1 : p ≤ 80) : CnI YC yX0_performOne cX0_performOne 3 .int 4 89 (fun G => [vr G 1, vi p, vr G b]) x (fun z y' => (∀ a : Int, (a < b ∨ b + 4 < a) → y' a = x a)) := by
  refine cn_I (by decide) (fun _ => Nat.le_of_ble_eq_true rfl) (fun G C h hq => ?_)
  have h : OK YC G C cX0_performOne RX0 3 (some .int) 4 89 := h
  show FW YC G C 3 x 0 [(0, vr G 1), (1, vi p), (2, vr G b)] []
  have h_b := St_b hb
  refine fr_aload_n h rfl 0 rfl dX0_performOne_0 ?_
  refine fr_iload_n h rfl 1 rfl dX0_performOne_1 ?_
  refine fr_cvI h kX9 at_1 wX9_at lX0_27 (c_X9_at x p (by omega)) rfl (by decide) (by decide) rfl (Nat.le_of_ble_eq_true rfl) dX0_performOne_2 (fun z2 x1 w3 p4 => ?_)
  obtain ⟨p5, p6, p7, p8, y9⟩ := p4
  rw [y9]
  clear y9
  by_cases c11 : z2 = 99
  ·
    refine fr_tab_in (off := 175) (tgt := 180) h dX0_performOne_5 (by omega) (by omega) (by omega) (by rw [c11]; rfl) (by decide) ?_
    refine fr_aload_n h rfl 2 rfl dX0_performOne_180 ?_
    refine fr_aload_n h rfl 0 rfl dX0_performOne_181 ?_
    refine fr_iload_n h rfl 1 rfl dX0_performOne_182 ?_
    refine fr_iconst h dX0_performOne_183 ?_
    refine fr_iadd h dX0_performOne_184 ?_
    refine fr_cvI h kX9 at_1 wX9_digit lX0_53 (c_X9_digit x (p + 1) (by omega)) rfl (by decide) (by decide) rfl (Nat.le_of_ble_eq_true rfl) dX0_performOne_185 (fun z13 x12 w14 p15 => ?_)
    obtain ⟨p16, p17, p18, y19⟩ := p15
    rw [y19]
    clear y19
    refine fr_aload_n h rfl 0 rfl dX0_performOne_188 ?_
    refine fr_iload_n h rfl 1 rfl dX0_performOne_189 ?_
    refine fr_iconst h dX0_performOne_190 ?_
    refine fr_iadd h dX0_performOne_191 ?_
    refine fr_cvI h kX9 at_1 wX9_digit lX0_53 (c_X9_digit x (p + 2) (by omega)) rfl (by decide) (by decide) rfl (Nat.le_of_ble_eq_true rfl) dX0_performOne_192 (fun z21 x20 w22 p23 => ?_)
    obtain ⟨p24, p25, p26, y27⟩ := p23
    rw [y27]
    clear y27
    refine fr_aload_n h rfl 0 rfl dX0_performOne_195 ?_
    refine fr_iload_n h rfl 1 rfl dX0_performOne_196 ?_
    refine fr_iconst h dX0_performOne_197 ?_
    refine fr_iadd h dX0_performOne_198 ?_
    refine fr_cvI h kX9 at_1 wX9_twoDigits lX0_57 (c_X9_twoDigits x (p + 3) (by omega)) rfl (by decide) (by decide) rfl (Nat.le_of_ble_eq_true rfl) dX0_performOne_199 (fun z29 x28 w30 p31 => ?_)
    obtain ⟨p32, p33, y34⟩ := p31
    rw [y34]
    clear y34
    refine fr_cvI h kX8 (St_at hb) wX8_setCost lX0_75 (c_X8_setCost x b hb z13 z21 z29 (by omega) (by omega) (by omega)) rfl (by decide) (by decide) rfl (Nat.le_of_ble_eq_true rfl) dX0_performOne_202 (fun z36 x35 w37 p38 => ?_)
    obtain ⟨p39, p40, f41⟩ := p38
    exact fr_iret h hq (by omega) (fun a k0 => (f41 a (by omega))) dX0_performOne_205
  ·
    by_cases c42 : z2 = 101
    ·
      refine fr_tab_in (off := 227) (tgt := 232) h dX0_performOne_5 (by omega) (by omega) (by omega) (by rw [c42]; rfl) (by decide) ?_
      refine fr_aload_n h rfl 2 rfl dX0_performOne_232 ?_
      refine fr_aload_n h rfl 0 rfl dX0_performOne_233 ?_
      refine fr_iload_n h rfl 1 rfl dX0_performOne_234 ?_
      refine fr_iconst h dX0_performOne_235 ?_
      refine fr_iadd h dX0_performOne_236 ?_
      refine fr_cvI h kX9 at_1 wX9_node lX0_68 (c_X9_node x (p + 1) (by omega)) rfl (by decide) (by decide) rfl (Nat.le_of_ble_eq_true rfl) dX0_performOne_237 (fun z44 x43 w45 p46 => ?_)
      obtain ⟨p47, p48, y49⟩ := p46
      rw [y49]
      clear y49
      refine fr_aload_n h rfl 0 rfl dX0_performOne_240 ?_
      refine fr_iload_n h rfl 1 rfl dX0_performOne_241 ?_
      refine fr_iconst h dX0_performOne_242 ?_
      refine fr_iadd h dX0_performOne_243 ?_
      refine fr_cvI h kX9 at_1 wX9_node lX0_68 (c_X9_node x (p + 2) (by omega)) rfl (by decide) (by decide) rfl (Nat.le_of_ble_eq_true rfl) dX0_performOne_244 (fun z51 x50 w52 p53 => ?_)
      obtain ⟨p54, p55, y56⟩ := p53
      rw [y56]
      clear y56
      refine fr_cvI h kX8 (St_at hb) wX8_setEnds lX0_81 (c_X8_setEnds x b hb z44 z51 (by omega) (by omega)) rfl (by decide) (by decide) rfl (Nat.le_of_ble_eq_true rfl) dX0_performOne_247 (fun z58 x57 w59 p60 => ?_)
      obtain ⟨p61, p62, f63⟩ := p60
      exact fr_iret h hq (by omega) (fun a k0 => (f63 a (by omega))) dX0_performOne_250
    ·
      by_cases c64 : z2 = 106
      ·
        refine fr_tab_in (off := 149) (tgt := 154) h dX0_performOne_5 (by omega) (by omega) (by omega) (by rw [c64]; rfl) (by decide) ?_
        refine fr_aload_n h rfl 2 rfl dX0_performOne_154 ?_
        refine fr_aload_n h rfl 0 rfl dX0_performOne_155 ?_
        refine fr_iload_n h rfl 1 rfl dX0_performOne_156 ?_
        refine fr_iconst h dX0_performOne_157 ?_
        refine fr_iadd h dX0_performOne_158 ?_
        refine fr_cvI h kX9 at_1 wX9_node lX0_68 (c_X9_node x (p + 1) (by omega)) rfl (by decide) (by decide) rfl (Nat.le_of_ble_eq_true rfl) dX0_performOne_159 (fun z66 x65 w67 p68 => ?_)
        obtain ⟨p69, p70, y71⟩ := p68
        rw [y71]
        clear y71
        refine fr_aload_n h rfl 0 rfl dX0_performOne_162 ?_
        refine fr_iload_n h rfl 1 rfl dX0_performOne_163 ?_
        refine fr_iconst h dX0_performOne_164 ?_
        refine fr_iadd h dX0_performOne_165 ?_
        refine fr_cvI h kX9 at_1 wX9_node lX0_68 (c_X9_node x (p + 2) (by omega)) rfl (by decide) (by decide) rfl (Nat.le_of_ble_eq_true rfl) dX0_performOne_166 (fun z73 x72 w74 p75 => ?_)
        obtain ⟨p76, p77, y78⟩ := p75
        rw [y78]
        clear y78
        refine fr_aload_n h rfl 0 rfl dX0_performOne_169 ?_
        refine fr_iload_n h rfl 1 rfl dX0_performOne_170 ?_
        refine fr_iconst h dX0_performOne_171 ?_
        refine fr_iadd h dX0_performOne_172 ?_
        refine fr_cvI h kX9 at_1 wX9_twoDigits lX0_57 (c_X9_twoDigits x (p + 3) (by omega)) rfl (by decide) (by decide) rfl (Nat.le_of_ble_eq_true rfl) dX0_performOne_173 (fun z80 x79 w81 p82 => ?_)
        obtain ⟨p83, p84, y85⟩ := p82
        rw [y85]
        clear y85
        refine fr_cvI h kX8 (St_at hb) wX8_joinNodes lX0_71 (c_X8_joinNodes x b hb z66 z73 z80 (by omega) (by omega) (by omega)) rfl (by decide) (by decide) rfl (Nat.le_of_ble_eq_true rfl) dX0_performOne_176 (fun z87 x86 w88 p89 => ?_)
        obtain ⟨p90, p91, f92⟩ := p89
        exact fr_iret h hq (by omega) (fun a k0 => (f92 a (by omega))) dX0_performOne_179
      ·
        by_cases c93 : z2 = 107
        ·
          refine fr_tab_in (off := 214) (tgt := 219) h dX0_performOne_5 (by omega) (by omega) (by omega) (by rw [c93]; rfl) (by decide) ?_
          refine fr_aload_n h rfl 2 rfl dX0_performOne_219 ?_
          refine fr_iconst h dX0_performOne_220 ?_
          refine fr_aload_n h rfl 0 rfl dX0_performOne_221 ?_
          refine fr_iload_n h rfl 1 rfl dX0_performOne_222 ?_
          refine fr_iconst h dX0_performOne_223 ?_
          refine fr_iadd h dX0_performOne_224 ?_
          refine fr_cvI h kX9 at_1 wX9_digit lX0_53 (c_X9_digit x (p + 1) (by omega)) rfl (by decide) (by decide) rfl (Nat.le_of_ble_eq_true rfl) dX0_performOne_225 (fun z95 x94 w96 p97 => ?_)
          obtain ⟨p98, p99, p100, y101⟩ := p97
          rw [y101]
          clear y101
          refine fr_cvI h kX8 (St_at hb) wX8_setWhat lX0_78 (c_X8_setWhat x b hb 1 z95 (by omega) (by omega)) rfl (by decide) (by decide) rfl (Nat.le_of_ble_eq_true rfl) dX0_performOne_228 (fun z103 x102 w104 p105 => ?_)
          obtain ⟨p106, p107, f108⟩ := p105
          exact fr_iret h hq (by omega) (fun a k0 => (f108 a (by omega))) dX0_performOne_231
        ·
          by_cases c109 : z2 = 112
          ·
            refine fr_tab_in (off := 111) (tgt := 116) h dX0_performOne_5 (by omega) (by omega) (by omega) (by rw [c109]; rfl) (by decide) ?_
            refine fr_aload_n h rfl 2 rfl dX0_performOne_116 ?_
            refine fr_aload_n h rfl 0 rfl dX0_performOne_117 ?_
            refine fr_iload_n h rfl 1 rfl dX0_performOne_118 ?_
            refine fr_iconst h dX0_performOne_119 ?_
            refine fr_iadd h dX0_performOne_120 ?_
            refine fr_cvI h kX9 at_1 wX9_digit lX0_53 (c_X9_digit x (p + 1) (by omega)) rfl (by decide) (by decide) rfl (Nat.le_of_ble_eq_true rfl) dX0_performOne_121 (fun z111 x110 w112 p113 => ?_)
            obtain ⟨p114, p115, p116, y117⟩ := p113
            rw [y117]
            clear y117
            refine fr_aload_n h rfl 0 rfl dX0_performOne_124 ?_
            refine fr_iload_n h rfl 1 rfl dX0_performOne_125 ?_
            refine fr_iconst h dX0_performOne_126 ?_
            refine fr_iadd h dX0_performOne_127 ?_
            refine fr_cvI h kX9 at_1 wX9_twoDigits lX0_57 (c_X9_twoDigits x (p + 2) (by omega)) rfl (by decide) (by decide) rfl (Nat.le_of_ble_eq_true rfl) dX0_performOne_128 (fun z119 x118 w120 p121 => ?_)
            obtain ⟨p122, p123, y124⟩ := p121
            rw [y124]
            clear y124
            refine fr_cvI h kX8 (St_at hb) wX8_putNumber lX0_60 (c_X8_putNumber x b hb z111 z119 (by omega) (by omega)) rfl (by decide) (by decide) rfl (Nat.le_of_ble_eq_true rfl) dX0_performOne_131 (fun z126 x125 w127 p128 => ?_)
            obtain ⟨p129, p130, f131⟩ := p128
            exact fr_iret h hq (by omega) (fun a k0 => (f131 a (by omega))) dX0_performOne_134
          ·
            by_cases c132 : z2 = 116
            ·
              refine fr_tab_in (off := 130) (tgt := 135) h dX0_performOne_5 (by omega) (by omega) (by omega) (by rw [c132]; rfl) (by decide) ?_
              refine fr_aload_n h rfl 2 rfl dX0_performOne_135 ?_
              refine fr_aload_n h rfl 0 rfl dX0_performOne_136 ?_
              refine fr_iload_n h rfl 1 rfl dX0_performOne_137 ?_
              refine fr_iconst h dX0_performOne_138 ?_
              refine fr_iadd h dX0_performOne_139 ?_
              refine fr_cvI h kX9 at_1 wX9_digit lX0_53 (c_X9_digit x (p + 1) (by omega)) rfl (by decide) (by decide) rfl (Nat.le_of_ble_eq_true rfl) dX0_performOne_140 (fun z134 x133 w135 p136 => ?_)
              obtain ⟨p137, p138, p139, y140⟩ := p136
              rw [y140]
              clear y140
              refine fr_aload_n h rfl 0 rfl dX0_performOne_143 ?_
              refine fr_iload_n h rfl 1 rfl dX0_performOne_144 ?_
              refine fr_iconst h dX0_performOne_145 ?_
              refine fr_iadd h dX0_performOne_146 ?_
              refine fr_cvI h kX9 at_1 wX9_digit lX0_53 (c_X9_digit x (p + 2) (by omega)) rfl (by decide) (by decide) rfl (Nat.le_of_ble_eq_true rfl) dX0_performOne_147 (fun z142 x141 w143 p144 => ?_)
              obtain ⟨p145, p146, p147, y148⟩ := p144
              rw [y148]
              clear y148
              refine fr_cvI h kX8 (St_at hb) wX8_takeNumber lX0_65 (c_X8_takeNumber x b hb z134 z142 (by omega) (by omega)) rfl (by decide) (by decide) rfl (Nat.le_of_ble_eq_true rfl) dX0_performOne_150 (fun z150 x149 w151 p152 => ?_)
              obtain ⟨p153, p154, f155⟩ := p152
              exact fr_iret h hq (by omega) (fun a k0 => (f155 a (by omega))) dX0_performOne_153
            ·
              by_cases c156 : z2 = 122
              ·
                refine fr_tab_in (off := 201) (tgt := 206) h dX0_performOne_5 (by omega) (by omega) (by omega) (by rw [c156]; rfl) (by decide) ?_
                refine fr_aload_n h rfl 2 rfl dX0_performOne_206 ?_
                refine fr_iconst h dX0_performOne_207 ?_
                refine fr_aload_n h rfl 0 rfl dX0_performOne_208 ?_
                refine fr_iload_n h rfl 1 rfl dX0_performOne_209 ?_
                refine fr_iconst h dX0_performOne_210 ?_
                refine fr_iadd h dX0_performOne_211 ?_
                refine fr_cvI h kX9 at_1 wX9_digit lX0_53 (c_X9_digit x (p + 1) (by omega)) rfl (by decide) (by decide) rfl (Nat.le_of_ble_eq_true rfl) dX0_performOne_212 (fun z158 x157 w159 p160 => ?_)
                obtain ⟨p161, p162, p163, y164⟩ := p160
                rw [y164]
                clear y164
                refine fr_cvI h kX8 (St_at hb) wX8_setWhat lX0_78 (c_X8_setWhat x b hb 0 z158 (by omega) (by omega)) rfl (by decide) (by decide) rfl (Nat.le_of_ble_eq_true rfl) dX0_performOne_215 (fun z166 x165 w167 p168 => ?_)
                obtain ⟨p169, p170, f171⟩ := p168
                exact fr_iret h hq (by omega) (fun a k0 => (f171 a (by omega))) dX0_performOne_218
              ·
                have J172 : FW YC G C 3 x 251 [(0, vr G 1), (1, vi p), (2, vr G b)] [] := by
                  refine fr_iconst h dX0_performOne_251 ?_
                  exact fr_iret h hq (by omega) (fun a _ => rfl) dX0_performOne_252
                by_cases c173 : z2 < 99 ∨ 122 < z2
                · exact fr_tab_out (tgt := 251) h dX0_performOne_5 (by omega) c173 (by decide) J172
                · have c174 : z2 = 100 ∨ z2 = 102 ∨ z2 = 103 ∨ z2 = 104 ∨ z2 = 105 ∨ z2 = 108 ∨ z2 = 109 ∨ z2 = 110 ∨ z2 = 111 ∨ z2 = 113 ∨ z2 = 114 ∨ z2 = 115 ∨ z2 = 117 ∨ z2 = 118 ∨ z2 = 119 ∨ z2 = 120 ∨ z2 = 121 := by omega
                  rcases c174 with c174 | c174 | c174 | c174 | c174 | c174 | c174 | c174 | c174 | c174 | c174 | c174 | c174 | c174 | c174 | c174 | c174 <;> exact fr_tab_in (tgt := 251) h dX0_performOne_5 (by omega) (by omega) (by omega) (by rw [c174]; rfl) (by decide) J172
set_option maxHeartbeats 1000000 in
theorem c_X0_perform (x : Mm) (b : Int) (hb : isSt b) : CnI YC yX0_perform cX0_perform 5 .int 5 111 (fun G => [vr G 13, vr G 1, vr G b]) x (fun z y' => (0 ≤ z) ∧ (z ≤ 80) ∧ (∀ a : Int, (a < b ∨ b + 4 < a) → (a < 13 ∨ 13 < a) → y' a = x a)) := by
  refine cn_I (by decide) (fun _ => Nat.le_of_ble_eq_true rfl) (fun G C h hq => ?_)
  have h : OK YC G C cX0_perform RX0 5 (some .int) 5 111 := h
  show FW YC G C 5 x 0 [(0, vr G 13), (1, vr G 1), (2, vr G b)] []
  have h_b := St_b hb
  refine fr_aload_n h rfl 0 rfl dX0_perform_0 ?_
  refine fr_iconst h dX0_perform_1 ?_
  refine fr_putz (iz := 0) h kX0 fX0_9 at_13 rfl rfl (by decide) (by decide) rfl (by decide +kernel) rf_13_0 (by omega) (by omega) (by omega) dX0_perform_2 ?_
  refine fr_mem (fun x1 m2 => ?_)
  refine fr_iconst h dX0_perform_5 ?_
  refine fr_istore_n (L' := [(0, vr G 13), (1, vr G 1), (2, vr G b), (3, vi 0)]) h rfl dX0_perform_6 (by decide) [1, 2, 3, 0] rfl ?_
  refine fr_iconst h dX0_perform_7 ?_
  refine fr_istore (L' := [(0, vr G 13), (1, vr G 1), (2, vr G b), (3, vi 0), (4, vi 0)]) h dX0_perform_8 (by decide) [1, 2, 3, 4, 0] rfl ?_
  have HL3 : ∀ (n3 : Nat) (l3_3 l4_3 : Int) (x_3 : Mm), fm_r l3_3 → 0 ≤ l3_3 → l3_3 ≤ 80 → fm_r l4_3 → 0 ≤ l4_3 → l4_3 ≤ 85 → l3_3 ≤ l4_3 → (l4_3 < 80 → l3_3 ≤ l4_3) → (∀ a : Int, (a < b ∨ b + 4 < a) → (a < 13 ∨ 13 < a) → x_3 a = x1 a) → (85 - l4_3) < n3 → FW YC G C 5 x_3 10 [(0, vr G 13), (1, vr G 1), (2, vr G b), (3, vi l3_3), (4, vi l4_3)] [] := by
    intro n3
    induction n3 with
    | zero =>
      intro l3_3 l4_3 x_3 g3_0 g3_1 g3_2 g3_3 g3_4 g3_5 g3_6 g3_7 g3_8 g3_9
      exfalso; omega
    | succ n3 ih3 =>
      intro l3_3 l4_3 x_3 g3_0 g3_1 g3_2 g3_3 g3_4 g3_5 g3_6 g3_7 g3_8 g3_9
      refine fr_iload h 4 rfl dX0_perform_10 ?_
      refine fr_aload_n h rfl 1 rfl dX0_perform_12 ?_
      refine fr_cvI h kX9 at_1 wX9_length lX0_15 (c_X9_length x_3) rfl (by decide) (by decide) rfl (Nat.le_of_ble_eq_true rfl) dX0_perform_13 (fun z5 x4 w6 p7 => ?_)
      obtain ⟨p8, p9, p10, y11⟩ := p7
      rw [y11]
      clear y11
      refine fr_icmp_ge (tgt := 69) h dX0_perform_16 (by decide) (by omega) (by omega) (fun c12 => ?_) (fun c12 => ?_)
      ·
        refine fr_iload_n h rfl 3 rfl dX0_perform_69 ?_
        exact fr_iret h hq (by omega) ⟨(by omega), (by omega), (fun a k0 k1 => ((g3_8 a (by omega) (by omega)).trans (fm_up_row m2 (by omega))))⟩ dX0_perform_70
      ·
        refine fr_aload_n h rfl 0 rfl dX0_perform_19 ?_
        refine fr_geti (iz := 0) h kX0 fX0_9 at_13 rfl rfl (by decide) (by decide) rf_13_0 dX0_perform_20 (fun z13 w14 w15 q16 => ?_)
        have r17 := (fm_rd_s m2)
        refine fr_if_ne (tgt := 69) h dX0_perform_23 (by decide) (by omega) (fun c18 => ?_) (fun c18 => ?_)
        ·
          refine fr_iload_n h rfl 3 rfl dX0_perform_69 ?_
          exact fr_iret h hq (by omega) ⟨(by omega), (by omega), (fun a k0 k1 => ((g3_8 a (by omega) (by omega)).trans (fm_up_row m2 (by omega))))⟩ dX0_perform_70
        ·
          refine fr_aload_n h rfl 1 rfl dX0_perform_26 ?_
          refine fr_iload h 4 rfl dX0_perform_27 ?_
          refine fr_aload_n h rfl 2 rfl dX0_perform_29 ?_
          refine fr_csI h wX0_performOne lX0_49 (c_X0_performOne x_3 l4_3 b hb (by omega) (by omega) (by omega)) rfl (by decide) (by decide) rfl (Nat.le_of_ble_eq_true rfl) dX0_perform_30 (fun z20 x19 w21 p22 => ?_)
          have f23 := p22
          refine fr_if_ge (tgt := 44) h dX0_perform_33 (by decide) (by omega) (fun c24 => ?_) (fun c24 => ?_)
          ·
            refine fr_iinc (j := 3) (L' := [(0, vr G 13), (1, vr G 1), (2, vr G b), (3, vi (l3_3 + 1)), (4, vi l4_3)]) h dX0_perform_44 rfl (by decide) [1, 2, 3, 0, 4] rfl ?_
            refine fr_iload h 4 rfl dX0_perform_47 ?_
            refine fr_iconst h dX0_perform_49 ?_
            refine fr_aload_n h rfl 1 rfl dX0_perform_50 ?_
            refine fr_iload h 4 rfl dX0_perform_51 ?_
            refine fr_cvI h kX9 at_1 wX9_at lX0_27 (c_X9_at x19 l4_3 (by omega)) rfl (by decide) (by decide) rfl (Nat.le_of_ble_eq_true rfl) dX0_perform_53 (fun z26 x25 w27 p28 => ?_)
            obtain ⟨p29, p30, p31, p32, y33⟩ := p28
            rw [y33]
            clear y33
            refine fr_csR h wX0_formOf lX0_31 (c_X0_formOf x19 z26 (by omega)) rfl (by decide) (by decide) rfl (Nat.le_of_ble_eq_true rfl) dX0_perform_56 (fun z35 x34 p37 => ?_)
            obtain ⟨p38, p39, y40⟩ := p37
            rw [y40]
            clear y40
            obtain ⟨i41, w43, q42⟩ : ∃ i : Nat, i < 7 ∧ z35 = 200 + (i : Int) := ⟨(z35 - 200).toNat, by omega, by omega⟩
            rw [q42]
            have w48 := sln_b w43
            refine fr_cvSI h w43 rfl wJ0_length_8abf5 lX0_41 (c_slength x19 w43) rfl (by decide) (by decide) rfl (Nat.le_of_ble_eq_true rfl) dX0_perform_59 (fun z44 x45 w46 p47 => ?_)
            rw [p47.2]
            have w49 := p47.1
            refine fr_iadd h dX0_perform_62 ?_
            refine fr_iadd h dX0_perform_63 ?_
            refine fr_istore (L' := [(0, vr G 13), (1, vr G 1), (2, vr G b), (3, vi (l3_3 + 1)), (4, vi (l4_3 + (1 + z44)))]) h dX0_perform_64 (by decide) [1, 2, 3, 4, 0] rfl ?_
            refine fr_goto (tgt := 10) h dX0_perform_66 (by decide) ?_
            exact ih3 (l3_3 + 1) (l4_3 + (1 + z44)) x19 (by omega) (by omega) (by omega) (by omega) (by omega) (by omega) (by omega) (by omega) (fun a k0 k1 => ((f23 a (by omega)).trans (g3_8 a (by omega) (by omega)))) (by omega)
          ·
            refine fr_aload_n h rfl 0 rfl dX0_perform_36 ?_
            refine fr_iconst h dX0_perform_37 ?_
            refine fr_putz (iz := 0) h kX0 fX0_9 at_13 rfl rfl (by decide) (by decide) rfl (by decide +kernel) rf_13_0 (by omega) (by omega) (by omega) dX0_perform_38 ?_
            refine fr_mem (fun x50 m51 => ?_)
            refine fr_goto (tgt := 47) h dX0_perform_41 (by decide) ?_
            refine fr_iload h 4 rfl dX0_perform_47 ?_
            refine fr_iconst h dX0_perform_49 ?_
            refine fr_aload_n h rfl 1 rfl dX0_perform_50 ?_
            refine fr_iload h 4 rfl dX0_perform_51 ?_
            refine fr_cvI h kX9 at_1 wX9_at lX0_27 (c_X9_at x50 l4_3 (by omega)) rfl (by decide) (by decide) rfl (Nat.le_of_ble_eq_true rfl) dX0_perform_53 (fun z53 x52 w54 p55 => ?_)
            obtain ⟨p56, p57, p58, p59, y60⟩ := p55
            rw [y60]
            clear y60
            refine fr_csR h wX0_formOf lX0_31 (c_X0_formOf x50 z53 (by omega)) rfl (by decide) (by decide) rfl (Nat.le_of_ble_eq_true rfl) dX0_perform_56 (fun z62 x61 p64 => ?_)
            obtain ⟨p65, p66, y67⟩ := p64
            rw [y67]
            clear y67
            obtain ⟨i68, w70, q69⟩ : ∃ i : Nat, i < 7 ∧ z62 = 200 + (i : Int) := ⟨(z62 - 200).toNat, by omega, by omega⟩
            rw [q69]
            have w75 := sln_b w70
            refine fr_cvSI h w70 rfl wJ0_length_8abf5 lX0_41 (c_slength x50 w70) rfl (by decide) (by decide) rfl (Nat.le_of_ble_eq_true rfl) dX0_perform_59 (fun z71 x72 w73 p74 => ?_)
            rw [p74.2]
            have w76 := p74.1
            refine fr_iadd h dX0_perform_62 ?_
            refine fr_iadd h dX0_perform_63 ?_
            refine fr_istore (L' := [(0, vr G 13), (1, vr G 1), (2, vr G b), (3, vi l3_3), (4, vi (l4_3 + (1 + z71)))]) h dX0_perform_64 (by decide) [1, 2, 3, 4, 0] rfl ?_
            refine fr_goto (tgt := 10) h dX0_perform_66 (by decide) ?_
            exact ih3 l3_3 (l4_3 + (1 + z71)) x50 (by omega) (by omega) (by omega) (by omega) (by omega) (by omega) (by omega) (by omega) (fun a k0 k1 => ((fm_up_row m51 (by omega)).trans ((f23 a (by omega)).trans (g3_8 a (by omega) (by omega))))) (by omega)
  exact HL3 ((85 - 0) + 1 : Int).toNat 0 0 x1 (by omega) (by omega) (by omega) (by omega) (by omega) (by omega) (by omega) (by omega) (fun a _ _ => rfl) (by omega)
set_option maxHeartbeats 1000000 in
theorem c_X11_day (x : Mm) : CnI YC yX11_day cX11_day 3 .int 6 135 (fun G => [vr G 0]) x (fun z y' => (y' 1 1 = 0) ∧ (∀ a : Int, (a < 1 ∨ 2 < a) → (a < 3 ∨ 12 < a) → (a < 13 ∨ 65 < a) → (a < 79 ∨ 88 < a) → (a < 95 ∨ 97 < a) → (a < 107 ∨ 108 < a) → y' a = x a)) := by
  refine cn_I (by decide) (fun _ => Nat.le_of_ble_eq_true rfl) (fun G C h hq => ?_)
  have h : OK YC G C cX11_day RX11 3 (some .int) 6 135 := h
  show FW YC G C 3 x 0 [(0, vr G 0)] []
  refine fr_aload_n h rfl 0 rfl dX11_day_0 ?_
  refine fr_getc (z := 1) (iz := 0) h kX11 fX11_10 at_0 rfl rfl rf_0_0 (by omega) dX11_day_1 ?_
  refine fr_csI h wX0_fault lX11_181 (c_X0_fault x) rfl (by decide) (by decide) rfl (Nat.le_of_ble_eq_true rfl) dX11_day_4 (fun z2 x1 w3 p4 => ?_)
  obtain ⟨p5, p6, y7⟩ := p4
  rw [y7]
  clear y7
  refine fr_istore_n (L' := [(0, vr G 0), (1, vi z2)]) h rfl dX11_day_7 (by decide) [1, 0] rfl ?_
  refine fr_iload_n h rfl 1 rfl dX11_day_8 ?_
  refine fr_iconst h dX11_day_9 ?_
  refine fr_icmp_eq (tgt := 24) h dX11_day_10 (by decide) (by omega) (by omega) (fun c8 => ?_) (fun c8 => ?_)
  ·
    refine fr_aload_n h rfl 0 rfl dX11_day_24 ?_
    refine fr_getc (z := 8) (iz := 2) h kX11 fX11_23 at_0 rfl rfl rf_0_2 (by omega) dX11_day_25 ?_
    refine fr_aload_n h rfl 0 rfl dX11_day_28 ?_
    refine fr_getc (z := 3) (iz := 1) h kX11 fX11_19 at_0 rfl rfl rf_0_1 (by omega) dX11_day_29 ?_
    refine fr_cvV h kX8 (St_at St_8) wX8_copyFrom lX11_120 (c_X8_copyFrom x 8 St_8 3 St_3) rfl (by decide) (by decide) rfl (Nat.le_of_ble_eq_true rfl) dX11_day_32 (fun x9 p12 => ?_)
    have f13 := p12
    refine fr_aload_n h rfl 0 rfl dX11_day_35 ?_
    refine fr_getc (z := 13) (iz := 3) h kX11 fX11_29 at_0 rfl rfl rf_0_3 (by omega) dX11_day_36 ?_
    refine fr_aload_n h rfl 0 rfl dX11_day_39 ?_
    refine fr_getc (z := 1) (iz := 0) h kX11 fX11_10 at_0 rfl rfl rf_0_0 (by omega) dX11_day_40 ?_
    refine fr_aload_n h rfl 0 rfl dX11_day_43 ?_
    refine fr_getc (z := 3) (iz := 1) h kX11 fX11_19 at_0 rfl rfl rf_0_1 (by omega) dX11_day_44 ?_
    refine fr_cvI h kX0 at_13 wX0_perform lX11_184 (c_X0_perform x9 3 St_3) rfl (by decide) (by decide) rfl (Nat.le_of_ble_eq_true rfl) dX11_day_47 (fun z15 x14 w16 p17 => ?_)
    obtain ⟨p18, p19, f20⟩ := p17
    refine fr_istore_n (L' := [(0, vr G 0), (1, vi z2), (2, vi z15)]) h rfl dX11_day_50 (by decide) [1, 2, 0] rfl ?_
    refine fr_aload_n h rfl 0 rfl dX11_day_51 ?_
    refine fr_getc (z := 1) (iz := 0) h kX11 fX11_10 at_0 rfl rfl rf_0_0 (by omega) dX11_day_52 ?_
    refine fr_cvV h kX9 at_1 wX9_clear lX11_117 (c_X9_clear x14) rfl (by decide) (by decide) rfl (Nat.le_of_ble_eq_true rfl) dX11_day_55 (fun x21 p24 => ?_)
    obtain ⟨p25, f26⟩ := p24
    refine fr_aload_n h rfl 0 rfl dX11_day_58 ?_
    refine fr_iload_n h rfl 2 rfl dX11_day_59 ?_
    refine fr_if_le (tgt := 67) h dX11_day_60 (by decide) (by omega) (fun c27 => ?_) (fun c27 => ?_)
    ·
      refine fr_iconst h dX11_day_67 ?_
      refine fr_cvI h kX11 at_0 wX11_settled lX11_128 (c_X11_settled x21 (-1) (by omega)) rfl (by decide) (by decide) rfl (Nat.le_of_ble_eq_true rfl) dX11_day_68 (fun z29 x28 w30 p31 => ?_)
      obtain ⟨p32, f33⟩ := p31
      refine fr_pop h rfl dX11_day_71 ?_
      refine fr_aload_n h rfl 0 rfl dX11_day_72 ?_
      refine fr_getc (z := 107) (iz := 11) h kX11 fX11_77 at_0 rfl rfl rf_0_11 (by omega) dX11_day_73 ?_
      refine fr_aload_n h rfl 0 rfl dX11_day_76 ?_
      refine fr_getc (z := 13) (iz := 3) h kX11 fX11_29 at_0 rfl rfl rf_0_3 (by omega) dX11_day_77 ?_
      refine fr_cvI h kX0 at_13 wX0_stopped lX11_188 (c_X0_stopped x28) rfl (by decide) (by decide) rfl (Nat.le_of_ble_eq_true rfl) dX11_day_80 (fun z35 x34 w36 p37 => ?_)
      obtain ⟨p38, y39⟩ := p37
      rw [y39]
      clear y39
      refine fr_if_eq (tgt := 90) h dX11_day_83 (by decide) (by omega) (fun c40 => ?_) (fun c40 => ?_)
      ·
        refine fr_lconst (z := 0) h rfl dX11_day_90 ?_
        refine fr_cvV h kX10 at_107 wX10_only lX11_192 (c_X10_only x28 0 (by omega)) rfl (by decide) (by decide) rfl (Nat.le_of_ble_eq_true rfl) dX11_day_91 (fun x41 p44 => ?_)
        have f45 := p44
        refine fr_iload_n h rfl 2 rfl dX11_day_94 ?_
        have r46 := (congrFun (f45 1 (by omega)) 1)
        have r47 := r46.trans (congrFun (f33 1 (by omega) (by omega) (by omega)) 1)
        have r48 := (congrFun (f20 1 (by omega) (by omega)) 1)
        have r49 := r48.trans (congrFun (f13 1 (by omega)) 1)
        exact fr_iret h hq (by omega) ⟨(by omega), (fun a k0 k1 k2 k3 k4 k5 => ((f45 a (by omega)).trans ((f33 a (by omega) (by omega) (by omega)).trans ((f26 a (by omega)).trans ((f20 a (by omega) (by omega)).trans (f13 a (by omega)))))))⟩ dX11_day_95
      ·
        refine fr_lconst (z := 1) h rfl dX11_day_86 ?_
        refine fr_goto (tgt := 91) h dX11_day_87 (by decide) ?_
        refine fr_cvV h kX10 at_107 wX10_only lX11_192 (c_X10_only x28 1 (by omega)) rfl (by decide) (by decide) rfl (Nat.le_of_ble_eq_true rfl) dX11_day_91 (fun x50 p53 => ?_)
        have f54 := p53
        refine fr_iload_n h rfl 2 rfl dX11_day_94 ?_
        have r55 := (congrFun (f54 1 (by omega)) 1)
        have r56 := r55.trans (congrFun (f33 1 (by omega) (by omega) (by omega)) 1)
        have r57 := (congrFun (f20 1 (by omega) (by omega)) 1)
        have r58 := r57.trans (congrFun (f13 1 (by omega)) 1)
        exact fr_iret h hq (by omega) ⟨(by omega), (fun a k0 k1 k2 k3 k4 k5 => ((f54 a (by omega)).trans ((f33 a (by omega) (by omega) (by omega)).trans ((f26 a (by omega)).trans ((f20 a (by omega) (by omega)).trans (f13 a (by omega)))))))⟩ dX11_day_95
    ·
      refine fr_iload_n h rfl 2 rfl dX11_day_63 ?_
      refine fr_goto (tgt := 68) h dX11_day_64 (by decide) ?_
      refine fr_cvI h kX11 at_0 wX11_settled lX11_128 (c_X11_settled x21 z15 (by omega)) rfl (by decide) (by decide) rfl (Nat.le_of_ble_eq_true rfl) dX11_day_68 (fun z60 x59 w61 p62 => ?_)
      obtain ⟨p63, f64⟩ := p62
      refine fr_pop h rfl dX11_day_71 ?_
      refine fr_aload_n h rfl 0 rfl dX11_day_72 ?_
      refine fr_getc (z := 107) (iz := 11) h kX11 fX11_77 at_0 rfl rfl rf_0_11 (by omega) dX11_day_73 ?_
      refine fr_aload_n h rfl 0 rfl dX11_day_76 ?_
      refine fr_getc (z := 13) (iz := 3) h kX11 fX11_29 at_0 rfl rfl rf_0_3 (by omega) dX11_day_77 ?_
      refine fr_cvI h kX0 at_13 wX0_stopped lX11_188 (c_X0_stopped x59) rfl (by decide) (by decide) rfl (Nat.le_of_ble_eq_true rfl) dX11_day_80 (fun z66 x65 w67 p68 => ?_)
      obtain ⟨p69, y70⟩ := p68
      rw [y70]
      clear y70
      refine fr_if_eq (tgt := 90) h dX11_day_83 (by decide) (by omega) (fun c71 => ?_) (fun c71 => ?_)
      ·
        refine fr_lconst (z := 0) h rfl dX11_day_90 ?_
        refine fr_cvV h kX10 at_107 wX10_only lX11_192 (c_X10_only x59 0 (by omega)) rfl (by decide) (by decide) rfl (Nat.le_of_ble_eq_true rfl) dX11_day_91 (fun x72 p75 => ?_)
        have f76 := p75
        refine fr_iload_n h rfl 2 rfl dX11_day_94 ?_
        have r77 := (congrFun (f76 1 (by omega)) 1)
        have r78 := r77.trans (congrFun (f64 1 (by omega) (by omega) (by omega)) 1)
        have r79 := (congrFun (f20 1 (by omega) (by omega)) 1)
        have r80 := r79.trans (congrFun (f13 1 (by omega)) 1)
        exact fr_iret h hq (by omega) ⟨(by omega), (fun a k0 k1 k2 k3 k4 k5 => ((f76 a (by omega)).trans ((f64 a (by omega) (by omega) (by omega)).trans ((f26 a (by omega)).trans ((f20 a (by omega) (by omega)).trans (f13 a (by omega)))))))⟩ dX11_day_95
      ·
        refine fr_lconst (z := 1) h rfl dX11_day_86 ?_
        refine fr_goto (tgt := 91) h dX11_day_87 (by decide) ?_
        refine fr_cvV h kX10 at_107 wX10_only lX11_192 (c_X10_only x59 1 (by omega)) rfl (by decide) (by decide) rfl (Nat.le_of_ble_eq_true rfl) dX11_day_91 (fun x81 p84 => ?_)
        have f85 := p84
        refine fr_iload_n h rfl 2 rfl dX11_day_94 ?_
        have r86 := (congrFun (f85 1 (by omega)) 1)
        have r87 := r86.trans (congrFun (f64 1 (by omega) (by omega) (by omega)) 1)
        have r88 := (congrFun (f20 1 (by omega) (by omega)) 1)
        have r89 := r88.trans (congrFun (f13 1 (by omega)) 1)
        exact fr_iret h hq (by omega) ⟨(by omega), (fun a k0 k1 k2 k3 k4 k5 => ((f85 a (by omega)).trans ((f64 a (by omega) (by omega) (by omega)).trans ((f26 a (by omega)).trans ((f20 a (by omega) (by omega)).trans (f13 a (by omega)))))))⟩ dX11_day_95
  ·
    refine fr_aload_n h rfl 0 rfl dX11_day_13 ?_
    refine fr_getc (z := 1) (iz := 0) h kX11 fX11_10 at_0 rfl rfl rf_0_0 (by omega) dX11_day_14 ?_
    refine fr_cvV h kX9 at_1 wX9_clear lX11_117 (c_X9_clear x) rfl (by decide) (by decide) rfl (Nat.le_of_ble_eq_true rfl) dX11_day_17 (fun x90 p93 => ?_)
    obtain ⟨p94, f95⟩ := p93
    refine fr_iconst h dX11_day_20 ?_
    refine fr_iload_n h rfl 1 rfl dX11_day_21 ?_
    refine fr_isub h dX11_day_22 ?_
    exact fr_iret h hq (by omega) ⟨(by omega), (fun a k0 k1 k2 k3 k4 k5 => (f95 a (by omega)))⟩ dX11_day_23
