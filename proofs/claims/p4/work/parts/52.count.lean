set_option maxHeartbeats 200000 in
theorem c_X12_numbersOf (x : Mm) : CnI YM yX12_numbersOf cX12_numbersOf 3 .int 0 0 (fun G => [vr G 0]) x (fun z y' => (0 ≤ z) ∧ (z ≤ 24) ∧ (y' = x)) := by
  refine cn_I (by decide) (fun _ => Nat.le_of_ble_eq_true rfl) (fun G C h hq => ?_)
  have h : OK YM G C cX12_numbersOf RX12 3 (some .int) 0 0 := h
  show FW YM G C 3 x 0 [(0, vr G 0)] []
  refine fr_iconst h dX12_numbersOf_0 ?_
  refine fr_istore_n (L' := [(0, vr G 0), (1, vi 0)]) h rfl dX12_numbersOf_1 (by decide) [1, 0] rfl ?_
  refine fr_iconst h dX12_numbersOf_2 ?_
  refine fr_istore_n (L' := [(0, vr G 0), (1, vi 0), (2, vi 0)]) h rfl dX12_numbersOf_3 (by decide) [1, 2, 0] rfl ?_
  have HL1 : ∀ (n1 : Nat) (l1_1 l2_1 : Int), fm_r l1_1 → 0 ≤ l1_1 → l1_1 ≤ 24 → fm_r l2_1 → 0 ≤ l2_1 → l2_1 ≤ 4 → l1_1 ≤ 6 * l2_1 → (4 - l2_1) < n1 → FW YM G C 3 x 4 [(0, vr G 0), (1, vi l1_1), (2, vi l2_1)] [] := by
    intro n1
    induction n1 with
    | zero =>
      intro l1_1 l2_1 g1_0 g1_1 g1_2 g1_3 g1_4 g1_5 g1_6 g1_7
      exfalso; omega
    | succ n1 ih1 =>
      intro l1_1 l2_1 g1_0 g1_1 g1_2 g1_3 g1_4 g1_5 g1_6 g1_7
      refine fr_iload_n h rfl 2 rfl dX12_numbersOf_4 ?_
      refine fr_iconst h dX12_numbersOf_5 ?_
      refine fr_icmp_ge (tgt := 27) h dX12_numbersOf_6 (by decide) (by omega) (by omega) (fun c2 => ?_) (fun c2 => ?_)
      ·
        refine fr_iload_n h rfl 1 rfl dX12_numbersOf_27 ?_
        exact fr_iret h hq (by omega) ⟨(by omega), (by omega), rfl⟩ dX12_numbersOf_28
      ·
        refine fr_iload_n h rfl 1 rfl dX12_numbersOf_9 ?_
        refine fr_aload_n h rfl 0 rfl dX12_numbersOf_10 ?_
        refine fr_getc (z := 1) (iz := 0) h kX12 fX12_9 at_0M rfl rfl rfM_0 (by omega) dX12_numbersOf_11 ?_
        refine fr_bipush h rfl dX12_numbersOf_14 ?_
        refine fr_iload_n h rfl 2 rfl dX12_numbersOf_16 ?_
        refine fr_iadd h dX12_numbersOf_17 ?_
        refine fr_iald h (SA_a SA_1) (by omega) (by omega) ((SA_r SA_1 (24 + l2_1)).trans (sg_len (by omega) (by omega))) dX12_numbersOf_18 (fun z3 w4 w5 q6 => ?_)
        refine fr_iadd h dX12_numbersOf_19 ?_
        refine fr_istore_n (L' := [(0, vr G 0), (1, vi (l1_1 + z3)), (2, vi l2_1)]) h rfl dX12_numbersOf_20 (by decide) [1, 0, 2] rfl ?_
        refine fr_iinc (j := 2) (L' := [(0, vr G 0), (1, vi (l1_1 + z3)), (2, vi (l2_1 + 1))]) h dX12_numbersOf_21 rfl (by decide) [1, 2, 0] rfl ?_
        refine fr_goto (tgt := 4) h dX12_numbersOf_24 (by decide) ?_
        exact ih1 (l1_1 + z3) (l2_1 + 1) (by omega) (by omega) (by omega) (by omega) (by omega) (by omega) (by omega) (by omega)
  exact HL1 ((4 - 0) + 1 : Int).toNat 0 0 (by omega) (by omega) (by omega) (by omega) (by omega) (by omega) (by omega) (by omega)
set_option maxHeartbeats 200000 in
theorem c_X12_count (x : Mm) (k : Int) (h_k : fm_r k) (e0 : GI x) : CnI YM yX12_count cX12_count 2 .int 2 45 (fun G => [vr G 0, vi k]) x (fun z y' => (y' 0 5 = 0) ∧ (GI y') ∧ (∀ a : Int, (a < 0 ∨ 0 < a) → y' a = x a) ∧ (∀ i : Int, i ≠ 5 → y' 0 i = x 0 i)) := by
  refine cn_I (by decide) (fun _ => Nat.le_of_ble_eq_true rfl) (fun G C h hq => ?_)
  have h : OK YM G C cX12_count RX12 2 (some .int) 2 45 := h
  show FW YM G C 2 x 0 [(0, vr G 0), (1, vi k)] []
  have e12 := e0.2.2.2
  refine fr_aload_n h rfl 0 rfl dX12_count_0 ?_
  refine fr_iconst h dX12_count_1 ?_
  refine fr_puti (iz := 5) h kX12 fX12_94 at_0M rfl rfl (by decide) (by decide) rfl (by decide +kernel) rfM_5 (by omega) (by omega) dX12_count_2 ?_
  refine fr_mem (fun x1 m2 => ?_)
  refine fr_iload_n h rfl 1 rfl dX12_count_5 ?_
  by_cases c4 : k = 0
  ·
    refine fr_tab_in (off := 54) (tgt := 60) h dX12_count_6 (by omega) (by omega) (by omega) (by rw [c4]; rfl) (by decide) ?_
    refine fr_aload_n h rfl 0 rfl dX12_count_60 ?_
    refine fr_cvI h kX12 at_0M wX12_numbersOf lX12_376 (c_X12_numbersOf x1) rfl (by decide) (by decide) rfl (Nat.le_of_ble_eq_true rfl) dX12_count_61 (fun z6 x5 w7 p8 => ?_)
    obtain ⟨p9, p10, y11⟩ := p8
    rw [y11]
    clear y11
    have r12 := (fm_rd_s m2)
    have r13 := (fm_rd_i (a := 0) (b := 12) m2 (by decide))
    exact fr_iret h hq (by omega) ⟨(by omega), ⟨(by rw [show x1 1 = x 1 from (fm_up_row m2 (by omega))]; exact e0.1), (by rw [show x1 8 = x 8 from (fm_up_row m2 (by omega))]; exact e0.2.1), (by rw [show x1 26 = x 26 from (fm_up_row m2 (by omega))]; exact e0.2.2.1), (by have := e0.2.2.2; omega)⟩, (fun a k0 => (fm_up_row m2 (by omega))), (fun i k0 => (fm_rd_i (a := 0) (b := i) m2 (by omega)))⟩ dX12_count_64
  ·
    by_cases c14 : k = 1
    ·
      refine fr_tab_in (off := 59) (tgt := 65) h dX12_count_6 (by omega) (by omega) (by omega) (by rw [c14]; rfl) (by decide) ?_
      refine fr_aload_n h rfl 0 rfl dX12_count_65 ?_
      refine fr_getc (z := 1) (iz := 0) h kX12 fX12_9 at_0M rfl rfl rfM_0 (by omega) dX12_count_66 ?_
      refine fr_csI h wX12_edgesOf lX12_216 (c_X12_edgesOf x1 1 SA_1) rfl (by decide) (by decide) rfl (Nat.le_of_ble_eq_true rfl) dX12_count_69 (fun z16 x15 w17 p18 => ?_)
      obtain ⟨p19, p20, p21, y22⟩ := p18
      rw [y22]
      clear y22
      have r23 := (fm_rd_s m2)
      have r24 := (fm_rd_i (a := 0) (b := 12) m2 (by decide))
      exact fr_iret h hq (by omega) ⟨(by omega), ⟨(by rw [show x1 1 = x 1 from (fm_up_row m2 (by omega))]; exact e0.1), (by rw [show x1 8 = x 8 from (fm_up_row m2 (by omega))]; exact e0.2.1), (by rw [show x1 26 = x 26 from (fm_up_row m2 (by omega))]; exact e0.2.2.1), (by have := e0.2.2.2; omega)⟩, (fun a k0 => (fm_up_row m2 (by omega))), (fun i k0 => (fm_rd_i (a := 0) (b := i) m2 (by omega)))⟩ dX12_count_72
    ·
      by_cases c25 : k = 2
      ·
        refine fr_tab_in (off := 67) (tgt := 73) h dX12_count_6 (by omega) (by omega) (by omega) (by rw [c25]; rfl) (by decide) ?_
        refine fr_aload_n h rfl 0 rfl dX12_count_73 ?_
        refine fr_getc (z := 1) (iz := 0) h kX12 fX12_9 at_0M rfl rfl rfM_0 (by omega) dX12_count_74 ?_
        refine fr_bipush h rfl dX12_count_77 ?_
        refine fr_iald h (SA_a SA_1) (by omega) (by omega) ((SA_r SA_1 102).trans sg_size) dX12_count_79 (fun z26 w27 w28 q29 => ?_)
        have r30 := q29.trans (fm_rd_k (a := 1) (b := 102) m2 (by omega))
        have r31 := (fm_rd_s m2)
        have r32 := (fm_rd_i (a := 0) (b := 12) m2 (by decide))
        exact fr_iret h hq (by omega) ⟨(by omega), ⟨(by rw [show x1 1 = x 1 from (fm_up_row m2 (by omega))]; exact e0.1), (by rw [show x1 8 = x 8 from (fm_up_row m2 (by omega))]; exact e0.2.1), (by rw [show x1 26 = x 26 from (fm_up_row m2 (by omega))]; exact e0.2.2.1), (by have := e0.2.2.2; omega)⟩, (fun a k0 => (fm_up_row m2 (by omega))), (fun i k0 => (fm_rd_i (a := 0) (b := i) m2 (by omega)))⟩ dX12_count_80
      ·
        by_cases c33 : k = 3
        ·
          refine fr_tab_in (off := 75) (tgt := 81) h dX12_count_6 (by omega) (by omega) (by omega) (by rw [c33]; rfl) (by decide) ?_
          refine fr_aload_n h rfl 0 rfl dX12_count_81 ?_
          refine fr_getc (z := 1) (iz := 0) h kX12 fX12_9 at_0M rfl rfl rfM_0 (by omega) dX12_count_82 ?_
          refine fr_bipush h rfl dX12_count_85 ?_
          refine fr_iald h (SA_a SA_1) (by omega) (by omega) ((SA_r SA_1 105).trans sg_pick) dX12_count_87 (fun z34 w35 w36 q37 => ?_)
          have r38 := q37.trans (fm_rd_k (a := 1) (b := 105) m2 (by omega))
          have r39 := (fm_rd_s m2)
          have r40 := (fm_rd_i (a := 0) (b := 12) m2 (by decide))
          exact fr_iret h hq (by omega) ⟨(by omega), ⟨(by rw [show x1 1 = x 1 from (fm_up_row m2 (by omega))]; exact e0.1), (by rw [show x1 8 = x 8 from (fm_up_row m2 (by omega))]; exact e0.2.1), (by rw [show x1 26 = x 26 from (fm_up_row m2 (by omega))]; exact e0.2.2.1), (by have := e0.2.2.2; omega)⟩, (fun a k0 => (fm_up_row m2 (by omega))), (fun i k0 => (fm_rd_i (a := 0) (b := i) m2 (by omega)))⟩ dX12_count_88
        ·
          by_cases c41 : k = 4
          ·
            refine fr_tab_in (off := 83) (tgt := 89) h dX12_count_6 (by omega) (by omega) (by omega) (by rw [c41]; rfl) (by decide) ?_
            refine fr_aload_n h rfl 0 rfl dX12_count_89 ?_
            refine fr_getc (z := 1) (iz := 0) h kX12 fX12_9 at_0M rfl rfl rfM_0 (by omega) dX12_count_90 ?_
            refine fr_csI h wX12_endsOf lX12_259 (c_X12_endsOf x1 1 SA_1) rfl (by decide) (by decide) rfl (Nat.le_of_ble_eq_true rfl) dX12_count_93 (fun z43 x42 w44 p45 => ?_)
            obtain ⟨p46, p47, y48⟩ := p45
            rw [y48]
            clear y48
            have r49 := (fm_rd_s m2)
            have r50 := (fm_rd_i (a := 0) (b := 12) m2 (by decide))
            exact fr_iret h hq (by omega) ⟨(by omega), ⟨(by rw [show x1 1 = x 1 from (fm_up_row m2 (by omega))]; exact e0.1), (by rw [show x1 8 = x 8 from (fm_up_row m2 (by omega))]; exact e0.2.1), (by rw [show x1 26 = x 26 from (fm_up_row m2 (by omega))]; exact e0.2.2.1), (by have := e0.2.2.2; omega)⟩, (fun a k0 => (fm_up_row m2 (by omega))), (fun i k0 => (fm_rd_i (a := 0) (b := i) m2 (by omega)))⟩ dX12_count_96
          ·
            by_cases c51 : k = 5
            ·
              refine fr_tab_in (off := 91) (tgt := 97) h dX12_count_6 (by omega) (by omega) (by omega) (by rw [c51]; rfl) (by decide) ?_
              refine fr_aload_n h rfl 0 rfl dX12_count_97 ?_
              refine fr_geti (iz := 37) h kX12 fX12_348 at_0M rfl rfl (by decide) (by decide) rfM_37 dX12_count_98 (fun z52 w53 w54 q55 => ?_)
              have r56 := q55.trans (fm_rd_i (a := 0) (b := 37) m2 (by decide))
              have r57 := (fm_rd_s m2)
              have r58 := (fm_rd_i (a := 0) (b := 12) m2 (by decide))
              exact fr_iret h hq (by omega) ⟨(by omega), ⟨(by rw [show x1 1 = x 1 from (fm_up_row m2 (by omega))]; exact e0.1), (by rw [show x1 8 = x 8 from (fm_up_row m2 (by omega))]; exact e0.2.1), (by rw [show x1 26 = x 26 from (fm_up_row m2 (by omega))]; exact e0.2.2.1), (by have := e0.2.2.2; omega)⟩, (fun a k0 => (fm_up_row m2 (by omega))), (fun i k0 => (fm_rd_i (a := 0) (b := i) m2 (by omega)))⟩ dX12_count_101
            ·
              by_cases c59 : k = 6
              ·
                refine fr_tab_in (off := 96) (tgt := 102) h dX12_count_6 (by omega) (by omega) (by omega) (by rw [c59]; rfl) (by decide) ?_
                refine fr_aload_n h rfl 0 rfl dX12_count_102 ?_
                refine fr_geti (iz := 18) h kX12 fX12_228 at_0M rfl rfl (by decide) (by decide) rfM_18 dX12_count_103 (fun z60 w61 w62 q63 => ?_)
                have r64 := q63.trans (fm_rd_i (a := 0) (b := 18) m2 (by decide))
                have r65 := (fm_rd_s m2)
                have r66 := (fm_rd_i (a := 0) (b := 12) m2 (by decide))
                exact fr_iret h hq (by omega) ⟨(by omega), ⟨(by rw [show x1 1 = x 1 from (fm_up_row m2 (by omega))]; exact e0.1), (by rw [show x1 8 = x 8 from (fm_up_row m2 (by omega))]; exact e0.2.1), (by rw [show x1 26 = x 26 from (fm_up_row m2 (by omega))]; exact e0.2.2.1), (by have := e0.2.2.2; omega)⟩, (fun a k0 => (fm_up_row m2 (by omega))), (fun i k0 => (fm_rd_i (a := 0) (b := i) m2 (by omega)))⟩ dX12_count_106
              ·
                by_cases c67 : k = 7
                ·
                  refine fr_tab_in (off := 101) (tgt := 107) h dX12_count_6 (by omega) (by omega) (by omega) (by rw [c67]; rfl) (by decide) ?_
                  refine fr_aload_n h rfl 0 rfl dX12_count_107 ?_
                  refine fr_geti (iz := 4) h kX12 fX12_98 at_0M rfl rfl (by decide) (by decide) rfM_4 dX12_count_108 (fun z68 w69 w70 q71 => ?_)
                  have r72 := q71.trans (fm_rd_i (a := 0) (b := 4) m2 (by decide))
                  have r73 := (fm_rd_s m2)
                  have r74 := (fm_rd_i (a := 0) (b := 12) m2 (by decide))
                  exact fr_iret h hq (by omega) ⟨(by omega), ⟨(by rw [show x1 1 = x 1 from (fm_up_row m2 (by omega))]; exact e0.1), (by rw [show x1 8 = x 8 from (fm_up_row m2 (by omega))]; exact e0.2.1), (by rw [show x1 26 = x 26 from (fm_up_row m2 (by omega))]; exact e0.2.2.1), (by have := e0.2.2.2; omega)⟩, (fun a k0 => (fm_up_row m2 (by omega))), (fun i k0 => (fm_rd_i (a := 0) (b := i) m2 (by omega)))⟩ dX12_count_111
                ·
                  by_cases c75 : k = 8
                  ·
                    refine fr_tab_in (off := 106) (tgt := 112) h dX12_count_6 (by omega) (by omega) (by omega) (by rw [c75]; rfl) (by decide) ?_
                    refine fr_aload_n h rfl 0 rfl dX12_count_112 ?_
                    refine fr_geti (iz := 2) h kX12 fX12_109 at_0M rfl rfl (by decide) (by decide) rfM_2 dX12_count_113 (fun z76 w77 w78 q79 => ?_)
                    have r80 := q79.trans (fm_rd_i (a := 0) (b := 2) m2 (by decide))
                    have r81 := (fm_rd_s m2)
                    have r82 := (fm_rd_i (a := 0) (b := 12) m2 (by decide))
                    exact fr_iret h hq (by omega) ⟨(by omega), ⟨(by rw [show x1 1 = x 1 from (fm_up_row m2 (by omega))]; exact e0.1), (by rw [show x1 8 = x 8 from (fm_up_row m2 (by omega))]; exact e0.2.1), (by rw [show x1 26 = x 26 from (fm_up_row m2 (by omega))]; exact e0.2.2.1), (by have := e0.2.2.2; omega)⟩, (fun a k0 => (fm_up_row m2 (by omega))), (fun i k0 => (fm_rd_i (a := 0) (b := i) m2 (by omega)))⟩ dX12_count_116
                  ·
                    by_cases c83 : k = 9
                    ·
                      refine fr_tab_in (off := 111) (tgt := 117) h dX12_count_6 (by omega) (by omega) (by omega) (by rw [c83]; rfl) (by decide) ?_
                      refine fr_aload_n h rfl 0 rfl dX12_count_117 ?_
                      refine fr_getc (z := 1) (iz := 0) h kX12 fX12_9 at_0M rfl rfl rfM_0 (by omega) dX12_count_118 ?_
                      refine fr_csI h wX12_joinedOf lX12_312 (c_X12_joinedOf2 x1 1 SA_1) rfl (by decide) (by decide) rfl (Nat.le_of_ble_eq_true rfl) dX12_count_121 (fun z85 x84 w86 p87 => ?_)
                      obtain ⟨p88, p89, p90, y91⟩ := p87
                      rw [y91]
                      clear y91
                      have r92 := (fm_rd_s m2)
                      have r93 := (fm_rd_i (a := 0) (b := 12) m2 (by decide))
                      exact fr_iret h hq (by omega) ⟨(by omega), ⟨(by rw [show x1 1 = x 1 from (fm_up_row m2 (by omega))]; exact e0.1), (by rw [show x1 8 = x 8 from (fm_up_row m2 (by omega))]; exact e0.2.1), (by rw [show x1 26 = x 26 from (fm_up_row m2 (by omega))]; exact e0.2.2.1), (by have := e0.2.2.2; omega)⟩, (fun a k0 => (fm_up_row m2 (by omega))), (fun i k0 => (fm_rd_i (a := 0) (b := i) m2 (by omega)))⟩ dX12_count_124
                    ·
                      refine fr_tab_out (tgt := 125) h dX12_count_6 (by omega) (by omega) (by decide) ?_
                      refine fr_iconst h dX12_count_125 ?_
                      have r94 := (fm_rd_s m2)
                      have r95 := (fm_rd_i (a := 0) (b := 12) m2 (by decide))
                      exact fr_iret h hq (by omega) ⟨(by omega), ⟨(by rw [show x1 1 = x 1 from (fm_up_row m2 (by omega))]; exact e0.1), (by rw [show x1 8 = x 8 from (fm_up_row m2 (by omega))]; exact e0.2.1), (by rw [show x1 26 = x 26 from (fm_up_row m2 (by omega))]; exact e0.2.2.1), (by have := e0.2.2.2; omega)⟩, (fun a k0 => (fm_up_row m2 (by omega))), (fun i k0 => (fm_rd_i (a := 0) (b := i) m2 (by omega)))⟩ dX12_count_126
set_option maxHeartbeats 200000 in
theorem c_X12_row (x : Mm) (k : Int) (h_k : fm_r k) (e0 : GI x) : CnL YM yX12_row cX12_row 2 1 22 (fun G => [vr G 0, vi k]) x (fun z y' => (GI y') ∧ (∀ a : Int, (a < 0 ∨ 0 < a) → y' a = x a) ∧ (∀ i : Int, i ≠ 5 → y' 0 i = x 0 i)) := by
  refine cn_L (by decide) (fun _ => Nat.le_of_ble_eq_true rfl) (fun G C h hq => ?_)
  have h : OK YM G C cX12_row RX12 2 (some .long) 1 22 := h
  show FW YM G C 2 x 0 [(0, vr G 0), (1, vi k)] []
  have e12 := e0.2.2.2
  refine fr_aload_n h rfl 0 rfl dX12_row_0 ?_
  refine fr_iconst h dX12_row_1 ?_
  refine fr_puti (iz := 5) h kX12 fX12_94 at_0M rfl rfl (by decide) (by decide) rfl (by decide +kernel) rfM_5 (by omega) (by omega) dX12_row_2 ?_
  refine fr_mem (fun x1 m2 => ?_)
  refine fr_iload_n h rfl 1 rfl dX12_row_5 ?_
  refine fr_iconst h dX12_row_6 ?_
  refine fr_aload_n h rfl 0 rfl dX12_row_7 ?_
  refine fr_geti (iz := 4) h kX12 fX12_98 at_0M rfl rfl (by decide) (by decide) rfM_4 dX12_row_8 (fun z3 w4 w5 q6 => ?_)
  have r7 := q6.trans (fm_rd_i (a := 0) (b := 4) m2 (by decide))
  refine fr_iconst h dX12_row_11 ?_
  refine fr_isub h dX12_row_12 ?_
  refine fr_csI h wX12_in lX12_101 (c_X12_in x1 k 0 (z3 - 1) (by omega) (by omega) (by omega)) rfl (by decide) (by decide) rfl (Nat.le_of_ble_eq_true rfl) dX12_row_13 (fun z9 x8 w10 p11 => ?_)
  obtain ⟨p12, p13, y14⟩ := p11
  rw [y14]
  clear y14
  refine fr_if_eq (tgt := 28) h dX12_row_16 (by decide) (by omega) (fun c15 => ?_) (fun c15 => ?_)
  ·
    refine fr_aload_n h rfl 0 rfl dX12_row_28 ?_
    refine fr_cvI h kX12 at_0M wX12_lost lX12_213 (c_X12_lost x1) rfl (by decide) (by decide) rfl (Nat.le_of_ble_eq_true rfl) dX12_row_29 (fun z17 x16 w18 p19 => ?_)
    obtain ⟨p20, p21, f22, f23⟩ := p19
    refine fr_i2l h (by omega) dX12_row_32 ?_
    have r24 := (f23 12 (by decide))
    have r25 := r24.trans (fm_rd_i (a := 0) (b := 12) m2 (by decide))
    exact fr_lret h hq (by omega) ⟨⟨(by rw [show x16 1 = x1 1 from (f22 1 (by omega))]; exact (by rw [show x1 1 = x 1 from (fm_up_row m2 (by omega))]; exact e0.1)), (by rw [show x16 8 = x 8 from ((f22 8 (by omega)).trans (fm_up_row m2 (by omega)))]; exact e0.2.1), (by rw [show x16 26 = x 26 from ((f22 26 (by omega)).trans (fm_up_row m2 (by omega)))]; exact e0.2.2.1), (by have := e0.2.2.2; omega)⟩, (fun a k0 => ((f22 a (by omega)).trans (fm_up_row m2 (by omega)))), (fun i k0 => ((f23 i (by omega)).trans (fm_rd_i (a := 0) (b := i) m2 (by omega))))⟩ dX12_row_33
  ·
    refine fr_aload_n h rfl 0 rfl dX12_row_19 ?_
    refine fr_getc (z := 3) (iz := 3) h kX12 fX12_17 at_0M rfl rfl rfM_3 (by omega) dX12_row_20 ?_
    refine fr_iload_n h rfl 1 rfl dX12_row_23 ?_
    refine fr_lald h arM_3 (by omega) (by omega) (rrM_3 k) dX12_row_24 (fun z26 w27 w28 q29 => ?_)
    have r30 := q29.trans (fm_rd_k (a := 3) (b := k) m2 (by omega))
    refine fr_goto (tgt := 33) h dX12_row_25 (by decide) ?_
    have r31 := (fm_rd_i (a := 0) (b := 12) m2 (by decide))
    exact fr_lret h hq (by omega) ⟨⟨(by rw [show x1 1 = x 1 from (fm_up_row m2 (by omega))]; exact e0.1), (by rw [show x1 8 = x 8 from (fm_up_row m2 (by omega))]; exact e0.2.1), (by rw [show x1 26 = x 26 from (fm_up_row m2 (by omega))]; exact e0.2.2.1), (by have := e0.2.2.2; omega)⟩, (fun a k0 => (fm_up_row m2 (by omega))), (fun i k0 => (fm_rd_i (a := 0) (b := i) m2 (by omega)))⟩ dX12_row_33
