def GRQ_S (d : Nat) : Prop := (∀ (x : Mm) (p : Int) (f : Int → Int) (n : Int) (a : Int) (k : Int) (E : Int → Int) (R : Int) (h_p : fm_r p) (e0 : x 0 6 = 2) (e1 : BN (x 0 7) (x 0 8) n) (e2 : x 0 9 = a) (e3 : a ≤ n) (e4 : ∀ j : Int, uch (x 2 j) = f j) (e5 : x 0 8 ≤ 80) (e6 : x 0 10 = (-1)) (e7 : 0 ≤ p) (e8 : p ≤ 4) (e9 : AQ f k n a 1 p E = R), (4 * (x 0 8 - x 0 9)) < (d : Int) → CnI YM yX12_thing cX12_thing 4 .int (d + 10) (d * 30 + 200) (fun G => [vr G 0, vi p]) x (fun z y' => (AQT f k n p E R (y' 0 9) (y' 0 10)) ∧ (AQF R (y' 0 10)) ∧ (a ≤ y' 0 9) ∧ (y' 0 9 ≤ n) ∧ (∀ a : Int, (a < 0 ∨ 0 < a) → y' a = x a) ∧ (∀ i : Int, i ≠ 9 → i ≠ 10 → y' 0 i = x 0 i))) ∧ (∀ (x : Mm) (p : Int) (f : Int → Int) (n : Int) (a : Int) (k : Int) (E : Int → Int) (R : Int) (h_p : fm_r p) (e0 : x 0 6 = 2) (e1 : BN (x 0 7) (x 0 8) n) (e2 : x 0 9 = a) (e3 : a ≤ n) (e4 : ∀ j : Int, uch (x 2 j) = f j) (e5 : x 0 8 ≤ 80) (e6 : x 0 10 = (-1)) (e7 : 0 ≤ p) (e8 : p ≤ 4) (e9 : AQ f k n a 1 p E = R), (4 * (x 0 8 - x 0 9) + 1) < (d : Int) → CnI YM yX12_product cX12_product 5 .int (d + 10) (d * 30 + 200) (fun G => [vr G 0, vi p]) x (fun z y' => (AQT f k n p E R (y' 0 9) (y' 0 10)) ∧ (AQF R (y' 0 10)) ∧ (a ≤ y' 0 9) ∧ (y' 0 9 ≤ n) ∧ (PMq f n (y' 0 9) (y' 0 10)) ∧ (∀ a : Int, (a < 0 ∨ 0 < a) → y' a = x a) ∧ (∀ i : Int, i ≠ 9 → i ≠ 10 → y' 0 i = x 0 i))) ∧ (∀ (x : Mm) (p : Int) (f : Int → Int) (n : Int) (a : Int) (k : Int) (E : Int → Int) (R : Int) (h_p : fm_r p) (e0 : x 0 6 = 2) (e1 : BN (x 0 7) (x 0 8) n) (e2 : x 0 9 = a) (e3 : a ≤ n) (e4 : ∀ j : Int, uch (x 2 j) = f j) (e5 : x 0 8 ≤ 80) (e6 : x 0 10 = (-1)) (e7 : 0 ≤ p) (e8 : p ≤ 4) (e9 : AQ f k n a 1 p E = R), (4 * (x 0 8 - x 0 9) + 2) < (d : Int) → CnI YM yX12_sum cX12_sum 5 .int (d + 10) (d * 30 + 200) (fun G => [vr G 0, vi p]) x (fun z y' => (AQT f k n p E R (y' 0 9) (y' 0 10)) ∧ (AQF R (y' 0 10)) ∧ (a ≤ y' 0 9) ∧ (y' 0 9 ≤ n) ∧ (SMq f n (y' 0 9) (y' 0 10)) ∧ (∀ a : Int, (a < 0 ∨ 0 < a) → y' a = x a) ∧ (∀ i : Int, i ≠ 9 → i ≠ 10 → y' 0 i = x 0 i))) ∧ (∀ (x : Mm) (p : Int) (f : Int → Int) (n : Int) (a : Int) (k : Int) (E : Int → Int) (R : Int) (h_p : fm_r p) (e0 : x 0 6 = 2) (e1 : BN (x 0 7) (x 0 8) n) (e2 : x 0 9 = a) (e3 : a ≤ n) (e4 : ∀ j : Int, uch (x 2 j) = f j) (e5 : x 0 8 ≤ 80) (e6 : x 0 10 = (-1)) (e7 : 0 ≤ p) (e8 : p ≤ 4) (e9 : AQ f k n a 1 p E = R) (e10 : E p ≠ 1), (4 * (x 0 8 - x 0 9) + 3) < (d : Int) → CnI YM yX12_held cX12_held 3 .int (d + 10) (d * 30 + 200) (fun G => [vr G 0, vi p]) x (fun z y' => (HPT f k n p E R (y' 0 9) (y' 0 10)) ∧ (AQF R (y' 0 10)) ∧ (a ≤ y' 0 9) ∧ (y' 0 9 ≤ n) ∧ (∀ a : Int, (a < 0 ∨ 0 < a) → y' a = x a) ∧ (∀ i : Int, i ≠ 9 → i ≠ 10 → y' 0 i = x 0 i)))
set_option maxHeartbeats 4000000 in
theorem d_X12_thing_st (d : Nat) (ih : GRQ_S d) : ∀ (x : Mm) (p : Int) (f : Int → Int) (n : Int) (a : Int) (k : Int) (E : Int → Int) (R : Int) (h_p : fm_r p) (e0 : x 0 6 = 2) (e1 : BN (x 0 7) (x 0 8) n) (e2 : x 0 9 = a) (e3 : a ≤ n) (e4 : ∀ j : Int, uch (x 2 j) = f j) (e5 : x 0 8 ≤ 80) (e6 : x 0 10 = (-1)) (e7 : 0 ≤ p) (e8 : p ≤ 4) (e9 : AQ f k n a 1 p E = R), (4 * (x 0 8 - x 0 9)) < ((d + 1 : Nat) : Int) → CnI YM yX12_thing cX12_thing 4 .int (d + 1 + 10) ((d + 1) * 30 + 200) (fun G => [vr G 0, vi p]) x (fun z y' => (AQT f k n p E R (y' 0 9) (y' 0 10)) ∧ (AQF R (y' 0 10)) ∧ (a ≤ y' 0 9) ∧ (y' 0 9 ≤ n) ∧ (∀ a : Int, (a < 0 ∨ 0 < a) → y' a = x a) ∧ (∀ i : Int, i ≠ 9 → i ≠ 10 → y' 0 i = x 0 i)) := by
  intro x p f n a k E R h_p e0 e1 e2 e3 e4 e5 e6 e7 e8 e9 hmu
  refine cn_I (by decide) (fun _ => Nat.le_of_ble_eq_true rfl) (fun G C h hq => ?_)
  have h : OK YM G C cX12_thing RX12 4 (some .int) (d + 1 + 10) ((d + 1) * 30 + 200) := h
  show FW YM G C 4 x 0 [(0, vr G 0), (1, vi p)] []
  refine fr_rng (fun hR9 => ?_)
  have h9 : 0 ≤ x 0 9 := by have q := hR9 0 9; rw [rfM_9] at q; exact q.1
  have hb := bn_8 e1
  refine fr_aload_n h rfl 0 rfl dX12_thing_0 ?_
  refine fr_bipush h rfl dX12_thing_1 ?_
  refine fr_cvI h kX12 at_0M wX12_passes lX12_139 (d_X12_passes x 45 f n a (by omega) (by omega) e1 (by omega) (by omega) e4 (by omega) (by omega) (by omega)) rfl (by omega) (by omega) rfl (Nat.le_of_ble_eq_true rfl) dX12_thing_3 (fun z2 x1 w3 p4 => ?_)
  obtain ⟨p5, p6, p7, p8, f9, f10⟩ := p4
  refine fr_if_eq (tgt := 16) h dX12_thing_6 (by decide) (by omega) (fun c11 => ?_) (fun c11 => ?_)
  ·
    have d12 : z2 = 0 := by omega
    clear p5 c11
    have d13 : NPq f n a 45 (x 0 10) := mt p6.2 (by omega)
    clear p6
    clear p7
    have d15 := p8 (by omega)
    clear p8
    refine fr_aload_n h rfl 0 rfl dX12_thing_16 ?_
    refine fr_cvI h kX12 at_0M wX12_fine lX12_131 (c_X12_fine x1) rfl (by omega) (by omega) rfl (Nat.le_of_ble_eq_true rfl) dX12_thing_17 (fun z17 x16 w18 p19 => ?_)
    obtain ⟨p20, p21, y22⟩ := p19
    rw [y22]
    clear y22
    have r23 := (f10 10 (by decide))
    skip
    refine fr_if_ne (tgt := 25) h dX12_thing_20 (by decide) (by omega) (fun c24 => ?_) (fun c24 => ?_)
    ·
      have d25 : z17 = 1 := by omega
      clear p20 c24
      have d26 := p21.1 (by omega)
      clear p21
      refine fr_aload_n h rfl 0 rfl dX12_thing_25 ?_
      have r27 := (f10 6 (by decide))
      have r28 := (f10 7 (by decide))
      have r29 := (f10 8 (by decide))
      refine fr_cvI h kX12 at_0M wX12_here lX12_135 (d_X12_here x1 f n a (by omega) (bn_t (f10 7 (by decide)) (f10 8 (by decide)) e1) (by omega) (by omega) (fun j => (congrArg uch (congrFun (f9 2 (by omega)) j)).trans (e4 j)) (by omega)) rfl (by omega) (by omega) rfl (Nat.le_of_ble_eq_true rfl) dX12_thing_26 (fun z31 x30 w32 p33 => ?_)
      obtain ⟨p34, p35, p36, p37, y38⟩ := p33
      rw [y38]
      clear y38
      by_cases cA : a < n
      ·
        have hz := p36 cA
        clear p36 p37
        refine fr_istore_n (L' := [(0, vr G 0), (1, vi p), (2, vi z31)]) h rfl dX12_thing_29 (by decide) [1, 2, 0] rfl ?_
        refine fr_iload_n h rfl 2 rfl dX12_thing_30 ?_
        refine fr_bipush h rfl dX12_thing_31 ?_
        refine fr_icmp_ne (tgt := 67) h dX12_thing_33 (by decide) (by omega) (by omega) (fun c39 => ?_) (fun c39 => ?_)
        ·
          refine fr_iload_n h rfl 2 rfl dX12_thing_67 ?_
          refine fr_bipush h rfl dX12_thing_68 ?_
          refine fr_bipush h rfl dX12_thing_70 ?_
          refine fr_csI h wX12_in lX12_101 (c_X12_in x1 z31 48 57 (by omega) (by omega) (by omega)) rfl (by omega) (by omega) rfl (Nat.le_of_ble_eq_true rfl) dX12_thing_72 (fun z41 x40 w42 p43 => ?_)
          obtain ⟨p44, p45, y46⟩ := p43
          rw [y46]
          clear y46
          refine fr_if_eq (tgt := 84) h dX12_thing_75 (by decide) (by omega) (fun c47 => ?_) (fun c47 => ?_)
          ·
            have d48 : z41 = 0 := by omega
            clear p44 c47
            have d49 := mt p45.2 (by omega)
            clear p45
            refine fr_iload_n h rfl 2 rfl dX12_thing_84 ?_
            refine fr_csI h wX12_letterOf lX12_188 (c_X12_letterOf x1 z31 (by omega)) rfl (by omega) (by omega) rfl (Nat.le_of_ble_eq_true rfl) dX12_thing_85 (fun z51 x50 w52 p53 => ?_)
            obtain ⟨p54, p55, p56, y57⟩ := p53
            rw [y57]
            clear y57
            refine fr_iconst h dX12_thing_88 ?_
            refine fr_icmp_ne (tgt := 102) h dX12_thing_89 (by decide) (by omega) (by omega) (fun c58 => ?_) (fun c58 => ?_)
            ·
              have d59 := Classical.not_not.mp (mt p56.2 (by omega))
              clear p56
              refine fr_aload_n h rfl 0 rfl dX12_thing_102 ?_
              refine fr_dup h rfl dX12_thing_103 ?_
              refine fr_geti (iz := 9) h kX12 fX12_121 at_0M rfl rfl (by decide) (by decide) rfM_9 dX12_thing_104 (fun z60 w61 w62 q63 => ?_)
              refine fr_iconst h dX12_thing_107 ?_
              refine fr_iadd h dX12_thing_108 ?_
              refine fr_puti (iz := 9) h kX12 fX12_121 at_0M rfl rfl (by decide) (by decide) rfl (by decide +kernel) rfM_9 (by omega) (by omega) dX12_thing_109 ?_
              refine fr_mem (fun x64 m65 => ?_)
              refine fr_aload_n h rfl 0 rfl dX12_thing_112 ?_
              refine fr_geti (iz := 15) h kX12 fX12_191 at_0M rfl rfl (by decide) (by decide) rfM_15 dX12_thing_113 (fun z66 w67 w68 q69 => ?_)
              have r70 := q69.trans (fm_rd_i (a := 0) (b := 15) m65 (by decide))
              have r71 := r70.trans (f10 15 (by decide))
              refine fr_if_eq (tgt := 131) h dX12_thing_116 (by decide) (by omega) (fun c72 => ?_) (fun c72 => ?_)
              ·
                refine fr_iconst h dX12_thing_131 ?_
                have r73 := (fm_rd_s m65)
                have r74 := (fm_rd_i (a := 0) (b := 10) m65 (by decide))
                have r75 := r74.trans (f10 10 (by decide))
                exact fr_iret h hq (by omega) ⟨(fun _ => Eq.trans (AQ_eq (show x64 0 9 = a + 1 by omega) rfl rfl rfl) (Eq.trans (AQ_let cA (by rw [← hz]; exact d59)).symm e9)), (fun q => absurd (show x64 0 10 = (-1) by omega) q), (by omega), (by omega), (fun a k0 => ((fm_up_row m65 (by omega)).trans (f9 a (by omega)))), (fun i k0 k1 => ((fm_rd_i (a := 0) (b := i) m65 (by omega)).trans (f10 i (by omega))))⟩ dX12_thing_132
              ·
                refine fr_aload_n h rfl 0 rfl dX12_thing_119 ?_
                refine fr_getc (z := 7) (iz := 16) h kX12 fX12_30 at_0M rfl rfl rfM_16 (by omega) dX12_thing_120 ?_
                refine fr_iload_n h rfl 2 rfl dX12_thing_123 ?_
                refine fr_csI h wX12_letterOf lX12_188 (c_X12_letterOf x64 z31 (by omega)) rfl (by omega) (by omega) rfl (Nat.le_of_ble_eq_true rfl) dX12_thing_124 (fun z77 x76 w78 p79 => ?_)
                obtain ⟨p80, p81, p82, y83⟩ := p79
                rw [y83]
                clear y83
                have kt : z77 ≠ (-1) := mt p82.1 (fun u => u d59)
                clear p82
                refine fr_iald h arM_7 (by omega) (by omega) (rrM_7 z77) dX12_thing_127 (fun z84 w85 w86 q87 => ?_)
                have r88 := q87.trans (fm_rd_k (a := 7) (b := z77) m65 (by omega))
                have r89 := r88.trans (congrFun (f9 7 (by omega)) z77)
                refine fr_goto (tgt := 132) h dX12_thing_128 (by decide) ?_
                have r90 := (fm_rd_s m65)
                have r91 := (fm_rd_i (a := 0) (b := 10) m65 (by decide))
                have r92 := r91.trans (f10 10 (by decide))
                exact fr_iret h hq (by omega) ⟨(fun _ => Eq.trans (AQ_eq (show x64 0 9 = a + 1 by omega) rfl rfl rfl) (Eq.trans (AQ_let cA (by rw [← hz]; exact d59)).symm e9)), (fun q => absurd (show x64 0 10 = (-1) by omega) q), (by omega), (by omega), (fun a k0 => ((fm_up_row m65 (by omega)).trans (f9 a (by omega)))), (fun i k0 k1 => ((fm_rd_i (a := 0) (b := i) m65 (by omega)).trans (f10 i (by omega))))⟩ dX12_thing_132
            ·
              have d93 := p56.1 (by omega)
              clear p56
              refine fr_aload_n h rfl 0 rfl dX12_thing_92 ?_
              refine fr_aload_n h rfl 0 rfl dX12_thing_93 ?_
              refine fr_geti (iz := 9) h kX12 fX12_121 at_0M rfl rfl (by decide) (by decide) rfM_9 dX12_thing_94 (fun z94 w95 w96 q97 => ?_)
              refine fr_cvV h kX12 at_0M wX12_fault lX12_143 (d_X12_fault x1 z94 (by omega) (by omega) (by omega)) rfl (by omega) (by omega) rfl (Nat.le_of_ble_eq_true rfl) dX12_thing_97 (fun x98 p101 => ?_)
              obtain ⟨p102, p103, f104, f105⟩ := p101
              have r106 := (f10 10 (by decide))
              have ka := p102 (by omega)
              clear p102 p103
              have kw := AQ_wxx (f := f) (n := k) (m := n) (p := a) (d := p) (C := E) e3 (fun u => ⟨by rw [← hz]; exact d49, fun v => d13 ⟨e6, cA, v⟩, fun v => by omega, by rw [← hz]; exact d93⟩)
              refine fr_iconst h dX12_thing_100 ?_
              have r107 := (f105 9 (by decide))
              exact fr_iret h hq (by omega) ⟨(fun q => absurd q (by omega)), (fun _ => Eq.trans (show x98 0 10 = a by omega) (Eq.trans kw.symm e9)), (by omega), (by omega), (fun a k0 => ((f104 a (by omega)).trans (f9 a (by omega)))), (fun i k0 k1 => ((f105 i (by omega)).trans (f10 i (by omega))))⟩ dX12_thing_101
          ·
            have d108 : z41 = 1 := by omega
            clear p44 c47
            have d109 := p45.1 (by omega)
            clear p45
            refine fr_aload_n h rfl 0 rfl dX12_thing_78 ?_
            refine fr_iconst h dX12_thing_79 ?_
            refine fr_cvI h kX12 at_0M wX12_number lX12_154 (d_X12_number x1 3 f n a (by omega) (by omega) (bn_t (f10 7 (by decide)) (f10 8 (by decide)) e1) (by omega) (by omega) (fun j => (congrArg uch (congrFun (f9 2 (by omega)) j)).trans (e4 j)) (by omega) (by omega) (by omega) (by omega)) rfl (by omega) (by omega) rfl (Nat.le_of_ble_eq_true rfl) dX12_thing_80 (fun z111 x110 w112 p113 => ?_)
            obtain ⟨p114, p115, p116, p117, p118, p119, p120, p121, p122, f123, f124⟩ := p113
            have kg : a < n ∧ 48 ≤ f a ∧ f a ≤ 57 := ⟨cA, by omega, by omega⟩
            have k1 := p118 kg
            have kw : x110 0 9 = a + dgn f n a := dgn_w k1.2.1 k1.2.2 (p119 kg) (p120 kg) (p121 kg) (p122 kg)
            have kn := dgn_n (f := f) cA
            clear p117 p118 p119 p120 p121 p122
            have r125 := (f10 10 (by decide))
            exact fr_iret h hq (by omega) ⟨(fun _ => Eq.trans (AQ_eq kw rfl rfl rfl) (Eq.trans (AQ_dig cA kg.2.1 kg.2.2).symm e9)), (fun q => absurd k1.1 q), (by omega), (by omega), (fun a k0 => ((f123 a (by omega)).trans (f9 a (by omega)))), (fun i k0 k1 => ((f124 i (by omega) (by omega)).trans (f10 i (by omega))))⟩ dX12_thing_83
        ·
          refine fr_iload_n h rfl 1 rfl dX12_thing_36 ?_
          refine fr_iconst h dX12_thing_37 ?_
          refine fr_icmp_ge (tgt := 67) h dX12_thing_38 (by decide) (by omega) (by omega) (fun c126 => ?_) (fun c126 => ?_)
          ·
            refine fr_iload_n h rfl 2 rfl dX12_thing_67 ?_
            refine fr_bipush h rfl dX12_thing_68 ?_
            refine fr_bipush h rfl dX12_thing_70 ?_
            refine fr_csI h wX12_in lX12_101 (c_X12_in x1 z31 48 57 (by omega) (by omega) (by omega)) rfl (by omega) (by omega) rfl (Nat.le_of_ble_eq_true rfl) dX12_thing_72 (fun z128 x127 w129 p130 => ?_)
            obtain ⟨p131, p132, y133⟩ := p130
            rw [y133]
            clear y133
            refine fr_if_eq (tgt := 84) h dX12_thing_75 (by decide) (by omega) (fun c134 => ?_) (fun c134 => ?_)
            ·
              have d135 : z128 = 0 := by omega
              clear p131 c134
              have d136 := mt p132.2 (by omega)
              clear p132
              refine fr_iload_n h rfl 2 rfl dX12_thing_84 ?_
              refine fr_csI h wX12_letterOf lX12_188 (c_X12_letterOf x1 z31 (by omega)) rfl (by omega) (by omega) rfl (Nat.le_of_ble_eq_true rfl) dX12_thing_85 (fun z138 x137 w139 p140 => ?_)
              obtain ⟨p141, p142, p143, y144⟩ := p140
              rw [y144]
              clear y144
              refine fr_iconst h dX12_thing_88 ?_
              refine fr_icmp_ne (tgt := 102) h dX12_thing_89 (by decide) (by omega) (by omega) (fun c145 => ?_) (fun c145 => ?_)
              ·
                have d146 := Classical.not_not.mp (mt p143.2 (by omega))
                clear p143
                refine fr_aload_n h rfl 0 rfl dX12_thing_102 ?_
                refine fr_dup h rfl dX12_thing_103 ?_
                refine fr_geti (iz := 9) h kX12 fX12_121 at_0M rfl rfl (by decide) (by decide) rfM_9 dX12_thing_104 (fun z147 w148 w149 q150 => ?_)
                refine fr_iconst h dX12_thing_107 ?_
                refine fr_iadd h dX12_thing_108 ?_
                refine fr_puti (iz := 9) h kX12 fX12_121 at_0M rfl rfl (by decide) (by decide) rfl (by decide +kernel) rfM_9 (by omega) (by omega) dX12_thing_109 ?_
                refine fr_mem (fun x151 m152 => ?_)
                refine fr_aload_n h rfl 0 rfl dX12_thing_112 ?_
                refine fr_geti (iz := 15) h kX12 fX12_191 at_0M rfl rfl (by decide) (by decide) rfM_15 dX12_thing_113 (fun z153 w154 w155 q156 => ?_)
                have r157 := q156.trans (fm_rd_i (a := 0) (b := 15) m152 (by decide))
                have r158 := r157.trans (f10 15 (by decide))
                refine fr_if_eq (tgt := 131) h dX12_thing_116 (by decide) (by omega) (fun c159 => ?_) (fun c159 => ?_)
                ·
                  refine fr_iconst h dX12_thing_131 ?_
                  have r160 := (fm_rd_s m152)
                  have r161 := (fm_rd_i (a := 0) (b := 10) m152 (by decide))
                  have r162 := r161.trans (f10 10 (by decide))
                  exact fr_iret h hq (by omega) ⟨(fun _ => Eq.trans (AQ_eq (show x151 0 9 = a + 1 by omega) rfl rfl rfl) (Eq.trans (AQ_let cA (by rw [← hz]; exact d146)).symm e9)), (fun q => absurd (show x151 0 10 = (-1) by omega) q), (by omega), (by omega), (fun a k0 => ((fm_up_row m152 (by omega)).trans (f9 a (by omega)))), (fun i k0 k1 => ((fm_rd_i (a := 0) (b := i) m152 (by omega)).trans (f10 i (by omega))))⟩ dX12_thing_132
                ·
                  refine fr_aload_n h rfl 0 rfl dX12_thing_119 ?_
                  refine fr_getc (z := 7) (iz := 16) h kX12 fX12_30 at_0M rfl rfl rfM_16 (by omega) dX12_thing_120 ?_
                  refine fr_iload_n h rfl 2 rfl dX12_thing_123 ?_
                  refine fr_csI h wX12_letterOf lX12_188 (c_X12_letterOf x151 z31 (by omega)) rfl (by omega) (by omega) rfl (Nat.le_of_ble_eq_true rfl) dX12_thing_124 (fun z164 x163 w165 p166 => ?_)
                  obtain ⟨p167, p168, p169, y170⟩ := p166
                  rw [y170]
                  clear y170
                  have kt : z164 ≠ (-1) := mt p169.1 (fun u => u d146)
                  clear p169
                  refine fr_iald h arM_7 (by omega) (by omega) (rrM_7 z164) dX12_thing_127 (fun z171 w172 w173 q174 => ?_)
                  have r175 := q174.trans (fm_rd_k (a := 7) (b := z164) m152 (by omega))
                  have r176 := r175.trans (congrFun (f9 7 (by omega)) z164)
                  refine fr_goto (tgt := 132) h dX12_thing_128 (by decide) ?_
                  have r177 := (fm_rd_s m152)
                  have r178 := (fm_rd_i (a := 0) (b := 10) m152 (by decide))
                  have r179 := r178.trans (f10 10 (by decide))
                  exact fr_iret h hq (by omega) ⟨(fun _ => Eq.trans (AQ_eq (show x151 0 9 = a + 1 by omega) rfl rfl rfl) (Eq.trans (AQ_let cA (by rw [← hz]; exact d146)).symm e9)), (fun q => absurd (show x151 0 10 = (-1) by omega) q), (by omega), (by omega), (fun a k0 => ((fm_up_row m152 (by omega)).trans (f9 a (by omega)))), (fun i k0 k1 => ((fm_rd_i (a := 0) (b := i) m152 (by omega)).trans (f10 i (by omega))))⟩ dX12_thing_132
              ·
                have d180 := p143.1 (by omega)
                clear p143
                refine fr_aload_n h rfl 0 rfl dX12_thing_92 ?_
                refine fr_aload_n h rfl 0 rfl dX12_thing_93 ?_
                refine fr_geti (iz := 9) h kX12 fX12_121 at_0M rfl rfl (by decide) (by decide) rfM_9 dX12_thing_94 (fun z181 w182 w183 q184 => ?_)
                refine fr_cvV h kX12 at_0M wX12_fault lX12_143 (d_X12_fault x1 z181 (by omega) (by omega) (by omega)) rfl (by omega) (by omega) rfl (Nat.le_of_ble_eq_true rfl) dX12_thing_97 (fun x185 p188 => ?_)
                obtain ⟨p189, p190, f191, f192⟩ := p188
                have r193 := (f10 10 (by decide))
                have ka := p189 (by omega)
                clear p189 p190
                have kw := AQ_wxx (f := f) (n := k) (m := n) (p := a) (d := p) (C := E) e3 (fun u => ⟨by rw [← hz]; exact d136, fun v => d13 ⟨e6, cA, v⟩, fun v => by omega, by rw [← hz]; exact d180⟩)
                refine fr_iconst h dX12_thing_100 ?_
                have r194 := (f192 9 (by decide))
                exact fr_iret h hq (by omega) ⟨(fun q => absurd q (by omega)), (fun _ => Eq.trans (show x185 0 10 = a by omega) (Eq.trans kw.symm e9)), (by omega), (by omega), (fun a k0 => ((f191 a (by omega)).trans (f9 a (by omega)))), (fun i k0 k1 => ((f192 i (by omega)).trans (f10 i (by omega))))⟩ dX12_thing_101
            ·
              have d195 : z128 = 1 := by omega
              clear p131 c134
              have d196 := p132.1 (by omega)
              clear p132
              refine fr_aload_n h rfl 0 rfl dX12_thing_78 ?_
              refine fr_iconst h dX12_thing_79 ?_
              refine fr_cvI h kX12 at_0M wX12_number lX12_154 (d_X12_number x1 3 f n a (by omega) (by omega) (bn_t (f10 7 (by decide)) (f10 8 (by decide)) e1) (by omega) (by omega) (fun j => (congrArg uch (congrFun (f9 2 (by omega)) j)).trans (e4 j)) (by omega) (by omega) (by omega) (by omega)) rfl (by omega) (by omega) rfl (Nat.le_of_ble_eq_true rfl) dX12_thing_80 (fun z198 x197 w199 p200 => ?_)
              obtain ⟨p201, p202, p203, p204, p205, p206, p207, p208, p209, f210, f211⟩ := p200
              have kg : a < n ∧ 48 ≤ f a ∧ f a ≤ 57 := ⟨cA, by omega, by omega⟩
              have k1 := p205 kg
              have kw : x197 0 9 = a + dgn f n a := dgn_w k1.2.1 k1.2.2 (p206 kg) (p207 kg) (p208 kg) (p209 kg)
              have kn := dgn_n (f := f) cA
              clear p204 p205 p206 p207 p208 p209
              have r212 := (f10 10 (by decide))
              exact fr_iret h hq (by omega) ⟨(fun _ => Eq.trans (AQ_eq kw rfl rfl rfl) (Eq.trans (AQ_dig cA kg.2.1 kg.2.2).symm e9)), (fun q => absurd k1.1 q), (by omega), (by omega), (fun a k0 => ((f210 a (by omega)).trans (f9 a (by omega)))), (fun i k0 k1 => ((f211 i (by omega) (by omega)).trans (f10 i (by omega))))⟩ dX12_thing_83
          ·
            refine fr_aload_n h rfl 0 rfl dX12_thing_41 ?_
            refine fr_dup h rfl dX12_thing_42 ?_
            refine fr_geti (iz := 9) h kX12 fX12_121 at_0M rfl rfl (by decide) (by decide) rfM_9 dX12_thing_43 (fun z213 w214 w215 q216 => ?_)
            refine fr_iconst h dX12_thing_46 ?_
            refine fr_iadd h dX12_thing_47 ?_
            refine fr_puti (iz := 9) h kX12 fX12_121 at_0M rfl rfl (by decide) (by decide) rfl (by decide +kernel) rfM_9 (by omega) (by omega) dX12_thing_48 ?_
            refine fr_mem (fun x217 m218 => ?_)
            refine fr_aload_n h rfl 0 rfl dX12_thing_51 ?_
            refine fr_iload_n h rfl 1 rfl dX12_thing_52 ?_
            refine fr_iconst h dX12_thing_53 ?_
            refine fr_iadd h dX12_thing_54 ?_
            have r219 := (fm_rd_i (a := 0) (b := 6) m218 (by decide))
            have r220 := r219.trans (f10 6 (by decide))
            have r221 := (fm_rd_i (a := 0) (b := 7) m218 (by decide))
            have r222 := r221.trans (f10 7 (by decide))
            have r223 := (fm_rd_i (a := 0) (b := 8) m218 (by decide))
            have r224 := r223.trans (f10 8 (by decide))
            have r225 := (fm_rd_s m218)
            have r226 := (fm_rd_i (a := 0) (b := 10) m218 (by decide))
            have r227 := r226.trans (f10 10 (by decide))
            refine fr_cvI h kX12 at_0M wX12_held lX12_181 (ih.2.2.2 x217 (p + 1) f n (a + 1) k (upf E (p + 1) 0) R (by omega) (by omega) (bn_t ((fm_rd_i (a := 0) (b := 7) m218 (by decide)).trans (f10 7 (by decide))) ((fm_rd_i (a := 0) (b := 8) m218 (by decide)).trans (f10 8 (by decide))) e1) (by omega) (by omega) (fun j => (congrArg uch (congrFun ((fm_up_row m218 (by omega)).trans (f9 2 (by omega))) j)).trans (e4 j)) (by omega) (by omega) (by omega) (by omega) (Eq.trans (AQ_opn cA (by omega) (by omega)).symm e9) (by rw [upf_s]; decide) (by omega)) rfl (by omega) (by omega) rfl (Nat.le_of_ble_eq_true rfl) dX12_thing_55 (fun z229 x228 w230 p231 => ?_)
            obtain ⟨p232, p233, p234, p235, f236, f237⟩ := p231
            refine fr_istore_n (L' := [(0, vr G 0), (1, vi p), (2, vi z31), (3, vi z229)]) h rfl dX12_thing_58 (by decide) [1, 2, 3, 0] rfl ?_
            refine fr_aload_n h rfl 0 rfl dX12_thing_59 ?_
            refine fr_bipush h rfl dX12_thing_60 ?_
            have r238 := (f237 6 (by decide) (by decide))
            have r239 := r238.trans (fm_rd_i (a := 0) (b := 6) m218 (by decide))
            have r240 := r239.trans (f10 6 (by decide))
            have r241 := (f237 7 (by decide) (by decide))
            have r242 := r241.trans (fm_rd_i (a := 0) (b := 7) m218 (by decide))
            have r243 := r242.trans (f10 7 (by decide))
            have r244 := (f237 8 (by decide) (by decide))
            have r245 := r244.trans (fm_rd_i (a := 0) (b := 8) m218 (by decide))
            have r246 := r245.trans (f10 8 (by decide))
            have r247 := (fm_rd_s m218)
            refine fr_cvV h kX12 at_0M wX12_need lX12_184 (d_X12_need x228 41 f n (x228 0 9) (by omega) (by omega) (bn_t ((f237 7 (by decide) (by decide)).trans ((fm_rd_i (a := 0) (b := 7) m218 (by decide)).trans (f10 7 (by decide)))) ((f237 8 (by decide) (by decide)).trans ((fm_rd_i (a := 0) (b := 8) m218 (by decide)).trans (f10 8 (by decide)))) e1) (by omega) (by omega) (fun j => (congrArg uch (congrFun ((f236 2 (by omega)).trans ((fm_up_row m218 (by omega)).trans (f9 2 (by omega)))) j)).trans (e4 j)) (by omega) (by omega) (by omega)) rfl (by omega) (by omega) rfl (Nat.le_of_ble_eq_true rfl) dX12_thing_62 (fun x248 p251 => ?_)
            obtain ⟨p252, f253, f254⟩ := p251
            rcases p252 with ⟨c1, c2, c3⟩ | ⟨c1, c2, c3, c4, c5⟩ | ⟨c1, c2, c3, c4⟩
            ·
              refine fr_iload_n h rfl 3 rfl dX12_thing_65 ?_
              have r255 := (fm_rd_s m218)
              have r256 := (fm_rd_i (a := 0) (b := 10) m218 (by decide))
              have r257 := r256.trans (f10 10 (by decide))
              exact fr_iret h hq (by omega) ⟨(fun q => absurd q (by omega)), (fun _ => Eq.trans (show x248 0 10 = x228 0 10 by omega) (p233 c1)), (by omega), (by omega), (fun a k0 => ((f253 a (by omega)).trans ((f236 a (by omega)).trans ((fm_up_row m218 (by omega)).trans (f9 a (by omega)))))), (fun i k0 k1 => ((f254 i (by omega) (by omega)).trans ((f237 i (by omega) (by omega)).trans ((fm_rd_i (a := 0) (b := i) m218 (by omega)).trans (f10 i (by omega))))))⟩ dX12_thing_66
            ·
              refine fr_iload_n h rfl 3 rfl dX12_thing_65 ?_
              have r258 := (fm_rd_s m218)
              have r259 := (fm_rd_i (a := 0) (b := 10) m218 (by decide))
              have r260 := r259.trans (f10 10 (by decide))
              exact fr_iret h hq (by omega) ⟨(fun _ => Eq.trans (AQ_eq (show x248 0 9 = x228 0 9 + 1 by omega) rfl (show p = p + 1 - 1 by omega) rfl) (Eq.trans (AQ_c (D := upf E (p + 1) 0) (by omega) (by omega) (fun j u v => (upf_o (by omega)).symm)) (HP_cl (p232 c1) c2 c3 (by omega)))), (fun q => absurd (show x248 0 10 = (-1) by omega) q), (by omega), (by omega), (fun a k0 => ((f253 a (by omega)).trans ((f236 a (by omega)).trans ((fm_up_row m218 (by omega)).trans (f9 a (by omega)))))), (fun i k0 k1 => ((f254 i (by omega) (by omega)).trans ((f237 i (by omega) (by omega)).trans ((fm_rd_i (a := 0) (b := i) m218 (by omega)).trans (f10 i (by omega))))))⟩ dX12_thing_66
            ·
              refine fr_iload_n h rfl 3 rfl dX12_thing_65 ?_
              have r261 := (fm_rd_s m218)
              have r262 := (fm_rd_i (a := 0) (b := 10) m218 (by decide))
              have r263 := r262.trans (f10 10 (by decide))
              exact fr_iret h hq (by omega) ⟨(fun q => absurd q (by omega)), (fun _ => Eq.trans (show x248 0 10 = x228 0 9 by omega) (HP_no (p232 c1) (by omega) (Or.inl (by omega)) c2).symm), (by omega), (by omega), (fun a k0 => ((f253 a (by omega)).trans ((f236 a (by omega)).trans ((fm_up_row m218 (by omega)).trans (f9 a (by omega)))))), (fun i k0 k1 => ((f254 i (by omega) (by omega)).trans ((f237 i (by omega) (by omega)).trans ((fm_rd_i (a := 0) (b := i) m218 (by omega)).trans (f10 i (by omega))))))⟩ dX12_thing_66
      ·
        have cB : n ≤ a := by omega
        have hz := p37 cB
        clear p36 p37 cA
        refine fr_istore_n (L' := [(0, vr G 0), (1, vi p), (2, vi z31)]) h rfl dX12_thing_29 (by decide) [1, 2, 0] rfl ?_
        refine fr_iload_n h rfl 2 rfl dX12_thing_30 ?_
        refine fr_bipush h rfl dX12_thing_31 ?_
        refine fr_icmp_ne (tgt := 67) h dX12_thing_33 (by decide) (by omega) (by omega) (fun c264 => ?_) (fun c264 => by exfalso; omega)
        refine fr_iload_n h rfl 2 rfl dX12_thing_67 ?_
        refine fr_bipush h rfl dX12_thing_68 ?_
        refine fr_bipush h rfl dX12_thing_70 ?_
        refine fr_csI h wX12_in lX12_101 (c_X12_in x1 z31 48 57 (by omega) (by omega) (by omega)) rfl (by omega) (by omega) rfl (Nat.le_of_ble_eq_true rfl) dX12_thing_72 (fun z266 x265 w267 p268 => ?_)
        obtain ⟨p269, p270, y271⟩ := p268
        rw [y271]
        clear y271
        refine fr_if_eq (tgt := 84) h dX12_thing_75 (by decide) (by omega) (fun c272 => ?_) (fun c272 => ?_)
        ·
          have d273 : z266 = 0 := by omega
          clear p269 c272
          have d274 := mt p270.2 (by omega)
          clear p270
          refine fr_iload_n h rfl 2 rfl dX12_thing_84 ?_
          refine fr_csI h wX12_letterOf lX12_188 (c_X12_letterOf x1 z31 (by omega)) rfl (by omega) (by omega) rfl (Nat.le_of_ble_eq_true rfl) dX12_thing_85 (fun z276 x275 w277 p278 => ?_)
          obtain ⟨p279, p280, p281, y282⟩ := p278
          rw [y282]
          clear y282
          refine fr_iconst h dX12_thing_88 ?_
          refine fr_icmp_ne (tgt := 102) h dX12_thing_89 (by decide) (by omega) (by omega) (fun c283 => ?_) (fun c283 => ?_)
          ·
            exfalso; omega
          ·
            have d284 := p281.1 (by omega)
            clear p281
            refine fr_aload_n h rfl 0 rfl dX12_thing_92 ?_
            refine fr_aload_n h rfl 0 rfl dX12_thing_93 ?_
            refine fr_geti (iz := 9) h kX12 fX12_121 at_0M rfl rfl (by decide) (by decide) rfM_9 dX12_thing_94 (fun z285 w286 w287 q288 => ?_)
            refine fr_cvV h kX12 at_0M wX12_fault lX12_143 (d_X12_fault x1 z285 (by omega) (by omega) (by omega)) rfl (by omega) (by omega) rfl (Nat.le_of_ble_eq_true rfl) dX12_thing_97 (fun x289 p292 => ?_)
            obtain ⟨p293, p294, f295, f296⟩ := p292
            have r297 := (f10 10 (by decide))
            have ka := p293 (by omega)
            clear p293 p294
            have kw := AQ_wxx (f := f) (n := k) (m := n) (p := a) (d := p) (C := E) e3 (fun u => absurd u (by omega))
            refine fr_iconst h dX12_thing_100 ?_
            have r298 := (f296 9 (by decide))
            exact fr_iret h hq (by omega) ⟨(fun q => absurd q (by omega)), (fun _ => Eq.trans (show x289 0 10 = a by omega) (Eq.trans kw.symm e9)), (by omega), (by omega), (fun a k0 => ((f295 a (by omega)).trans (f9 a (by omega)))), (fun i k0 k1 => ((f296 i (by omega)).trans (f10 i (by omega))))⟩ dX12_thing_101
        ·
          exfalso; omega
    ·
      exfalso; omega
  ·
    have d299 : z2 = 1 := by omega
    clear p5 c11
    have d300 := p6.1 (by omega)
    clear p6
    have d301 := p7 (by omega)
    clear p7
    clear p8
    refine fr_aload_n h rfl 0 rfl dX12_thing_9 ?_
    refine fr_iload_n h rfl 1 rfl dX12_thing_10 ?_
    have r303 := (f10 6 (by decide))
    have r304 := (f10 7 (by decide))
    have r305 := (f10 8 (by decide))
    have r306 := (f10 10 (by decide))
    refine fr_cvI h kX12 at_0M wX12_thing lX12_178 (ih.1 x1 p f n (a + 1) k E R (by omega) (by omega) (bn_t (f10 7 (by decide)) (f10 8 (by decide)) e1) (by omega) (by omega) (fun j => (congrArg uch (congrFun (f9 2 (by omega)) j)).trans (e4 j)) (by omega) (by omega) (by omega) (by omega) (Eq.trans (AQ_neg d300.2.1 d300.2.2).symm e9) (by omega)) rfl (by omega) (by omega) rfl (Nat.le_of_ble_eq_true rfl) dX12_thing_11 (fun z308 x307 w309 p310 => ?_)
    obtain ⟨p311, p312, p313, p314, f315, f316⟩ := p310
    refine fr_ineg h dX12_thing_14 ?_
    refine fr_normi (fun z317 w318 q319 => ?_)
    have w320 : fm_r ((-z308)) → z317 = (-z308) := fun q => (iI_inj q w318 q319).symm
    have r321 := (f10 10 (by decide))
    exact fr_iret h hq (by omega) ⟨p311, p312, (by omega), (by omega), (fun a k0 => ((f315 a (by omega)).trans (f9 a (by omega)))), (fun i k0 k1 => ((f316 i (by omega) (by omega)).trans (f10 i (by omega))))⟩ dX12_thing_15
