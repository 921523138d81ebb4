set_option maxHeartbeats 200000 in
theorem c_X12_letterOf (x : Mm) (p : Int) (h_p : fm_r p) : CnI YM yX12_letterOf cX12_letterOf 1 .int 0 0 (fun G => [vi p]) x (fun z y' => ((-1) ≤ z) ∧ (z ≤ 6) ∧ ((z = (-1) ↔ ¬ (p = 115 ∨ p = 109 ∨ p = 108 ∨ p = 102 ∨ p = 101 ∨ p = 112 ∨ p = 110))) ∧ (y' = x)) := by
  refine cn_I (by decide) (fun _ => Nat.le_of_ble_eq_true rfl) (fun G C h hq => ?_)
  have h : OK YM G C cX12_letterOf RX12 1 (some .int) 0 0 := h
  show FW YM G C 1 x 0 [(0, vi p)] []
  refine fr_iload_n h rfl 0 rfl dX12_letterOf_0 ?_
  refine fr_bipush h rfl dX12_letterOf_1 ?_
  refine fr_icmp_ne (tgt := 10) h dX12_letterOf_3 (by decide) (by omega) (by omega) (fun c1 => ?_) (fun c1 => ?_)
  ·
    refine fr_iload_n h rfl 0 rfl dX12_letterOf_10 ?_
    refine fr_bipush h rfl dX12_letterOf_11 ?_
    refine fr_icmp_ne (tgt := 20) h dX12_letterOf_13 (by decide) (by omega) (by omega) (fun c2 => ?_) (fun c2 => ?_)
    ·
      refine fr_iload_n h rfl 0 rfl dX12_letterOf_20 ?_
      refine fr_bipush h rfl dX12_letterOf_21 ?_
      refine fr_icmp_ne (tgt := 30) h dX12_letterOf_23 (by decide) (by omega) (by omega) (fun c3 => ?_) (fun c3 => ?_)
      ·
        refine fr_iload_n h rfl 0 rfl dX12_letterOf_30 ?_
        refine fr_bipush h rfl dX12_letterOf_31 ?_
        refine fr_icmp_ne (tgt := 40) h dX12_letterOf_33 (by decide) (by omega) (by omega) (fun c4 => ?_) (fun c4 => ?_)
        ·
          refine fr_iload_n h rfl 0 rfl dX12_letterOf_40 ?_
          refine fr_bipush h rfl dX12_letterOf_41 ?_
          refine fr_icmp_ne (tgt := 50) h dX12_letterOf_43 (by decide) (by omega) (by omega) (fun c5 => ?_) (fun c5 => ?_)
          ·
            refine fr_iload_n h rfl 0 rfl dX12_letterOf_50 ?_
            refine fr_bipush h rfl dX12_letterOf_51 ?_
            refine fr_icmp_ne (tgt := 60) h dX12_letterOf_53 (by decide) (by omega) (by omega) (fun c6 => ?_) (fun c6 => ?_)
            ·
              refine fr_iload_n h rfl 0 rfl dX12_letterOf_60 ?_
              refine fr_bipush h rfl dX12_letterOf_61 ?_
              refine fr_icmp_ne (tgt := 71) h dX12_letterOf_63 (by decide) (by omega) (by omega) (fun c7 => ?_) (fun c7 => ?_)
              ·
                refine fr_iconst h dX12_letterOf_71 ?_
                exact fr_iret h hq (by omega) ⟨(by omega), (by omega), (by omega), rfl⟩ dX12_letterOf_72
              ·
                refine fr_bipush h rfl dX12_letterOf_66 ?_
                refine fr_goto (tgt := 72) h dX12_letterOf_68 (by decide) ?_
                exact fr_iret h hq (by omega) ⟨(by omega), (by omega), (by omega), rfl⟩ dX12_letterOf_72
            ·
              refine fr_iconst h dX12_letterOf_56 ?_
              refine fr_goto (tgt := 72) h dX12_letterOf_57 (by decide) ?_
              exact fr_iret h hq (by omega) ⟨(by omega), (by omega), (by omega), rfl⟩ dX12_letterOf_72
          ·
            refine fr_iconst h dX12_letterOf_46 ?_
            refine fr_goto (tgt := 72) h dX12_letterOf_47 (by decide) ?_
            exact fr_iret h hq (by omega) ⟨(by omega), (by omega), (by omega), rfl⟩ dX12_letterOf_72
        ·
          refine fr_iconst h dX12_letterOf_36 ?_
          refine fr_goto (tgt := 72) h dX12_letterOf_37 (by decide) ?_
          exact fr_iret h hq (by omega) ⟨(by omega), (by omega), (by omega), rfl⟩ dX12_letterOf_72
      ·
        refine fr_iconst h dX12_letterOf_26 ?_
        refine fr_goto (tgt := 72) h dX12_letterOf_27 (by decide) ?_
        exact fr_iret h hq (by omega) ⟨(by omega), (by omega), (by omega), rfl⟩ dX12_letterOf_72
    ·
      refine fr_iconst h dX12_letterOf_16 ?_
      refine fr_goto (tgt := 72) h dX12_letterOf_17 (by decide) ?_
      exact fr_iret h hq (by omega) ⟨(by omega), (by omega), (by omega), rfl⟩ dX12_letterOf_72
  ·
    refine fr_iconst h dX12_letterOf_6 ?_
    refine fr_goto (tgt := 72) h dX12_letterOf_7 (by decide) ?_
    exact fr_iret h hq (by omega) ⟨(by omega), (by omega), (by omega), rfl⟩ dX12_letterOf_72
def GRP_S (d : Nat) : Prop := (∀ (x : Mm) (p : Int) (h_p : fm_r p) (e0 : ((x 0 6 = 2 ∧ x 0 8 ≤ 80) ∨ (x 0 6 = 5 ∧ x 0 8 ≤ 40) ∨ (x 0 6 = 6 ∧ x 0 8 ≤ 40)) ∧ x 0 9 ≤ x 0 8) (e1 : 0 ≤ p) (e2 : p ≤ 4), (4 * (x 0 8 - x 0 9)) < (d : Int) → CnI YM yX12_thing cX12_thing 4 .int (d + 10) (d * 30 + 200) (fun G => [vr G 0, vi p]) x (fun z y' => (x 0 9 ≤ y' 0 9) ∧ (y' 0 9 ≤ x 0 8) ∧ (∀ a : Int, (a < 0 ∨ 0 < a) → y' a = x a) ∧ (∀ i : Int, i ≠ 9 → i ≠ 10 → y' 0 i = x 0 i))) ∧ (∀ (x : Mm) (p : Int) (h_p : fm_r p) (e0 : ((x 0 6 = 2 ∧ x 0 8 ≤ 80) ∨ (x 0 6 = 5 ∧ x 0 8 ≤ 40) ∨ (x 0 6 = 6 ∧ x 0 8 ≤ 40)) ∧ x 0 9 ≤ x 0 8) (e1 : 0 ≤ p) (e2 : p ≤ 4), (4 * (x 0 8 - x 0 9) + 1) < (d : Int) → CnI YM yX12_product cX12_product 5 .int (d + 10) (d * 30 + 200) (fun G => [vr G 0, vi p]) x (fun z y' => (x 0 9 ≤ y' 0 9) ∧ (y' 0 9 ≤ x 0 8) ∧ (∀ a : Int, (a < 0 ∨ 0 < a) → y' a = x a) ∧ (∀ i : Int, i ≠ 9 → i ≠ 10 → y' 0 i = x 0 i))) ∧ (∀ (x : Mm) (p : Int) (h_p : fm_r p) (e0 : ((x 0 6 = 2 ∧ x 0 8 ≤ 80) ∨ (x 0 6 = 5 ∧ x 0 8 ≤ 40) ∨ (x 0 6 = 6 ∧ x 0 8 ≤ 40)) ∧ x 0 9 ≤ x 0 8) (e1 : 0 ≤ p) (e2 : p ≤ 4), (4 * (x 0 8 - x 0 9) + 2) < (d : Int) → CnI YM yX12_sum cX12_sum 5 .int (d + 10) (d * 30 + 200) (fun G => [vr G 0, vi p]) x (fun z y' => (x 0 9 ≤ y' 0 9) ∧ (y' 0 9 ≤ x 0 8) ∧ (∀ a : Int, (a < 0 ∨ 0 < a) → y' a = x a) ∧ (∀ i : Int, i ≠ 9 → i ≠ 10 → y' 0 i = x 0 i))) ∧ (∀ (x : Mm) (p : Int) (h_p : fm_r p) (e0 : ((x 0 6 = 2 ∧ x 0 8 ≤ 80) ∨ (x 0 6 = 5 ∧ x 0 8 ≤ 40) ∨ (x 0 6 = 6 ∧ x 0 8 ≤ 40)) ∧ x 0 9 ≤ x 0 8) (e1 : 0 ≤ p) (e2 : p ≤ 4), (4 * (x 0 8 - x 0 9) + 3) < (d : Int) → CnI YM yX12_held cX12_held 3 .int (d + 10) (d * 30 + 200) (fun G => [vr G 0, vi p]) x (fun z y' => (x 0 9 ≤ y' 0 9) ∧ (y' 0 9 ≤ x 0 8) ∧ (∀ a : Int, (a < 0 ∨ 0 < a) → y' a = x a) ∧ (∀ i : Int, i ≠ 9 → i ≠ 10 → y' 0 i = x 0 i)))
set_option maxHeartbeats 2000000 in
theorem c_X12_thing_st (d : Nat) (ih : GRP_S d) : ∀ (x : Mm) (p : Int) (h_p : fm_r p) (e0 : ((x 0 6 = 2 ∧ x 0 8 ≤ 80) ∨ (x 0 6 = 5 ∧ x 0 8 ≤ 40) ∨ (x 0 6 = 6 ∧ x 0 8 ≤ 40)) ∧ x 0 9 ≤ x 0 8) (e1 : 0 ≤ p) (e2 : p ≤ 4), (4 * (x 0 8 - x 0 9)) < ((d + 1 : Nat) : Int) → CnI YM yX12_thing cX12_thing 4 .int (d + 1 + 10) ((d + 1) * 30 + 200) (fun G => [vr G 0, vi p]) x (fun z y' => (x 0 9 ≤ y' 0 9) ∧ (y' 0 9 ≤ x 0 8) ∧ (∀ a : Int, (a < 0 ∨ 0 < a) → y' a = x a) ∧ (∀ i : Int, i ≠ 9 → i ≠ 10 → y' 0 i = x 0 i)) := by
  intro x p h_p e0 e1 e2 hmu
  refine cn_I (by decide) (fun _ => Nat.le_of_ble_eq_true rfl) (fun G C h hq => ?_)
  have h : OK YM G C cX12_thing RX12 4 (some .int) (d + 1 + 10) ((d + 1) * 30 + 200) := h
  show FW YM G C 4 x 0 [(0, vr G 0), (1, vi p)] []
  refine fr_aload_n h rfl 0 rfl dX12_thing_0 ?_
  refine fr_bipush h rfl dX12_thing_1 ?_
  refine fr_cvI h kX12 at_0M wX12_passes lX12_139 (c_X12_passes x 45 (by omega) (by omega) (by omega) (by omega)) rfl (by omega) (by omega) rfl (Nat.le_of_ble_eq_true rfl) dX12_thing_3 (fun z2 x1 w3 p4 => ?_)
  obtain ⟨p5, p6, p7, f8, f9⟩ := p4
  refine fr_if_eq (tgt := 16) h dX12_thing_6 (by decide) (by omega) (fun c10 => ?_) (fun c10 => ?_)
  ·
    refine fr_aload_n h rfl 0 rfl dX12_thing_16 ?_
    refine fr_cvI h kX12 at_0M wX12_fine lX12_131 (c_X12_fine x1) rfl (by omega) (by omega) rfl (Nat.le_of_ble_eq_true rfl) dX12_thing_17 (fun z12 x11 w13 p14 => ?_)
    obtain ⟨p15, p16, y17⟩ := p14
    rw [y17]
    clear y17
    refine fr_if_ne (tgt := 25) h dX12_thing_20 (by decide) (by omega) (fun c18 => ?_) (fun c18 => ?_)
    ·
      refine fr_aload_n h rfl 0 rfl dX12_thing_25 ?_
      have r19 := (f9 6 (by decide))
      have r20 := (f9 8 (by decide))
      have r21 := (f9 6 (by decide))
      have r22 := (f9 8 (by decide))
      have r23 := (f9 6 (by decide))
      have r24 := (f9 8 (by decide))
      have r25 := (f9 8 (by decide))
      refine fr_cvI h kX12 at_0M wX12_here lX12_135 (c_X12_here x1 (by omega)) rfl (by omega) (by omega) rfl (Nat.le_of_ble_eq_true rfl) dX12_thing_26 (fun z27 x26 w28 p29 => ?_)
      obtain ⟨p30, p31, p32, p33, y34⟩ := p29
      rw [y34]
      clear y34
      refine fr_istore_n (L' := [(0, vr G 0), (1, vi p), (2, vi z27)]) h rfl dX12_thing_29 (by decide) [1, 2, 0] rfl ?_
      refine fr_iload_n h rfl 2 rfl dX12_thing_30 ?_
      refine fr_bipush h rfl dX12_thing_31 ?_
      refine fr_icmp_ne (tgt := 67) h dX12_thing_33 (by decide) (by omega) (by omega) (fun c35 => ?_) (fun c35 => ?_)
      ·
        refine fr_iload_n h rfl 2 rfl dX12_thing_67 ?_
        refine fr_bipush h rfl dX12_thing_68 ?_
        refine fr_bipush h rfl dX12_thing_70 ?_
        refine fr_csI h wX12_in lX12_101 (c_X12_in x1 z27 48 57 (by omega) (by omega) (by omega)) rfl (by omega) (by omega) rfl (Nat.le_of_ble_eq_true rfl) dX12_thing_72 (fun z37 x36 w38 p39 => ?_)
        obtain ⟨p40, p41, y42⟩ := p39
        rw [y42]
        clear y42
        refine fr_if_eq (tgt := 84) h dX12_thing_75 (by decide) (by omega) (fun c43 => ?_) (fun c43 => ?_)
        ·
          refine fr_iload_n h rfl 2 rfl dX12_thing_84 ?_
          refine fr_csI h wX12_letterOf lX12_188 (c_X12_letterOf x1 z27 (by omega)) rfl (by omega) (by omega) rfl (Nat.le_of_ble_eq_true rfl) dX12_thing_85 (fun z45 x44 w46 p47 => ?_)
          obtain ⟨p48, p49, p50, y51⟩ := p47
          rw [y51]
          clear y51
          refine fr_iconst h dX12_thing_88 ?_
          refine fr_icmp_ne (tgt := 102) h dX12_thing_89 (by decide) (by omega) (by omega) (fun c52 => ?_) (fun c52 => ?_)
          ·
            refine fr_aload_n h rfl 0 rfl dX12_thing_102 ?_
            refine fr_dup h rfl dX12_thing_103 ?_
            refine fr_geti (iz := 9) h kX12 fX12_121 at_0M rfl rfl (by decide) (by decide) rfM_9 dX12_thing_104 (fun z53 w54 w55 q56 => ?_)
            refine fr_iconst h dX12_thing_107 ?_
            refine fr_iadd h dX12_thing_108 ?_
            refine fr_puti (iz := 9) h kX12 fX12_121 at_0M rfl rfl (by decide) (by decide) rfl (by decide +kernel) rfM_9 (by omega) (by omega) dX12_thing_109 ?_
            refine fr_mem (fun x57 m58 => ?_)
            refine fr_aload_n h rfl 0 rfl dX12_thing_112 ?_
            refine fr_geti (iz := 15) h kX12 fX12_191 at_0M rfl rfl (by decide) (by decide) rfM_15 dX12_thing_113 (fun z59 w60 w61 q62 => ?_)
            have r63 := q62.trans (fm_rd_i (a := 0) (b := 15) m58 (by decide))
            have r64 := r63.trans (f9 15 (by decide))
            refine fr_if_eq (tgt := 131) h dX12_thing_116 (by decide) (by omega) (fun c65 => ?_) (fun c65 => ?_)
            ·
              refine fr_iconst h dX12_thing_131 ?_
              have r66 := (fm_rd_s m58)
              have r67 := (fm_rd_s m58)
              exact fr_iret h hq (by omega) ⟨(by omega), (by omega), (fun a k0 => ((fm_up_row m58 (by omega)).trans (f8 a (by omega)))), (fun i k0 k1 => ((fm_rd_i (a := 0) (b := i) m58 (by omega)).trans (f9 i (by omega))))⟩ dX12_thing_132
            ·
              refine fr_aload_n h rfl 0 rfl dX12_thing_119 ?_
              refine fr_getc (z := 7) (iz := 16) h kX12 fX12_30 at_0M rfl rfl rfM_16 (by omega) dX12_thing_120 ?_
              refine fr_iload_n h rfl 2 rfl dX12_thing_123 ?_
              refine fr_csI h wX12_letterOf lX12_188 (c_X12_letterOf x57 z27 (by omega)) rfl (by omega) (by omega) rfl (Nat.le_of_ble_eq_true rfl) dX12_thing_124 (fun z69 x68 w70 p71 => ?_)
              obtain ⟨p72, p73, p74, y75⟩ := p71
              rw [y75]
              clear y75
              refine fr_iald h arM_7 (by omega) (by omega) (rrM_7 z69) dX12_thing_127 (fun z76 w77 w78 q79 => ?_)
              have r80 := q79.trans (fm_rd_k (a := 7) (b := z69) m58 (by omega))
              have r81 := r80.trans (congrFun (f8 7 (by omega)) z69)
              refine fr_goto (tgt := 132) h dX12_thing_128 (by decide) ?_
              have r82 := (fm_rd_s m58)
              have r83 := (fm_rd_s m58)
              exact fr_iret h hq (by omega) ⟨(by omega), (by omega), (fun a k0 => ((fm_up_row m58 (by omega)).trans (f8 a (by omega)))), (fun i k0 k1 => ((fm_rd_i (a := 0) (b := i) m58 (by omega)).trans (f9 i (by omega))))⟩ dX12_thing_132
          ·
            refine fr_aload_n h rfl 0 rfl dX12_thing_92 ?_
            refine fr_aload_n h rfl 0 rfl dX12_thing_93 ?_
            refine fr_geti (iz := 9) h kX12 fX12_121 at_0M rfl rfl (by decide) (by decide) rfM_9 dX12_thing_94 (fun z84 w85 w86 q87 => ?_)
            refine fr_cvV h kX12 at_0M wX12_fault lX12_143 (c_X12_fault x1 z84 (by omega) (by omega) (by omega)) rfl (by omega) (by omega) rfl (Nat.le_of_ble_eq_true rfl) dX12_thing_97 (fun x88 p91 => ?_)
            obtain ⟨p92, f93, f94⟩ := p91
            refine fr_iconst h dX12_thing_100 ?_
            have r95 := (f94 9 (by decide))
            have r96 := (f94 9 (by decide))
            exact fr_iret h hq (by omega) ⟨(by omega), (by omega), (fun a k0 => ((f93 a (by omega)).trans (f8 a (by omega)))), (fun i k0 k1 => ((f94 i (by omega)).trans (f9 i (by omega))))⟩ dX12_thing_101
        ·
          refine fr_aload_n h rfl 0 rfl dX12_thing_78 ?_
          refine fr_iconst h dX12_thing_79 ?_
          have r97 := (f9 6 (by decide))
          have r98 := (f9 8 (by decide))
          have r99 := (f9 6 (by decide))
          have r100 := (f9 8 (by decide))
          have r101 := (f9 6 (by decide))
          have r102 := (f9 8 (by decide))
          have r103 := (f9 8 (by decide))
          refine fr_cvI h kX12 at_0M wX12_number lX12_154 (c_X12_number x1 3 (by omega) (by omega) (by omega) (by omega)) rfl (by omega) (by omega) rfl (Nat.le_of_ble_eq_true rfl) dX12_thing_80 (fun z105 x104 w106 p107 => ?_)
          obtain ⟨p108, p109, p110, p111, p112, f113, f114⟩ := p107
          exact fr_iret h hq (by omega) ⟨(by omega), (by omega), (fun a k0 => ((f113 a (by omega)).trans (f8 a (by omega)))), (fun i k0 k1 => ((f114 i (by omega) (by omega)).trans (f9 i (by omega))))⟩ dX12_thing_83
      ·
        refine fr_iload_n h rfl 1 rfl dX12_thing_36 ?_
        refine fr_iconst h dX12_thing_37 ?_
        refine fr_icmp_ge (tgt := 67) h dX12_thing_38 (by decide) (by omega) (by omega) (fun c115 => ?_) (fun c115 => ?_)
        ·
          refine fr_iload_n h rfl 2 rfl dX12_thing_67 ?_
          refine fr_bipush h rfl dX12_thing_68 ?_
          refine fr_bipush h rfl dX12_thing_70 ?_
          refine fr_csI h wX12_in lX12_101 (c_X12_in x1 z27 48 57 (by omega) (by omega) (by omega)) rfl (by omega) (by omega) rfl (Nat.le_of_ble_eq_true rfl) dX12_thing_72 (fun z117 x116 w118 p119 => ?_)
          obtain ⟨p120, p121, y122⟩ := p119
          rw [y122]
          clear y122
          refine fr_if_eq (tgt := 84) h dX12_thing_75 (by decide) (by omega) (fun c123 => ?_) (fun c123 => ?_)
          ·
            refine fr_iload_n h rfl 2 rfl dX12_thing_84 ?_
            refine fr_csI h wX12_letterOf lX12_188 (c_X12_letterOf x1 z27 (by omega)) rfl (by omega) (by omega) rfl (Nat.le_of_ble_eq_true rfl) dX12_thing_85 (fun z125 x124 w126 p127 => ?_)
            obtain ⟨p128, p129, p130, y131⟩ := p127
            rw [y131]
            clear y131
            refine fr_iconst h dX12_thing_88 ?_
            refine fr_icmp_ne (tgt := 102) h dX12_thing_89 (by decide) (by omega) (by omega) (fun c132 => ?_) (fun c132 => ?_)
            ·
              refine fr_aload_n h rfl 0 rfl dX12_thing_102 ?_
              refine fr_dup h rfl dX12_thing_103 ?_
              refine fr_geti (iz := 9) h kX12 fX12_121 at_0M rfl rfl (by decide) (by decide) rfM_9 dX12_thing_104 (fun z133 w134 w135 q136 => ?_)
              refine fr_iconst h dX12_thing_107 ?_
              refine fr_iadd h dX12_thing_108 ?_
              refine fr_puti (iz := 9) h kX12 fX12_121 at_0M rfl rfl (by decide) (by decide) rfl (by decide +kernel) rfM_9 (by omega) (by omega) dX12_thing_109 ?_
              refine fr_mem (fun x137 m138 => ?_)
              refine fr_aload_n h rfl 0 rfl dX12_thing_112 ?_
              refine fr_geti (iz := 15) h kX12 fX12_191 at_0M rfl rfl (by decide) (by decide) rfM_15 dX12_thing_113 (fun z139 w140 w141 q142 => ?_)
              have r143 := q142.trans (fm_rd_i (a := 0) (b := 15) m138 (by decide))
              have r144 := r143.trans (f9 15 (by decide))
              refine fr_if_eq (tgt := 131) h dX12_thing_116 (by decide) (by omega) (fun c145 => ?_) (fun c145 => ?_)
              ·
                refine fr_iconst h dX12_thing_131 ?_
                have r146 := (fm_rd_s m138)
                have r147 := (fm_rd_s m138)
                exact fr_iret h hq (by omega) ⟨(by omega), (by omega), (fun a k0 => ((fm_up_row m138 (by omega)).trans (f8 a (by omega)))), (fun i k0 k1 => ((fm_rd_i (a := 0) (b := i) m138 (by omega)).trans (f9 i (by omega))))⟩ dX12_thing_132
              ·
                refine fr_aload_n h rfl 0 rfl dX12_thing_119 ?_
                refine fr_getc (z := 7) (iz := 16) h kX12 fX12_30 at_0M rfl rfl rfM_16 (by omega) dX12_thing_120 ?_
                refine fr_iload_n h rfl 2 rfl dX12_thing_123 ?_
                refine fr_csI h wX12_letterOf lX12_188 (c_X12_letterOf x137 z27 (by omega)) rfl (by omega) (by omega) rfl (Nat.le_of_ble_eq_true rfl) dX12_thing_124 (fun z149 x148 w150 p151 => ?_)
                obtain ⟨p152, p153, p154, y155⟩ := p151
                rw [y155]
                clear y155
                refine fr_iald h arM_7 (by omega) (by omega) (rrM_7 z149) dX12_thing_127 (fun z156 w157 w158 q159 => ?_)
                have r160 := q159.trans (fm_rd_k (a := 7) (b := z149) m138 (by omega))
                have r161 := r160.trans (congrFun (f8 7 (by omega)) z149)
                refine fr_goto (tgt := 132) h dX12_thing_128 (by decide) ?_
                have r162 := (fm_rd_s m138)
                have r163 := (fm_rd_s m138)
                exact fr_iret h hq (by omega) ⟨(by omega), (by omega), (fun a k0 => ((fm_up_row m138 (by omega)).trans (f8 a (by omega)))), (fun i k0 k1 => ((fm_rd_i (a := 0) (b := i) m138 (by omega)).trans (f9 i (by omega))))⟩ dX12_thing_132
            ·
              refine fr_aload_n h rfl 0 rfl dX12_thing_92 ?_
              refine fr_aload_n h rfl 0 rfl dX12_thing_93 ?_
              refine fr_geti (iz := 9) h kX12 fX12_121 at_0M rfl rfl (by decide) (by decide) rfM_9 dX12_thing_94 (fun z164 w165 w166 q167 => ?_)
              refine fr_cvV h kX12 at_0M wX12_fault lX12_143 (c_X12_fault x1 z164 (by omega) (by omega) (by omega)) rfl (by omega) (by omega) rfl (Nat.le_of_ble_eq_true rfl) dX12_thing_97 (fun x168 p171 => ?_)
              obtain ⟨p172, f173, f174⟩ := p171
              refine fr_iconst h dX12_thing_100 ?_
              have r175 := (f174 9 (by decide))
              have r176 := (f174 9 (by decide))
              exact fr_iret h hq (by omega) ⟨(by omega), (by omega), (fun a k0 => ((f173 a (by omega)).trans (f8 a (by omega)))), (fun i k0 k1 => ((f174 i (by omega)).trans (f9 i (by omega))))⟩ dX12_thing_101
          ·
            refine fr_aload_n h rfl 0 rfl dX12_thing_78 ?_
            refine fr_iconst h dX12_thing_79 ?_
            have r177 := (f9 6 (by decide))
            have r178 := (f9 8 (by decide))
            have r179 := (f9 6 (by decide))
            have r180 := (f9 8 (by decide))
            have r181 := (f9 6 (by decide))
            have r182 := (f9 8 (by decide))
            have r183 := (f9 8 (by decide))
            refine fr_cvI h kX12 at_0M wX12_number lX12_154 (c_X12_number x1 3 (by omega) (by omega) (by omega) (by omega)) rfl (by omega) (by omega) rfl (Nat.le_of_ble_eq_true rfl) dX12_thing_80 (fun z185 x184 w186 p187 => ?_)
            obtain ⟨p188, p189, p190, p191, p192, f193, f194⟩ := p187
            exact fr_iret h hq (by omega) ⟨(by omega), (by omega), (fun a k0 => ((f193 a (by omega)).trans (f8 a (by omega)))), (fun i k0 k1 => ((f194 i (by omega) (by omega)).trans (f9 i (by omega))))⟩ dX12_thing_83
        ·
          refine fr_aload_n h rfl 0 rfl dX12_thing_41 ?_
          refine fr_dup h rfl dX12_thing_42 ?_
          refine fr_geti (iz := 9) h kX12 fX12_121 at_0M rfl rfl (by decide) (by decide) rfM_9 dX12_thing_43 (fun z195 w196 w197 q198 => ?_)
          refine fr_iconst h dX12_thing_46 ?_
          refine fr_iadd h dX12_thing_47 ?_
          refine fr_puti (iz := 9) h kX12 fX12_121 at_0M rfl rfl (by decide) (by decide) rfl (by decide +kernel) rfM_9 (by omega) (by omega) dX12_thing_48 ?_
          refine fr_mem (fun x199 m200 => ?_)
          refine fr_aload_n h rfl 0 rfl dX12_thing_51 ?_
          refine fr_iload_n h rfl 1 rfl dX12_thing_52 ?_
          refine fr_iconst h dX12_thing_53 ?_
          refine fr_iadd h dX12_thing_54 ?_
          have r201 := (fm_rd_i (a := 0) (b := 6) m200 (by decide))
          have r202 := r201.trans (f9 6 (by decide))
          have r203 := (fm_rd_i (a := 0) (b := 8) m200 (by decide))
          have r204 := r203.trans (f9 8 (by decide))
          have r205 := (fm_rd_i (a := 0) (b := 6) m200 (by decide))
          have r206 := r205.trans (f9 6 (by decide))
          have r207 := (fm_rd_i (a := 0) (b := 8) m200 (by decide))
          have r208 := r207.trans (f9 8 (by decide))
          have r209 := (fm_rd_i (a := 0) (b := 6) m200 (by decide))
          have r210 := r209.trans (f9 6 (by decide))
          have r211 := (fm_rd_i (a := 0) (b := 8) m200 (by decide))
          have r212 := r211.trans (f9 8 (by decide))
          have r213 := (fm_rd_s m200)
          have r214 := (fm_rd_i (a := 0) (b := 8) m200 (by decide))
          have r215 := r214.trans (f9 8 (by decide))
          have r220 := (fm_rd_i (a := 0) (b := 8) m200 (by decide))
          have r221 := r220.trans (f9 8 (by decide))
          have r222 := (fm_rd_s m200)
          refine fr_cvI h kX12 at_0M wX12_held lX12_181 (ih.2.2.2 x199 (p + 1) (by omega) (by omega) (by omega) (by omega) (by omega)) rfl (by omega) (by omega) rfl (Nat.le_of_ble_eq_true rfl) dX12_thing_55 (fun z217 x216 w218 p219 => ?_)
          obtain ⟨p223, p224, f225, f226⟩ := p219
          refine fr_istore_n (L' := [(0, vr G 0), (1, vi p), (2, vi z27), (3, vi z217)]) h rfl dX12_thing_58 (by decide) [1, 2, 3, 0] rfl ?_
          refine fr_aload_n h rfl 0 rfl dX12_thing_59 ?_
          refine fr_bipush h rfl dX12_thing_60 ?_
          have r227 := (f226 6 (by decide) (by decide))
          have r228 := r227.trans (fm_rd_i (a := 0) (b := 6) m200 (by decide))
          have r229 := r228.trans (f9 6 (by decide))
          have r230 := (f226 8 (by decide) (by decide))
          have r231 := r230.trans (fm_rd_i (a := 0) (b := 8) m200 (by decide))
          have r232 := r231.trans (f9 8 (by decide))
          have r233 := (f226 6 (by decide) (by decide))
          have r234 := r233.trans (fm_rd_i (a := 0) (b := 6) m200 (by decide))
          have r235 := r234.trans (f9 6 (by decide))
          have r236 := (f226 8 (by decide) (by decide))
          have r237 := r236.trans (fm_rd_i (a := 0) (b := 8) m200 (by decide))
          have r238 := r237.trans (f9 8 (by decide))
          have r239 := (f226 6 (by decide) (by decide))
          have r240 := r239.trans (fm_rd_i (a := 0) (b := 6) m200 (by decide))
          have r241 := r240.trans (f9 6 (by decide))
          have r242 := (f226 8 (by decide) (by decide))
          have r243 := r242.trans (fm_rd_i (a := 0) (b := 8) m200 (by decide))
          have r244 := r243.trans (f9 8 (by decide))
          have r245 := (fm_rd_s m200)
          have r246 := (f226 8 (by decide) (by decide))
          have r247 := r246.trans (fm_rd_i (a := 0) (b := 8) m200 (by decide))
          have r248 := r247.trans (f9 8 (by decide))
          refine fr_cvV h kX12 at_0M wX12_need lX12_184 (c_X12_need x216 41 (by omega) (by omega) (by omega) (by omega)) rfl (by omega) (by omega) rfl (Nat.le_of_ble_eq_true rfl) dX12_thing_62 (fun x249 p252 => ?_)
          obtain ⟨p253, p254, f255, f256⟩ := p252
          refine fr_iload_n h rfl 3 rfl dX12_thing_65 ?_
          have r257 := (fm_rd_s m200)
          have r258 := (fm_rd_s m200)
          exact fr_iret h hq (by omega) ⟨(by omega), (by omega), (fun a k0 => ((f255 a (by omega)).trans ((f225 a (by omega)).trans ((fm_up_row m200 (by omega)).trans (f8 a (by omega)))))), (fun i k0 k1 => ((f256 i (by omega) (by omega)).trans ((f226 i (by omega) (by omega)).trans ((fm_rd_i (a := 0) (b := i) m200 (by omega)).trans (f9 i (by omega))))))⟩ dX12_thing_66
    ·
      refine fr_iconst h dX12_thing_23 ?_
      exact fr_iret h hq (by omega) ⟨(by omega), (by omega), (fun a k0 => (f8 a (by omega))), (fun i k0 k1 => (f9 i (by omega)))⟩ dX12_thing_24
  ·
    refine fr_aload_n h rfl 0 rfl dX12_thing_9 ?_
    refine fr_iload_n h rfl 1 rfl dX12_thing_10 ?_
    have r259 := (f9 6 (by decide))
    have r260 := (f9 8 (by decide))
    have r261 := (f9 6 (by decide))
    have r262 := (f9 8 (by decide))
    have r263 := (f9 6 (by decide))
    have r264 := (f9 8 (by decide))
    have r265 := (f9 8 (by decide))
    have r270 := (f9 8 (by decide))
    refine fr_cvI h kX12 at_0M wX12_thing lX12_178 (ih.1 x1 p (by omega) (by omega) (by omega) (by omega) (by omega)) rfl (by omega) (by omega) rfl (Nat.le_of_ble_eq_true rfl) dX12_thing_11 (fun z267 x266 w268 p269 => ?_)
    obtain ⟨p271, p272, f273, f274⟩ := p269
    refine fr_ineg h dX12_thing_14 ?_
    refine fr_normi (fun z275 w276 q277 => ?_)
    have w278 : fm_r ((-z267)) → z275 = (-z267) := fun q => (iI_inj q w276 q277).symm
    exact fr_iret h hq (by omega) ⟨(by omega), (by omega), (fun a k0 => ((f273 a (by omega)).trans (f8 a (by omega)))), (fun i k0 k1 => ((f274 i (by omega) (by omega)).trans (f9 i (by omega))))⟩ dX12_thing_15
set_option maxHeartbeats 2000000 in
theorem c_X12_product_st (d : Nat) (ih : GRP_S d) : ∀ (x : Mm) (p : Int) (h_p : fm_r p) (e0 : ((x 0 6 = 2 ∧ x 0 8 ≤ 80) ∨ (x 0 6 = 5 ∧ x 0 8 ≤ 40) ∨ (x 0 6 = 6 ∧ x 0 8 ≤ 40)) ∧ x 0 9 ≤ x 0 8) (e1 : 0 ≤ p) (e2 : p ≤ 4), (4 * (x 0 8 - x 0 9) + 1) < ((d + 1 : Nat) : Int) → CnI YM yX12_product cX12_product 5 .int (d + 1 + 10) ((d + 1) * 30 + 200) (fun G => [vr G 0, vi p]) x (fun z y' => (x 0 9 ≤ y' 0 9) ∧ (y' 0 9 ≤ x 0 8) ∧ (∀ a : Int, (a < 0 ∨ 0 < a) → y' a = x a) ∧ (∀ i : Int, i ≠ 9 → i ≠ 10 → y' 0 i = x 0 i)) := by
  intro x p h_p e0 e1 e2 hmu
  refine cn_I (by decide) (fun _ => Nat.le_of_ble_eq_true rfl) (fun G C h hq => ?_)
  have h : OK YM G C cX12_product RX12 5 (some .int) (d + 1 + 10) ((d + 1) * 30 + 200) := h
  show FW YM G C 5 x 0 [(0, vr G 0), (1, vi p)] []
  refine fr_aload_n h rfl 0 rfl dX12_product_0 ?_
  refine fr_iload_n h rfl 1 rfl dX12_product_1 ?_
  refine fr_cvI h kX12 at_0M wX12_thing lX12_178 (ih.1 x p (by omega) (by omega) (by omega) (by omega) (by omega)) rfl (by omega) (by omega) rfl (Nat.le_of_ble_eq_true rfl) dX12_product_2 (fun z2 x1 w3 p4 => ?_)
  obtain ⟨p5, p6, f7, f8⟩ := p4
  refine fr_istore_n (L' := [(0, vr G 0), (1, vi p), (2, vi z2)]) h rfl dX12_product_5 (by decide) [1, 2, 0] rfl ?_
  have HL9 : ∀ (n9 : Nat) (l2_9 : Int) (x_9 : Mm), fm_r l2_9 → x 0 9 ≤ x_9 0 9 → x_9 0 9 ≤ x 0 8 → (∀ a : Int, (a < 0 ∨ 0 < a) → x_9 a = x1 a) → (∀ i : Int, i ≠ 9 → i ≠ 10 → x_9 0 i = x1 0 i) → (x 0 8 - x_9 0 9) < n9 → FW YM G C 5 x_9 6 [(0, vr G 0), (1, vi p), (2, vi l2_9)] [] := by
    intro n9
    induction n9 with
    | zero =>
      intro l2_9 x_9 g9_0 g9_1 g9_2 g9_3 g9_4 g9_5
      exfalso; omega
    | succ n9 ih9 =>
      intro l2_9 x_9 g9_0 g9_1 g9_2 g9_3 g9_4 g9_5
      refine fr_aload_n h rfl 0 rfl dX12_product_6 ?_
      refine fr_cvI h kX12 at_0M wX12_fine lX12_131 (c_X12_fine x_9) rfl (by omega) (by omega) rfl (Nat.le_of_ble_eq_true rfl) dX12_product_7 (fun z11 x10 w12 p13 => ?_)
      obtain ⟨p14, p15, y16⟩ := p13
      rw [y16]
      clear y16
      refine fr_if_eq (tgt := 91) h dX12_product_10 (by decide) (by omega) (fun c17 => ?_) (fun c17 => ?_)
      ·
        refine fr_iload_n h rfl 2 rfl dX12_product_91 ?_
        exact fr_iret h hq (by omega) ⟨(by omega), (by omega), (fun a k0 => ((g9_3 a (by omega)).trans (f7 a (by omega)))), (fun i k0 k1 => ((g9_4 i (by omega) (by omega)).trans (f8 i (by omega) (by omega))))⟩ dX12_product_92
      ·
        refine fr_aload_n h rfl 0 rfl dX12_product_13 ?_
        have r18 := (g9_4 6 (by decide) (by decide))
        have r19 := r18.trans (f8 6 (by decide) (by decide))
        have r20 := (g9_4 8 (by decide) (by decide))
        have r21 := r20.trans (f8 8 (by decide) (by decide))
        have r22 := (g9_4 6 (by decide) (by decide))
        have r23 := r22.trans (f8 6 (by decide) (by decide))
        have r24 := (g9_4 8 (by decide) (by decide))
        have r25 := r24.trans (f8 8 (by decide) (by decide))
        have r26 := (g9_4 6 (by decide) (by decide))
        have r27 := r26.trans (f8 6 (by decide) (by decide))
        have r28 := (g9_4 8 (by decide) (by decide))
        have r29 := r28.trans (f8 8 (by decide) (by decide))
        have r30 := (g9_4 8 (by decide) (by decide))
        have r31 := r30.trans (f8 8 (by decide) (by decide))
        refine fr_cvI h kX12 at_0M wX12_here lX12_135 (c_X12_here x_9 (by omega)) rfl (by omega) (by omega) rfl (Nat.le_of_ble_eq_true rfl) dX12_product_14 (fun z33 x32 w34 p35 => ?_)
        obtain ⟨p36, p37, p38, p39, y40⟩ := p35
        rw [y40]
        clear y40
        refine fr_bipush h rfl dX12_product_17 ?_
        refine fr_icmp_eq (tgt := 31) h dX12_product_19 (by decide) (by omega) (by omega) (fun c41 => ?_) (fun c41 => ?_)
        ·
          refine fr_aload_n h rfl 0 rfl dX12_product_31 ?_
          have r42 := (g9_4 6 (by decide) (by decide))
          have r43 := r42.trans (f8 6 (by decide) (by decide))
          have r44 := (g9_4 8 (by decide) (by decide))
          have r45 := r44.trans (f8 8 (by decide) (by decide))
          have r46 := (g9_4 6 (by decide) (by decide))
          have r47 := r46.trans (f8 6 (by decide) (by decide))
          have r48 := (g9_4 8 (by decide) (by decide))
          have r49 := r48.trans (f8 8 (by decide) (by decide))
          have r50 := (g9_4 6 (by decide) (by decide))
          have r51 := r50.trans (f8 6 (by decide) (by decide))
          have r52 := (g9_4 8 (by decide) (by decide))
          have r53 := r52.trans (f8 8 (by decide) (by decide))
          have r54 := (g9_4 8 (by decide) (by decide))
          have r55 := r54.trans (f8 8 (by decide) (by decide))
          refine fr_cvI h kX12 at_0M wX12_here lX12_135 (c_X12_here x_9 (by omega)) rfl (by omega) (by omega) rfl (Nat.le_of_ble_eq_true rfl) dX12_product_32 (fun z57 x56 w58 p59 => ?_)
          obtain ⟨p60, p61, p62, p63, y64⟩ := p59
          rw [y64]
          clear y64
          refine fr_bipush h rfl dX12_product_35 ?_
          refine fr_icmp_ne (tgt := 44) h dX12_product_37 (by decide) (by omega) (by omega) (fun c65 => ?_) (fun c65 => ?_)
          ·
            refine fr_iconst h dX12_product_44 ?_
            refine fr_istore_n (L' := [(0, vr G 0), (1, vi p), (2, vi l2_9), (3, vi 0)]) h rfl dX12_product_45 (by decide) [1, 2, 3, 0] rfl ?_
            refine fr_aload_n h rfl 0 rfl dX12_product_46 ?_
            refine fr_dup h rfl dX12_product_47 ?_
            refine fr_geti (iz := 9) h kX12 fX12_121 at_0M rfl rfl (by decide) (by decide) rfM_9 dX12_product_48 (fun z66 w67 w68 q69 => ?_)
            refine fr_iconst h dX12_product_51 ?_
            refine fr_iadd h dX12_product_52 ?_
            refine fr_puti (iz := 9) h kX12 fX12_121 at_0M rfl rfl (by decide) (by decide) rfl (by decide +kernel) rfM_9 (by omega) (by omega) dX12_product_53 ?_
            refine fr_mem (fun x70 m71 => ?_)
            refine fr_aload_n h rfl 0 rfl dX12_product_56 ?_
            refine fr_iload_n h rfl 1 rfl dX12_product_57 ?_
            have r72 := (fm_rd_i (a := 0) (b := 6) m71 (by decide))
            have r73 := r72.trans (g9_4 6 (by decide) (by decide))
            have r74 := r73.trans (f8 6 (by decide) (by decide))
            have r75 := (fm_rd_i (a := 0) (b := 8) m71 (by decide))
            have r76 := r75.trans (g9_4 8 (by decide) (by decide))
            have r77 := r76.trans (f8 8 (by decide) (by decide))
            have r78 := (fm_rd_i (a := 0) (b := 6) m71 (by decide))
            have r79 := r78.trans (g9_4 6 (by decide) (by decide))
            have r80 := r79.trans (f8 6 (by decide) (by decide))
            have r81 := (fm_rd_i (a := 0) (b := 8) m71 (by decide))
            have r82 := r81.trans (g9_4 8 (by decide) (by decide))
            have r83 := r82.trans (f8 8 (by decide) (by decide))
            have r84 := (fm_rd_i (a := 0) (b := 6) m71 (by decide))
            have r85 := r84.trans (g9_4 6 (by decide) (by decide))
            have r86 := r85.trans (f8 6 (by decide) (by decide))
            have r87 := (fm_rd_i (a := 0) (b := 8) m71 (by decide))
            have r88 := r87.trans (g9_4 8 (by decide) (by decide))
            have r89 := r88.trans (f8 8 (by decide) (by decide))
            have r90 := (fm_rd_s m71)
            have r91 := (fm_rd_i (a := 0) (b := 8) m71 (by decide))
            have r92 := r91.trans (g9_4 8 (by decide) (by decide))
            have r93 := r92.trans (f8 8 (by decide) (by decide))
            have r98 := (fm_rd_i (a := 0) (b := 8) m71 (by decide))
            have r99 := r98.trans (g9_4 8 (by decide) (by decide))
            have r100 := r99.trans (f8 8 (by decide) (by decide))
            have r101 := (fm_rd_s m71)
            refine fr_cvI h kX12 at_0M wX12_thing lX12_178 (ih.1 x70 p (by omega) (by omega) (by omega) (by omega) (by omega)) rfl (by omega) (by omega) rfl (Nat.le_of_ble_eq_true rfl) dX12_product_58 (fun z95 x94 w96 p97 => ?_)
            obtain ⟨p102, p103, f104, f105⟩ := p97
            refine fr_istore (L' := [(0, vr G 0), (1, vi p), (2, vi l2_9), (3, vi 0), (4, vi z95)]) h dX12_product_61 (by decide) [1, 2, 3, 4, 0] rfl ?_
            refine fr_iload_n h rfl 3 rfl dX12_product_63 ?_
            refine fr_if_eq (tgt := 74) h dX12_product_64 (by decide) (by omega) (fun c106 => ?_) (fun c106 => by exfalso; omega)
            refine fr_iload h 4 rfl dX12_product_74 ?_
            refine fr_if_ne (tgt := 83) h dX12_product_76 (by decide) (by omega) (fun c107 => ?_) (fun c107 => ?_)
            ·
              refine fr_iload_n h rfl 2 rfl dX12_product_83 ?_
              refine fr_iload h 4 rfl dX12_product_84 ?_
              refine fr_idiv h (by omega) (by omega) (by omega) dX12_product_86 (fun z108 w109 q110 w111 => ?_)
              refine fr_istore_n (L' := [(0, vr G 0), (1, vi p), (2, vi z108), (3, vi 0), (4, vi z95)]) h rfl dX12_product_87 (by decide) [1, 2, 0, 3, 4] rfl ?_
              refine fr_goto (tgt := 6) h dX12_product_88 (by decide) ?_
              refine fr_sub (L' := [(0, vr G 0), (1, vi p), (2, vi z108)]) [0, 1, 2] rfl ?_
              have r112 := (fm_rd_s m71)
              have r113 := (fm_rd_s m71)
              exact ih9 z108 x94 (by omega) (by omega) (by omega) (fun a k0 => ((f104 a (by omega)).trans ((fm_up_row m71 (by omega)).trans (g9_3 a (by omega))))) (fun i k0 k1 => ((f105 i (by omega) (by omega)).trans ((fm_rd_i (a := 0) (b := i) m71 (by omega)).trans (g9_4 i (by omega) (by omega))))) (by omega)
            ·
              refine fr_iconst h dX12_product_79 ?_
              refine fr_goto (tgt := 87) h dX12_product_80 (by decide) ?_
              refine fr_istore_n (L' := [(0, vr G 0), (1, vi p), (2, vi 0), (3, vi 0), (4, vi z95)]) h rfl dX12_product_87 (by decide) [1, 2, 0, 3, 4] rfl ?_
              refine fr_goto (tgt := 6) h dX12_product_88 (by decide) ?_
              refine fr_sub (L' := [(0, vr G 0), (1, vi p), (2, vi 0)]) [0, 1, 2] rfl ?_
              have r114 := (fm_rd_s m71)
              have r115 := (fm_rd_s m71)
              exact ih9 0 x94 (by omega) (by omega) (by omega) (fun a k0 => ((f104 a (by omega)).trans ((fm_up_row m71 (by omega)).trans (g9_3 a (by omega))))) (fun i k0 k1 => ((f105 i (by omega) (by omega)).trans ((fm_rd_i (a := 0) (b := i) m71 (by omega)).trans (g9_4 i (by omega) (by omega))))) (by omega)
          ·
            refine fr_iconst h dX12_product_40 ?_
            refine fr_goto (tgt := 45) h dX12_product_41 (by decide) ?_
            refine fr_istore_n (L' := [(0, vr G 0), (1, vi p), (2, vi l2_9), (3, vi 1)]) h rfl dX12_product_45 (by decide) [1, 2, 3, 0] rfl ?_
            refine fr_aload_n h rfl 0 rfl dX12_product_46 ?_
            refine fr_dup h rfl dX12_product_47 ?_
            refine fr_geti (iz := 9) h kX12 fX12_121 at_0M rfl rfl (by decide) (by decide) rfM_9 dX12_product_48 (fun z116 w117 w118 q119 => ?_)
            refine fr_iconst h dX12_product_51 ?_
            refine fr_iadd h dX12_product_52 ?_
            refine fr_puti (iz := 9) h kX12 fX12_121 at_0M rfl rfl (by decide) (by decide) rfl (by decide +kernel) rfM_9 (by omega) (by omega) dX12_product_53 ?_
            refine fr_mem (fun x120 m121 => ?_)
            refine fr_aload_n h rfl 0 rfl dX12_product_56 ?_
            refine fr_iload_n h rfl 1 rfl dX12_product_57 ?_
            have r122 := (fm_rd_i (a := 0) (b := 6) m121 (by decide))
            have r123 := r122.trans (g9_4 6 (by decide) (by decide))
            have r124 := r123.trans (f8 6 (by decide) (by decide))
            have r125 := (fm_rd_i (a := 0) (b := 8) m121 (by decide))
            have r126 := r125.trans (g9_4 8 (by decide) (by decide))
            have r127 := r126.trans (f8 8 (by decide) (by decide))
            have r128 := (fm_rd_i (a := 0) (b := 6) m121 (by decide))
            have r129 := r128.trans (g9_4 6 (by decide) (by decide))
            have r130 := r129.trans (f8 6 (by decide) (by decide))
            have r131 := (fm_rd_i (a := 0) (b := 8) m121 (by decide))
            have r132 := r131.trans (g9_4 8 (by decide) (by decide))
            have r133 := r132.trans (f8 8 (by decide) (by decide))
            have r134 := (fm_rd_i (a := 0) (b := 6) m121 (by decide))
            have r135 := r134.trans (g9_4 6 (by decide) (by decide))
            have r136 := r135.trans (f8 6 (by decide) (by decide))
            have r137 := (fm_rd_i (a := 0) (b := 8) m121 (by decide))
            have r138 := r137.trans (g9_4 8 (by decide) (by decide))
            have r139 := r138.trans (f8 8 (by decide) (by decide))
            have r140 := (fm_rd_s m121)
            have r141 := (fm_rd_i (a := 0) (b := 8) m121 (by decide))
            have r142 := r141.trans (g9_4 8 (by decide) (by decide))
            have r143 := r142.trans (f8 8 (by decide) (by decide))
            have r148 := (fm_rd_i (a := 0) (b := 8) m121 (by decide))
            have r149 := r148.trans (g9_4 8 (by decide) (by decide))
            have r150 := r149.trans (f8 8 (by decide) (by decide))
            have r151 := (fm_rd_s m121)
            refine fr_cvI h kX12 at_0M wX12_thing lX12_178 (ih.1 x120 p (by omega) (by omega) (by omega) (by omega) (by omega)) rfl (by omega) (by omega) rfl (Nat.le_of_ble_eq_true rfl) dX12_product_58 (fun z145 x144 w146 p147 => ?_)
            obtain ⟨p152, p153, f154, f155⟩ := p147
            refine fr_istore (L' := [(0, vr G 0), (1, vi p), (2, vi l2_9), (3, vi 1), (4, vi z145)]) h dX12_product_61 (by decide) [1, 2, 3, 4, 0] rfl ?_
            refine fr_iload_n h rfl 3 rfl dX12_product_63 ?_
            refine fr_if_eq (tgt := 74) h dX12_product_64 (by decide) (by omega) (fun c156 => by exfalso; omega) (fun c156 => ?_)
            refine fr_iload_n h rfl 2 rfl dX12_product_67 ?_
            refine fr_iload h 4 rfl dX12_product_68 ?_
            refine fr_imul h dX12_product_70 ?_
            refine fr_normi (fun z157 w158 q159 => ?_)
            have w160 : fm_r ((l2_9 * z145)) → z157 = (l2_9 * z145) := fun q => (iI_inj q w158 q159).symm
            refine fr_goto (tgt := 87) h dX12_product_71 (by decide) ?_
            refine fr_istore_n (L' := [(0, vr G 0), (1, vi p), (2, vi z157), (3, vi 1), (4, vi z145)]) h rfl dX12_product_87 (by decide) [1, 2, 0, 3, 4] rfl ?_
            refine fr_goto (tgt := 6) h dX12_product_88 (by decide) ?_
            refine fr_sub (L' := [(0, vr G 0), (1, vi p), (2, vi z157)]) [0, 1, 2] rfl ?_
            have r161 := (fm_rd_s m121)
            have r162 := (fm_rd_s m121)
            exact ih9 z157 x144 (by omega) (by omega) (by omega) (fun a k0 => ((f154 a (by omega)).trans ((fm_up_row m121 (by omega)).trans (g9_3 a (by omega))))) (fun i k0 k1 => ((f155 i (by omega) (by omega)).trans ((fm_rd_i (a := 0) (b := i) m121 (by omega)).trans (g9_4 i (by omega) (by omega))))) (by omega)
        ·
          refine fr_aload_n h rfl 0 rfl dX12_product_22 ?_
          have r163 := (g9_4 6 (by decide) (by decide))
          have r164 := r163.trans (f8 6 (by decide) (by decide))
          have r165 := (g9_4 8 (by decide) (by decide))
          have r166 := r165.trans (f8 8 (by decide) (by decide))
          have r167 := (g9_4 6 (by decide) (by decide))
          have r168 := r167.trans (f8 6 (by decide) (by decide))
          have r169 := (g9_4 8 (by decide) (by decide))
          have r170 := r169.trans (f8 8 (by decide) (by decide))
          have r171 := (g9_4 6 (by decide) (by decide))
          have r172 := r171.trans (f8 6 (by decide) (by decide))
          have r173 := (g9_4 8 (by decide) (by decide))
          have r174 := r173.trans (f8 8 (by decide) (by decide))
          have r175 := (g9_4 8 (by decide) (by decide))
          have r176 := r175.trans (f8 8 (by decide) (by decide))
          refine fr_cvI h kX12 at_0M wX12_here lX12_135 (c_X12_here x_9 (by omega)) rfl (by omega) (by omega) rfl (Nat.le_of_ble_eq_true rfl) dX12_product_23 (fun z178 x177 w179 p180 => ?_)
          obtain ⟨p181, p182, p183, p184, y185⟩ := p180
          rw [y185]
          clear y185
          refine fr_bipush h rfl dX12_product_26 ?_
          refine fr_icmp_ne (tgt := 91) h dX12_product_28 (by decide) (by omega) (by omega) (fun c186 => ?_) (fun c186 => ?_)
          ·
            refine fr_iload_n h rfl 2 rfl dX12_product_91 ?_
            exact fr_iret h hq (by omega) ⟨(by omega), (by omega), (fun a k0 => ((g9_3 a (by omega)).trans (f7 a (by omega)))), (fun i k0 k1 => ((g9_4 i (by omega) (by omega)).trans (f8 i (by omega) (by omega))))⟩ dX12_product_92
          ·
            refine fr_aload_n h rfl 0 rfl dX12_product_31 ?_
            have r187 := (g9_4 6 (by decide) (by decide))
            have r188 := r187.trans (f8 6 (by decide) (by decide))
            have r189 := (g9_4 8 (by decide) (by decide))
            have r190 := r189.trans (f8 8 (by decide) (by decide))
            have r191 := (g9_4 6 (by decide) (by decide))
            have r192 := r191.trans (f8 6 (by decide) (by decide))
            have r193 := (g9_4 8 (by decide) (by decide))
            have r194 := r193.trans (f8 8 (by decide) (by decide))
            have r195 := (g9_4 6 (by decide) (by decide))
            have r196 := r195.trans (f8 6 (by decide) (by decide))
            have r197 := (g9_4 8 (by decide) (by decide))
            have r198 := r197.trans (f8 8 (by decide) (by decide))
            have r199 := (g9_4 8 (by decide) (by decide))
            have r200 := r199.trans (f8 8 (by decide) (by decide))
            refine fr_cvI h kX12 at_0M wX12_here lX12_135 (c_X12_here x_9 (by omega)) rfl (by omega) (by omega) rfl (Nat.le_of_ble_eq_true rfl) dX12_product_32 (fun z202 x201 w203 p204 => ?_)
            obtain ⟨p205, p206, p207, p208, y209⟩ := p204
            rw [y209]
            clear y209
            refine fr_bipush h rfl dX12_product_35 ?_
            refine fr_icmp_ne (tgt := 44) h dX12_product_37 (by decide) (by omega) (by omega) (fun c210 => ?_) (fun c210 => ?_)
            ·
              refine fr_iconst h dX12_product_44 ?_
              refine fr_istore_n (L' := [(0, vr G 0), (1, vi p), (2, vi l2_9), (3, vi 0)]) h rfl dX12_product_45 (by decide) [1, 2, 3, 0] rfl ?_
              refine fr_aload_n h rfl 0 rfl dX12_product_46 ?_
              refine fr_dup h rfl dX12_product_47 ?_
              refine fr_geti (iz := 9) h kX12 fX12_121 at_0M rfl rfl (by decide) (by decide) rfM_9 dX12_product_48 (fun z211 w212 w213 q214 => ?_)
              refine fr_iconst h dX12_product_51 ?_
              refine fr_iadd h dX12_product_52 ?_
              refine fr_puti (iz := 9) h kX12 fX12_121 at_0M rfl rfl (by decide) (by decide) rfl (by decide +kernel) rfM_9 (by omega) (by omega) dX12_product_53 ?_
              refine fr_mem (fun x215 m216 => ?_)
              refine fr_aload_n h rfl 0 rfl dX12_product_56 ?_
              refine fr_iload_n h rfl 1 rfl dX12_product_57 ?_
              have r217 := (fm_rd_i (a := 0) (b := 6) m216 (by decide))
              have r218 := r217.trans (g9_4 6 (by decide) (by decide))
              have r219 := r218.trans (f8 6 (by decide) (by decide))
              have r220 := (fm_rd_i (a := 0) (b := 8) m216 (by decide))
              have r221 := r220.trans (g9_4 8 (by decide) (by decide))
              have r222 := r221.trans (f8 8 (by decide) (by decide))
              have r223 := (fm_rd_i (a := 0) (b := 6) m216 (by decide))
              have r224 := r223.trans (g9_4 6 (by decide) (by decide))
              have r225 := r224.trans (f8 6 (by decide) (by decide))
              have r226 := (fm_rd_i (a := 0) (b := 8) m216 (by decide))
              have r227 := r226.trans (g9_4 8 (by decide) (by decide))
              have r228 := r227.trans (f8 8 (by decide) (by decide))
              have r229 := (fm_rd_i (a := 0) (b := 6) m216 (by decide))
              have r230 := r229.trans (g9_4 6 (by decide) (by decide))
              have r231 := r230.trans (f8 6 (by decide) (by decide))
              have r232 := (fm_rd_i (a := 0) (b := 8) m216 (by decide))
              have r233 := r232.trans (g9_4 8 (by decide) (by decide))
              have r234 := r233.trans (f8 8 (by decide) (by decide))
              have r235 := (fm_rd_s m216)
              have r236 := (fm_rd_i (a := 0) (b := 8) m216 (by decide))
              have r237 := r236.trans (g9_4 8 (by decide) (by decide))
              have r238 := r237.trans (f8 8 (by decide) (by decide))
              have r243 := (fm_rd_i (a := 0) (b := 8) m216 (by decide))
              have r244 := r243.trans (g9_4 8 (by decide) (by decide))
              have r245 := r244.trans (f8 8 (by decide) (by decide))
              have r246 := (fm_rd_s m216)
              refine fr_cvI h kX12 at_0M wX12_thing lX12_178 (ih.1 x215 p (by omega) (by omega) (by omega) (by omega) (by omega)) rfl (by omega) (by omega) rfl (Nat.le_of_ble_eq_true rfl) dX12_product_58 (fun z240 x239 w241 p242 => ?_)
              obtain ⟨p247, p248, f249, f250⟩ := p242
              refine fr_istore (L' := [(0, vr G 0), (1, vi p), (2, vi l2_9), (3, vi 0), (4, vi z240)]) h dX12_product_61 (by decide) [1, 2, 3, 4, 0] rfl ?_
              refine fr_iload_n h rfl 3 rfl dX12_product_63 ?_
              refine fr_if_eq (tgt := 74) h dX12_product_64 (by decide) (by omega) (fun c251 => ?_) (fun c251 => by exfalso; omega)
              refine fr_iload h 4 rfl dX12_product_74 ?_
              refine fr_if_ne (tgt := 83) h dX12_product_76 (by decide) (by omega) (fun c252 => ?_) (fun c252 => ?_)
              ·
                refine fr_iload_n h rfl 2 rfl dX12_product_83 ?_
                refine fr_iload h 4 rfl dX12_product_84 ?_
                refine fr_idiv h (by omega) (by omega) (by omega) dX12_product_86 (fun z253 w254 q255 w256 => ?_)
                refine fr_istore_n (L' := [(0, vr G 0), (1, vi p), (2, vi z253), (3, vi 0), (4, vi z240)]) h rfl dX12_product_87 (by decide) [1, 2, 0, 3, 4] rfl ?_
                refine fr_goto (tgt := 6) h dX12_product_88 (by decide) ?_
                refine fr_sub (L' := [(0, vr G 0), (1, vi p), (2, vi z253)]) [0, 1, 2] rfl ?_
                have r257 := (fm_rd_s m216)
                have r258 := (fm_rd_s m216)
                exact ih9 z253 x239 (by omega) (by omega) (by omega) (fun a k0 => ((f249 a (by omega)).trans ((fm_up_row m216 (by omega)).trans (g9_3 a (by omega))))) (fun i k0 k1 => ((f250 i (by omega) (by omega)).trans ((fm_rd_i (a := 0) (b := i) m216 (by omega)).trans (g9_4 i (by omega) (by omega))))) (by omega)
              ·
                refine fr_iconst h dX12_product_79 ?_
                refine fr_goto (tgt := 87) h dX12_product_80 (by decide) ?_
                refine fr_istore_n (L' := [(0, vr G 0), (1, vi p), (2, vi 0), (3, vi 0), (4, vi z240)]) h rfl dX12_product_87 (by decide) [1, 2, 0, 3, 4] rfl ?_
                refine fr_goto (tgt := 6) h dX12_product_88 (by decide) ?_
                refine fr_sub (L' := [(0, vr G 0), (1, vi p), (2, vi 0)]) [0, 1, 2] rfl ?_
                have r259 := (fm_rd_s m216)
                have r260 := (fm_rd_s m216)
                exact ih9 0 x239 (by omega) (by omega) (by omega) (fun a k0 => ((f249 a (by omega)).trans ((fm_up_row m216 (by omega)).trans (g9_3 a (by omega))))) (fun i k0 k1 => ((f250 i (by omega) (by omega)).trans ((fm_rd_i (a := 0) (b := i) m216 (by omega)).trans (g9_4 i (by omega) (by omega))))) (by omega)
            ·
              refine fr_iconst h dX12_product_40 ?_
              refine fr_goto (tgt := 45) h dX12_product_41 (by decide) ?_
              refine fr_istore_n (L' := [(0, vr G 0), (1, vi p), (2, vi l2_9), (3, vi 1)]) h rfl dX12_product_45 (by decide) [1, 2, 3, 0] rfl ?_
              refine fr_aload_n h rfl 0 rfl dX12_product_46 ?_
              refine fr_dup h rfl dX12_product_47 ?_
              refine fr_geti (iz := 9) h kX12 fX12_121 at_0M rfl rfl (by decide) (by decide) rfM_9 dX12_product_48 (fun z261 w262 w263 q264 => ?_)
              refine fr_iconst h dX12_product_51 ?_
              refine fr_iadd h dX12_product_52 ?_
              refine fr_puti (iz := 9) h kX12 fX12_121 at_0M rfl rfl (by decide) (by decide) rfl (by decide +kernel) rfM_9 (by omega) (by omega) dX12_product_53 ?_
              refine fr_mem (fun x265 m266 => ?_)
              refine fr_aload_n h rfl 0 rfl dX12_product_56 ?_
              refine fr_iload_n h rfl 1 rfl dX12_product_57 ?_
              have r267 := (fm_rd_i (a := 0) (b := 6) m266 (by decide))
              have r268 := r267.trans (g9_4 6 (by decide) (by decide))
              have r269 := r268.trans (f8 6 (by decide) (by decide))
              have r270 := (fm_rd_i (a := 0) (b := 8) m266 (by decide))
              have r271 := r270.trans (g9_4 8 (by decide) (by decide))
              have r272 := r271.trans (f8 8 (by decide) (by decide))
              have r273 := (fm_rd_i (a := 0) (b := 6) m266 (by decide))
              have r274 := r273.trans (g9_4 6 (by decide) (by decide))
              have r275 := r274.trans (f8 6 (by decide) (by decide))
              have r276 := (fm_rd_i (a := 0) (b := 8) m266 (by decide))
              have r277 := r276.trans (g9_4 8 (by decide) (by decide))
              have r278 := r277.trans (f8 8 (by decide) (by decide))
              have r279 := (fm_rd_i (a := 0) (b := 6) m266 (by decide))
              have r280 := r279.trans (g9_4 6 (by decide) (by decide))
              have r281 := r280.trans (f8 6 (by decide) (by decide))
              have r282 := (fm_rd_i (a := 0) (b := 8) m266 (by decide))
              have r283 := r282.trans (g9_4 8 (by decide) (by decide))
              have r284 := r283.trans (f8 8 (by decide) (by decide))
              have r285 := (fm_rd_s m266)
              have r286 := (fm_rd_i (a := 0) (b := 8) m266 (by decide))
              have r287 := r286.trans (g9_4 8 (by decide) (by decide))
              have r288 := r287.trans (f8 8 (by decide) (by decide))
              have r293 := (fm_rd_i (a := 0) (b := 8) m266 (by decide))
              have r294 := r293.trans (g9_4 8 (by decide) (by decide))
              have r295 := r294.trans (f8 8 (by decide) (by decide))
              have r296 := (fm_rd_s m266)
              refine fr_cvI h kX12 at_0M wX12_thing lX12_178 (ih.1 x265 p (by omega) (by omega) (by omega) (by omega) (by omega)) rfl (by omega) (by omega) rfl (Nat.le_of_ble_eq_true rfl) dX12_product_58 (fun z290 x289 w291 p292 => ?_)
              obtain ⟨p297, p298, f299, f300⟩ := p292
              refine fr_istore (L' := [(0, vr G 0), (1, vi p), (2, vi l2_9), (3, vi 1), (4, vi z290)]) h dX12_product_61 (by decide) [1, 2, 3, 4, 0] rfl ?_
              refine fr_iload_n h rfl 3 rfl dX12_product_63 ?_
              refine fr_if_eq (tgt := 74) h dX12_product_64 (by decide) (by omega) (fun c301 => by exfalso; omega) (fun c301 => ?_)
              refine fr_iload_n h rfl 2 rfl dX12_product_67 ?_
              refine fr_iload h 4 rfl dX12_product_68 ?_
              refine fr_imul h dX12_product_70 ?_
              refine fr_normi (fun z302 w303 q304 => ?_)
              have w305 : fm_r ((l2_9 * z290)) → z302 = (l2_9 * z290) := fun q => (iI_inj q w303 q304).symm
              refine fr_goto (tgt := 87) h dX12_product_71 (by decide) ?_
              refine fr_istore_n (L' := [(0, vr G 0), (1, vi p), (2, vi z302), (3, vi 1), (4, vi z290)]) h rfl dX12_product_87 (by decide) [1, 2, 0, 3, 4] rfl ?_
              refine fr_goto (tgt := 6) h dX12_product_88 (by decide) ?_
              refine fr_sub (L' := [(0, vr G 0), (1, vi p), (2, vi z302)]) [0, 1, 2] rfl ?_
              have r306 := (fm_rd_s m266)
              have r307 := (fm_rd_s m266)
              exact ih9 z302 x289 (by omega) (by omega) (by omega) (fun a k0 => ((f299 a (by omega)).trans ((fm_up_row m266 (by omega)).trans (g9_3 a (by omega))))) (fun i k0 k1 => ((f300 i (by omega) (by omega)).trans ((fm_rd_i (a := 0) (b := i) m266 (by omega)).trans (g9_4 i (by omega) (by omega))))) (by omega)
  exact HL9 ((x 0 8 - x1 0 9) + 1 : Int).toNat z2 x1 (by omega) (by omega) (by omega) (fun a _ => rfl) (fun i _ _ => rfl) (by omega)
set_option maxHeartbeats 2000000 in
theorem c_X12_sum_st (d : Nat) (ih : GRP_S d) : ∀ (x : Mm) (p : Int) (h_p : fm_r p) (e0 : ((x 0 6 = 2 ∧ x 0 8 ≤ 80) ∨ (x 0 6 = 5 ∧ x 0 8 ≤ 40) ∨ (x 0 6 = 6 ∧ x 0 8 ≤ 40)) ∧ x 0 9 ≤ x 0 8) (e1 : 0 ≤ p) (e2 : p ≤ 4), (4 * (x 0 8 - x 0 9) + 2) < ((d + 1 : Nat) : Int) → CnI YM yX12_sum cX12_sum 5 .int (d + 1 + 10) ((d + 1) * 30 + 200) (fun G => [vr G 0, vi p]) x (fun z y' => (x 0 9 ≤ y' 0 9) ∧ (y' 0 9 ≤ x 0 8) ∧ (∀ a : Int, (a < 0 ∨ 0 < a) → y' a = x a) ∧ (∀ i : Int, i ≠ 9 → i ≠ 10 → y' 0 i = x 0 i)) := by
  intro x p h_p e0 e1 e2 hmu
  refine cn_I (by decide) (fun _ => Nat.le_of_ble_eq_true rfl) (fun G C h hq => ?_)
  have h : OK YM G C cX12_sum RX12 5 (some .int) (d + 1 + 10) ((d + 1) * 30 + 200) := h
  show FW YM G C 5 x 0 [(0, vr G 0), (1, vi p)] []
  refine fr_aload_n h rfl 0 rfl dX12_sum_0 ?_
  refine fr_iload_n h rfl 1 rfl dX12_sum_1 ?_
  refine fr_cvI h kX12 at_0M wX12_product lX12_175 (ih.2.1 x p (by omega) (by omega) (by omega) (by omega) (by omega)) rfl (by omega) (by omega) rfl (Nat.le_of_ble_eq_true rfl) dX12_sum_2 (fun z2 x1 w3 p4 => ?_)
  obtain ⟨p5, p6, f7, f8⟩ := p4
  refine fr_istore_n (L' := [(0, vr G 0), (1, vi p), (2, vi z2)]) h rfl dX12_sum_5 (by decide) [1, 2, 0] rfl ?_
  have HL9 : ∀ (n9 : Nat) (l2_9 : Int) (x_9 : Mm), fm_r l2_9 → x 0 9 ≤ x_9 0 9 → x_9 0 9 ≤ x 0 8 → (∀ a : Int, (a < 0 ∨ 0 < a) → x_9 a = x1 a) → (∀ i : Int, i ≠ 9 → i ≠ 10 → x_9 0 i = x1 0 i) → (x 0 8 - x_9 0 9) < n9 → FW YM G C 5 x_9 6 [(0, vr G 0), (1, vi p), (2, vi l2_9)] [] := by
    intro n9
    induction n9 with
    | zero =>
      intro l2_9 x_9 g9_0 g9_1 g9_2 g9_3 g9_4 g9_5
      exfalso; omega
    | succ n9 ih9 =>
      intro l2_9 x_9 g9_0 g9_1 g9_2 g9_3 g9_4 g9_5
      refine fr_aload_n h rfl 0 rfl dX12_sum_6 ?_
      refine fr_cvI h kX12 at_0M wX12_fine lX12_131 (c_X12_fine x_9) rfl (by omega) (by omega) rfl (Nat.le_of_ble_eq_true rfl) dX12_sum_7 (fun z11 x10 w12 p13 => ?_)
      obtain ⟨p14, p15, y16⟩ := p13
      rw [y16]
      clear y16
      refine fr_if_eq (tgt := 82) h dX12_sum_10 (by decide) (by omega) (fun c17 => ?_) (fun c17 => ?_)
      ·
        refine fr_iload_n h rfl 2 rfl dX12_sum_82 ?_
        exact fr_iret h hq (by omega) ⟨(by omega), (by omega), (fun a k0 => ((g9_3 a (by omega)).trans (f7 a (by omega)))), (fun i k0 k1 => ((g9_4 i (by omega) (by omega)).trans (f8 i (by omega) (by omega))))⟩ dX12_sum_83
      ·
        refine fr_aload_n h rfl 0 rfl dX12_sum_13 ?_
        have r18 := (g9_4 6 (by decide) (by decide))
        have r19 := r18.trans (f8 6 (by decide) (by decide))
        have r20 := (g9_4 8 (by decide) (by decide))
        have r21 := r20.trans (f8 8 (by decide) (by decide))
        have r22 := (g9_4 6 (by decide) (by decide))
        have r23 := r22.trans (f8 6 (by decide) (by decide))
        have r24 := (g9_4 8 (by decide) (by decide))
        have r25 := r24.trans (f8 8 (by decide) (by decide))
        have r26 := (g9_4 6 (by decide) (by decide))
        have r27 := r26.trans (f8 6 (by decide) (by decide))
        have r28 := (g9_4 8 (by decide) (by decide))
        have r29 := r28.trans (f8 8 (by decide) (by decide))
        have r30 := (g9_4 8 (by decide) (by decide))
        have r31 := r30.trans (f8 8 (by decide) (by decide))
        refine fr_cvI h kX12 at_0M wX12_here lX12_135 (c_X12_here x_9 (by omega)) rfl (by omega) (by omega) rfl (Nat.le_of_ble_eq_true rfl) dX12_sum_14 (fun z33 x32 w34 p35 => ?_)
        obtain ⟨p36, p37, p38, p39, y40⟩ := p35
        rw [y40]
        clear y40
        refine fr_bipush h rfl dX12_sum_17 ?_
        refine fr_icmp_eq (tgt := 31) h dX12_sum_19 (by decide) (by omega) (by omega) (fun c41 => ?_) (fun c41 => ?_)
        ·
          refine fr_aload_n h rfl 0 rfl dX12_sum_31 ?_
          have r42 := (g9_4 6 (by decide) (by decide))
          have r43 := r42.trans (f8 6 (by decide) (by decide))
          have r44 := (g9_4 8 (by decide) (by decide))
          have r45 := r44.trans (f8 8 (by decide) (by decide))
          have r46 := (g9_4 6 (by decide) (by decide))
          have r47 := r46.trans (f8 6 (by decide) (by decide))
          have r48 := (g9_4 8 (by decide) (by decide))
          have r49 := r48.trans (f8 8 (by decide) (by decide))
          have r50 := (g9_4 6 (by decide) (by decide))
          have r51 := r50.trans (f8 6 (by decide) (by decide))
          have r52 := (g9_4 8 (by decide) (by decide))
          have r53 := r52.trans (f8 8 (by decide) (by decide))
          have r54 := (g9_4 8 (by decide) (by decide))
          have r55 := r54.trans (f8 8 (by decide) (by decide))
          refine fr_cvI h kX12 at_0M wX12_here lX12_135 (c_X12_here x_9 (by omega)) rfl (by omega) (by omega) rfl (Nat.le_of_ble_eq_true rfl) dX12_sum_32 (fun z57 x56 w58 p59 => ?_)
          obtain ⟨p60, p61, p62, p63, y64⟩ := p59
          rw [y64]
          clear y64
          refine fr_bipush h rfl dX12_sum_35 ?_
          refine fr_icmp_ne (tgt := 44) h dX12_sum_37 (by decide) (by omega) (by omega) (fun c65 => ?_) (fun c65 => ?_)
          ·
            refine fr_iconst h dX12_sum_44 ?_
            refine fr_istore_n (L' := [(0, vr G 0), (1, vi p), (2, vi l2_9), (3, vi 0)]) h rfl dX12_sum_45 (by decide) [1, 2, 3, 0] rfl ?_
            refine fr_aload_n h rfl 0 rfl dX12_sum_46 ?_
            refine fr_dup h rfl dX12_sum_47 ?_
            refine fr_geti (iz := 9) h kX12 fX12_121 at_0M rfl rfl (by decide) (by decide) rfM_9 dX12_sum_48 (fun z66 w67 w68 q69 => ?_)
            refine fr_iconst h dX12_sum_51 ?_
            refine fr_iadd h dX12_sum_52 ?_
            refine fr_puti (iz := 9) h kX12 fX12_121 at_0M rfl rfl (by decide) (by decide) rfl (by decide +kernel) rfM_9 (by omega) (by omega) dX12_sum_53 ?_
            refine fr_mem (fun x70 m71 => ?_)
            refine fr_aload_n h rfl 0 rfl dX12_sum_56 ?_
            refine fr_iload_n h rfl 1 rfl dX12_sum_57 ?_
            have r72 := (fm_rd_i (a := 0) (b := 6) m71 (by decide))
            have r73 := r72.trans (g9_4 6 (by decide) (by decide))
            have r74 := r73.trans (f8 6 (by decide) (by decide))
            have r75 := (fm_rd_i (a := 0) (b := 8) m71 (by decide))
            have r76 := r75.trans (g9_4 8 (by decide) (by decide))
            have r77 := r76.trans (f8 8 (by decide) (by decide))
            have r78 := (fm_rd_i (a := 0) (b := 6) m71 (by decide))
            have r79 := r78.trans (g9_4 6 (by decide) (by decide))
            have r80 := r79.trans (f8 6 (by decide) (by decide))
            have r81 := (fm_rd_i (a := 0) (b := 8) m71 (by decide))
            have r82 := r81.trans (g9_4 8 (by decide) (by decide))
            have r83 := r82.trans (f8 8 (by decide) (by decide))
            have r84 := (fm_rd_i (a := 0) (b := 6) m71 (by decide))
            have r85 := r84.trans (g9_4 6 (by decide) (by decide))
            have r86 := r85.trans (f8 6 (by decide) (by decide))
            have r87 := (fm_rd_i (a := 0) (b := 8) m71 (by decide))
            have r88 := r87.trans (g9_4 8 (by decide) (by decide))
            have r89 := r88.trans (f8 8 (by decide) (by decide))
            have r90 := (fm_rd_s m71)
            have r91 := (fm_rd_i (a := 0) (b := 8) m71 (by decide))
            have r92 := r91.trans (g9_4 8 (by decide) (by decide))
            have r93 := r92.trans (f8 8 (by decide) (by decide))
            have r98 := (fm_rd_i (a := 0) (b := 8) m71 (by decide))
            have r99 := r98.trans (g9_4 8 (by decide) (by decide))
            have r100 := r99.trans (f8 8 (by decide) (by decide))
            have r101 := (fm_rd_s m71)
            refine fr_cvI h kX12 at_0M wX12_product lX12_175 (ih.2.1 x70 p (by omega) (by omega) (by omega) (by omega) (by omega)) rfl (by omega) (by omega) rfl (Nat.le_of_ble_eq_true rfl) dX12_sum_58 (fun z95 x94 w96 p97 => ?_)
            obtain ⟨p102, p103, f104, f105⟩ := p97
            refine fr_istore (L' := [(0, vr G 0), (1, vi p), (2, vi l2_9), (3, vi 0), (4, vi z95)]) h dX12_sum_61 (by decide) [1, 2, 3, 4, 0] rfl ?_
            refine fr_iload_n h rfl 3 rfl dX12_sum_63 ?_
            refine fr_if_eq (tgt := 74) h dX12_sum_64 (by decide) (by omega) (fun c106 => ?_) (fun c106 => by exfalso; omega)
            refine fr_iload_n h rfl 2 rfl dX12_sum_74 ?_
            refine fr_iload h 4 rfl dX12_sum_75 ?_
            refine fr_isub h dX12_sum_77 ?_
            refine fr_normi (fun z107 w108 q109 => ?_)
            have w110 : fm_r ((l2_9 - z95)) → z107 = (l2_9 - z95) := fun q => (iI_inj q w108 q109).symm
            refine fr_istore_n (L' := [(0, vr G 0), (1, vi p), (2, vi z107), (3, vi 0), (4, vi z95)]) h rfl dX12_sum_78 (by decide) [1, 2, 0, 3, 4] rfl ?_
            refine fr_goto (tgt := 6) h dX12_sum_79 (by decide) ?_
            refine fr_sub (L' := [(0, vr G 0), (1, vi p), (2, vi z107)]) [0, 1, 2] rfl ?_
            have r111 := (fm_rd_s m71)
            have r112 := (fm_rd_s m71)
            exact ih9 z107 x94 (by omega) (by omega) (by omega) (fun a k0 => ((f104 a (by omega)).trans ((fm_up_row m71 (by omega)).trans (g9_3 a (by omega))))) (fun i k0 k1 => ((f105 i (by omega) (by omega)).trans ((fm_rd_i (a := 0) (b := i) m71 (by omega)).trans (g9_4 i (by omega) (by omega))))) (by omega)
          ·
            refine fr_iconst h dX12_sum_40 ?_
            refine fr_goto (tgt := 45) h dX12_sum_41 (by decide) ?_
            refine fr_istore_n (L' := [(0, vr G 0), (1, vi p), (2, vi l2_9), (3, vi 1)]) h rfl dX12_sum_45 (by decide) [1, 2, 3, 0] rfl ?_
            refine fr_aload_n h rfl 0 rfl dX12_sum_46 ?_
            refine fr_dup h rfl dX12_sum_47 ?_
            refine fr_geti (iz := 9) h kX12 fX12_121 at_0M rfl rfl (by decide) (by decide) rfM_9 dX12_sum_48 (fun z113 w114 w115 q116 => ?_)
            refine fr_iconst h dX12_sum_51 ?_
            refine fr_iadd h dX12_sum_52 ?_
            refine fr_puti (iz := 9) h kX12 fX12_121 at_0M rfl rfl (by decide) (by decide) rfl (by decide +kernel) rfM_9 (by omega) (by omega) dX12_sum_53 ?_
            refine fr_mem (fun x117 m118 => ?_)
            refine fr_aload_n h rfl 0 rfl dX12_sum_56 ?_
            refine fr_iload_n h rfl 1 rfl dX12_sum_57 ?_
            have r119 := (fm_rd_i (a := 0) (b := 6) m118 (by decide))
            have r120 := r119.trans (g9_4 6 (by decide) (by decide))
            have r121 := r120.trans (f8 6 (by decide) (by decide))
            have r122 := (fm_rd_i (a := 0) (b := 8) m118 (by decide))
            have r123 := r122.trans (g9_4 8 (by decide) (by decide))
            have r124 := r123.trans (f8 8 (by decide) (by decide))
            have r125 := (fm_rd_i (a := 0) (b := 6) m118 (by decide))
            have r126 := r125.trans (g9_4 6 (by decide) (by decide))
            have r127 := r126.trans (f8 6 (by decide) (by decide))
            have r128 := (fm_rd_i (a := 0) (b := 8) m118 (by decide))
            have r129 := r128.trans (g9_4 8 (by decide) (by decide))
            have r130 := r129.trans (f8 8 (by decide) (by decide))
            have r131 := (fm_rd_i (a := 0) (b := 6) m118 (by decide))
            have r132 := r131.trans (g9_4 6 (by decide) (by decide))
            have r133 := r132.trans (f8 6 (by decide) (by decide))
            have r134 := (fm_rd_i (a := 0) (b := 8) m118 (by decide))
            have r135 := r134.trans (g9_4 8 (by decide) (by decide))
            have r136 := r135.trans (f8 8 (by decide) (by decide))
            have r137 := (fm_rd_s m118)
            have r138 := (fm_rd_i (a := 0) (b := 8) m118 (by decide))
            have r139 := r138.trans (g9_4 8 (by decide) (by decide))
            have r140 := r139.trans (f8 8 (by decide) (by decide))
            have r145 := (fm_rd_i (a := 0) (b := 8) m118 (by decide))
            have r146 := r145.trans (g9_4 8 (by decide) (by decide))
            have r147 := r146.trans (f8 8 (by decide) (by decide))
            have r148 := (fm_rd_s m118)
            refine fr_cvI h kX12 at_0M wX12_product lX12_175 (ih.2.1 x117 p (by omega) (by omega) (by omega) (by omega) (by omega)) rfl (by omega) (by omega) rfl (Nat.le_of_ble_eq_true rfl) dX12_sum_58 (fun z142 x141 w143 p144 => ?_)
            obtain ⟨p149, p150, f151, f152⟩ := p144
            refine fr_istore (L' := [(0, vr G 0), (1, vi p), (2, vi l2_9), (3, vi 1), (4, vi z142)]) h dX12_sum_61 (by decide) [1, 2, 3, 4, 0] rfl ?_
            refine fr_iload_n h rfl 3 rfl dX12_sum_63 ?_
            refine fr_if_eq (tgt := 74) h dX12_sum_64 (by decide) (by omega) (fun c153 => by exfalso; omega) (fun c153 => ?_)
            refine fr_iload_n h rfl 2 rfl dX12_sum_67 ?_
            refine fr_iload h 4 rfl dX12_sum_68 ?_
            refine fr_iadd h dX12_sum_70 ?_
            refine fr_normi (fun z154 w155 q156 => ?_)
            have w157 : fm_r ((l2_9 + z142)) → z154 = (l2_9 + z142) := fun q => (iI_inj q w155 q156).symm
            refine fr_goto (tgt := 78) h dX12_sum_71 (by decide) ?_
            refine fr_istore_n (L' := [(0, vr G 0), (1, vi p), (2, vi z154), (3, vi 1), (4, vi z142)]) h rfl dX12_sum_78 (by decide) [1, 2, 0, 3, 4] rfl ?_
            refine fr_goto (tgt := 6) h dX12_sum_79 (by decide) ?_
            refine fr_sub (L' := [(0, vr G 0), (1, vi p), (2, vi z154)]) [0, 1, 2] rfl ?_
            have r158 := (fm_rd_s m118)
            have r159 := (fm_rd_s m118)
            exact ih9 z154 x141 (by omega) (by omega) (by omega) (fun a k0 => ((f151 a (by omega)).trans ((fm_up_row m118 (by omega)).trans (g9_3 a (by omega))))) (fun i k0 k1 => ((f152 i (by omega) (by omega)).trans ((fm_rd_i (a := 0) (b := i) m118 (by omega)).trans (g9_4 i (by omega) (by omega))))) (by omega)
        ·
          refine fr_aload_n h rfl 0 rfl dX12_sum_22 ?_
          have r160 := (g9_4 6 (by decide) (by decide))
          have r161 := r160.trans (f8 6 (by decide) (by decide))
          have r162 := (g9_4 8 (by decide) (by decide))
          have r163 := r162.trans (f8 8 (by decide) (by decide))
          have r164 := (g9_4 6 (by decide) (by decide))
          have r165 := r164.trans (f8 6 (by decide) (by decide))
          have r166 := (g9_4 8 (by decide) (by decide))
          have r167 := r166.trans (f8 8 (by decide) (by decide))
          have r168 := (g9_4 6 (by decide) (by decide))
          have r169 := r168.trans (f8 6 (by decide) (by decide))
          have r170 := (g9_4 8 (by decide) (by decide))
          have r171 := r170.trans (f8 8 (by decide) (by decide))
          have r172 := (g9_4 8 (by decide) (by decide))
          have r173 := r172.trans (f8 8 (by decide) (by decide))
          refine fr_cvI h kX12 at_0M wX12_here lX12_135 (c_X12_here x_9 (by omega)) rfl (by omega) (by omega) rfl (Nat.le_of_ble_eq_true rfl) dX12_sum_23 (fun z175 x174 w176 p177 => ?_)
          obtain ⟨p178, p179, p180, p181, y182⟩ := p177
          rw [y182]
          clear y182
          refine fr_bipush h rfl dX12_sum_26 ?_
          refine fr_icmp_ne (tgt := 82) h dX12_sum_28 (by decide) (by omega) (by omega) (fun c183 => ?_) (fun c183 => ?_)
          ·
            refine fr_iload_n h rfl 2 rfl dX12_sum_82 ?_
            exact fr_iret h hq (by omega) ⟨(by omega), (by omega), (fun a k0 => ((g9_3 a (by omega)).trans (f7 a (by omega)))), (fun i k0 k1 => ((g9_4 i (by omega) (by omega)).trans (f8 i (by omega) (by omega))))⟩ dX12_sum_83
          ·
            refine fr_aload_n h rfl 0 rfl dX12_sum_31 ?_
            have r184 := (g9_4 6 (by decide) (by decide))
            have r185 := r184.trans (f8 6 (by decide) (by decide))
            have r186 := (g9_4 8 (by decide) (by decide))
            have r187 := r186.trans (f8 8 (by decide) (by decide))
            have r188 := (g9_4 6 (by decide) (by decide))
            have r189 := r188.trans (f8 6 (by decide) (by decide))
            have r190 := (g9_4 8 (by decide) (by decide))
            have r191 := r190.trans (f8 8 (by decide) (by decide))
            have r192 := (g9_4 6 (by decide) (by decide))
            have r193 := r192.trans (f8 6 (by decide) (by decide))
            have r194 := (g9_4 8 (by decide) (by decide))
            have r195 := r194.trans (f8 8 (by decide) (by decide))
            have r196 := (g9_4 8 (by decide) (by decide))
            have r197 := r196.trans (f8 8 (by decide) (by decide))
            refine fr_cvI h kX12 at_0M wX12_here lX12_135 (c_X12_here x_9 (by omega)) rfl (by omega) (by omega) rfl (Nat.le_of_ble_eq_true rfl) dX12_sum_32 (fun z199 x198 w200 p201 => ?_)
            obtain ⟨p202, p203, p204, p205, y206⟩ := p201
            rw [y206]
            clear y206
            refine fr_bipush h rfl dX12_sum_35 ?_
            refine fr_icmp_ne (tgt := 44) h dX12_sum_37 (by decide) (by omega) (by omega) (fun c207 => ?_) (fun c207 => ?_)
            ·
              refine fr_iconst h dX12_sum_44 ?_
              refine fr_istore_n (L' := [(0, vr G 0), (1, vi p), (2, vi l2_9), (3, vi 0)]) h rfl dX12_sum_45 (by decide) [1, 2, 3, 0] rfl ?_
              refine fr_aload_n h rfl 0 rfl dX12_sum_46 ?_
              refine fr_dup h rfl dX12_sum_47 ?_
              refine fr_geti (iz := 9) h kX12 fX12_121 at_0M rfl rfl (by decide) (by decide) rfM_9 dX12_sum_48 (fun z208 w209 w210 q211 => ?_)
              refine fr_iconst h dX12_sum_51 ?_
              refine fr_iadd h dX12_sum_52 ?_
              refine fr_puti (iz := 9) h kX12 fX12_121 at_0M rfl rfl (by decide) (by decide) rfl (by decide +kernel) rfM_9 (by omega) (by omega) dX12_sum_53 ?_
              refine fr_mem (fun x212 m213 => ?_)
              refine fr_aload_n h rfl 0 rfl dX12_sum_56 ?_
              refine fr_iload_n h rfl 1 rfl dX12_sum_57 ?_
              have r214 := (fm_rd_i (a := 0) (b := 6) m213 (by decide))
              have r215 := r214.trans (g9_4 6 (by decide) (by decide))
              have r216 := r215.trans (f8 6 (by decide) (by decide))
              have r217 := (fm_rd_i (a := 0) (b := 8) m213 (by decide))
              have r218 := r217.trans (g9_4 8 (by decide) (by decide))
              have r219 := r218.trans (f8 8 (by decide) (by decide))
              have r220 := (fm_rd_i (a := 0) (b := 6) m213 (by decide))
              have r221 := r220.trans (g9_4 6 (by decide) (by decide))
              have r222 := r221.trans (f8 6 (by decide) (by decide))
              have r223 := (fm_rd_i (a := 0) (b := 8) m213 (by decide))
              have r224 := r223.trans (g9_4 8 (by decide) (by decide))
              have r225 := r224.trans (f8 8 (by decide) (by decide))
              have r226 := (fm_rd_i (a := 0) (b := 6) m213 (by decide))
              have r227 := r226.trans (g9_4 6 (by decide) (by decide))
              have r228 := r227.trans (f8 6 (by decide) (by decide))
              have r229 := (fm_rd_i (a := 0) (b := 8) m213 (by decide))
              have r230 := r229.trans (g9_4 8 (by decide) (by decide))
              have r231 := r230.trans (f8 8 (by decide) (by decide))
              have r232 := (fm_rd_s m213)
              have r233 := (fm_rd_i (a := 0) (b := 8) m213 (by decide))
              have r234 := r233.trans (g9_4 8 (by decide) (by decide))
              have r235 := r234.trans (f8 8 (by decide) (by decide))
              have r240 := (fm_rd_i (a := 0) (b := 8) m213 (by decide))
              have r241 := r240.trans (g9_4 8 (by decide) (by decide))
              have r242 := r241.trans (f8 8 (by decide) (by decide))
              have r243 := (fm_rd_s m213)
              refine fr_cvI h kX12 at_0M wX12_product lX12_175 (ih.2.1 x212 p (by omega) (by omega) (by omega) (by omega) (by omega)) rfl (by omega) (by omega) rfl (Nat.le_of_ble_eq_true rfl) dX12_sum_58 (fun z237 x236 w238 p239 => ?_)
              obtain ⟨p244, p245, f246, f247⟩ := p239
              refine fr_istore (L' := [(0, vr G 0), (1, vi p), (2, vi l2_9), (3, vi 0), (4, vi z237)]) h dX12_sum_61 (by decide) [1, 2, 3, 4, 0] rfl ?_
              refine fr_iload_n h rfl 3 rfl dX12_sum_63 ?_
              refine fr_if_eq (tgt := 74) h dX12_sum_64 (by decide) (by omega) (fun c248 => ?_) (fun c248 => by exfalso; omega)
              refine fr_iload_n h rfl 2 rfl dX12_sum_74 ?_
              refine fr_iload h 4 rfl dX12_sum_75 ?_
              refine fr_isub h dX12_sum_77 ?_
              refine fr_normi (fun z249 w250 q251 => ?_)
              have w252 : fm_r ((l2_9 - z237)) → z249 = (l2_9 - z237) := fun q => (iI_inj q w250 q251).symm
              refine fr_istore_n (L' := [(0, vr G 0), (1, vi p), (2, vi z249), (3, vi 0), (4, vi z237)]) h rfl dX12_sum_78 (by decide) [1, 2, 0, 3, 4] rfl ?_
              refine fr_goto (tgt := 6) h dX12_sum_79 (by decide) ?_
              refine fr_sub (L' := [(0, vr G 0), (1, vi p), (2, vi z249)]) [0, 1, 2] rfl ?_
              have r253 := (fm_rd_s m213)
              have r254 := (fm_rd_s m213)
              exact ih9 z249 x236 (by omega) (by omega) (by omega) (fun a k0 => ((f246 a (by omega)).trans ((fm_up_row m213 (by omega)).trans (g9_3 a (by omega))))) (fun i k0 k1 => ((f247 i (by omega) (by omega)).trans ((fm_rd_i (a := 0) (b := i) m213 (by omega)).trans (g9_4 i (by omega) (by omega))))) (by omega)
            ·
              refine fr_iconst h dX12_sum_40 ?_
              refine fr_goto (tgt := 45) h dX12_sum_41 (by decide) ?_
              refine fr_istore_n (L' := [(0, vr G 0), (1, vi p), (2, vi l2_9), (3, vi 1)]) h rfl dX12_sum_45 (by decide) [1, 2, 3, 0] rfl ?_
              refine fr_aload_n h rfl 0 rfl dX12_sum_46 ?_
              refine fr_dup h rfl dX12_sum_47 ?_
              refine fr_geti (iz := 9) h kX12 fX12_121 at_0M rfl rfl (by decide) (by decide) rfM_9 dX12_sum_48 (fun z255 w256 w257 q258 => ?_)
              refine fr_iconst h dX12_sum_51 ?_
              refine fr_iadd h dX12_sum_52 ?_
              refine fr_puti (iz := 9) h kX12 fX12_121 at_0M rfl rfl (by decide) (by decide) rfl (by decide +kernel) rfM_9 (by omega) (by omega) dX12_sum_53 ?_
              refine fr_mem (fun x259 m260 => ?_)
              refine fr_aload_n h rfl 0 rfl dX12_sum_56 ?_
              refine fr_iload_n h rfl 1 rfl dX12_sum_57 ?_
              have r261 := (fm_rd_i (a := 0) (b := 6) m260 (by decide))
              have r262 := r261.trans (g9_4 6 (by decide) (by decide))
              have r263 := r262.trans (f8 6 (by decide) (by decide))
              have r264 := (fm_rd_i (a := 0) (b := 8) m260 (by decide))
              have r265 := r264.trans (g9_4 8 (by decide) (by decide))
              have r266 := r265.trans (f8 8 (by decide) (by decide))
              have r267 := (fm_rd_i (a := 0) (b := 6) m260 (by decide))
              have r268 := r267.trans (g9_4 6 (by decide) (by decide))
              have r269 := r268.trans (f8 6 (by decide) (by decide))
              have r270 := (fm_rd_i (a := 0) (b := 8) m260 (by decide))
              have r271 := r270.trans (g9_4 8 (by decide) (by decide))
              have r272 := r271.trans (f8 8 (by decide) (by decide))
              have r273 := (fm_rd_i (a := 0) (b := 6) m260 (by decide))
              have r274 := r273.trans (g9_4 6 (by decide) (by decide))
              have r275 := r274.trans (f8 6 (by decide) (by decide))
              have r276 := (fm_rd_i (a := 0) (b := 8) m260 (by decide))
              have r277 := r276.trans (g9_4 8 (by decide) (by decide))
              have r278 := r277.trans (f8 8 (by decide) (by decide))
              have r279 := (fm_rd_s m260)
              have r280 := (fm_rd_i (a := 0) (b := 8) m260 (by decide))
              have r281 := r280.trans (g9_4 8 (by decide) (by decide))
              have r282 := r281.trans (f8 8 (by decide) (by decide))
              have r287 := (fm_rd_i (a := 0) (b := 8) m260 (by decide))
              have r288 := r287.trans (g9_4 8 (by decide) (by decide))
              have r289 := r288.trans (f8 8 (by decide) (by decide))
              have r290 := (fm_rd_s m260)
              refine fr_cvI h kX12 at_0M wX12_product lX12_175 (ih.2.1 x259 p (by omega) (by omega) (by omega) (by omega) (by omega)) rfl (by omega) (by omega) rfl (Nat.le_of_ble_eq_true rfl) dX12_sum_58 (fun z284 x283 w285 p286 => ?_)
              obtain ⟨p291, p292, f293, f294⟩ := p286
              refine fr_istore (L' := [(0, vr G 0), (1, vi p), (2, vi l2_9), (3, vi 1), (4, vi z284)]) h dX12_sum_61 (by decide) [1, 2, 3, 4, 0] rfl ?_
              refine fr_iload_n h rfl 3 rfl dX12_sum_63 ?_
              refine fr_if_eq (tgt := 74) h dX12_sum_64 (by decide) (by omega) (fun c295 => by exfalso; omega) (fun c295 => ?_)
              refine fr_iload_n h rfl 2 rfl dX12_sum_67 ?_
              refine fr_iload h 4 rfl dX12_sum_68 ?_
              refine fr_iadd h dX12_sum_70 ?_
              refine fr_normi (fun z296 w297 q298 => ?_)
              have w299 : fm_r ((l2_9 + z284)) → z296 = (l2_9 + z284) := fun q => (iI_inj q w297 q298).symm
              refine fr_goto (tgt := 78) h dX12_sum_71 (by decide) ?_
              refine fr_istore_n (L' := [(0, vr G 0), (1, vi p), (2, vi z296), (3, vi 1), (4, vi z284)]) h rfl dX12_sum_78 (by decide) [1, 2, 0, 3, 4] rfl ?_
              refine fr_goto (tgt := 6) h dX12_sum_79 (by decide) ?_
              refine fr_sub (L' := [(0, vr G 0), (1, vi p), (2, vi z296)]) [0, 1, 2] rfl ?_
              have r300 := (fm_rd_s m260)
              have r301 := (fm_rd_s m260)
              exact ih9 z296 x283 (by omega) (by omega) (by omega) (fun a k0 => ((f293 a (by omega)).trans ((fm_up_row m260 (by omega)).trans (g9_3 a (by omega))))) (fun i k0 k1 => ((f294 i (by omega) (by omega)).trans ((fm_rd_i (a := 0) (b := i) m260 (by omega)).trans (g9_4 i (by omega) (by omega))))) (by omega)
  exact HL9 ((x 0 8 - x1 0 9) + 1 : Int).toNat z2 x1 (by omega) (by omega) (by omega) (fun a _ => rfl) (fun i _ _ => rfl) (by omega)
set_option maxHeartbeats 2000000 in
theorem c_X12_held_st (d : Nat) (ih : GRP_S d) : ∀ (x : Mm) (p : Int) (h_p : fm_r p) (e0 : ((x 0 6 = 2 ∧ x 0 8 ≤ 80) ∨ (x 0 6 = 5 ∧ x 0 8 ≤ 40) ∨ (x 0 6 = 6 ∧ x 0 8 ≤ 40)) ∧ x 0 9 ≤ x 0 8) (e1 : 0 ≤ p) (e2 : p ≤ 4), (4 * (x 0 8 - x 0 9) + 3) < ((d + 1 : Nat) : Int) → CnI YM yX12_held cX12_held 3 .int (d + 1 + 10) ((d + 1) * 30 + 200) (fun G => [vr G 0, vi p]) x (fun z y' => (x 0 9 ≤ y' 0 9) ∧ (y' 0 9 ≤ x 0 8) ∧ (∀ a : Int, (a < 0 ∨ 0 < a) → y' a = x a) ∧ (∀ i : Int, i ≠ 9 → i ≠ 10 → y' 0 i = x 0 i)) := by
  intro x p h_p e0 e1 e2 hmu
  refine cn_I (by decide) (fun _ => Nat.le_of_ble_eq_true rfl) (fun G C h hq => ?_)
  have h : OK YM G C cX12_held RX12 3 (some .int) (d + 1 + 10) ((d + 1) * 30 + 200) := h
  show FW YM G C 3 x 0 [(0, vr G 0), (1, vi p)] []
  refine fr_aload_n h rfl 0 rfl dX12_held_0 ?_
  refine fr_iload_n h rfl 1 rfl dX12_held_1 ?_
  refine fr_cvI h kX12 at_0M wX12_sum lX12_172 (ih.2.2.1 x p (by omega) (by omega) (by omega) (by omega) (by omega)) rfl (by omega) (by omega) rfl (Nat.le_of_ble_eq_true rfl) dX12_held_2 (fun z2 x1 w3 p4 => ?_)
  obtain ⟨p5, p6, f7, f8⟩ := p4
  refine fr_istore_n (L' := [(0, vr G 0), (1, vi p), (2, vi z2)]) h rfl dX12_held_5 (by decide) [1, 2, 0] rfl ?_
  refine fr_aload_n h rfl 0 rfl dX12_held_6 ?_
  refine fr_bipush h rfl dX12_held_7 ?_
  have r9 := (f8 6 (by decide) (by decide))
  have r10 := (f8 8 (by decide) (by decide))
  have r11 := (f8 6 (by decide) (by decide))
  have r12 := (f8 8 (by decide) (by decide))
  have r13 := (f8 6 (by decide) (by decide))
  have r14 := (f8 8 (by decide) (by decide))
  have r15 := (f8 8 (by decide) (by decide))
  refine fr_cvI h kX12 at_0M wX12_passes lX12_139 (c_X12_passes x1 60 (by omega) (by omega) (by omega) (by omega)) rfl (by omega) (by omega) rfl (Nat.le_of_ble_eq_true rfl) dX12_held_9 (fun z17 x16 w18 p19 => ?_)
  obtain ⟨p20, p21, p22, f23, f24⟩ := p19
  refine fr_if_eq (tgt := 30) h dX12_held_12 (by decide) (by omega) (fun c25 => ?_) (fun c25 => ?_)
  ·
    refine fr_aload_n h rfl 0 rfl dX12_held_30 ?_
    refine fr_bipush h rfl dX12_held_31 ?_
    have r26 := (f24 6 (by decide))
    have r27 := r26.trans (f8 6 (by decide) (by decide))
    have r28 := (f24 8 (by decide))
    have r29 := r28.trans (f8 8 (by decide) (by decide))
    have r30 := (f24 6 (by decide))
    have r31 := r30.trans (f8 6 (by decide) (by decide))
    have r32 := (f24 8 (by decide))
    have r33 := r32.trans (f8 8 (by decide) (by decide))
    have r34 := (f24 6 (by decide))
    have r35 := r34.trans (f8 6 (by decide) (by decide))
    have r36 := (f24 8 (by decide))
    have r37 := r36.trans (f8 8 (by decide) (by decide))
    have r38 := (f24 8 (by decide))
    have r39 := r38.trans (f8 8 (by decide) (by decide))
    refine fr_cvI h kX12 at_0M wX12_passes lX12_139 (c_X12_passes x16 62 (by omega) (by omega) (by omega) (by omega)) rfl (by omega) (by omega) rfl (Nat.le_of_ble_eq_true rfl) dX12_held_33 (fun z41 x40 w42 p43 => ?_)
    obtain ⟨p44, p45, p46, f47, f48⟩ := p43
    refine fr_if_eq (tgt := 54) h dX12_held_36 (by decide) (by omega) (fun c49 => ?_) (fun c49 => ?_)
    ·
      refine fr_aload_n h rfl 0 rfl dX12_held_54 ?_
      refine fr_bipush h rfl dX12_held_55 ?_
      have r50 := (f48 6 (by decide))
      have r51 := r50.trans (f24 6 (by decide))
      have r52 := r51.trans (f8 6 (by decide) (by decide))
      have r53 := (f48 8 (by decide))
      have r54 := r53.trans (f24 8 (by decide))
      have r55 := r54.trans (f8 8 (by decide) (by decide))
      have r56 := (f48 6 (by decide))
      have r57 := r56.trans (f24 6 (by decide))
      have r58 := r57.trans (f8 6 (by decide) (by decide))
      have r59 := (f48 8 (by decide))
      have r60 := r59.trans (f24 8 (by decide))
      have r61 := r60.trans (f8 8 (by decide) (by decide))
      have r62 := (f48 6 (by decide))
      have r63 := r62.trans (f24 6 (by decide))
      have r64 := r63.trans (f8 6 (by decide) (by decide))
      have r65 := (f48 8 (by decide))
      have r66 := r65.trans (f24 8 (by decide))
      have r67 := r66.trans (f8 8 (by decide) (by decide))
      have r68 := (f48 8 (by decide))
      have r69 := r68.trans (f24 8 (by decide))
      have r70 := r69.trans (f8 8 (by decide) (by decide))
      refine fr_cvI h kX12 at_0M wX12_passes lX12_139 (c_X12_passes x40 61 (by omega) (by omega) (by omega) (by omega)) rfl (by omega) (by omega) rfl (Nat.le_of_ble_eq_true rfl) dX12_held_57 (fun z72 x71 w73 p74 => ?_)
      obtain ⟨p75, p76, p77, f78, f79⟩ := p74
      refine fr_if_eq (tgt := 78) h dX12_held_60 (by decide) (by omega) (fun c80 => ?_) (fun c80 => ?_)
      ·
        refine fr_iload_n h rfl 2 rfl dX12_held_78 ?_
        exact fr_iret h hq (by omega) ⟨(by omega), (by omega), (fun a k0 => ((f78 a (by omega)).trans ((f47 a (by omega)).trans ((f23 a (by omega)).trans (f7 a (by omega)))))), (fun i k0 k1 => ((f79 i (by omega)).trans ((f48 i (by omega)).trans ((f24 i (by omega)).trans (f8 i (by omega) (by omega))))))⟩ dX12_held_79
      ·
        refine fr_iload_n h rfl 2 rfl dX12_held_63 ?_
        refine fr_aload_n h rfl 0 rfl dX12_held_64 ?_
        refine fr_iload_n h rfl 1 rfl dX12_held_65 ?_
        have r81 := (f79 6 (by decide))
        have r82 := r81.trans (f48 6 (by decide))
        have r83 := r82.trans (f24 6 (by decide))
        have r84 := r83.trans (f8 6 (by decide) (by decide))
        have r85 := (f79 8 (by decide))
        have r86 := r85.trans (f48 8 (by decide))
        have r87 := r86.trans (f24 8 (by decide))
        have r88 := r87.trans (f8 8 (by decide) (by decide))
        have r89 := (f79 6 (by decide))
        have r90 := r89.trans (f48 6 (by decide))
        have r91 := r90.trans (f24 6 (by decide))
        have r92 := r91.trans (f8 6 (by decide) (by decide))
        have r93 := (f79 8 (by decide))
        have r94 := r93.trans (f48 8 (by decide))
        have r95 := r94.trans (f24 8 (by decide))
        have r96 := r95.trans (f8 8 (by decide) (by decide))
        have r97 := (f79 6 (by decide))
        have r98 := r97.trans (f48 6 (by decide))
        have r99 := r98.trans (f24 6 (by decide))
        have r100 := r99.trans (f8 6 (by decide) (by decide))
        have r101 := (f79 8 (by decide))
        have r102 := r101.trans (f48 8 (by decide))
        have r103 := r102.trans (f24 8 (by decide))
        have r104 := r103.trans (f8 8 (by decide) (by decide))
        have r105 := (f79 8 (by decide))
        have r106 := r105.trans (f48 8 (by decide))
        have r107 := r106.trans (f24 8 (by decide))
        have r108 := r107.trans (f8 8 (by decide) (by decide))
        have r113 := (f79 8 (by decide))
        have r114 := r113.trans (f48 8 (by decide))
        have r115 := r114.trans (f24 8 (by decide))
        have r116 := r115.trans (f8 8 (by decide) (by decide))
        refine fr_cvI h kX12 at_0M wX12_sum lX12_172 (ih.2.2.1 x71 p (by omega) (by omega) (by omega) (by omega) (by omega)) rfl (by omega) (by omega) rfl (Nat.le_of_ble_eq_true rfl) dX12_held_66 (fun z110 x109 w111 p112 => ?_)
        obtain ⟨p117, p118, f119, f120⟩ := p112
        refine fr_icmp_ne (tgt := 76) h dX12_held_69 (by decide) (by omega) (by omega) (fun c121 => ?_) (fun c121 => ?_)
        ·
          refine fr_iconst h dX12_held_76 ?_
          exact fr_iret h hq (by omega) ⟨(by omega), (by omega), (fun a k0 => ((f119 a (by omega)).trans ((f78 a (by omega)).trans ((f47 a (by omega)).trans ((f23 a (by omega)).trans (f7 a (by omega))))))), (fun i k0 k1 => ((f120 i (by omega) (by omega)).trans ((f79 i (by omega)).trans ((f48 i (by omega)).trans ((f24 i (by omega)).trans (f8 i (by omega) (by omega)))))))⟩ dX12_held_77
        ·
          refine fr_iconst h dX12_held_72 ?_
          refine fr_goto (tgt := 77) h dX12_held_73 (by decide) ?_
          exact fr_iret h hq (by omega) ⟨(by omega), (by omega), (fun a k0 => ((f119 a (by omega)).trans ((f78 a (by omega)).trans ((f47 a (by omega)).trans ((f23 a (by omega)).trans (f7 a (by omega))))))), (fun i k0 k1 => ((f120 i (by omega) (by omega)).trans ((f79 i (by omega)).trans ((f48 i (by omega)).trans ((f24 i (by omega)).trans (f8 i (by omega) (by omega)))))))⟩ dX12_held_77
    ·
      refine fr_iload_n h rfl 2 rfl dX12_held_39 ?_
      refine fr_aload_n h rfl 0 rfl dX12_held_40 ?_
      refine fr_iload_n h rfl 1 rfl dX12_held_41 ?_
      have r122 := (f48 6 (by decide))
      have r123 := r122.trans (f24 6 (by decide))
      have r124 := r123.trans (f8 6 (by decide) (by decide))
      have r125 := (f48 8 (by decide))
      have r126 := r125.trans (f24 8 (by decide))
      have r127 := r126.trans (f8 8 (by decide) (by decide))
      have r128 := (f48 6 (by decide))
      have r129 := r128.trans (f24 6 (by decide))
      have r130 := r129.trans (f8 6 (by decide) (by decide))
      have r131 := (f48 8 (by decide))
      have r132 := r131.trans (f24 8 (by decide))
      have r133 := r132.trans (f8 8 (by decide) (by decide))
      have r134 := (f48 6 (by decide))
      have r135 := r134.trans (f24 6 (by decide))
      have r136 := r135.trans (f8 6 (by decide) (by decide))
      have r137 := (f48 8 (by decide))
      have r138 := r137.trans (f24 8 (by decide))
      have r139 := r138.trans (f8 8 (by decide) (by decide))
      have r140 := (f48 8 (by decide))
      have r141 := r140.trans (f24 8 (by decide))
      have r142 := r141.trans (f8 8 (by decide) (by decide))
      have r147 := (f48 8 (by decide))
      have r148 := r147.trans (f24 8 (by decide))
      have r149 := r148.trans (f8 8 (by decide) (by decide))
      refine fr_cvI h kX12 at_0M wX12_sum lX12_172 (ih.2.2.1 x40 p (by omega) (by omega) (by omega) (by omega) (by omega)) rfl (by omega) (by omega) rfl (Nat.le_of_ble_eq_true rfl) dX12_held_42 (fun z144 x143 w145 p146 => ?_)
      obtain ⟨p150, p151, f152, f153⟩ := p146
      refine fr_icmp_le (tgt := 52) h dX12_held_45 (by decide) (by omega) (by omega) (fun c154 => ?_) (fun c154 => ?_)
      ·
        refine fr_iconst h dX12_held_52 ?_
        exact fr_iret h hq (by omega) ⟨(by omega), (by omega), (fun a k0 => ((f152 a (by omega)).trans ((f47 a (by omega)).trans ((f23 a (by omega)).trans (f7 a (by omega)))))), (fun i k0 k1 => ((f153 i (by omega) (by omega)).trans ((f48 i (by omega)).trans ((f24 i (by omega)).trans (f8 i (by omega) (by omega))))))⟩ dX12_held_53
      ·
        refine fr_iconst h dX12_held_48 ?_
        refine fr_goto (tgt := 53) h dX12_held_49 (by decide) ?_
        exact fr_iret h hq (by omega) ⟨(by omega), (by omega), (fun a k0 => ((f152 a (by omega)).trans ((f47 a (by omega)).trans ((f23 a (by omega)).trans (f7 a (by omega)))))), (fun i k0 k1 => ((f153 i (by omega) (by omega)).trans ((f48 i (by omega)).trans ((f24 i (by omega)).trans (f8 i (by omega) (by omega))))))⟩ dX12_held_53
  ·
    refine fr_iload_n h rfl 2 rfl dX12_held_15 ?_
    refine fr_aload_n h rfl 0 rfl dX12_held_16 ?_
    refine fr_iload_n h rfl 1 rfl dX12_held_17 ?_
    have r155 := (f24 6 (by decide))
    have r156 := r155.trans (f8 6 (by decide) (by decide))
    have r157 := (f24 8 (by decide))
    have r158 := r157.trans (f8 8 (by decide) (by decide))
    have r159 := (f24 6 (by decide))
    have r160 := r159.trans (f8 6 (by decide) (by decide))
    have r161 := (f24 8 (by decide))
    have r162 := r161.trans (f8 8 (by decide) (by decide))
    have r163 := (f24 6 (by decide))
    have r164 := r163.trans (f8 6 (by decide) (by decide))
    have r165 := (f24 8 (by decide))
    have r166 := r165.trans (f8 8 (by decide) (by decide))
    have r167 := (f24 8 (by decide))
    have r168 := r167.trans (f8 8 (by decide) (by decide))
    have r173 := (f24 8 (by decide))
    have r174 := r173.trans (f8 8 (by decide) (by decide))
    refine fr_cvI h kX12 at_0M wX12_sum lX12_172 (ih.2.2.1 x16 p (by omega) (by omega) (by omega) (by omega) (by omega)) rfl (by omega) (by omega) rfl (Nat.le_of_ble_eq_true rfl) dX12_held_18 (fun z170 x169 w171 p172 => ?_)
    obtain ⟨p175, p176, f177, f178⟩ := p172
    refine fr_icmp_ge (tgt := 28) h dX12_held_21 (by decide) (by omega) (by omega) (fun c179 => ?_) (fun c179 => ?_)
    ·
      refine fr_iconst h dX12_held_28 ?_
      exact fr_iret h hq (by omega) ⟨(by omega), (by omega), (fun a k0 => ((f177 a (by omega)).trans ((f23 a (by omega)).trans (f7 a (by omega))))), (fun i k0 k1 => ((f178 i (by omega) (by omega)).trans ((f24 i (by omega)).trans (f8 i (by omega) (by omega)))))⟩ dX12_held_29
    ·
      refine fr_iconst h dX12_held_24 ?_
      refine fr_goto (tgt := 29) h dX12_held_25 (by decide) ?_
      exact fr_iret h hq (by omega) ⟨(by omega), (by omega), (fun a k0 => ((f177 a (by omega)).trans ((f23 a (by omega)).trans (f7 a (by omega))))), (fun i k0 k1 => ((f178 i (by omega) (by omega)).trans ((f24 i (by omega)).trans (f8 i (by omega) (by omega)))))⟩ dX12_held_29
theorem GRP_all : ∀ d : Nat, GRP_S d := by
  intro d
  induction d with
  | zero => exact ⟨fun x p h_p e0 e1 e2 hmu => by exfalso; omega, fun x p h_p e0 e1 e2 hmu => by exfalso; omega, fun x p h_p e0 e1 e2 hmu => by exfalso; omega, fun x p h_p e0 e1 e2 hmu => by exfalso; omega⟩
  | succ d ih => exact ⟨c_X12_thing_st d ih, c_X12_product_st d ih, c_X12_sum_st d ih, c_X12_held_st d ih⟩
theorem c_X12_thing (d : Nat) : ∀ (x : Mm) (p : Int) (h_p : fm_r p) (e0 : ((x 0 6 = 2 ∧ x 0 8 ≤ 80) ∨ (x 0 6 = 5 ∧ x 0 8 ≤ 40) ∨ (x 0 6 = 6 ∧ x 0 8 ≤ 40)) ∧ x 0 9 ≤ x 0 8) (e1 : 0 ≤ p) (e2 : p ≤ 4), (4 * (x 0 8 - x 0 9)) < (d : Int) → CnI YM yX12_thing cX12_thing 4 .int (d + 10) (d * 30 + 200) (fun G => [vr G 0, vi p]) x (fun z y' => (x 0 9 ≤ y' 0 9) ∧ (y' 0 9 ≤ x 0 8) ∧ (∀ a : Int, (a < 0 ∨ 0 < a) → y' a = x a) ∧ (∀ i : Int, i ≠ 9 → i ≠ 10 → y' 0 i = x 0 i)) := (GRP_all d).1
theorem c_X12_product (d : Nat) : ∀ (x : Mm) (p : Int) (h_p : fm_r p) (e0 : ((x 0 6 = 2 ∧ x 0 8 ≤ 80) ∨ (x 0 6 = 5 ∧ x 0 8 ≤ 40) ∨ (x 0 6 = 6 ∧ x 0 8 ≤ 40)) ∧ x 0 9 ≤ x 0 8) (e1 : 0 ≤ p) (e2 : p ≤ 4), (4 * (x 0 8 - x 0 9) + 1) < (d : Int) → CnI YM yX12_product cX12_product 5 .int (d + 10) (d * 30 + 200) (fun G => [vr G 0, vi p]) x (fun z y' => (x 0 9 ≤ y' 0 9) ∧ (y' 0 9 ≤ x 0 8) ∧ (∀ a : Int, (a < 0 ∨ 0 < a) → y' a = x a) ∧ (∀ i : Int, i ≠ 9 → i ≠ 10 → y' 0 i = x 0 i)) := (GRP_all d).2.1
theorem c_X12_sum (d : Nat) : ∀ (x : Mm) (p : Int) (h_p : fm_r p) (e0 : ((x 0 6 = 2 ∧ x 0 8 ≤ 80) ∨ (x 0 6 = 5 ∧ x 0 8 ≤ 40) ∨ (x 0 6 = 6 ∧ x 0 8 ≤ 40)) ∧ x 0 9 ≤ x 0 8) (e1 : 0 ≤ p) (e2 : p ≤ 4), (4 * (x 0 8 - x 0 9) + 2) < (d : Int) → CnI YM yX12_sum cX12_sum 5 .int (d + 10) (d * 30 + 200) (fun G => [vr G 0, vi p]) x (fun z y' => (x 0 9 ≤ y' 0 9) ∧ (y' 0 9 ≤ x 0 8) ∧ (∀ a : Int, (a < 0 ∨ 0 < a) → y' a = x a) ∧ (∀ i : Int, i ≠ 9 → i ≠ 10 → y' 0 i = x 0 i)) := (GRP_all d).2.2.1
theorem c_X12_held (d : Nat) : ∀ (x : Mm) (p : Int) (h_p : fm_r p) (e0 : ((x 0 6 = 2 ∧ x 0 8 ≤ 80) ∨ (x 0 6 = 5 ∧ x 0 8 ≤ 40) ∨ (x 0 6 = 6 ∧ x 0 8 ≤ 40)) ∧ x 0 9 ≤ x 0 8) (e1 : 0 ≤ p) (e2 : p ≤ 4), (4 * (x 0 8 - x 0 9) + 3) < (d : Int) → CnI YM yX12_held cX12_held 3 .int (d + 10) (d * 30 + 200) (fun G => [vr G 0, vi p]) x (fun z y' => (x 0 9 ≤ y' 0 9) ∧ (y' 0 9 ≤ x 0 8) ∧ (∀ a : Int, (a < 0 ∨ 0 < a) → y' a = x a) ∧ (∀ i : Int, i ≠ 9 → i ≠ 10 → y' 0 i = x 0 i)) := (GRP_all d).2.2.2
