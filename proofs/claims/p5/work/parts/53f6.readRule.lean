set_option maxHeartbeats 4000000 in
theorem d_X12_readRule (x : Mm) (f : Int → Int) (e0 : ∀ j : Int, uch (x 2 j) = f j) : CnI YM yX12_readRule cX12_readRule 1 .boolean 181 5322 (fun G => [vr G 0]) x (fun z y' => (z = 0 ∨ z = 1) ∧ (z = 1 → x 0 2 ≤ 40) ∧ (y' 0 2 = 0) ∧ (x 0 2 = 0 → z = 1) ∧ (0 < x 0 2 → z = 1 → ARd f (x 0 2) = (-1)) ∧ (0 < x 0 2 → z = 0 → ARd f (x 0 2) ≠ (-1) ∧ y' 0 10 = ARd f (x 0 2)) ∧ (∀ a : Int, (a < 0 ∨ 0 < a) → y' a = x a) ∧ (∀ i : Int, i ≠ 2 → i ≠ 6 → i ≠ 7 → i ≠ 8 → i ≠ 9 → i ≠ 10 → i ≠ 15 → y' 0 i = x 0 i)) := by
  refine cn_I (by decide) (fun _ => Nat.le_of_ble_eq_true rfl) (fun G C h hq => ?_)
  have h : OK YM G C cX12_readRule RX12 1 (some .boolean) 181 5322 := h
  show FW YM G C 1 x 0 [(0, vr G 0)] []
  refine fr_aload_n h rfl 0 rfl dX12_readRule_0 ?_
  refine fr_bipush h rfl dX12_readRule_1 ?_
  refine fr_cvV h kX12 at_0M wX12_beginText lX12_151 (c_X12_beginText x 40 (by omega) (by omega) (by omega)) rfl (by decide) (by decide) rfl (Nat.le_of_ble_eq_true rfl) dX12_readRule_3 (fun x1 p4 => ?_)
  obtain ⟨p5, p6, p7, p8, p9, p10, f11, f12⟩ := p4
  refine fr_aload_n h rfl 0 rfl dX12_readRule_6 ?_
  refine fr_iconst h dX12_readRule_7 ?_
  refine fr_putz (iz := 15) h kX12 fX12_191 at_0M rfl rfl (by decide) (by decide) rfl (by decide +kernel) rfM_15 (by omega) (by omega) (by omega) dX12_readRule_8 ?_
  refine fr_mem (fun x13 m14 => ?_)
  refine fr_aload_n h rfl 0 rfl dX12_readRule_11 ?_
  refine fr_geti (iz := 7) h kX12 fX12_115 at_0M rfl rfl (by decide) (by decide) rfM_7 dX12_readRule_12 (fun z15 w16 w17 q18 => ?_)
  have r19 := q18.trans (fm_rd_i (a := 0) (b := 7) m14 (by decide))
  refine fr_if_le (tgt := 24) h dX12_readRule_15 (by decide) (by omega) (fun c20 => ?_) (fun c20 => ?_)
  ·
    have r21 := (fm_rd_i (a := 0) (b := 7) m14 (by decide))
    have r22 := (fm_rd_i (a := 0) (b := 8) m14 (by decide))
    skip
    skip
    refine fr_aload_n h rfl 0 rfl dX12_readRule_24 ?_
    have r23 := (fm_rd_i (a := 0) (b := 9) m14 (by decide))
    refine fr_cvI h kX12 at_0M wX12_wasRight lX12_158 (d_X12_wasRight x13 (by omega)) rfl (by decide) (by decide) rfl (Nat.le_of_ble_eq_true rfl) dX12_readRule_25 (fun z25 x24 w26 p27 => ?_)
    obtain ⟨p28, p29, p30, p31, p32, f33, f34⟩ := p27
    have r35 := (f34 2 (by decide))
    have r36 := r35.trans (fm_rd_i (a := 0) (b := 2) m14 (by decide))
    have r37 := (fm_rd_i (a := 0) (b := 10) m14 (by decide))
    exact fr_zret h (nr_z (by omega) (by omega)) hq (by omega) ⟨(by omega), (by omega), (by omega), (by omega), (by omega), (by omega), (fun a k0 => ((f33 a (by omega)).trans ((fm_up_row m14 (by omega)).trans (f11 a (by omega))))), (fun i k0 k1 k2 k3 k4 k5 k6 => ((f34 i (by omega)).trans ((fm_rd_i (a := 0) (b := i) m14 (by omega)).trans (f12 i (by omega) (by omega) (by omega) (by omega) (by omega) (by omega)))))⟩ dX12_readRule_28
  ·
    obtain ⟨n, hn⟩ : ∃ n : Int, (x 0 2 ≤ 40 ∧ n = x 0 2) ∨ (40 < x 0 2 ∧ n = 40) := by by_cases q : x 0 2 ≤ 40; (exact ⟨x 0 2, Or.inl ⟨q, rfl⟩⟩); (exact ⟨40, Or.inr ⟨by omega, rfl⟩⟩)
    refine fr_aload_n h rfl 0 rfl dX12_readRule_18 ?_
    refine fr_iconst h dX12_readRule_19 ?_
    have r38 := (fm_rd_i (a := 0) (b := 6) m14 (by decide))
    have r39 := (fm_rd_i (a := 0) (b := 7) m14 (by decide))
    have r40 := (fm_rd_i (a := 0) (b := 8) m14 (by decide))
    have r41 := (fm_rd_i (a := 0) (b := 9) m14 (by decide))
    have r42 := (fm_rd_i (a := 0) (b := 10) m14 (by decide))
    refine fr_cvI h kX12 at_0M wX12_held lX12_181 (d_X12_held 170 x13 0 f n 0 (x 0 2) (fun _ => 0) (ARd f (x 0 2)) (by omega) (by omega) (bn_i (by omega)) (by omega) (by omega) (fun j => (congrArg uch (congrFun ((fm_up_row m14 (by omega)).trans (f11 2 (by omega))) j)).trans (e0 j)) (by omega) (by omega) (by omega) (by omega) (ARd_m (by omega)).symm (show (0 : Int) ≠ 1 by decide) (by omega)) rfl (by decide) (by decide) rfl (Nat.le_of_ble_eq_true rfl) dX12_readRule_20 (fun z44 x43 w45 p46 => ?_)
    obtain ⟨p47, p48, p49, p50, f51, f52⟩ := p46
    refine fr_pop h rfl dX12_readRule_23 ?_
    have r53 := (f52 7 (by decide) (by decide))
    have r54 := r53.trans (fm_rd_i (a := 0) (b := 7) m14 (by decide))
    have r55 := (f52 8 (by decide) (by decide))
    have r56 := r55.trans (fm_rd_i (a := 0) (b := 8) m14 (by decide))
    skip
    have r57 := (fm_rd_i (a := 0) (b := 9) m14 (by decide))
    have r58 := (fm_rd_i (a := 0) (b := 10) m14 (by decide))
    rcases rr3 (x43 0 10) (x43 0 9) (x43 0 7) with c1 | ⟨c1, c2⟩ | ⟨c1, c2⟩
    ·
      have kR : x43 0 10 = (ARd f (x 0 2)) := p48 c1
      refine fr_aload_n h rfl 0 rfl dX12_readRule_24 ?_
      refine fr_cvI h kX12 at_0M wX12_wasRight lX12_158 (d_X12_wasRight x43 (by omega)) rfl (by decide) (by decide) rfl (Nat.le_of_ble_eq_true rfl) dX12_readRule_25 (fun z60 x59 w61 p62 => ?_)
      obtain ⟨p63, p64, p65, p66, p67, f68, f69⟩ := p62
      have r70 := (f69 2 (by decide))
      have r71 := r70.trans (f52 2 (by decide) (by decide))
      have r72 := r71.trans (fm_rd_i (a := 0) (b := 2) m14 (by decide))
      have r73 := (fm_rd_i (a := 0) (b := 10) m14 (by decide))
      exact fr_zret h (nr_z (by omega) (by omega)) hq (by omega) ⟨(by omega), (by omega), (by omega), (by omega), (by omega), (by omega), (fun a k0 => ((f68 a (by omega)).trans ((f51 a (by omega)).trans ((fm_up_row m14 (by omega)).trans (f11 a (by omega)))))), (fun i k0 k1 k2 k3 k4 k5 k6 => ((f69 i (by omega)).trans ((f52 i (by omega) (by omega)).trans ((fm_rd_i (a := 0) (b := i) m14 (by omega)).trans (f12 i (by omega) (by omega) (by omega) (by omega) (by omega) (by omega))))))⟩ dX12_readRule_28
    ·
      have kR : (ARd f (x 0 2)) = x43 0 9 := HP_z (p47 c1) (by omega) (fun u => by omega)
      refine fr_aload_n h rfl 0 rfl dX12_readRule_24 ?_
      refine fr_cvI h kX12 at_0M wX12_wasRight lX12_158 (d_X12_wasRight x43 (by omega)) rfl (by decide) (by decide) rfl (Nat.le_of_ble_eq_true rfl) dX12_readRule_25 (fun z75 x74 w76 p77 => ?_)
      obtain ⟨p78, p79, p80, p81, p82, f83, f84⟩ := p77
      have r85 := (f84 2 (by decide))
      have r86 := r85.trans (f52 2 (by decide) (by decide))
      have r87 := r86.trans (fm_rd_i (a := 0) (b := 2) m14 (by decide))
      have r88 := (fm_rd_i (a := 0) (b := 10) m14 (by decide))
      exact fr_zret h (nr_z (by omega) (by omega)) hq (by omega) ⟨(by omega), (by omega), (by omega), (by omega), (by omega), (by omega), (fun a k0 => ((f83 a (by omega)).trans ((f51 a (by omega)).trans ((fm_up_row m14 (by omega)).trans (f11 a (by omega)))))), (fun i k0 k1 k2 k3 k4 k5 k6 => ((f84 i (by omega)).trans ((f52 i (by omega) (by omega)).trans ((fm_rd_i (a := 0) (b := i) m14 (by omega)).trans (f12 i (by omega) (by omega) (by omega) (by omega) (by omega) (by omega))))))⟩ dX12_readRule_28
    ·
      have kR : (ARd f (x 0 2)) = -1 := HP_y (p47 c1) (by omega) (by omega)
      refine fr_aload_n h rfl 0 rfl dX12_readRule_24 ?_
      refine fr_cvI h kX12 at_0M wX12_wasRight lX12_158 (d_X12_wasRight x43 (by omega)) rfl (by decide) (by decide) rfl (Nat.le_of_ble_eq_true rfl) dX12_readRule_25 (fun z90 x89 w91 p92 => ?_)
      obtain ⟨p93, p94, p95, p96, p97, f98, f99⟩ := p92
      have r100 := (f99 2 (by decide))
      have r101 := r100.trans (f52 2 (by decide) (by decide))
      have r102 := r101.trans (fm_rd_i (a := 0) (b := 2) m14 (by decide))
      have r103 := (fm_rd_i (a := 0) (b := 10) m14 (by decide))
      exact fr_zret h (nr_z (by omega) (by omega)) hq (by omega) ⟨(by omega), (by omega), (by omega), (by omega), (by omega), (by omega), (fun a k0 => ((f98 a (by omega)).trans ((f51 a (by omega)).trans ((fm_up_row m14 (by omega)).trans (f11 a (by omega)))))), (fun i k0 k1 k2 k3 k4 k5 k6 => ((f99 i (by omega)).trans ((f52 i (by omega) (by omega)).trans ((fm_rd_i (a := 0) (b := i) m14 (by omega)).trans (f12 i (by omega) (by omega) (by omega) (by omega) (by omega) (by omega))))))⟩ dX12_readRule_28
