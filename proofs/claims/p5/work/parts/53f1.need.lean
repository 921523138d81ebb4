set_option maxHeartbeats 200000 in
theorem d_X12_need (x : Mm) (p : Int) (f : Int → Int) (n : Int) (a : Int) (h_p : fm_r p) (e0 : x 0 6 = 2) (e1 : BN (x 0 7) (x 0 8) n) (e2 : x 0 9 = a) (e3 : a ≤ n) (e4 : ∀ j : Int, uch (x 2 j) = f j) (e5 : x 0 8 ≤ 80) (e6 : 0 ≤ p) (e7 : p ≤ 255) : CnV YM yX12_need cX12_need 2 2 41 (fun G => [vr G 0, vi p]) x (fun y' => ((x 0 10 ≠ (-1) ∧ y' 0 9 = a ∧ y' 0 10 = x 0 10) ∨ (x 0 10 = (-1) ∧ a < n ∧ f a = p ∧ y' 0 9 = a + 1 ∧ y' 0 10 = (-1)) ∨ (x 0 10 = (-1) ∧ ¬ (a < n ∧ f a = p) ∧ y' 0 9 = a ∧ y' 0 10 = a)) ∧ (∀ a : Int, (a < 0 ∨ 0 < a) → y' a = x a) ∧ (∀ i : Int, i ≠ 9 → i ≠ 10 → y' 0 i = x 0 i)) := by
  refine cn_V (by decide) (fun _ => Nat.le_of_ble_eq_true rfl) (fun G C h hq => ?_)
  have h : OK YM G C cX12_need RX12 2 none 2 41 := h
  show FW YM G C 2 x 0 [(0, vr G 0), (1, vi p)] []
  refine fr_aload_n h rfl 0 rfl dX12_need_0 ?_
  refine fr_iload_n h rfl 1 rfl dX12_need_1 ?_
  refine fr_cvI h kX12 at_0M wX12_passes lX12_139 (d_X12_passes x p f n a (by omega) (by omega) e1 (by omega) (by omega) e4 (by omega) (by omega) (by omega)) rfl (by decide) (by decide) rfl (Nat.le_of_ble_eq_true rfl) dX12_need_2 (fun z2 x1 w3 p4 => ?_)
  obtain ⟨p5, p6, p7, p8, f9, f10⟩ := p4
  refine fr_if_ne (tgt := 16) h dX12_need_5 (by decide) (by omega) (fun c11 => ?_) (fun c11 => ?_)
  ·
    have d12 : z2 = 1 := by omega
    clear p5 c11
    have d13 := p6.1 (by omega)
    clear p6
    have d14 := p7 (by omega)
    clear p7
    clear p8
    have r16 := (f10 10 (by decide))
    exact fr_vret h hq ⟨(Or.inr (Or.inl ⟨d13.1, d13.2.1, d13.2.2, by omega, by omega⟩)), (fun a k0 => (f9 a (by omega))), (fun i k0 k1 => (f10 i (by omega)))⟩ dX12_need_16
  ·
    have d17 : z2 = 0 := by omega
    clear p5 c11
    have d18 : NPq f n a p (x 0 10) := mt p6.2 (by omega)
    clear p6
    clear p7
    have d20 := p8 (by omega)
    clear p8
    refine fr_aload_n h rfl 0 rfl dX12_need_8 ?_
    refine fr_aload_n h rfl 0 rfl dX12_need_9 ?_
    refine fr_geti (iz := 9) h kX12 fX12_121 at_0M rfl rfl (by decide) (by decide) rfM_9 dX12_need_10 (fun z21 w22 w23 q24 => ?_)
    refine fr_cvV h kX12 at_0M wX12_fault lX12_143 (d_X12_fault x1 z21 (by omega) (by omega) (by omega)) rfl (by decide) (by decide) rfl (Nat.le_of_ble_eq_true rfl) dX12_need_13 (fun x25 p28 => ?_)
    obtain ⟨p29, p30, f31, f32⟩ := p28
    have r33 := (f32 9 (by decide))
    have r34 := (f10 10 (by decide))
    exact fr_vret h hq ⟨(by by_cases t : x 0 10 = (-1); (exact Or.inr (Or.inr ⟨t, fun u => d18 ⟨t, u.1, u.2⟩, by omega, by omega⟩)); (exact Or.inl ⟨t, by omega, by omega⟩)), (fun a k0 => ((f31 a (by omega)).trans (f9 a (by omega)))), (fun i k0 k1 => ((f32 i (by omega)).trans (f10 i (by omega))))⟩ dX12_need_16
