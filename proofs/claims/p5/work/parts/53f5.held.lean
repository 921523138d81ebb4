set_option maxHeartbeats 4000000 in
theorem d_X12_held_st (d : Nat) (ih : GRQ_S d) : ∀ (x : Mm) (p : Int) (f : Int → Int) (n : Int) (a : Int) (k : Int) (E : Int → Int) (R : Int) (h_p : fm_r p) (e0 : x 0 6 = 2) (e1 : BN (x 0 7) (x 0 8) n) (e2 : x 0 9 = a) (e3 : a ≤ n) (e4 : ∀ j : Int, uch (x 2 j) = f j) (e5 : x 0 8 ≤ 80) (e6 : x 0 10 = (-1)) (e7 : 0 ≤ p) (e8 : p ≤ 4) (e9 : AQ f k n a 1 p E = R) (e10 : E p ≠ 1), (4 * (x 0 8 - x 0 9) + 3) < ((d + 1 : Nat) : Int) → CnI YM yX12_held cX12_held 3 .int (d + 1 + 10) ((d + 1) * 30 + 200) (fun G => [vr G 0, vi p]) x (fun z y' => (HPT f k n p E R (y' 0 9) (y' 0 10)) ∧ (AQF R (y' 0 10)) ∧ (a ≤ y' 0 9) ∧ (y' 0 9 ≤ n) ∧ (∀ a : Int, (a < 0 ∨ 0 < a) → y' a = x a) ∧ (∀ i : Int, i ≠ 9 → i ≠ 10 → y' 0 i = x 0 i)) := by
  intro x p f n a k E R h_p e0 e1 e2 e3 e4 e5 e6 e7 e8 e9 e10 hmu
  refine cn_I (by decide) (fun _ => Nat.le_of_ble_eq_true rfl) (fun G C h hq => ?_)
  have h : OK YM G C cX12_held RX12 3 (some .int) (d + 1 + 10) ((d + 1) * 30 + 200) := h
  show FW YM G C 3 x 0 [(0, vr G 0), (1, vi p)] []
  refine fr_rng (fun hR9 => ?_)
  have h9 : 0 ≤ x 0 9 := by have q := hR9 0 9; rw [rfM_9] at q; exact q.1
  have hb := bn_8 e1
  refine fr_aload_n h rfl 0 rfl dX12_held_0 ?_
  refine fr_iload_n h rfl 1 rfl dX12_held_1 ?_
  refine fr_cvI h kX12 at_0M wX12_sum lX12_172 (ih.2.2.1 x p f n a k E R (by omega) (by omega) e1 (by omega) (by omega) e4 (by omega) (by omega) (by omega) (by omega) e9 (by omega)) rfl (by omega) (by omega) rfl (Nat.le_of_ble_eq_true rfl) dX12_held_2 (fun z2 x1 w3 p4 => ?_)
  obtain ⟨p5, p6, p7, p8, p9, f10, f11⟩ := p4
  refine fr_istore_n (L' := [(0, vr G 0), (1, vi p), (2, vi z2)]) h rfl dX12_held_5 (by decide) [1, 2, 0] rfl ?_
  skip
  refine fr_aload_n h rfl 0 rfl dX12_held_6 ?_
  refine fr_bipush h rfl dX12_held_7 ?_
  have r12 := (f11 6 (by decide) (by decide))
  have r13 := (f11 7 (by decide) (by decide))
  have r14 := (f11 8 (by decide) (by decide))
  refine fr_cvI h kX12 at_0M wX12_passes lX12_139 (d_X12_passes x1 60 f n (x1 0 9) (by omega) (by omega) (bn_t (f11 7 (by decide) (by decide)) (f11 8 (by decide) (by decide)) e1) (by omega) (by omega) (fun j => (congrArg uch (congrFun (f10 2 (by omega)) j)).trans (e4 j)) (by omega) (by omega) (by omega)) rfl (by omega) (by omega) rfl (Nat.le_of_ble_eq_true rfl) dX12_held_9 (fun z16 x15 w17 p18 => ?_)
  obtain ⟨p19, p20, p21, p22, f23, f24⟩ := p18
  refine fr_if_eq (tgt := 30) h dX12_held_12 (by decide) (by omega) (fun c25 => ?_) (fun c25 => ?_)
  ·
    have d26 : z16 = 0 := by omega
    clear p19 c25
    have d27 : NPq f n (x1 0 9) 60 (x1 0 10) := mt p20.2 (by omega)
    clear p20
    clear p21
    have d29 := p22 (by omega)
    clear p22
    refine fr_aload_n h rfl 0 rfl dX12_held_30 ?_
    refine fr_bipush h rfl dX12_held_31 ?_
    have r30 := (f24 6 (by decide))
    have r31 := r30.trans (f11 6 (by decide) (by decide))
    have r32 := (f24 7 (by decide))
    have r33 := r32.trans (f11 7 (by decide) (by decide))
    have r34 := (f24 8 (by decide))
    have r35 := r34.trans (f11 8 (by decide) (by decide))
    refine fr_cvI h kX12 at_0M wX12_passes lX12_139 (d_X12_passes x15 62 f n (x1 0 9) (by omega) (by omega) (bn_t ((f24 7 (by decide)).trans (f11 7 (by decide) (by decide))) ((f24 8 (by decide)).trans (f11 8 (by decide) (by decide))) e1) (by omega) (by omega) (fun j => (congrArg uch (congrFun ((f23 2 (by omega)).trans (f10 2 (by omega))) j)).trans (e4 j)) (by omega) (by omega) (by omega)) rfl (by omega) (by omega) rfl (Nat.le_of_ble_eq_true rfl) dX12_held_33 (fun z37 x36 w38 p39 => ?_)
    obtain ⟨p40, p41, p42, p43, f44, f45⟩ := p39
    refine fr_if_eq (tgt := 54) h dX12_held_36 (by decide) (by omega) (fun c46 => ?_) (fun c46 => ?_)
    ·
      have d47 : z37 = 0 := by omega
      clear p40 c46
      have d48 : NPq f n (x1 0 9) 62 (x15 0 10) := mt p41.2 (by omega)
      clear p41
      clear p42
      have d50 := p43 (by omega)
      clear p43
      refine fr_aload_n h rfl 0 rfl dX12_held_54 ?_
      refine fr_bipush h rfl dX12_held_55 ?_
      have r51 := (f45 6 (by decide))
      have r52 := r51.trans (f24 6 (by decide))
      have r53 := r52.trans (f11 6 (by decide) (by decide))
      have r54 := (f45 7 (by decide))
      have r55 := r54.trans (f24 7 (by decide))
      have r56 := r55.trans (f11 7 (by decide) (by decide))
      have r57 := (f45 8 (by decide))
      have r58 := r57.trans (f24 8 (by decide))
      have r59 := r58.trans (f11 8 (by decide) (by decide))
      refine fr_cvI h kX12 at_0M wX12_passes lX12_139 (d_X12_passes x36 61 f n (x1 0 9) (by omega) (by omega) (bn_t ((f45 7 (by decide)).trans ((f24 7 (by decide)).trans (f11 7 (by decide) (by decide)))) ((f45 8 (by decide)).trans ((f24 8 (by decide)).trans (f11 8 (by decide) (by decide)))) e1) (by omega) (by omega) (fun j => (congrArg uch (congrFun ((f44 2 (by omega)).trans ((f23 2 (by omega)).trans (f10 2 (by omega)))) j)).trans (e4 j)) (by omega) (by omega) (by omega)) rfl (by omega) (by omega) rfl (Nat.le_of_ble_eq_true rfl) dX12_held_57 (fun z61 x60 w62 p63 => ?_)
      obtain ⟨p64, p65, p66, p67, f68, f69⟩ := p63
      refine fr_if_eq (tgt := 78) h dX12_held_60 (by decide) (by omega) (fun c70 => ?_) (fun c70 => ?_)
      ·
        have d71 : z61 = 0 := by omega
        clear p64 c70
        have d72 : NPq f n (x1 0 9) 61 (x36 0 10) := mt p65.2 (by omega)
        clear p65
        clear p66
        have d74 := p67 (by omega)
        clear p67
        have r75 := (f69 10 (by decide))
        have r76 := r75.trans (f45 10 (by decide))
        have r77 := r76.trans (f24 10 (by decide))
        skip
        refine fr_iload_n h rfl 2 rfl dX12_held_78 ?_
        exact fr_iret h hq (by omega) ⟨(fun q => by have e : x60 0 9 = x1 0 9 := (by omega); have q1 : x1 0 10 = (-1) := (by omega); rw [e]; exact HP_i (D := E) (p5 q1) (fun j u v => rfl) (by omega) (fun u => ⟨fun w => by have s := p9 q1 u; omega, fun c => by rcases c with c | c | c; (exact (d27 ⟨by omega, u, c⟩).elim); (exact (d72 ⟨by omega, u, c⟩).elim); (exact (d48 ⟨by omega, u, c⟩).elim)⟩)), (fun q => Eq.trans (show x60 0 10 = x1 0 10 by omega) (p6 (by omega))), (by omega), (by omega), (fun a k0 => ((f68 a (by omega)).trans ((f44 a (by omega)).trans ((f23 a (by omega)).trans (f10 a (by omega)))))), (fun i k0 k1 => ((f69 i (by omega)).trans ((f45 i (by omega)).trans ((f24 i (by omega)).trans (f11 i (by omega) (by omega))))))⟩ dX12_held_79
      ·
        have d78 : z61 = 1 := by omega
        clear p64 c70
        have d79 := p65.1 (by omega)
        clear p65
        have d80 := p66 (by omega)
        clear p66
        clear p67
        refine fr_iload_n h rfl 2 rfl dX12_held_63 ?_
        refine fr_aload_n h rfl 0 rfl dX12_held_64 ?_
        refine fr_iload_n h rfl 1 rfl dX12_held_65 ?_
        have r82 := (f69 6 (by decide))
        have r83 := r82.trans (f45 6 (by decide))
        have r84 := r83.trans (f24 6 (by decide))
        have r85 := r84.trans (f11 6 (by decide) (by decide))
        have r86 := (f69 7 (by decide))
        have r87 := r86.trans (f45 7 (by decide))
        have r88 := r87.trans (f24 7 (by decide))
        have r89 := r88.trans (f11 7 (by decide) (by decide))
        have r90 := (f69 8 (by decide))
        have r91 := r90.trans (f45 8 (by decide))
        have r92 := r91.trans (f24 8 (by decide))
        have r93 := r92.trans (f11 8 (by decide) (by decide))
        have r94 := (f69 10 (by decide))
        have r95 := r94.trans (f45 10 (by decide))
        have r96 := r95.trans (f24 10 (by decide))
        refine fr_cvI h kX12 at_0M wX12_sum lX12_172 (ih.2.2.1 x60 p f n (x60 0 9) k (upf E p 1) R (by omega) (by omega) (bn_t ((f69 7 (by decide)).trans ((f45 7 (by decide)).trans ((f24 7 (by decide)).trans (f11 7 (by decide) (by decide))))) ((f69 8 (by decide)).trans ((f45 8 (by decide)).trans ((f24 8 (by decide)).trans (f11 8 (by decide) (by decide))))) e1) (by omega) (by omega) (fun j => (congrArg uch (congrFun ((f68 2 (by omega)).trans ((f44 2 (by omega)).trans ((f23 2 (by omega)).trans (f10 2 (by omega))))) j)).trans (e4 j)) (by omega) (by omega) (by omega) (by omega) (Eq.trans (AQ_eq (show x60 0 9 = x1 0 9 + 1 by omega) rfl rfl rfl) (Eq.trans (AQ_cmp d79.2.1 ((fun w => Or.inr (Or.inl w)) d79.2.2) e10).symm (p5 (by omega)))) (by omega)) rfl (by omega) (by omega) rfl (Nat.le_of_ble_eq_true rfl) dX12_held_66 (fun z98 x97 w99 p100 => ?_)
        obtain ⟨p101, p102, p103, p104, p105, f106, f107⟩ := p100
        refine fr_icmp_ne (tgt := 76) h dX12_held_69 (by decide) (by omega) (by omega) (fun c108 => ?_) (fun c108 => ?_)
        ·
          refine fr_iconst h dX12_held_76 ?_
          have r109 := (f69 10 (by decide))
          have r110 := r109.trans (f45 10 (by decide))
          have r111 := r110.trans (f24 10 (by decide))
          exact fr_iret h hq (by omega) ⟨(fun q => HP_i (D := upf E p 1) (p101 q) (fun j u v => upf_o (by omega)) (by omega) (fun u => ⟨fun w => by have s := p105 q u; omega, fun _ => upf_s⟩)), p102, (by omega), (by omega), (fun a k0 => ((f106 a (by omega)).trans ((f68 a (by omega)).trans ((f44 a (by omega)).trans ((f23 a (by omega)).trans (f10 a (by omega))))))), (fun i k0 k1 => ((f107 i (by omega) (by omega)).trans ((f69 i (by omega)).trans ((f45 i (by omega)).trans ((f24 i (by omega)).trans (f11 i (by omega) (by omega)))))))⟩ dX12_held_77
        ·
          refine fr_iconst h dX12_held_72 ?_
          refine fr_goto (tgt := 77) h dX12_held_73 (by decide) ?_
          have r112 := (f69 10 (by decide))
          have r113 := r112.trans (f45 10 (by decide))
          have r114 := r113.trans (f24 10 (by decide))
          exact fr_iret h hq (by omega) ⟨(fun q => HP_i (D := upf E p 1) (p101 q) (fun j u v => upf_o (by omega)) (by omega) (fun u => ⟨fun w => by have s := p105 q u; omega, fun _ => upf_s⟩)), p102, (by omega), (by omega), (fun a k0 => ((f106 a (by omega)).trans ((f68 a (by omega)).trans ((f44 a (by omega)).trans ((f23 a (by omega)).trans (f10 a (by omega))))))), (fun i k0 k1 => ((f107 i (by omega) (by omega)).trans ((f69 i (by omega)).trans ((f45 i (by omega)).trans ((f24 i (by omega)).trans (f11 i (by omega) (by omega)))))))⟩ dX12_held_77
    ·
      have d115 : z37 = 1 := by omega
      clear p40 c46
      have d116 := p41.1 (by omega)
      clear p41
      have d117 := p42 (by omega)
      clear p42
      clear p43
      refine fr_iload_n h rfl 2 rfl dX12_held_39 ?_
      refine fr_aload_n h rfl 0 rfl dX12_held_40 ?_
      refine fr_iload_n h rfl 1 rfl dX12_held_41 ?_
      have r119 := (f45 6 (by decide))
      have r120 := r119.trans (f24 6 (by decide))
      have r121 := r120.trans (f11 6 (by decide) (by decide))
      have r122 := (f45 7 (by decide))
      have r123 := r122.trans (f24 7 (by decide))
      have r124 := r123.trans (f11 7 (by decide) (by decide))
      have r125 := (f45 8 (by decide))
      have r126 := r125.trans (f24 8 (by decide))
      have r127 := r126.trans (f11 8 (by decide) (by decide))
      have r128 := (f45 10 (by decide))
      have r129 := r128.trans (f24 10 (by decide))
      refine fr_cvI h kX12 at_0M wX12_sum lX12_172 (ih.2.2.1 x36 p f n (x36 0 9) k (upf E p 1) R (by omega) (by omega) (bn_t ((f45 7 (by decide)).trans ((f24 7 (by decide)).trans (f11 7 (by decide) (by decide)))) ((f45 8 (by decide)).trans ((f24 8 (by decide)).trans (f11 8 (by decide) (by decide)))) e1) (by omega) (by omega) (fun j => (congrArg uch (congrFun ((f44 2 (by omega)).trans ((f23 2 (by omega)).trans (f10 2 (by omega)))) j)).trans (e4 j)) (by omega) (by omega) (by omega) (by omega) (Eq.trans (AQ_eq (show x36 0 9 = x1 0 9 + 1 by omega) rfl rfl rfl) (Eq.trans (AQ_cmp d116.2.1 ((fun w => Or.inr (Or.inr w)) d116.2.2) e10).symm (p5 (by omega)))) (by omega)) rfl (by omega) (by omega) rfl (Nat.le_of_ble_eq_true rfl) dX12_held_42 (fun z131 x130 w132 p133 => ?_)
      obtain ⟨p134, p135, p136, p137, p138, f139, f140⟩ := p133
      refine fr_icmp_le (tgt := 52) h dX12_held_45 (by decide) (by omega) (by omega) (fun c141 => ?_) (fun c141 => ?_)
      ·
        refine fr_iconst h dX12_held_52 ?_
        have r142 := (f45 10 (by decide))
        have r143 := r142.trans (f24 10 (by decide))
        exact fr_iret h hq (by omega) ⟨(fun q => HP_i (D := upf E p 1) (p134 q) (fun j u v => upf_o (by omega)) (by omega) (fun u => ⟨fun w => by have s := p138 q u; omega, fun _ => upf_s⟩)), p135, (by omega), (by omega), (fun a k0 => ((f139 a (by omega)).trans ((f44 a (by omega)).trans ((f23 a (by omega)).trans (f10 a (by omega)))))), (fun i k0 k1 => ((f140 i (by omega) (by omega)).trans ((f45 i (by omega)).trans ((f24 i (by omega)).trans (f11 i (by omega) (by omega))))))⟩ dX12_held_53
      ·
        refine fr_iconst h dX12_held_48 ?_
        refine fr_goto (tgt := 53) h dX12_held_49 (by decide) ?_
        have r144 := (f45 10 (by decide))
        have r145 := r144.trans (f24 10 (by decide))
        exact fr_iret h hq (by omega) ⟨(fun q => HP_i (D := upf E p 1) (p134 q) (fun j u v => upf_o (by omega)) (by omega) (fun u => ⟨fun w => by have s := p138 q u; omega, fun _ => upf_s⟩)), p135, (by omega), (by omega), (fun a k0 => ((f139 a (by omega)).trans ((f44 a (by omega)).trans ((f23 a (by omega)).trans (f10 a (by omega)))))), (fun i k0 k1 => ((f140 i (by omega) (by omega)).trans ((f45 i (by omega)).trans ((f24 i (by omega)).trans (f11 i (by omega) (by omega))))))⟩ dX12_held_53
  ·
    have d146 : z16 = 1 := by omega
    clear p19 c25
    have d147 := p20.1 (by omega)
    clear p20
    have d148 := p21 (by omega)
    clear p21
    clear p22
    refine fr_iload_n h rfl 2 rfl dX12_held_15 ?_
    refine fr_aload_n h rfl 0 rfl dX12_held_16 ?_
    refine fr_iload_n h rfl 1 rfl dX12_held_17 ?_
    have r150 := (f24 6 (by decide))
    have r151 := r150.trans (f11 6 (by decide) (by decide))
    have r152 := (f24 7 (by decide))
    have r153 := r152.trans (f11 7 (by decide) (by decide))
    have r154 := (f24 8 (by decide))
    have r155 := r154.trans (f11 8 (by decide) (by decide))
    have r156 := (f24 10 (by decide))
    refine fr_cvI h kX12 at_0M wX12_sum lX12_172 (ih.2.2.1 x15 p f n (x15 0 9) k (upf E p 1) R (by omega) (by omega) (bn_t ((f24 7 (by decide)).trans (f11 7 (by decide) (by decide))) ((f24 8 (by decide)).trans (f11 8 (by decide) (by decide))) e1) (by omega) (by omega) (fun j => (congrArg uch (congrFun ((f23 2 (by omega)).trans (f10 2 (by omega))) j)).trans (e4 j)) (by omega) (by omega) (by omega) (by omega) (Eq.trans (AQ_eq (show x15 0 9 = x1 0 9 + 1 by omega) rfl rfl rfl) (Eq.trans (AQ_cmp d147.2.1 ((Or.inl) d147.2.2) e10).symm (p5 (by omega)))) (by omega)) rfl (by omega) (by omega) rfl (Nat.le_of_ble_eq_true rfl) dX12_held_18 (fun z158 x157 w159 p160 => ?_)
    obtain ⟨p161, p162, p163, p164, p165, f166, f167⟩ := p160
    refine fr_icmp_ge (tgt := 28) h dX12_held_21 (by decide) (by omega) (by omega) (fun c168 => ?_) (fun c168 => ?_)
    ·
      refine fr_iconst h dX12_held_28 ?_
      have r169 := (f24 10 (by decide))
      exact fr_iret h hq (by omega) ⟨(fun q => HP_i (D := upf E p 1) (p161 q) (fun j u v => upf_o (by omega)) (by omega) (fun u => ⟨fun w => by have s := p165 q u; omega, fun _ => upf_s⟩)), p162, (by omega), (by omega), (fun a k0 => ((f166 a (by omega)).trans ((f23 a (by omega)).trans (f10 a (by omega))))), (fun i k0 k1 => ((f167 i (by omega) (by omega)).trans ((f24 i (by omega)).trans (f11 i (by omega) (by omega)))))⟩ dX12_held_29
    ·
      refine fr_iconst h dX12_held_24 ?_
      refine fr_goto (tgt := 29) h dX12_held_25 (by decide) ?_
      have r170 := (f24 10 (by decide))
      exact fr_iret h hq (by omega) ⟨(fun q => HP_i (D := upf E p 1) (p161 q) (fun j u v => upf_o (by omega)) (by omega) (fun u => ⟨fun w => by have s := p165 q u; omega, fun _ => upf_s⟩)), p162, (by omega), (by omega), (fun a k0 => ((f166 a (by omega)).trans ((f23 a (by omega)).trans (f10 a (by omega))))), (fun i k0 k1 => ((f167 i (by omega) (by omega)).trans ((f24 i (by omega)).trans (f11 i (by omega) (by omega)))))⟩ dX12_held_29
theorem GRQ_all : ∀ d : Nat, GRQ_S d := by
  intro d
  induction d with
  | zero => exact ⟨fun x p f n a k E R h_p e0 e1 e2 e3 e4 e5 e6 e7 e8 e9 hmu => by have hb := bn_8 e1; exfalso; omega, fun x p f n a k E R h_p e0 e1 e2 e3 e4 e5 e6 e7 e8 e9 hmu => by have hb := bn_8 e1; exfalso; omega, fun x p f n a k E R h_p e0 e1 e2 e3 e4 e5 e6 e7 e8 e9 hmu => by have hb := bn_8 e1; exfalso; omega, fun x p f n a k E R h_p e0 e1 e2 e3 e4 e5 e6 e7 e8 e9 e10 hmu => by have hb := bn_8 e1; exfalso; omega⟩
  | succ d ih => exact ⟨d_X12_thing_st d ih, d_X12_product_st d ih, d_X12_sum_st d ih, d_X12_held_st d ih⟩
theorem d_X12_thing (d : Nat) : ∀ (x : Mm) (p : Int) (f : Int → Int) (n : Int) (a : Int) (k : Int) (E : Int → Int) (R : Int) (h_p : fm_r p) (e0 : x 0 6 = 2) (e1 : BN (x 0 7) (x 0 8) n) (e2 : x 0 9 = a) (e3 : a ≤ n) (e4 : ∀ j : Int, uch (x 2 j) = f j) (e5 : x 0 8 ≤ 80) (e6 : x 0 10 = (-1)) (e7 : 0 ≤ p) (e8 : p ≤ 4) (e9 : AQ f k n a 1 p E = R), (4 * (x 0 8 - x 0 9)) < (d : Int) → CnI YM yX12_thing cX12_thing 4 .int (d + 10) (d * 30 + 200) (fun G => [vr G 0, vi p]) x (fun z y' => (AQT f k n p E R (y' 0 9) (y' 0 10)) ∧ (AQF R (y' 0 10)) ∧ (a ≤ y' 0 9) ∧ (y' 0 9 ≤ n) ∧ (∀ a : Int, (a < 0 ∨ 0 < a) → y' a = x a) ∧ (∀ i : Int, i ≠ 9 → i ≠ 10 → y' 0 i = x 0 i)) := (GRQ_all d).1
theorem d_X12_product (d : Nat) : ∀ (x : Mm) (p : Int) (f : Int → Int) (n : Int) (a : Int) (k : Int) (E : Int → Int) (R : Int) (h_p : fm_r p) (e0 : x 0 6 = 2) (e1 : BN (x 0 7) (x 0 8) n) (e2 : x 0 9 = a) (e3 : a ≤ n) (e4 : ∀ j : Int, uch (x 2 j) = f j) (e5 : x 0 8 ≤ 80) (e6 : x 0 10 = (-1)) (e7 : 0 ≤ p) (e8 : p ≤ 4) (e9 : AQ f k n a 1 p E = R), (4 * (x 0 8 - x 0 9) + 1) < (d : Int) → CnI YM yX12_product cX12_product 5 .int (d + 10) (d * 30 + 200) (fun G => [vr G 0, vi p]) x (fun z y' => (AQT f k n p E R (y' 0 9) (y' 0 10)) ∧ (AQF R (y' 0 10)) ∧ (a ≤ y' 0 9) ∧ (y' 0 9 ≤ n) ∧ (PMq f n (y' 0 9) (y' 0 10)) ∧ (∀ a : Int, (a < 0 ∨ 0 < a) → y' a = x a) ∧ (∀ i : Int, i ≠ 9 → i ≠ 10 → y' 0 i = x 0 i)) := (GRQ_all d).2.1
theorem d_X12_sum (d : Nat) : ∀ (x : Mm) (p : Int) (f : Int → Int) (n : Int) (a : Int) (k : Int) (E : Int → Int) (R : Int) (h_p : fm_r p) (e0 : x 0 6 = 2) (e1 : BN (x 0 7) (x 0 8) n) (e2 : x 0 9 = a) (e3 : a ≤ n) (e4 : ∀ j : Int, uch (x 2 j) = f j) (e5 : x 0 8 ≤ 80) (e6 : x 0 10 = (-1)) (e7 : 0 ≤ p) (e8 : p ≤ 4) (e9 : AQ f k n a 1 p E = R), (4 * (x 0 8 - x 0 9) + 2) < (d : Int) → CnI YM yX12_sum cX12_sum 5 .int (d + 10) (d * 30 + 200) (fun G => [vr G 0, vi p]) x (fun z y' => (AQT f k n p E R (y' 0 9) (y' 0 10)) ∧ (AQF R (y' 0 10)) ∧ (a ≤ y' 0 9) ∧ (y' 0 9 ≤ n) ∧ (SMq f n (y' 0 9) (y' 0 10)) ∧ (∀ a : Int, (a < 0 ∨ 0 < a) → y' a = x a) ∧ (∀ i : Int, i ≠ 9 → i ≠ 10 → y' 0 i = x 0 i)) := (GRQ_all d).2.2.1
theorem d_X12_held (d : Nat) : ∀ (x : Mm) (p : Int) (f : Int → Int) (n : Int) (a : Int) (k : Int) (E : Int → Int) (R : Int) (h_p : fm_r p) (e0 : x 0 6 = 2) (e1 : BN (x 0 7) (x 0 8) n) (e2 : x 0 9 = a) (e3 : a ≤ n) (e4 : ∀ j : Int, uch (x 2 j) = f j) (e5 : x 0 8 ≤ 80) (e6 : x 0 10 = (-1)) (e7 : 0 ≤ p) (e8 : p ≤ 4) (e9 : AQ f k n a 1 p E = R) (e10 : E p ≠ 1), (4 * (x 0 8 - x 0 9) + 3) < (d : Int) → CnI YM yX12_held cX12_held 3 .int (d + 10) (d * 30 + 200) (fun G => [vr G 0, vi p]) x (fun z y' => (HPT f k n p E R (y' 0 9) (y' 0 10)) ∧ (AQF R (y' 0 10)) ∧ (a ≤ y' 0 9) ∧ (y' 0 9 ≤ n) ∧ (∀ a : Int, (a < 0 ∨ 0 < a) → y' a = x a) ∧ (∀ i : Int, i ≠ 9 → i ≠ 10 → y' 0 i = x 0 i)) := (GRQ_all d).2.2.2
