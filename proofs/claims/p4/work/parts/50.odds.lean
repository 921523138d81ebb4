set_option maxHeartbeats 200000 in
theorem c_X12_common : ∀ (d : Nat) (x : Mm) (p : Int) (v : Int) (e : Nat) (h_p : fm_l p) (h_v : fm_l v) (e0 : GD e p v), (e : Int) < d → CnL YM yX12_common cX12_common 4 (d + 10) (d * 40 + 300) (fun G => [vj p, vj v]) x (fun z y' => (0 < p ∨ 0 < v → 0 < z) ∧ (y' = x)) := by
  intro d
  induction d with
  | zero => intro x p v e h_p h_v e0 hmu; exfalso; omega
  | succ d ih =>
    intro x p v e h_p h_v e0 hmu
    refine cn_L (by decide) (fun _ => Nat.le_of_ble_eq_true rfl) (fun G C h hq => ?_)
    have h : OK YM G C cX12_common RX12 4 (some .long) (d + 1 + 10) ((d + 1) * 40 + 300) := h
    show FW YM G C 4 x 0 [(0, vj p), (2, vj v)] []
    have p0 := e0.1
    have v0 := e0.2.1
    refine fr_lload_n h rfl 1 rfl dX12_common_0 ?_
    refine fr_lconst (z := 0) h rfl dX12_common_1 ?_
    refine fr_lcmp h dX12_common_2 (by omega) (by omega) (fun z1 w2 => ?_)
    refine fr_if_ne (tgt := 10) h dX12_common_3 (by decide) (by omega) (fun c3 => ?_) (fun c3 => ?_)
    ·
      refine fr_lload_n h rfl 1 rfl dX12_common_10 ?_
      refine fr_lload_n h rfl 0 rfl dX12_common_11 ?_
      refine fr_lload_n h rfl 1 rfl dX12_common_12 ?_
      refine fr_lrem h (by omega) (by omega) (by omega) dX12_common_13 (fun z4 w5 q6 w7 => ?_)
      have hz : z4 = p % v := by omega
      have hgd := GD_s e0 (by omega)
      refine fr_csL h wX12_common lX12_358 (ih x v z4 (e - 1) (by omega) (by omega) (by rw [hz]; exact hgd.1) (by omega)) rfl (by omega) (by omega) rfl (Nat.le_of_ble_eq_true rfl) dX12_common_14 (fun z9 x8 w10 p11 => ?_)
      obtain ⟨p12, y13⟩ := p11
      rw [y13]
      clear y13
      exact fr_lret h hq (by omega) ⟨(by omega), rfl⟩ dX12_common_17
    ·
      refine fr_lload_n h rfl 0 rfl dX12_common_6 ?_
      refine fr_goto (tgt := 17) h dX12_common_7 (by decide) ?_
      exact fr_lret h hq (by omega) ⟨(by omega), rfl⟩ dX12_common_17
set_option maxHeartbeats 2000000 in
theorem c_X12_odds (x : Mm) (k : Int) (p : Int) (n : Int) (h_k : fm_r k) (h_p : fm_r p) (h_n : fm_r n) (e0 : GI x) : CnI YM yX12_odds cX12_odds 11 .int 207 6248 (fun G => [vr G 0, vi k, vi p, vi n]) x (fun z y' => (y' 0 5 = 0) ∧ (GI y') ∧ (∀ a : Int, (a < 0 ∨ 0 < a) → (a < 3 ∨ 3 < a) → (a < 7 ∨ 7 < a) → (a < 12 ∨ 18 < a) → y' a = x a) ∧ (∀ i : Int, i ≠ 4 → i ≠ 5 → i ≠ 6 → i ≠ 7 → i ≠ 8 → i ≠ 9 → i ≠ 10 → i ≠ 15 → i ≠ 26 → y' 0 i = x 0 i)) := by
  refine cn_I (by decide) (fun _ => Nat.le_of_ble_eq_true rfl) (fun G C h hq => ?_)
  have h : OK YM G C cX12_odds RX12 11 (some .int) 207 6248 := h
  show FW YM G C 11 x 0 [(0, vr G 0), (1, vi k), (2, vi p), (3, vi n)] []
  have e12 := e0.2.2.2
  refine fr_aload_n h rfl 0 rfl dX12_odds_0 ?_
  refine fr_iconst h dX12_odds_1 ?_
  refine fr_puti (iz := 5) h kX12 fX12_94 at_0M rfl rfl (by decide) (by decide) rfl (by decide +kernel) rfM_5 (by omega) (by omega) dX12_odds_2 ?_
  refine fr_mem (fun x1 m2 => ?_)
  refine fr_iload_n h rfl 1 rfl dX12_odds_5 ?_
  refine fr_csI h wX12_isKind lX12_324 (c_X12_isKind x1 k (by omega)) rfl (by decide) (by decide) rfl (Nat.le_of_ble_eq_true rfl) dX12_odds_6 (fun z4 x3 w5 p6 => ?_)
  obtain ⟨p7, p8, y9⟩ := p6
  rw [y9]
  clear y9
  refine fr_if_eq (tgt := 21) h dX12_odds_9 (by decide) (by omega) (fun c10 => ?_) (fun c10 => ?_)
  ·
    refine fr_iconst h dX12_odds_21 ?_
    have r11 := (fm_rd_s m2)
    have r12 := (fm_rd_i (a := 0) (b := 12) m2 (by decide))
    exact fr_iret h hq (by omega) ⟨(by omega), ⟨(by rw [show x1 1 = x 1 from (fm_up_row m2 (by omega))]; exact e0.1), (by rw [show x1 8 = x 8 from (fm_up_row m2 (by omega))]; exact e0.2.1), (by rw [show x1 26 = x 26 from (fm_up_row m2 (by omega))]; exact e0.2.2.1), (by have := e0.2.2.2; omega)⟩, (fun a k0 k1 k2 k3 => (fm_up_row m2 (by omega))), (fun i k0 k1 k2 k3 k4 k5 k6 k7 k8 => (fm_rd_i (a := 0) (b := i) m2 (by omega)))⟩ dX12_odds_22
  ·
    refine fr_iload_n h rfl 3 rfl dX12_odds_12 ?_
    refine fr_iconst h dX12_odds_13 ?_
    refine fr_iconst h dX12_odds_14 ?_
    refine fr_csI h wX12_in lX12_101 (c_X12_in x1 n 1 3 (by omega) (by omega) (by omega)) rfl (by decide) (by decide) rfl (Nat.le_of_ble_eq_true rfl) dX12_odds_15 (fun z14 x13 w15 p16 => ?_)
    obtain ⟨p17, p18, y19⟩ := p16
    rw [y19]
    clear y19
    refine fr_if_ne (tgt := 23) h dX12_odds_18 (by decide) (by omega) (fun c20 => ?_) (fun c20 => ?_)
    ·
      refine fr_aload_n h rfl 0 rfl dX12_odds_23 ?_
      refine fr_aload_n h rfl 0 rfl dX12_odds_24 ?_
      refine fr_getc (z := 1) (iz := 0) h kX12 fX12_9 at_0M rfl rfl rfM_0 (by omega) dX12_odds_25 ?_
      refine fr_iload_n h rfl 1 rfl dX12_odds_28 ?_
      refine fr_cvI h kX12 at_0M wX12_layAll lX12_327 (c_X12_layAll x1 1 SA_1 k (by omega) (by rw [show x1 1 = x 1 from (fm_up_row m2 (by omega))]; exact e0.1)) rfl (by decide) (by decide) rfl (Nat.le_of_ble_eq_true rfl) dX12_odds_29 (fun z22 x21 w23 p24 => ?_)
      obtain ⟨p25, p26, p27, p28, p29, p30, f31, f32⟩ := p24
      refine fr_istore (L' := [(0, vr G 0), (1, vi k), (2, vi p), (3, vi n), (4, vi z22)]) h dX12_odds_32 (by decide) [1, 2, 3, 4, 0] rfl ?_
      refine fr_iload h 4 rfl dX12_odds_34 ?_
      refine fr_if_ne (tgt := 42) h dX12_odds_36 (by decide) (by omega) (fun c33 => ?_) (fun c33 => ?_)
      ·
        refine fr_lconst (z := 1) h rfl dX12_odds_42 ?_
        refine fr_lstore (L' := [(0, vr G 0), (1, vi k), (2, vi p), (3, vi n), (4, vi z22), (5, vj 1)]) h dX12_odds_43 (by decide) [1, 2, 3, 4, 5, 0] rfl ?_
        refine fr_lconst (z := 1) h rfl dX12_odds_45 ?_
        refine fr_lstore (L' := [(0, vr G 0), (1, vi k), (2, vi p), (3, vi n), (4, vi z22), (5, vj 1), (7, vj 1)]) h dX12_odds_46 (by decide) [1, 2, 3, 4, 5, 6, 0] rfl ?_
        refine fr_iconst h dX12_odds_48 ?_
        refine fr_istore (L' := [(0, vr G 0), (1, vi k), (2, vi p), (3, vi n), (4, vi z22), (5, vj 1), (7, vj 1), (9, vi 0)]) h dX12_odds_49 (by decide) [1, 2, 3, 4, 5, 6, 7, 0] rfl ?_
        have HL34 : ∀ (n34 : Nat) (l5_34 l7_34 l9_34 : Int), fm_l l5_34 → fm_l l7_34 → fm_r l9_34 → 0 ≤ l9_34 → l9_34 ≤ 3 → l9_34 ≤ n → 1 ≤ l7_34 → 0 ≤ l5_34 → l5_34 ≤ l7_34 → ((l9_34 = 0 → l7_34 ≤ 1) ∧ (l9_34 = 1 → l7_34 ≤ 1300) ∧ (l9_34 = 2 → l7_34 ≤ 1690000) ∧ (l9_34 = 3 → l7_34 ≤ 2197000000)) → (3 - l9_34) < n34 → FW YM G C 11 x21 51 [(0, vr G 0), (1, vi k), (2, vi p), (3, vi n), (4, vi z22), (5, vj l5_34), (7, vj l7_34), (9, vi l9_34)] [] := by
          intro n34
          induction n34 with
          | zero =>
            intro l5_34 l7_34 l9_34 g34_0 g34_1 g34_2 g34_3 g34_4 g34_5 g34_6 g34_7 g34_8 g34_9 g34_10
            exfalso; omega
          | succ n34 ih34 =>
            intro l5_34 l7_34 l9_34 g34_0 g34_1 g34_2 g34_3 g34_4 g34_5 g34_6 g34_7 g34_8 g34_9 g34_10
            refine fr_iload h 7 rfl dX12_odds_51 ?_
            refine fr_iload_n h rfl 3 rfl dX12_odds_53 ?_
            refine fr_icmp_ge (tgt := 85) h dX12_odds_54 (by decide) (by omega) (by omega) (fun c35 => ?_) (fun c35 => ?_)
            ·
              refine fr_lload h 6 rfl dX12_odds_85 ?_
              refine fr_lload h 5 rfl dX12_odds_87 ?_
              refine fr_lsub h dX12_odds_89 ?_
              refine fr_norml (fun z36 w37 q38 => ?_)
              have w39 : fm_l (l7_34 - l5_34) → z36 = (l7_34 - l5_34) := fun q => (lI_inj q w37 q38).symm
              refine fr_lload h 6 rfl dX12_odds_90 ?_
              refine fr_csL h wX12_common lX12_358 (c_X12_common 65 x21 z36 l7_34 64 (by omega) (by omega) (GD_0 (by omega) (by omega) (by omega)) (by omega)) rfl (by decide) (by decide) rfl (Nat.le_of_ble_eq_true rfl) dX12_odds_92 (fun z41 x40 w42 p43 => ?_)
              obtain ⟨p44, y45⟩ := p43
              rw [y45]
              clear y45
              refine fr_lstore (L' := [(0, vr G 0), (1, vi k), (2, vi p), (3, vi n), (4, vi z22), (5, vj l5_34), (7, vj l7_34), (9, vj z41)]) h dX12_odds_95 (by decide) [1, 2, 3, 4, 5, 6, 7, 0] rfl ?_
              refine fr_aload_n h rfl 0 rfl dX12_odds_97 ?_
              refine fr_iconst h dX12_odds_98 ?_
              refine fr_puti (iz := 4) h kX12 fX12_98 at_0M rfl rfl (by decide) (by decide) rfl (by decide +kernel) rfM_4 (by omega) (by omega) dX12_odds_99 ?_
              refine fr_mem (fun x46 m47 => ?_)
              refine fr_aload_n h rfl 0 rfl dX12_odds_102 ?_
              refine fr_lload h 6 rfl dX12_odds_103 ?_
              refine fr_lload h 5 rfl dX12_odds_105 ?_
              refine fr_lsub h dX12_odds_107 ?_
              refine fr_norml (fun z48 w49 q50 => ?_)
              have w51 : fm_l (l7_34 - l5_34) → z48 = (l7_34 - l5_34) := fun q => (lI_inj q w49 q50).symm
              refine fr_lload h 7 rfl dX12_odds_108 ?_
              refine fr_ldiv h (by omega) (by omega) (by omega) dX12_odds_110 (fun z52 w53 q54 w55 => ?_)
              have r56 := (fm_rd_s m47)
              refine fr_cvV h kX12 at_0M wX12_tell lX12_269 (c_X12_tell x46 z52 (by omega) (by omega)) rfl (by decide) (by decide) rfl (Nat.le_of_ble_eq_true rfl) dX12_odds_111 (fun x57 p60 => ?_)
              obtain ⟨p61, f62, f63⟩ := p60
              refine fr_aload_n h rfl 0 rfl dX12_odds_114 ?_
              refine fr_lload h 6 rfl dX12_odds_115 ?_
              refine fr_lload h 7 rfl dX12_odds_117 ?_
              refine fr_ldiv h (by omega) (by omega) (by omega) dX12_odds_119 (fun z64 w65 q66 w67 => ?_)
              have r68 := (fm_rd_s m47)
              refine fr_cvV h kX12 at_0M wX12_tell lX12_269 (c_X12_tell x57 z64 (by omega) (by omega)) rfl (by decide) (by decide) rfl (Nat.le_of_ble_eq_true rfl) dX12_odds_120 (fun x69 p72 => ?_)
              obtain ⟨p73, f74, f75⟩ := p72
              refine fr_iconst h dX12_odds_123 ?_
              have r76 := (f75 5 (by decide))
              have r77 := r76.trans (f63 5 (by decide))
              have r78 := r77.trans (fm_rd_i (a := 0) (b := 5) m47 (by decide))
              have r79 := r78.trans (f32 5 (by decide) (by decide) (by decide) (by decide) (by decide) (by decide) (by decide))
              have r80 := r79.trans (fm_rd_s m2)
              have r81 := (f75 12 (by decide))
              have r82 := r81.trans (f63 12 (by decide))
              have r83 := r82.trans (fm_rd_i (a := 0) (b := 12) m47 (by decide))
              have r84 := r83.trans (f32 12 (by decide) (by decide) (by decide) (by decide) (by decide) (by decide) (by decide))
              have r85 := r84.trans (fm_rd_i (a := 0) (b := 12) m2 (by decide))
              exact fr_iret h hq (by omega) ⟨(by omega), ⟨(by rw [show x69 1 = x57 1 from (f74 1 (by omega) (by omega))]; exact (by rw [show x57 1 = x46 1 from (f62 1 (by omega) (by omega))]; exact (by rw [show x46 1 = x21 1 from (fm_up_row m47 (by omega))]; exact (by rw [show x21 1 = x1 1 from (f31 1 (by omega) (by omega) (by omega))]; exact (by rw [show x1 1 = x 1 from (fm_up_row m2 (by omega))]; exact e0.1))))), (by rw [show x69 8 = x 8 from ((f74 8 (by omega) (by omega)).trans ((f62 8 (by omega) (by omega)).trans ((fm_up_row m47 (by omega)).trans ((f31 8 (by omega) (by omega) (by omega)).trans (fm_up_row m2 (by omega))))))]; exact e0.2.1), (by rw [show x69 26 = x 26 from ((f74 26 (by omega) (by omega)).trans ((f62 26 (by omega) (by omega)).trans ((fm_up_row m47 (by omega)).trans ((f31 26 (by omega) (by omega) (by omega)).trans (fm_up_row m2 (by omega))))))]; exact e0.2.2.1), (by have := e0.2.2.2; omega)⟩, (fun a k0 k1 k2 k3 => ((f74 a (by omega) (by omega)).trans ((f62 a (by omega) (by omega)).trans ((fm_up_row m47 (by omega)).trans ((f31 a (by omega) (by omega) (by omega)).trans (fm_up_row m2 (by omega))))))), (fun i k0 k1 k2 k3 k4 k5 k6 k7 k8 => ((f75 i (by omega)).trans ((f63 i (by omega)).trans ((fm_rd_i (a := 0) (b := i) m47 (by omega)).trans ((f32 i (by omega) (by omega) (by omega) (by omega) (by omega) (by omega) (by omega)).trans (fm_rd_i (a := 0) (b := i) m2 (by omega)))))))⟩ dX12_odds_124
            ·
              refine fr_lload h 5 rfl dX12_odds_57 ?_
              refine fr_iload h 4 rfl dX12_odds_59 ?_
              refine fr_aload_n h rfl 0 rfl dX12_odds_61 ?_
              refine fr_iload_n h rfl 2 rfl dX12_odds_62 ?_
              refine fr_cvI h kX12 at_0M wX12_upTo lX12_336 (c_X12_upTo x21 p (by omega)) rfl (by decide) (by decide) rfl (Nat.le_of_ble_eq_true rfl) dX12_odds_63 (fun z87 x86 w88 p89 => ?_)
              obtain ⟨p90, p91, y92⟩ := p89
              rw [y92]
              clear y92
              refine fr_isub h dX12_odds_66 ?_
              refine fr_i2l h (by omega) dX12_odds_67 ?_
              have hm1 := mul_bb (a := l5_34) (b := (z22 - z87)) (A := l7_34) (B := z22) (by omega) (by omega) (by omega) (by omega)
              refine fr_lmul h dX12_odds_68 ?_
              refine fr_norml (fun z93 w94 q95 => ?_)
              have w96 : fm_l (l5_34 * (z22 - z87)) → z93 = (l5_34 * (z22 - z87)) := fun q => (lI_inj q w94 q95).symm
              refine fr_lstore (L' := [(0, vr G 0), (1, vi k), (2, vi p), (3, vi n), (4, vi z22), (5, vj z93), (7, vj l7_34), (9, vi l9_34)]) h dX12_odds_69 (by decide) [1, 2, 3, 4, 5, 0, 6, 7] rfl ?_
              refine fr_lload h 6 rfl dX12_odds_71 ?_
              refine fr_iload h 4 rfl dX12_odds_73 ?_
              refine fr_i2l h (by omega) dX12_odds_75 ?_
              have hm2 : 1 ≤ l7_34 * z22 ∧ (l9_34 = 0 → l7_34 * z22 ≤ 1300) ∧ (l9_34 = 1 → l7_34 * z22 ≤ 1690000) ∧ (l9_34 = 2 → l7_34 * z22 ≤ 2197000000) := ⟨(mul_lo (M := l7_34) (by omega) (by omega) (by omega) (Int.le_refl _)).1, fun q9 => by have := mul_lo (a := l7_34) (b := z22) (M := 1) (by omega) (by omega) (by omega) (by omega); omega, fun q9 => by have := mul_lo (a := l7_34) (b := z22) (M := 1300) (by omega) (by omega) (by omega) (by omega); omega, fun q9 => by have := mul_lo (a := l7_34) (b := z22) (M := 1690000) (by omega) (by omega) (by omega) (by omega); omega⟩
              refine fr_lmul h dX12_odds_76 ?_
              refine fr_norml (fun z97 w98 q99 => ?_)
              have w100 : fm_l (l7_34 * z22) → z97 = (l7_34 * z22) := fun q => (lI_inj q w98 q99).symm
              refine fr_lstore (L' := [(0, vr G 0), (1, vi k), (2, vi p), (3, vi n), (4, vi z22), (5, vj z93), (7, vj z97), (9, vi l9_34)]) h dX12_odds_77 (by decide) [1, 2, 3, 4, 5, 6, 0, 7] rfl ?_
              refine fr_iinc (j := 7) (L' := [(0, vr G 0), (1, vi k), (2, vi p), (3, vi n), (4, vi z22), (5, vj z93), (7, vj z97), (9, vi (l9_34 + 1))]) h dX12_odds_79 rfl (by decide) [1, 2, 3, 4, 5, 6, 7, 0] rfl ?_
              refine fr_goto (tgt := 51) h dX12_odds_82 (by decide) ?_
              exact ih34 z93 z97 (l9_34 + 1) (by omega) (by omega) (by omega) (by omega) (by omega) (by omega) (by omega) (by omega) (by omega) (by omega) (by omega)
        exact HL34 ((3 - 0) + 1 : Int).toNat 1 1 0 (by omega) (by omega) (by omega) (by omega) (by omega) (by omega) (by omega) (by omega) (by omega) (by omega) (by omega)
      ·
        refine fr_bipush h rfl dX12_odds_39 ?_
        have r101 := (f32 5 (by decide) (by decide) (by decide) (by decide) (by decide) (by decide) (by decide))
        have r102 := r101.trans (fm_rd_s m2)
        have r103 := (f32 12 (by decide) (by decide) (by decide) (by decide) (by decide) (by decide) (by decide))
        have r104 := r103.trans (fm_rd_i (a := 0) (b := 12) m2 (by decide))
        exact fr_iret h hq (by omega) ⟨(by omega), ⟨(by rw [show x21 1 = x1 1 from (f31 1 (by omega) (by omega) (by omega))]; exact (by rw [show x1 1 = x 1 from (fm_up_row m2 (by omega))]; exact e0.1)), (by rw [show x21 8 = x 8 from ((f31 8 (by omega) (by omega) (by omega)).trans (fm_up_row m2 (by omega)))]; exact e0.2.1), (by rw [show x21 26 = x 26 from ((f31 26 (by omega) (by omega) (by omega)).trans (fm_up_row m2 (by omega)))]; exact e0.2.2.1), (by have := e0.2.2.2; omega)⟩, (fun a k0 k1 k2 k3 => ((f31 a (by omega) (by omega) (by omega)).trans (fm_up_row m2 (by omega)))), (fun i k0 k1 k2 k3 k4 k5 k6 k7 k8 => ((f32 i (by omega) (by omega) (by omega) (by omega) (by omega) (by omega) (by omega)).trans (fm_rd_i (a := 0) (b := i) m2 (by omega))))⟩ dX12_odds_41
    ·
      refine fr_iconst h dX12_odds_21 ?_
      have r105 := (fm_rd_s m2)
      have r106 := (fm_rd_i (a := 0) (b := 12) m2 (by decide))
      exact fr_iret h hq (by omega) ⟨(by omega), ⟨(by rw [show x1 1 = x 1 from (fm_up_row m2 (by omega))]; exact e0.1), (by rw [show x1 8 = x 8 from (fm_up_row m2 (by omega))]; exact e0.2.1), (by rw [show x1 26 = x 26 from (fm_up_row m2 (by omega))]; exact e0.2.2.1), (by have := e0.2.2.2; omega)⟩, (fun a k0 k1 k2 k3 => (fm_up_row m2 (by omega))), (fun i k0 k1 k2 k3 k4 k5 k6 k7 k8 => (fm_rd_i (a := 0) (b := i) m2 (by omega)))⟩ dX12_odds_22
set_option maxHeartbeats 200000 in
theorem c_X12_duelOf : ∀ (d : Nat) (x : Mm) (p : Int) (u : Int) (v : Int) (h_p : fm_r p) (h_u : fm_r u) (h_v : fm_r v) (e0 : 0 ≤ p) (e1 : p ≤ 3) (e2 : 0 ≤ u) (e3 : u ≤ v + 1) (e4 : v ≤ 5), (v - u + 1) < d → CnI YM yX12_duelOf cX12_duelOf 4 .int (d + 10) (d * 40 + 300) (fun G => [vr G 0, vi p, vi u, vi v]) x (fun z y' => (y' = x)) := by
  intro d
  induction d with
  | zero => intro x p u v h_p h_u h_v e0 e1 e2 e3 e4 hmu; exfalso; omega
  | succ d ih =>
    intro x p u v h_p h_u h_v e0 e1 e2 e3 e4 hmu
    refine cn_I (by decide) (fun _ => Nat.le_of_ble_eq_true rfl) (fun G C h hq => ?_)
    have h : OK YM G C cX12_duelOf RX12 4 (some .int) (d + 1 + 10) ((d + 1) * 40 + 300) := h
    show FW YM G C 4 x 0 [(0, vr G 0), (1, vi p), (2, vi u), (3, vi v)] []
    refine fr_iload_n h rfl 2 rfl dX12_duelOf_0 ?_
    refine fr_iload_n h rfl 3 rfl dX12_duelOf_1 ?_
    refine fr_icmp_le (tgt := 7) h dX12_duelOf_2 (by decide) (by omega) (by omega) (fun c1 => ?_) (fun c1 => ?_)
    ·
      refine fr_aload_n h rfl 0 rfl dX12_duelOf_7 ?_
      refine fr_getc (z := 1) (iz := 0) h kX12 fX12_9 at_0M rfl rfl rfM_0 (by omega) dX12_duelOf_8 ?_
      refine fr_bipush h rfl dX12_duelOf_11 ?_
      refine fr_iload_n h rfl 1 rfl dX12_duelOf_13 ?_
      refine fr_imul h dX12_duelOf_14 ?_
      refine fr_iload_n h rfl 2 rfl dX12_duelOf_15 ?_
      refine fr_iadd h dX12_duelOf_16 ?_
      refine fr_iald h (SA_a SA_1) (by omega) (by omega) ((SA_r SA_1 ((6 * p) + u)).trans (sg_num (by omega) (by omega))) dX12_duelOf_17 (fun z2 w3 w4 q5 => ?_)
      refine fr_aload_n h rfl 0 rfl dX12_duelOf_18 ?_
      refine fr_iload_n h rfl 1 rfl dX12_duelOf_19 ?_
      refine fr_iload_n h rfl 2 rfl dX12_duelOf_20 ?_
      refine fr_iconst h dX12_duelOf_21 ?_
      refine fr_iadd h dX12_duelOf_22 ?_
      refine fr_iload_n h rfl 3 rfl dX12_duelOf_23 ?_
      refine fr_cvI h kX12 at_0M wX12_duelOf lX12_362 (ih x p (u + 1) v (by omega) (by omega) (by omega) (by omega) (by omega) (by omega) (by omega) (by omega) (by omega)) rfl (by omega) (by omega) rfl (Nat.le_of_ble_eq_true rfl) dX12_duelOf_24 (fun z7 x6 w8 p9 => ?_)
      have y10 := p9
      rw [y10]
      clear y10
      refine fr_isub h dX12_duelOf_27 ?_
      refine fr_normi (fun z11 w12 q13 => ?_)
      have w14 : fm_r ((z2 - z7)) → z11 = (z2 - z7) := fun q => (iI_inj q w12 q13).symm
      refine fr_aload_n h rfl 0 rfl dX12_duelOf_28 ?_
      refine fr_getc (z := 1) (iz := 0) h kX12 fX12_9 at_0M rfl rfl rfM_0 (by omega) dX12_duelOf_29 ?_
      refine fr_bipush h rfl dX12_duelOf_32 ?_
      refine fr_iload_n h rfl 1 rfl dX12_duelOf_34 ?_
      refine fr_imul h dX12_duelOf_35 ?_
      refine fr_iload_n h rfl 3 rfl dX12_duelOf_36 ?_
      refine fr_iadd h dX12_duelOf_37 ?_
      refine fr_iald h (SA_a SA_1) (by omega) (by omega) ((SA_r SA_1 ((6 * p) + v)).trans (sg_num (by omega) (by omega))) dX12_duelOf_38 (fun z15 w16 w17 q18 => ?_)
      refine fr_aload_n h rfl 0 rfl dX12_duelOf_39 ?_
      refine fr_iload_n h rfl 1 rfl dX12_duelOf_40 ?_
      refine fr_iload_n h rfl 2 rfl dX12_duelOf_41 ?_
      refine fr_iload_n h rfl 3 rfl dX12_duelOf_42 ?_
      refine fr_iconst h dX12_duelOf_43 ?_
      refine fr_isub h dX12_duelOf_44 ?_
      refine fr_cvI h kX12 at_0M wX12_duelOf lX12_362 (ih x p u (v - 1) (by omega) (by omega) (by omega) (by omega) (by omega) (by omega) (by omega) (by omega) (by omega)) rfl (by omega) (by omega) rfl (Nat.le_of_ble_eq_true rfl) dX12_duelOf_45 (fun z20 x19 w21 p22 => ?_)
      have y23 := p22
      rw [y23]
      clear y23
      refine fr_isub h dX12_duelOf_48 ?_
      refine fr_normi (fun z24 w25 q26 => ?_)
      have w27 : fm_r ((z15 - z20)) → z24 = (z15 - z20) := fun q => (iI_inj q w25 q26).symm
      refine fr_mmax h (by omega) (by omega) (tb_6 (i := 216) (by decide +kernel) (by decide +kernel)) w_mmax (by omega) (by omega) (Nat.le_of_ble_eq_true rfl) dX12_duelOf_49 (fun z28 w29 w30 w31 => ?_)
      exact fr_iret h hq (by omega) rfl dX12_duelOf_52
    ·
      refine fr_iconst h dX12_duelOf_5 ?_
      exact fr_iret h hq (by omega) rfl dX12_duelOf_6
set_option maxHeartbeats 1000000 in
theorem c_X12_duel (x : Mm) (p : Int) (h_p : fm_r p) (e0 : GI x) : CnI YM yX12_duel cX12_duel 4 .int 18 603 (fun G => [vr G 0, vi p]) x (fun z y' => (y' 0 5 = 0) ∧ (GI y') ∧ (∀ a : Int, (a < 0 ∨ 0 < a) → (a < 3 ∨ 3 < a) → y' a = x a) ∧ (∀ i : Int, i ≠ 4 → i ≠ 5 → y' 0 i = x 0 i)) := by
  refine cn_I (by decide) (fun _ => Nat.le_of_ble_eq_true rfl) (fun G C h hq => ?_)
  have h : OK YM G C cX12_duel RX12 4 (some .int) 18 603 := h
  show FW YM G C 4 x 0 [(0, vr G 0), (1, vi p)] []
  have e12 := e0.2.2.2
  refine fr_aload_n h rfl 0 rfl dX12_duel_0 ?_
  refine fr_iconst h dX12_duel_1 ?_
  refine fr_puti (iz := 5) h kX12 fX12_94 at_0M rfl rfl (by decide) (by decide) rfl (by decide +kernel) rfM_5 (by omega) (by omega) dX12_duel_2 ?_
  refine fr_mem (fun x1 m2 => ?_)
  refine fr_iload_n h rfl 1 rfl dX12_duel_5 ?_
  refine fr_csI h wX12_isList lX12_161 (c_X12_isList x1 p (by omega)) rfl (by decide) (by decide) rfl (Nat.le_of_ble_eq_true rfl) dX12_duel_6 (fun z4 x3 w5 p6 => ?_)
  obtain ⟨p7, p8, y9⟩ := p6
  rw [y9]
  clear y9
  refine fr_if_ne (tgt := 14) h dX12_duel_9 (by decide) (by omega) (fun c10 => ?_) (fun c10 => ?_)
  ·
    refine fr_aload_n h rfl 0 rfl dX12_duel_14 ?_
    refine fr_getc (z := 1) (iz := 0) h kX12 fX12_9 at_0M rfl rfl rfM_0 (by omega) dX12_duel_15 ?_
    refine fr_bipush h rfl dX12_duel_18 ?_
    refine fr_iload_n h rfl 1 rfl dX12_duel_20 ?_
    refine fr_iadd h dX12_duel_21 ?_
    refine fr_iald h (SA_a SA_1) (by omega) (by omega) ((SA_r SA_1 (24 + p)).trans (sg_len (by omega) (by omega))) dX12_duel_22 (fun z11 w12 w13 q14 => ?_)
    have r15 := q14.trans (fm_rd_k (a := 1) (b := (24 + p)) m2 (by omega))
    refine fr_istore_n (L' := [(0, vr G 0), (1, vi p), (2, vi z11)]) h rfl dX12_duel_23 (by decide) [1, 2, 0] rfl ?_
    refine fr_aload_n h rfl 0 rfl dX12_duel_24 ?_
    refine fr_iload_n h rfl 1 rfl dX12_duel_25 ?_
    refine fr_iconst h dX12_duel_26 ?_
    refine fr_iload_n h rfl 2 rfl dX12_duel_27 ?_
    refine fr_iconst h dX12_duel_28 ?_
    refine fr_isub h dX12_duel_29 ?_
    refine fr_cvI h kX12 at_0M wX12_duelOf lX12_362 (c_X12_duelOf 7 x1 p 0 (z11 - 1) (by omega) (by omega) (by omega) (by omega) (by omega) (by omega) (by omega) (by omega) (by omega)) rfl (by decide) (by decide) rfl (Nat.le_of_ble_eq_true rfl) dX12_duel_30 (fun z17 x16 w18 p19 => ?_)
    have y20 := p19
    rw [y20]
    clear y20
    refine fr_istore_n (L' := [(0, vr G 0), (1, vi p), (2, vi z11), (3, vi z17)]) h rfl dX12_duel_33 (by decide) [1, 2, 3, 0] rfl ?_
    refine fr_aload_n h rfl 0 rfl dX12_duel_34 ?_
    refine fr_iconst h dX12_duel_35 ?_
    refine fr_puti (iz := 4) h kX12 fX12_98 at_0M rfl rfl (by decide) (by decide) rfl (by decide +kernel) rfM_4 (by omega) (by omega) dX12_duel_36 ?_
    refine fr_mem (fun x21 m22 => ?_)
    refine fr_iload_n h rfl 2 rfl dX12_duel_39 ?_
    refine fr_if_le (tgt := 75) h dX12_duel_40 (by decide) (by omega) (fun c23 => ?_) (fun c23 => ?_)
    ·
      refine fr_sipush h rfl dX12_duel_75 ?_
      refine fr_iload_n h rfl 3 rfl dX12_duel_78 ?_
      refine fr_iadd h dX12_duel_79 ?_
      refine fr_normi (fun z24 w25 q26 => ?_)
      have w27 : fm_r ((1000 + z17)) → z24 = (1000 + z17) := fun q => (iI_inj q w25 q26).symm
      have r28 := (fm_rd_i (a := 0) (b := 5) m22 (by decide))
      have r29 := r28.trans (fm_rd_s m2)
      have r30 := (fm_rd_i (a := 0) (b := 12) m22 (by decide))
      have r31 := r30.trans (fm_rd_i (a := 0) (b := 12) m2 (by decide))
      exact fr_iret h hq (by omega) ⟨(by omega), ⟨(by rw [show x21 1 = x1 1 from (fm_up_row m22 (by omega))]; exact (by rw [show x1 1 = x 1 from (fm_up_row m2 (by omega))]; exact e0.1)), (by rw [show x21 8 = x 8 from ((fm_up_row m22 (by omega)).trans (fm_up_row m2 (by omega)))]; exact e0.2.1), (by rw [show x21 26 = x 26 from ((fm_up_row m22 (by omega)).trans (fm_up_row m2 (by omega)))]; exact e0.2.2.1), (by have := e0.2.2.2; omega)⟩, (fun a k0 k1 => ((fm_up_row m22 (by omega)).trans (fm_up_row m2 (by omega)))), (fun i k0 k1 => ((fm_rd_i (a := 0) (b := i) m22 (by omega)).trans (fm_rd_i (a := 0) (b := i) m2 (by omega))))⟩ dX12_duel_80
    ·
      refine fr_aload_n h rfl 0 rfl dX12_duel_43 ?_
      refine fr_aload_n h rfl 0 rfl dX12_duel_44 ?_
      refine fr_getc (z := 1) (iz := 0) h kX12 fX12_9 at_0M rfl rfl rfM_0 (by omega) dX12_duel_45 ?_
      refine fr_bipush h rfl dX12_duel_48 ?_
      refine fr_iload_n h rfl 1 rfl dX12_duel_50 ?_
      refine fr_imul h dX12_duel_51 ?_
      refine fr_iald h (SA_a SA_1) (by omega) (by omega) ((SA_r SA_1 (6 * p)).trans (sg_num (by omega) (by omega))) dX12_duel_52 (fun z32 w33 w34 q35 => ?_)
      have r36 := q35.trans (fm_rd_k (a := 1) (b := (6 * p)) m22 (by omega))
      have r37 := r36.trans (fm_rd_k (a := 1) (b := (6 * p)) m2 (by omega))
      refine fr_aload_n h rfl 0 rfl dX12_duel_53 ?_
      refine fr_iload_n h rfl 1 rfl dX12_duel_54 ?_
      refine fr_iconst h dX12_duel_55 ?_
      refine fr_iload_n h rfl 2 rfl dX12_duel_56 ?_
      refine fr_iconst h dX12_duel_57 ?_
      refine fr_isub h dX12_duel_58 ?_
      refine fr_cvI h kX12 at_0M wX12_duelOf lX12_362 (c_X12_duelOf 7 x21 p 1 (z11 - 1) (by omega) (by omega) (by omega) (by omega) (by omega) (by omega) (by omega) (by omega) (by omega)) rfl (by decide) (by decide) rfl (Nat.le_of_ble_eq_true rfl) dX12_duel_59 (fun z39 x38 w40 p41 => ?_)
      have y42 := p41
      rw [y42]
      clear y42
      refine fr_isub h dX12_duel_62 ?_
      refine fr_normi (fun z43 w44 q45 => ?_)
      have w46 : fm_r ((z32 - z39)) → z43 = (z32 - z39) := fun q => (iI_inj q w44 q45).symm
      refine fr_iload_n h rfl 3 rfl dX12_duel_63 ?_
      refine fr_icmp_ne (tgt := 71) h dX12_duel_64 (by decide) (by omega) (by omega) (fun c47 => ?_) (fun c47 => ?_)
      ·
        refine fr_lconst (z := 1) h rfl dX12_duel_71 ?_
        have r48 := (fm_rd_s m22)
        refine fr_cvV h kX12 at_0M wX12_tell lX12_269 (c_X12_tell x21 1 (by omega) (by omega)) rfl (by decide) (by decide) rfl (Nat.le_of_ble_eq_true rfl) dX12_duel_72 (fun x49 p52 => ?_)
        obtain ⟨p53, f54, f55⟩ := p52
        refine fr_sipush h rfl dX12_duel_75 ?_
        refine fr_iload_n h rfl 3 rfl dX12_duel_78 ?_
        refine fr_iadd h dX12_duel_79 ?_
        refine fr_normi (fun z56 w57 q58 => ?_)
        have w59 : fm_r ((1000 + z17)) → z56 = (1000 + z17) := fun q => (iI_inj q w57 q58).symm
        have r60 := (f55 5 (by decide))
        have r61 := r60.trans (fm_rd_i (a := 0) (b := 5) m22 (by decide))
        have r62 := r61.trans (fm_rd_s m2)
        have r63 := (f55 12 (by decide))
        have r64 := r63.trans (fm_rd_i (a := 0) (b := 12) m22 (by decide))
        have r65 := r64.trans (fm_rd_i (a := 0) (b := 12) m2 (by decide))
        exact fr_iret h hq (by omega) ⟨(by omega), ⟨(by rw [show x49 1 = x21 1 from (f54 1 (by omega) (by omega))]; exact (by rw [show x21 1 = x1 1 from (fm_up_row m22 (by omega))]; exact (by rw [show x1 1 = x 1 from (fm_up_row m2 (by omega))]; exact e0.1))), (by rw [show x49 8 = x 8 from ((f54 8 (by omega) (by omega)).trans ((fm_up_row m22 (by omega)).trans (fm_up_row m2 (by omega))))]; exact e0.2.1), (by rw [show x49 26 = x 26 from ((f54 26 (by omega) (by omega)).trans ((fm_up_row m22 (by omega)).trans (fm_up_row m2 (by omega))))]; exact e0.2.2.1), (by have := e0.2.2.2; omega)⟩, (fun a k0 k1 => ((f54 a (by omega) (by omega)).trans ((fm_up_row m22 (by omega)).trans (fm_up_row m2 (by omega))))), (fun i k0 k1 => ((f55 i (by omega)).trans ((fm_rd_i (a := 0) (b := i) m22 (by omega)).trans (fm_rd_i (a := 0) (b := i) m2 (by omega)))))⟩ dX12_duel_80
      ·
        refine fr_lconst (z := 0) h rfl dX12_duel_67 ?_
        refine fr_goto (tgt := 72) h dX12_duel_68 (by decide) ?_
        have r66 := (fm_rd_s m22)
        refine fr_cvV h kX12 at_0M wX12_tell lX12_269 (c_X12_tell x21 0 (by omega) (by omega)) rfl (by decide) (by decide) rfl (Nat.le_of_ble_eq_true rfl) dX12_duel_72 (fun x67 p70 => ?_)
        obtain ⟨p71, f72, f73⟩ := p70
        refine fr_sipush h rfl dX12_duel_75 ?_
        refine fr_iload_n h rfl 3 rfl dX12_duel_78 ?_
        refine fr_iadd h dX12_duel_79 ?_
        refine fr_normi (fun z74 w75 q76 => ?_)
        have w77 : fm_r ((1000 + z17)) → z74 = (1000 + z17) := fun q => (iI_inj q w75 q76).symm
        have r78 := (f73 5 (by decide))
        have r79 := r78.trans (fm_rd_i (a := 0) (b := 5) m22 (by decide))
        have r80 := r79.trans (fm_rd_s m2)
        have r81 := (f73 12 (by decide))
        have r82 := r81.trans (fm_rd_i (a := 0) (b := 12) m22 (by decide))
        have r83 := r82.trans (fm_rd_i (a := 0) (b := 12) m2 (by decide))
        exact fr_iret h hq (by omega) ⟨(by omega), ⟨(by rw [show x67 1 = x21 1 from (f72 1 (by omega) (by omega))]; exact (by rw [show x21 1 = x1 1 from (fm_up_row m22 (by omega))]; exact (by rw [show x1 1 = x 1 from (fm_up_row m2 (by omega))]; exact e0.1))), (by rw [show x67 8 = x 8 from ((f72 8 (by omega) (by omega)).trans ((fm_up_row m22 (by omega)).trans (fm_up_row m2 (by omega))))]; exact e0.2.1), (by rw [show x67 26 = x 26 from ((f72 26 (by omega) (by omega)).trans ((fm_up_row m22 (by omega)).trans (fm_up_row m2 (by omega))))]; exact e0.2.2.1), (by have := e0.2.2.2; omega)⟩, (fun a k0 k1 => ((f72 a (by omega) (by omega)).trans ((fm_up_row m22 (by omega)).trans (fm_up_row m2 (by omega))))), (fun i k0 k1 => ((f73 i (by omega)).trans ((fm_rd_i (a := 0) (b := i) m22 (by omega)).trans (fm_rd_i (a := 0) (b := i) m2 (by omega)))))⟩ dX12_duel_80
  ·
    refine fr_iconst h dX12_duel_12 ?_
    have r84 := (fm_rd_s m2)
    have r85 := (fm_rd_i (a := 0) (b := 12) m2 (by decide))
    exact fr_iret h hq (by omega) ⟨(by omega), ⟨(by rw [show x1 1 = x 1 from (fm_up_row m2 (by omega))]; exact e0.1), (by rw [show x1 8 = x 8 from (fm_up_row m2 (by omega))]; exact e0.2.1), (by rw [show x1 26 = x 26 from (fm_up_row m2 (by omega))]; exact e0.2.2.1), (by have := e0.2.2.2; omega)⟩, (fun a k0 k1 => (fm_up_row m2 (by omega))), (fun i k0 k1 => (fm_rd_i (a := 0) (b := i) m2 (by omega)))⟩ dX12_duel_13
set_option maxHeartbeats 4000000 in
theorem c_X12_law (x : Mm) (e0 : GI x) : CnI YM yX12_law cX12_law 8 .int 207 6248 (fun G => [vr G 0]) x (fun z y' => (y' 0 5 = 0) ∧ (y' 0 2 = 0) ∧ (GI y') ∧ (∀ a : Int, (a < 0 ∨ 0 < a) → (a < 3 ∨ 3 < a) → (a < 5 ∨ 6 < a) → (a < 7 ∨ 7 < a) → (a < 12 ∨ 18 < a) → y' a = x a) ∧ (∀ i : Int, i ≠ 2 → i ≠ 4 → i ≠ 5 → i ≠ 6 → i ≠ 7 → i ≠ 8 → i ≠ 9 → i ≠ 10 → i ≠ 12 → i ≠ 14 → i ≠ 15 → i ≠ 26 → y' 0 i = x 0 i)) := by
  refine cn_I (by decide) (fun _ => Nat.le_of_ble_eq_true rfl) (fun G C h hq => ?_)
  have h : OK YM G C cX12_law RX12 8 (some .int) 207 6248 := h
  show FW YM G C 8 x 0 [(0, vr G 0)] []
  have e12 := e0.2.2.2
  refine fr_aload_n h rfl 0 rfl dX12_law_0 ?_
  refine fr_iconst h dX12_law_1 ?_
  refine fr_puti (iz := 5) h kX12 fX12_94 at_0M rfl rfl (by decide) (by decide) rfl (by decide +kernel) rfM_5 (by omega) (by omega) dX12_law_2 ?_
  refine fr_mem (fun x1 m2 => ?_)
  refine fr_aload_n h rfl 0 rfl dX12_law_5 ?_
  refine fr_geti (iz := 2) h kX12 fX12_109 at_0M rfl rfl (by decide) (by decide) rfM_2 dX12_law_6 (fun z3 w4 w5 q6 => ?_)
  have r7 := q6.trans (fm_rd_i (a := 0) (b := 2) m2 (by decide))
  refine fr_istore_n (L' := [(0, vr G 0), (1, vi z3)]) h rfl dX12_law_9 (by decide) [1, 0] rfl ?_
  refine fr_aload_n h rfl 0 rfl dX12_law_10 ?_
  refine fr_cvI h kX12 at_0M wX12_readRule lX12_195 (c_X12_readRule x1) rfl (by decide) (by decide) rfl (Nat.le_of_ble_eq_true rfl) dX12_law_11 (fun z9 x8 w10 p11 => ?_)
  obtain ⟨p12, p13, p14, f15, f16⟩ := p11
  refine fr_if_ne (tgt := 26) h dX12_law_14 (by decide) (by omega) (fun c17 => ?_) (fun c17 => ?_)
  ·
    refine fr_aload_n h rfl 0 rfl dX12_law_26 ?_
    have r18 := (f16 12 (by decide) (by decide) (by decide) (by decide) (by decide) (by decide) (by decide))
    have r19 := r18.trans (fm_rd_i (a := 0) (b := 12) m2 (by decide))
    skip
    refine fr_rng (fun h20 => ?_)
    have w21 : 5 ≤ x8 0 12 ∧ x8 0 12 ≤ 6 := h20 0 12
    obtain ⟨u22, q23⟩ : ∃ z, x8 0 12 = z := ⟨_, rfl⟩
    rw [q23] at w21
    have i24 : RBN u22 40 := by unfold RBN; omega
    refine fr_getr (z := u22) (iz := 12) h kX12 fX12_24 at_0M rfl rfl q23 (by omega) dX12_law_27 ?_
    refine fr_astore_n (L' := [(0, vr G 0), (1, vi z3), (2, vr G u22)]) h rfl dX12_law_30 (by decide) [1, 2, 0] rfl ?_
    refine fr_aload_n h rfl 0 rfl dX12_law_31 ?_
    refine fr_geti (iz := 14) h kX12 fX12_198 at_0M rfl rfl (by decide) (by decide) rfM_14 dX12_law_32 (fun z25 w26 w27 q28 => ?_)
    have r29 := q28.trans (f16 14 (by decide) (by decide) (by decide) (by decide) (by decide) (by decide) (by decide))
    have r30 := r29.trans (fm_rd_i (a := 0) (b := 14) m2 (by decide))
    refine fr_istore_n (L' := [(0, vr G 0), (1, vi z3), (2, vr G u22), (3, vi z25)]) h rfl dX12_law_35 (by decide) [1, 2, 3, 0] rfl ?_
    refine fr_aload_n h rfl 0 rfl dX12_law_36 ?_
    refine fr_aload_n h rfl 0 rfl dX12_law_37 ?_
    refine fr_getc (z := 6) (iz := 13) h kX12 fX12_27 at_0M rfl rfl rfM_13 (by omega) dX12_law_38 ?_
    refine fr_putr (tf := (.array .byte)) (iz := 12) h kX12 fX12_24 at_0M rfl rfl rfl (by decide +kernel) (fun _ => rfl) (fun _ => rfl) rfM_12 (by omega) (by omega) (by omega) dX12_law_41 ?_
    refine fr_mem (fun x31 m32 => ?_)
    refine fr_aload_n h rfl 0 rfl dX12_law_44 ?_
    refine fr_iload_n h rfl 1 rfl dX12_law_45 ?_
    refine fr_puti (iz := 14) h kX12 fX12_198 at_0M rfl rfl (by decide) (by decide) rfl (by decide +kernel) rfM_14 (by omega) (by omega) dX12_law_46 ?_
    refine fr_mem (fun x33 m34 => ?_)
    refine fr_iconst h dX12_law_49 ?_
    refine fr_istore (L' := [(0, vr G 0), (1, vi z3), (2, vr G u22), (3, vi z25), (4, vi 0)]) h dX12_law_50 (by decide) [1, 2, 3, 4, 0] rfl ?_
    have HL35 : ∀ (n35 : Nat) (l4_35 : Int) (x_35 : Mm), fm_r l4_35 → 0 ≤ l4_35 → l4_35 ≤ 40 → (∀ a : Int, (a < 5 ∨ 6 < a) → x_35 a = x33 a) → (40 - l4_35) < n35 → FW YM G C 8 x_35 52 [(0, vr G 0), (1, vi z3), (2, vr G u22), (3, vi z25), (4, vi l4_35)] [] := by
      intro n35
      induction n35 with
      | zero =>
        intro l4_35 x_35 g35_0 g35_1 g35_2 g35_3 g35_4
        exfalso; omega
      | succ n35 ih35 =>
        intro l4_35 x_35 g35_0 g35_1 g35_2 g35_3 g35_4
        refine fr_iload h 4 rfl dX12_law_52 ?_
        refine fr_iload_n h rfl 1 rfl dX12_law_54 ?_
        refine fr_icmp_ge (tgt := 78) h dX12_law_55 (by decide) (by omega) (by omega) (fun c36 => ?_) (fun c36 => ?_)
        ·
          refine fr_aload_n h rfl 0 rfl dX12_law_78 ?_
          refine fr_aload_n h rfl 0 rfl dX12_law_79 ?_
          refine fr_getc (z := 1) (iz := 0) h kX12 fX12_9 at_0M rfl rfl rfM_0 (by omega) dX12_law_80 ?_
          refine fr_iconst h dX12_law_83 ?_
          refine fr_cvI h kX12 at_0M wX12_layAll lX12_327 (c_X12_layAll x_35 1 SA_1 0 (by omega) (by rw [show x_35 1 = x33 1 from (g35_3 1 (by omega))]; exact (by rw [show x33 1 = x31 1 from (fm_up_row m34 (by omega))]; exact (by rw [show x31 1 = x8 1 from (fm_up_row m32 (by omega))]; exact (by rw [show x8 1 = x1 1 from (f15 1 (by omega))]; exact (by rw [show x1 1 = x 1 from (fm_up_row m2 (by omega))]; exact e0.1)))))) rfl (by decide) (by decide) rfl (Nat.le_of_ble_eq_true rfl) dX12_law_84 (fun z38 x37 w39 p40 => ?_)
          obtain ⟨p41, p42, p43, p44, p45, p46, f47, f48⟩ := p40
          refine fr_pop h rfl dX12_law_87 ?_
          refine fr_aload_n h rfl 0 rfl dX12_law_88 ?_
          refine fr_aload_n h rfl 2 rfl dX12_law_89 ?_
          refine fr_putr (tf := (.array .byte)) (iz := 12) h kX12 fX12_24 at_0M rfl rfl rfl (by decide +kernel) (fun _ => rfl) (fun _ => rfl) rfM_12 (by omega) (by omega) (by omega) dX12_law_90 ?_
          refine fr_mem (fun x49 m50 => ?_)
          refine fr_aload_n h rfl 0 rfl dX12_law_93 ?_
          refine fr_iload_n h rfl 3 rfl dX12_law_94 ?_
          refine fr_puti (iz := 14) h kX12 fX12_198 at_0M rfl rfl (by decide) (by decide) rfl (by decide +kernel) rfM_14 (by omega) (by omega) dX12_law_95 ?_
          refine fr_mem (fun x51 m52 => ?_)
          refine fr_aload_n h rfl 0 rfl dX12_law_98 ?_
          refine fr_getc (z := 15) (iz := 27) h kX12 fX12_54 at_0M rfl rfl rfM_27 (by omega) dX12_law_99 ?_
          refine fr_iconst h dX12_law_102 ?_
          refine fr_iald h arM_15 (by omega) (by omega) (rrM_15 0) dX12_law_103 (fun z53 w54 w55 q56 => ?_)
          have r57 := q56.trans (fm_rd_k (a := 15) (b := 0) m52 (by omega))
          have r58 := r57.trans (fm_rd_k (a := 15) (b := 0) m50 (by omega))
          have r59 := (congrFun (g35_3 15 (by omega)) 0)
          have r60 := r59.trans (fm_rd_k (a := 15) (b := 0) m34 (by omega))
          have r61 := r60.trans (fm_rd_k (a := 15) (b := 0) m32 (by omega))
          have r62 := r61.trans (congrFun (f15 15 (by omega)) 0)
          have r63 := r62.trans (fm_rd_k (a := 15) (b := 0) m2 (by omega))
          refine fr_istore (L' := [(0, vr G 0), (1, vi z3), (2, vr G u22), (3, vi z25), (4, vi z53)]) h dX12_law_104 (by decide) [1, 2, 3, 4, 0] rfl ?_
          refine fr_aload_n h rfl 0 rfl dX12_law_106 ?_
          refine fr_getc (z := 14) (iz := 25) h kX12 fX12_51 at_0M rfl rfl rfM_25 (by omega) dX12_law_107 ?_
          refine fr_iload h 4 rfl dX12_law_110 ?_
          refine fr_iald h arM_14 (by omega) (by omega) (rrM_14 z53) dX12_law_112 (fun z64 w65 w66 q67 => ?_)
          have r68 := q67.trans (fm_rd_k (a := 14) (b := z53) m52 (by omega))
          have r69 := r68.trans (fm_rd_k (a := 14) (b := z53) m50 (by omega))
          have r70 := (congrFun (g35_3 14 (by omega)) z53)
          have r71 := r70.trans (fm_rd_k (a := 14) (b := z53) m34 (by omega))
          have r72 := r71.trans (fm_rd_k (a := 14) (b := z53) m32 (by omega))
          have r73 := r72.trans (congrFun (f15 14 (by omega)) z53)
          have r74 := r73.trans (fm_rd_k (a := 14) (b := z53) m2 (by omega))
          refine fr_istore (L' := [(0, vr G 0), (1, vi z3), (2, vr G u22), (3, vi z25), (4, vi z53), (5, vi z64)]) h dX12_law_113 (by decide) [1, 2, 3, 4, 5, 0] rfl ?_
          refine fr_aload_n h rfl 0 rfl dX12_law_115 ?_
          refine fr_aload_n h rfl 0 rfl dX12_law_116 ?_
          refine fr_getc (z := 1) (iz := 0) h kX12 fX12_9 at_0M rfl rfl rfM_0 (by omega) dX12_law_117 ?_
          refine fr_iconst h dX12_law_120 ?_
          refine fr_cvI h kX12 at_0M wX12_layAll lX12_327 (c_X12_layAll x51 1 SA_1 0 (by omega) (by rw [show x51 1 = x49 1 from (fm_up_row m52 (by omega))]; exact (by rw [show x49 1 = x37 1 from (fm_up_row m50 (by omega))]; exact (by rw [show x37 1 = x_35 1 from (f47 1 (by omega) (by omega) (by omega))]; exact (by rw [show x_35 1 = x33 1 from (g35_3 1 (by omega))]; exact (by rw [show x33 1 = x31 1 from (fm_up_row m34 (by omega))]; exact (by rw [show x31 1 = x8 1 from (fm_up_row m32 (by omega))]; exact (by rw [show x8 1 = x1 1 from (f15 1 (by omega))]; exact (by rw [show x1 1 = x 1 from (fm_up_row m2 (by omega))]; exact e0.1))))))))) rfl (by decide) (by decide) rfl (Nat.le_of_ble_eq_true rfl) dX12_law_121 (fun z76 x75 w77 p78 => ?_)
          obtain ⟨p79, p80, p81, p82, p83, p84, f85, f86⟩ := p78
          refine fr_istore (L' := [(0, vr G 0), (1, vi z3), (2, vr G u22), (3, vi z25), (4, vi z53), (5, vi z64), (6, vi z76)]) h dX12_law_124 (by decide) [1, 2, 3, 4, 5, 6, 0] rfl ?_
          refine fr_iconst h dX12_law_126 ?_
          refine fr_istore (L' := [(0, vr G 0), (1, vi z3), (2, vr G u22), (3, vi z25), (4, vi z53), (5, vi z64), (6, vi z76), (7, vi 1)]) h dX12_law_127 (by decide) [1, 2, 3, 4, 5, 6, 7, 0] rfl ?_
          have HL87 : ∀ (n87 : Nat) (l7_87 : Int), fm_r l7_87 → 1 ≤ l7_87 → l7_87 ≤ 1301 → (1301 - l7_87) < n87 → FW YM G C 8 x75 129 [(0, vr G 0), (1, vi z3), (2, vr G u22), (3, vi z25), (4, vi z53), (5, vi z64), (6, vi z76), (7, vi l7_87)] [] := by
            intro n87
            induction n87 with
            | zero =>
              intro l7_87 g87_0 g87_1 g87_2 g87_3
              exfalso; omega
            | succ n87 ih87 =>
              intro l7_87 g87_0 g87_1 g87_2 g87_3
              refine fr_iload h 7 rfl dX12_law_129 ?_
              refine fr_iload h 6 rfl dX12_law_131 ?_
              refine fr_icmp_gt (tgt := 186) h dX12_law_133 (by decide) (by omega) (by omega) (fun c88 => ?_) (fun c88 => ?_)
              ·
                refine fr_iconst h dX12_law_186 ?_
                have r89 := (f86 5 (by decide) (by decide) (by decide) (by decide) (by decide) (by decide) (by decide))
                have r90 := r89.trans (fm_rd_i (a := 0) (b := 5) m52 (by decide))
                have r91 := r90.trans (fm_rd_i (a := 0) (b := 5) m50 (by decide))
                have r92 := r91.trans (f48 5 (by decide) (by decide) (by decide) (by decide) (by decide) (by decide) (by decide))
                have r93 := r92.trans (congrFun (g35_3 0 (by omega)) 5)
                have r94 := r93.trans (fm_rd_i (a := 0) (b := 5) m34 (by decide))
                have r95 := r94.trans (fm_rd_i (a := 0) (b := 5) m32 (by decide))
                have r96 := r95.trans (f16 5 (by decide) (by decide) (by decide) (by decide) (by decide) (by decide) (by decide))
                have r97 := r96.trans (fm_rd_s m2)
                have r98 := (f86 2 (by decide) (by decide) (by decide) (by decide) (by decide) (by decide) (by decide))
                have r99 := r98.trans (fm_rd_i (a := 0) (b := 2) m52 (by decide))
                have r100 := r99.trans (fm_rd_i (a := 0) (b := 2) m50 (by decide))
                have r101 := r100.trans (f48 2 (by decide) (by decide) (by decide) (by decide) (by decide) (by decide) (by decide))
                have r102 := r101.trans (congrFun (g35_3 0 (by omega)) 2)
                have r103 := r102.trans (fm_rd_i (a := 0) (b := 2) m34 (by decide))
                have r104 := r103.trans (fm_rd_i (a := 0) (b := 2) m32 (by decide))
                have r105 := (fm_rd_i (a := 0) (b := 2) m2 (by decide))
                have r106 := (f86 12 (by decide) (by decide) (by decide) (by decide) (by decide) (by decide) (by decide))
                have r107 := r106.trans (fm_rd_i (a := 0) (b := 12) m52 (by decide))
                have r108 := r107.trans (fm_rd_s m50)
                exact fr_iret h hq (by omega) ⟨(by omega), (by omega), ⟨(by rw [show x75 1 = x51 1 from (f85 1 (by omega) (by omega) (by omega))]; exact (by rw [show x51 1 = x49 1 from (fm_up_row m52 (by omega))]; exact (by rw [show x49 1 = x37 1 from (fm_up_row m50 (by omega))]; exact (by rw [show x37 1 = x_35 1 from (f47 1 (by omega) (by omega) (by omega))]; exact (by rw [show x_35 1 = x33 1 from (g35_3 1 (by omega))]; exact (by rw [show x33 1 = x31 1 from (fm_up_row m34 (by omega))]; exact (by rw [show x31 1 = x8 1 from (fm_up_row m32 (by omega))]; exact (by rw [show x8 1 = x1 1 from (f15 1 (by omega))]; exact (by rw [show x1 1 = x 1 from (fm_up_row m2 (by omega))]; exact e0.1))))))))), (by rw [show x75 8 = x 8 from ((f85 8 (by omega) (by omega) (by omega)).trans ((fm_up_row m52 (by omega)).trans ((fm_up_row m50 (by omega)).trans ((f47 8 (by omega) (by omega) (by omega)).trans ((g35_3 8 (by omega)).trans ((fm_up_row m34 (by omega)).trans ((fm_up_row m32 (by omega)).trans ((f15 8 (by omega)).trans (fm_up_row m2 (by omega))))))))))]; exact e0.2.1), (by rw [show x75 26 = x 26 from ((f85 26 (by omega) (by omega) (by omega)).trans ((fm_up_row m52 (by omega)).trans ((fm_up_row m50 (by omega)).trans ((f47 26 (by omega) (by omega) (by omega)).trans ((g35_3 26 (by omega)).trans ((fm_up_row m34 (by omega)).trans ((fm_up_row m32 (by omega)).trans ((f15 26 (by omega)).trans (fm_up_row m2 (by omega))))))))))]; exact e0.2.2.1), (by have := e0.2.2.2; omega)⟩, (fun a k0 k1 k2 k3 k4 => ((f85 a (by omega) (by omega) (by omega)).trans ((fm_up_row m52 (by omega)).trans ((fm_up_row m50 (by omega)).trans ((f47 a (by omega) (by omega) (by omega)).trans ((g35_3 a (by omega)).trans ((fm_up_row m34 (by omega)).trans ((fm_up_row m32 (by omega)).trans ((f15 a (by omega)).trans (fm_up_row m2 (by omega))))))))))), (fun i k0 k1 k2 k3 k4 k5 k6 k7 k8 k9 k10 k11 => ((f86 i (by omega) (by omega) (by omega) (by omega) (by omega) (by omega) (by omega)).trans ((fm_rd_i (a := 0) (b := i) m52 (by omega)).trans ((fm_rd_i (a := 0) (b := i) m50 (by omega)).trans ((f48 i (by omega) (by omega) (by omega) (by omega) (by omega) (by omega) (by omega)).trans ((congrFun (g35_3 0 (by omega)) i).trans ((fm_rd_i (a := 0) (b := i) m34 (by omega)).trans ((fm_rd_i (a := 0) (b := i) m32 (by omega)).trans ((f16 i (by omega) (by omega) (by omega) (by omega) (by omega) (by omega) (by omega)).trans (fm_rd_i (a := 0) (b := i) m2 (by omega)))))))))))⟩ dX12_law_187
              ·
                refine fr_aload_n h rfl 0 rfl dX12_law_136 ?_
                refine fr_getc (z := 15) (iz := 27) h kX12 fX12_54 at_0M rfl rfl rfM_27 (by omega) dX12_law_137 ?_
                refine fr_iload h 7 rfl dX12_law_140 ?_
                refine fr_iconst h dX12_law_142 ?_
                refine fr_isub h dX12_law_143 ?_
                refine fr_iald h arM_15 (by omega) (by omega) (rrM_15 (l7_87 - 1)) dX12_law_144 (fun z109 w110 w111 q112 => ?_)
                have r113 := (fm_rd_k (a := 15) (b := (l7_87 - 1)) m52 (by omega))
                have r114 := r113.trans (fm_rd_k (a := 15) (b := (l7_87 - 1)) m50 (by omega))
                have r115 := (congrFun (g35_3 15 (by omega)) (l7_87 - 1))
                have r116 := r115.trans (fm_rd_k (a := 15) (b := (l7_87 - 1)) m34 (by omega))
                have r117 := r116.trans (fm_rd_k (a := 15) (b := (l7_87 - 1)) m32 (by omega))
                have r118 := r117.trans (congrFun (f15 15 (by omega)) (l7_87 - 1))
                have r119 := r118.trans (fm_rd_k (a := 15) (b := (l7_87 - 1)) m2 (by omega))
                refine fr_iload h 4 rfl dX12_law_145 ?_
                refine fr_icmp_eq (tgt := 153) h dX12_law_147 (by decide) (by omega) (by omega) (fun c120 => ?_) (fun c120 => ?_)
                ·
                  refine fr_aload_n h rfl 0 rfl dX12_law_153 ?_
                  refine fr_iconst h dX12_law_154 ?_
                  refine fr_puti (iz := 4) h kX12 fX12_98 at_0M rfl rfl (by decide) (by decide) rfl (by decide +kernel) rfM_4 (by omega) (by omega) dX12_law_155 ?_
                  refine fr_mem (fun x121 m122 => ?_)
                  refine fr_aload_n h rfl 0 rfl dX12_law_158 ?_
                  refine fr_iload h 5 rfl dX12_law_159 ?_
                  refine fr_i2l h (by omega) dX12_law_161 ?_
                  have r123 := (fm_rd_s m122)
                  refine fr_cvV h kX12 at_0M wX12_tell lX12_269 (c_X12_tell x121 z64 (by omega) (by omega)) rfl (by decide) (by decide) rfl (Nat.le_of_ble_eq_true rfl) dX12_law_162 (fun x124 p127 => ?_)
                  obtain ⟨p128, f129, f130⟩ := p127
                  refine fr_aload_n h rfl 0 rfl dX12_law_165 ?_
                  refine fr_aload_n h rfl 0 rfl dX12_law_166 ?_
                  refine fr_getc (z := 14) (iz := 25) h kX12 fX12_51 at_0M rfl rfl rfM_25 (by omega) dX12_law_167 ?_
                  refine fr_iload h 4 rfl dX12_law_170 ?_
                  refine fr_iald h arM_14 (by omega) (by omega) (rrM_14 z53) dX12_law_172 (fun z131 w132 w133 q134 => ?_)
                  have r135 := q134.trans (congrFun (f129 14 (by omega) (by omega)) z53)
                  have r136 := r135.trans (fm_rd_k (a := 14) (b := z53) m122 (by omega))
                  have r137 := (fm_rd_k (a := 14) (b := z53) m52 (by omega))
                  have r138 := r137.trans (fm_rd_k (a := 14) (b := z53) m50 (by omega))
                  have r139 := (congrFun (g35_3 14 (by omega)) z53)
                  have r140 := r139.trans (fm_rd_k (a := 14) (b := z53) m34 (by omega))
                  have r141 := r140.trans (fm_rd_k (a := 14) (b := z53) m32 (by omega))
                  have r142 := r141.trans (congrFun (f15 14 (by omega)) z53)
                  have r143 := r142.trans (fm_rd_k (a := 14) (b := z53) m2 (by omega))
                  refine fr_i2l h (by omega) dX12_law_173 ?_
                  have r144 := (fm_rd_s m122)
                  refine fr_cvV h kX12 at_0M wX12_tell lX12_269 (c_X12_tell x124 z131 (by omega) (by omega)) rfl (by decide) (by decide) rfl (Nat.le_of_ble_eq_true rfl) dX12_law_174 (fun x145 p148 => ?_)
                  obtain ⟨p149, f150, f151⟩ := p148
                  refine fr_iload h 7 rfl dX12_law_177 ?_
                  have r152 := (f151 5 (by decide))
                  have r153 := r152.trans (f130 5 (by decide))
                  have r154 := r153.trans (fm_rd_i (a := 0) (b := 5) m122 (by decide))
                  have r155 := r154.trans (f86 5 (by decide) (by decide) (by decide) (by decide) (by decide) (by decide) (by decide))
                  have r156 := r155.trans (fm_rd_i (a := 0) (b := 5) m52 (by decide))
                  have r157 := r156.trans (fm_rd_i (a := 0) (b := 5) m50 (by decide))
                  have r158 := r157.trans (f48 5 (by decide) (by decide) (by decide) (by decide) (by decide) (by decide) (by decide))
                  have r159 := r158.trans (congrFun (g35_3 0 (by omega)) 5)
                  have r160 := r159.trans (fm_rd_i (a := 0) (b := 5) m34 (by decide))
                  have r161 := r160.trans (fm_rd_i (a := 0) (b := 5) m32 (by decide))
                  have r162 := r161.trans (f16 5 (by decide) (by decide) (by decide) (by decide) (by decide) (by decide) (by decide))
                  have r163 := r162.trans (fm_rd_s m2)
                  have r164 := (f151 2 (by decide))
                  have r165 := r164.trans (f130 2 (by decide))
                  have r166 := r165.trans (fm_rd_i (a := 0) (b := 2) m122 (by decide))
                  have r167 := r166.trans (f86 2 (by decide) (by decide) (by decide) (by decide) (by decide) (by decide) (by decide))
                  have r168 := r167.trans (fm_rd_i (a := 0) (b := 2) m52 (by decide))
                  have r169 := r168.trans (fm_rd_i (a := 0) (b := 2) m50 (by decide))
                  have r170 := r169.trans (f48 2 (by decide) (by decide) (by decide) (by decide) (by decide) (by decide) (by decide))
                  have r171 := r170.trans (congrFun (g35_3 0 (by omega)) 2)
                  have r172 := r171.trans (fm_rd_i (a := 0) (b := 2) m34 (by decide))
                  have r173 := r172.trans (fm_rd_i (a := 0) (b := 2) m32 (by decide))
                  have r174 := (fm_rd_i (a := 0) (b := 2) m2 (by decide))
                  have r175 := (f151 12 (by decide))
                  have r176 := r175.trans (f130 12 (by decide))
                  have r177 := r176.trans (fm_rd_i (a := 0) (b := 12) m122 (by decide))
                  have r178 := r177.trans (f86 12 (by decide) (by decide) (by decide) (by decide) (by decide) (by decide) (by decide))
                  have r179 := r178.trans (fm_rd_i (a := 0) (b := 12) m52 (by decide))
                  have r180 := r179.trans (fm_rd_s m50)
                  exact fr_iret h hq (by omega) ⟨(by omega), (by omega), ⟨(by rw [show x145 1 = x124 1 from (f150 1 (by omega) (by omega))]; exact (by rw [show x124 1 = x121 1 from (f129 1 (by omega) (by omega))]; exact (by rw [show x121 1 = x75 1 from (fm_up_row m122 (by omega))]; exact (by rw [show x75 1 = x51 1 from (f85 1 (by omega) (by omega) (by omega))]; exact (by rw [show x51 1 = x49 1 from (fm_up_row m52 (by omega))]; exact (by rw [show x49 1 = x37 1 from (fm_up_row m50 (by omega))]; exact (by rw [show x37 1 = x_35 1 from (f47 1 (by omega) (by omega) (by omega))]; exact (by rw [show x_35 1 = x33 1 from (g35_3 1 (by omega))]; exact (by rw [show x33 1 = x31 1 from (fm_up_row m34 (by omega))]; exact (by rw [show x31 1 = x8 1 from (fm_up_row m32 (by omega))]; exact (by rw [show x8 1 = x1 1 from (f15 1 (by omega))]; exact (by rw [show x1 1 = x 1 from (fm_up_row m2 (by omega))]; exact e0.1)))))))))))), (by rw [show x145 8 = x 8 from ((f150 8 (by omega) (by omega)).trans ((f129 8 (by omega) (by omega)).trans ((fm_up_row m122 (by omega)).trans ((f85 8 (by omega) (by omega) (by omega)).trans ((fm_up_row m52 (by omega)).trans ((fm_up_row m50 (by omega)).trans ((f47 8 (by omega) (by omega) (by omega)).trans ((g35_3 8 (by omega)).trans ((fm_up_row m34 (by omega)).trans ((fm_up_row m32 (by omega)).trans ((f15 8 (by omega)).trans (fm_up_row m2 (by omega)))))))))))))]; exact e0.2.1), (by rw [show x145 26 = x 26 from ((f150 26 (by omega) (by omega)).trans ((f129 26 (by omega) (by omega)).trans ((fm_up_row m122 (by omega)).trans ((f85 26 (by omega) (by omega) (by omega)).trans ((fm_up_row m52 (by omega)).trans ((fm_up_row m50 (by omega)).trans ((f47 26 (by omega) (by omega) (by omega)).trans ((g35_3 26 (by omega)).trans ((fm_up_row m34 (by omega)).trans ((fm_up_row m32 (by omega)).trans ((f15 26 (by omega)).trans (fm_up_row m2 (by omega)))))))))))))]; exact e0.2.2.1), (by have := e0.2.2.2; omega)⟩, (fun a k0 k1 k2 k3 k4 => ((f150 a (by omega) (by omega)).trans ((f129 a (by omega) (by omega)).trans ((fm_up_row m122 (by omega)).trans ((f85 a (by omega) (by omega) (by omega)).trans ((fm_up_row m52 (by omega)).trans ((fm_up_row m50 (by omega)).trans ((f47 a (by omega) (by omega) (by omega)).trans ((g35_3 a (by omega)).trans ((fm_up_row m34 (by omega)).trans ((fm_up_row m32 (by omega)).trans ((f15 a (by omega)).trans (fm_up_row m2 (by omega)))))))))))))), (fun i k0 k1 k2 k3 k4 k5 k6 k7 k8 k9 k10 k11 => ((f151 i (by omega)).trans ((f130 i (by omega)).trans ((fm_rd_i (a := 0) (b := i) m122 (by omega)).trans ((f86 i (by omega) (by omega) (by omega) (by omega) (by omega) (by omega) (by omega)).trans ((fm_rd_i (a := 0) (b := i) m52 (by omega)).trans ((fm_rd_i (a := 0) (b := i) m50 (by omega)).trans ((f48 i (by omega) (by omega) (by omega) (by omega) (by omega) (by omega) (by omega)).trans ((congrFun (g35_3 0 (by omega)) i).trans ((fm_rd_i (a := 0) (b := i) m34 (by omega)).trans ((fm_rd_i (a := 0) (b := i) m32 (by omega)).trans ((f16 i (by omega) (by omega) (by omega) (by omega) (by omega) (by omega) (by omega)).trans (fm_rd_i (a := 0) (b := i) m2 (by omega))))))))))))))⟩ dX12_law_179
                ·
                  refine fr_goto (tgt := 180) h dX12_law_150 (by decide) ?_
                  refine fr_iinc (j := 7) (L' := [(0, vr G 0), (1, vi z3), (2, vr G u22), (3, vi z25), (4, vi z53), (5, vi z64), (6, vi z76), (7, vi (l7_87 + 1))]) h dX12_law_180 rfl (by decide) [1, 2, 3, 4, 5, 6, 7, 0] rfl ?_
                  refine fr_goto (tgt := 129) h dX12_law_183 (by decide) ?_
                  exact ih87 (l7_87 + 1) (by omega) (by omega) (by omega) (by omega)
          exact HL87 ((1301 - 1) + 1 : Int).toNat 1 (by omega) (by omega) (by omega) (by omega)
        ·
          refine fr_aload_n h rfl 0 rfl dX12_law_58 ?_
          refine fr_rng (fun h181 => ?_)
          have w182 : 5 ≤ x_35 0 12 ∧ x_35 0 12 ≤ 6 := h181 0 12
          obtain ⟨u183, q184⟩ : ∃ z, x_35 0 12 = z := ⟨_, rfl⟩
          rw [q184] at w182
          have i185 : RBN u183 40 := by unfold RBN; omega
          refine fr_getr (z := u183) (iz := 12) h kX12 fX12_24 at_0M rfl rfl q184 (by omega) dX12_law_59 ?_
          refine fr_iload h 4 rfl dX12_law_62 ?_
          refine fr_aload_n h rfl 0 rfl dX12_law_64 ?_
          refine fr_getc (z := 2) (iz := 1) h kX12 fX12_13 at_0M rfl rfl rfM_1 (by omega) dX12_law_65 ?_
          refine fr_iload h 4 rfl dX12_law_68 ?_
          refine fr_bald h (RB_a (Or.inl ⟨rfl, rfl⟩)) (by omega) (by omega) (RB_r (Or.inl ⟨rfl, rfl⟩) l4_35) dX12_law_70 (fun z186 w187 w188 q189 => ?_)
          have r190 := q189.trans (congrFun (g35_3 2 (by omega)) l4_35)
          have r191 := r190.trans (fm_rd_k (a := 2) (b := l4_35) m34 (by omega))
          have r192 := r191.trans (fm_rd_k (a := 2) (b := l4_35) m32 (by omega))
          have r193 := r192.trans (congrFun (f15 2 (by omega)) l4_35)
          have r194 := r193.trans (fm_rd_k (a := 2) (b := l4_35) m2 (by omega))
          refine fr_bast h (RB_a i185) (by omega) (by omega) (RB_r i185 l4_35) (by omega) (by omega) (by omega) dX12_law_71 ?_
          refine fr_mem (fun x195 m196 => ?_)
          refine fr_iinc (j := 4) (L' := [(0, vr G 0), (1, vi z3), (2, vr G u22), (3, vi z25), (4, vi (l4_35 + 1))]) h dX12_law_72 rfl (by decide) [1, 2, 3, 4, 0] rfl ?_
          refine fr_goto (tgt := 52) h dX12_law_75 (by decide) ?_
          exact ih35 (l4_35 + 1) x195 (by omega) (by omega) (by omega) (fun a k0 => ((fm_up_row m196 (by omega)).trans (g35_3 a (by omega)))) (by omega)
    exact HL35 ((40 - 0) + 1 : Int).toNat 0 x33 (by omega) (by omega) (by omega) (fun a _ => rfl) (by omega)
  ·
    refine fr_sipush h rfl dX12_law_17 ?_
    refine fr_aload_n h rfl 0 rfl dX12_law_20 ?_
    refine fr_geti (iz := 10) h kX12 fX12_124 at_0M rfl rfl (by decide) (by decide) rfM_10 dX12_law_21 (fun z197 w198 w199 q200 => ?_)
    have r201 := (fm_rd_i (a := 0) (b := 10) m2 (by decide))
    refine fr_isub h dX12_law_24 ?_
    have r202 := (f16 5 (by decide) (by decide) (by decide) (by decide) (by decide) (by decide) (by decide))
    have r203 := r202.trans (fm_rd_s m2)
    have r204 := (fm_rd_i (a := 0) (b := 2) m2 (by decide))
    have r205 := (f16 12 (by decide) (by decide) (by decide) (by decide) (by decide) (by decide) (by decide))
    have r206 := r205.trans (fm_rd_i (a := 0) (b := 12) m2 (by decide))
    exact fr_iret h hq (by omega) ⟨(by omega), (by omega), ⟨(by rw [show x8 1 = x1 1 from (f15 1 (by omega))]; exact (by rw [show x1 1 = x 1 from (fm_up_row m2 (by omega))]; exact e0.1)), (by rw [show x8 8 = x 8 from ((f15 8 (by omega)).trans (fm_up_row m2 (by omega)))]; exact e0.2.1), (by rw [show x8 26 = x 26 from ((f15 26 (by omega)).trans (fm_up_row m2 (by omega)))]; exact e0.2.2.1), (by have := e0.2.2.2; omega)⟩, (fun a k0 k1 k2 k3 k4 => ((f15 a (by omega)).trans (fm_up_row m2 (by omega)))), (fun i k0 k1 k2 k3 k4 k5 k6 k7 k8 k9 k10 k11 => ((f16 i (by omega) (by omega) (by omega) (by omega) (by omega) (by omega) (by omega)).trans (fm_rd_i (a := 0) (b := i) m2 (by omega))))⟩ dX12_law_25
