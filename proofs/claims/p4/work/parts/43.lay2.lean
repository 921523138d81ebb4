set_option maxHeartbeats 1000000 in
theorem c_X12_layPairings : ∀ (d : Nat) (x : Mm) (b : Int) (hb : isSA b) (p : Int) (k : Int) (v : Int) (h_p : fm_r p) (h_k : fm_r k) (h_v : fm_r v) (e0 : 0 ≤ p) (e1 : p ≤ 5) (e2 : p ≤ x b 102) (e3 : 0 ≤ k) (e4 : k < 32) (e5 : fr0 k 5 ≤ 5 - p) (e6 : x 0 26 + fct (5 - p) ≤ 1300), (5 - p) < d → CnV YM yX12_layPairings cX12_layPairings 6 (d + 10) (d * 40 + 300) (fun G => [vr G 0, vr G b, vi p, vi k, vi v]) x (fun y' => (y' 0 26 ≤ x 0 26 + fct (5 - p)) ∧ (x 0 26 ≤ y' 0 26) ∧ (∀ a : Int, (a < 0 ∨ 0 < a) → (a < 12 ∨ 14 < a) → (a < 17 ∨ 17 < a) → y' a = x a) ∧ (∀ i : Int, i ≠ 26 → y' 0 i = x 0 i)) := by
  intro d
  induction d with
  | zero => intro x b hb p k v h_p h_k h_v e0 e1 e2 e3 e4 e5 e6 hmu; exfalso; omega
  | succ d ih =>
    intro x b hb p k v h_p h_k h_v e0 e1 e2 e3 e4 e5 e6 hmu
    refine cn_V (by decide) (fun _ => Nat.le_of_ble_eq_true rfl) (fun G C h hq => ?_)
    have h : OK YM G C cX12_layPairings RX12 6 none (d + 1 + 10) ((d + 1) * 40 + 300) := h
    show FW YM G C 6 x 0 [(0, vr G 0), (1, vr G b), (2, vi p), (3, vi k), (4, vi v)] []
    have h_b := SA_b hb
    have hs_b : b = 1 ∨ b = 9 ∨ b = 10 := hb
    have hf := fct_1 (5 - p)
    refine fr_iload_n h rfl 2 rfl dX12_layPairings_0 ?_
    refine fr_aload_n h rfl 1 rfl dX12_layPairings_1 ?_
    refine fr_bipush h rfl dX12_layPairings_2 ?_
    refine fr_iald h (SA_a hb) (by omega) (by omega) ((SA_r hb 102).trans sg_size) dX12_layPairings_4 (fun z1 w2 w3 q4 => ?_)
    refine fr_icmp_ne (tgt := 16) h dX12_layPairings_5 (by decide) (by omega) (by omega) (fun c5 => ?_) (fun c5 => ?_)
    ·
      have hz := ml_z k (fct (5 - (p + 1)))
      refine fr_iconst h dX12_layPairings_16 ?_
      refine fr_istore (L' := [(0, vr G 0), (1, vr G b), (2, vi p), (3, vi k), (4, vi v), (5, vi 0)]) h dX12_layPairings_17 (by decide) [1, 2, 3, 4, 5, 0] rfl ?_
      have HL6 : ∀ (n6 : Nat) (l5_6 : Int) (x_6 : Mm), fm_r l5_6 → 0 ≤ l5_6 → l5_6 ≤ 5 → x_6 0 26 ≤ x 0 26 + ml (frr k l5_6) (fct (5 - (p + 1))) → x 0 26 ≤ x_6 0 26 → (∀ a : Int, (a < 0 ∨ 0 < a) → (a < 12 ∨ 14 < a) → (a < 17 ∨ 17 < a) → x_6 a = x a) → (∀ i : Int, i ≠ 26 → x_6 0 i = x 0 i) → (5 - l5_6) < n6 → FW YM G C 6 x_6 19 [(0, vr G 0), (1, vr G b), (2, vi p), (3, vi k), (4, vi v), (5, vi l5_6)] [] := by
        intro n6
        induction n6 with
        | zero =>
          intro l5_6 x_6 g6_0 g6_1 g6_2 g6_3 g6_4 g6_5 g6_6 g6_7
          exfalso; omega
        | succ n6 ih6 =>
          intro l5_6 x_6 g6_0 g6_1 g6_2 g6_3 g6_4 g6_5 g6_6 g6_7
          refine fr_iload h 5 rfl dX12_layPairings_19 ?_
          refine fr_aload_n h rfl 1 rfl dX12_layPairings_21 ?_
          refine fr_bipush h rfl dX12_layPairings_22 ?_
          refine fr_iald h (SA_a hb) (by omega) (by omega) ((SA_r hb 102).trans sg_size) dX12_layPairings_24 (fun z7 w8 w9 q10 => ?_)
          have r11 := q10.trans (congrFun (g6_5 b (by omega) (by omega) (by omega)) 102)
          refine fr_icmp_ge (tgt := 82) h dX12_layPairings_25 (by decide) (by omega) (by omega) (fun c12 => ?_) (fun c12 => ?_)
          ·
            have he := ml_e (k := k) (j := l5_6) (m := 5) (n := p) (q := 5) (by omega) e5 (by omega)
            exact fr_vret h hq ⟨(by omega), (by omega), (fun a k0 k1 k2 => (g6_5 a (by omega) (by omega) (by omega))), (fun i k0 => (g6_6 i (by omega)))⟩ dX12_layPairings_82
          ·
            have hm := ml_t (k := k) (j := l5_6) (F := fct (5 - (p + 1))) (by omega)
            have hbt := bt_01 k l5_6
            have hf1 := fct_1 (5 - (p + 1))
            refine fr_iload_n h rfl 3 rfl dX12_layPairings_28 ?_
            refine fr_iload h 5 rfl dX12_layPairings_29 ?_
            refine fr_csI h wX12_has lX12_300 (c_X12_has x_6 k l5_6 (by omega) (by omega)) rfl (by omega) (by omega) rfl (Nat.le_of_ble_eq_true rfl) dX12_layPairings_31 (fun z14 x13 w15 p16 => ?_)
            obtain ⟨p17, p18, y19⟩ := p16
            rw [y19]
            clear y19
            refine fr_if_eq (tgt := 40) h dX12_layPairings_34 (by decide) (by omega) (fun c20 => ?_) (fun c20 => ?_)
            ·
              have hf2 := ml_f (k := k) (j := l5_6) (m := 5) (n := p) (q := 5) (by omega) (by omega) (by omega) e5 (by omega)
              refine fr_aload_n h rfl 0 rfl dX12_layPairings_40 ?_
              refine fr_getc (z := 17) (iz := 29) h kX12 fX12_60 at_0M rfl rfl rfM_29 (by omega) dX12_layPairings_41 ?_
              refine fr_iload_n h rfl 2 rfl dX12_layPairings_44 ?_
              refine fr_iload h 5 rfl dX12_layPairings_45 ?_
              refine fr_iast h arM_17 (by omega) (by omega) (rrM_17 p) (by omega) (by omega) dX12_layPairings_47 ?_
              refine fr_mem (fun x21 m22 => ?_)
              refine fr_aload_n h rfl 0 rfl dX12_layPairings_48 ?_
              refine fr_aload_n h rfl 1 rfl dX12_layPairings_49 ?_
              refine fr_iload_n h rfl 2 rfl dX12_layPairings_50 ?_
              refine fr_iconst h dX12_layPairings_51 ?_
              refine fr_iadd h dX12_layPairings_52 ?_
              refine fr_iload_n h rfl 3 rfl dX12_layPairings_53 ?_
              refine fr_iconst h dX12_layPairings_54 ?_
              refine fr_iload h 5 rfl dX12_layPairings_55 ?_
              refine fr_ishl h dX12_layPairings_57 (fun z23 w24 q25 w26 => ?_)
              refine fr_ior h dX12_layPairings_58 (fun z27 w28 q29 w30 => ?_)
              have w31 := sb_of (by omega) (by omega) (by omega) (by omega) w28 q25 q29
              have hz5 : fr0 z27 5 = fr0 k 5 - 1 ∧ z27 < 32 := by rw [w31.1]; exact fr0_sb5 (by omega) (by omega) (by omega) (by omega) (by omega)
              refine fr_iload h 4 rfl dX12_layPairings_59 ?_
              refine fr_aload_n h rfl 1 rfl dX12_layPairings_61 ?_
              refine fr_bipush h rfl dX12_layPairings_62 ?_
              refine fr_iconst h dX12_layPairings_64 ?_
              refine fr_iload_n h rfl 2 rfl dX12_layPairings_65 ?_
              refine fr_imul h dX12_layPairings_66 ?_
              refine fr_iadd h dX12_layPairings_67 ?_
              refine fr_iload h 5 rfl dX12_layPairings_68 ?_
              refine fr_iadd h dX12_layPairings_70 ?_
              refine fr_iald h (SA_a hb) (by omega) (by omega) ((SA_r hb ((77 + (5 * p)) + l5_6)).trans (sg_wt (by omega) (by omega))) dX12_layPairings_71 (fun z32 w33 w34 q35 => ?_)
              have r36 := q35.trans (fm_rd_k (a := b) (b := ((77 + (5 * p)) + l5_6)) m22 (by omega))
              have r37 := r36.trans (congrFun (g6_5 b (by omega) (by omega) (by omega)) ((77 + (5 * p)) + l5_6))
              refine fr_iadd h dX12_layPairings_72 ?_
              refine fr_normi (fun z38 w39 q40 => ?_)
              have w41 : fm_r ((v + z32)) → z38 = (v + z32) := fun q => (iI_inj q w39 q40).symm
              have r42 := (fm_rd_k (a := b) (b := 102) m22 (by omega))
              have r43 := r42.trans (congrFun (g6_5 b (by omega) (by omega) (by omega)) 102)
              have r44 := (fm_rd_k (a := 0) (b := 26) m22 (by omega))
              refine fr_cvV h kX12 at_0M wX12_layPairings lX12_303 (ih x21 b hb (p + 1) z27 z38 (by omega) (by omega) (by omega) (by omega) (by omega) (by omega) (by omega) (by omega) (by omega) (by omega) (by omega)) rfl (by omega) (by omega) rfl (Nat.le_of_ble_eq_true rfl) dX12_layPairings_73 (fun x45 p48 => ?_)
              obtain ⟨p49, p50, f51, f52⟩ := p48
              refine fr_iinc (j := 5) (L' := [(0, vr G 0), (1, vr G b), (2, vi p), (3, vi k), (4, vi v), (5, vi (l5_6 + 1))]) h dX12_layPairings_76 rfl (by decide) [1, 2, 3, 4, 5, 0] rfl ?_
              refine fr_goto (tgt := 19) h dX12_layPairings_79 (by decide) ?_
              have r53 := (fm_rd_k (a := 0) (b := 26) m22 (by omega))
              have r54 := (fm_rd_k (a := 0) (b := 26) m22 (by omega))
              exact ih6 (l5_6 + 1) x45 (by omega) (by omega) (by omega) (by omega) (by omega) (fun a k0 k1 k2 => ((f51 a (by omega) (by omega) (by omega)).trans ((fm_up_row m22 (by omega)).trans (g6_5 a (by omega) (by omega) (by omega))))) (fun i k0 => ((f52 i (by omega)).trans ((fm_rd_k (a := 0) (b := i) m22 (by omega)).trans (g6_6 i (by omega))))) (by omega)
            ·
              refine fr_goto (tgt := 76) h dX12_layPairings_37 (by decide) ?_
              refine fr_iinc (j := 5) (L' := [(0, vr G 0), (1, vr G b), (2, vi p), (3, vi k), (4, vi v), (5, vi (l5_6 + 1))]) h dX12_layPairings_76 rfl (by decide) [1, 2, 3, 4, 5, 0] rfl ?_
              refine fr_goto (tgt := 19) h dX12_layPairings_79 (by decide) ?_
              exact ih6 (l5_6 + 1) x_6 (by omega) (by omega) (by omega) (by omega) (by omega) (fun a k0 k1 k2 => (g6_5 a (by omega) (by omega) (by omega))) (fun i k0 => (g6_6 i (by omega))) (by omega)
      exact HL6 ((5 - 0) + 1 : Int).toNat 0 x (by omega) (by omega) (by omega) (by omega) (by omega) (fun a _ _ _ => rfl) (fun i _ => rfl) (by omega)
    ·
      refine fr_aload_n h rfl 0 rfl dX12_layPairings_8 ?_
      refine fr_iload_n h rfl 2 rfl dX12_layPairings_9 ?_
      refine fr_iload h 4 rfl dX12_layPairings_10 ?_
      refine fr_cvV h kX12 at_0M wX12_emit lX12_279 (c_X12_emit x p v (by omega) (by omega) (by omega) (by omega) (by omega)) rfl (by omega) (by omega) rfl (Nat.le_of_ble_eq_true rfl) dX12_layPairings_12 (fun x55 p58 => ?_)
      obtain ⟨p59, f60, f61⟩ := p58
      exact fr_vret h hq ⟨(by omega), (by omega), (fun a k0 k1 k2 => (f60 a (by omega) (by omega))), (fun i k0 => (f61 i (by omega)))⟩ dX12_layPairings_15
set_option maxHeartbeats 1000000 in
theorem c_X12_laySubsets : ∀ (d : Nat) (x : Mm) (b : Int) (hb : isSA b) (p : Int) (n : Int) (v : Int) (h_p : fm_r p) (h_n : fm_r n) (h_v : fm_r v) (e0 : 0 ≤ n) (e1 : n ≤ p) (e2 : p ≤ 6) (e3 : x 0 26 + pw2 (6 - p) ≤ 1300), (6 - p) < d → CnV YM yX12_laySubsets cX12_laySubsets 7 (d + 10) (d * 40 + 300) (fun G => [vr G 0, vr G b, vi p, vi n, vi v]) x (fun y' => (y' 0 26 ≤ x 0 26 + pw2 (6 - p)) ∧ (x 0 26 ≤ y' 0 26) ∧ (∀ a : Int, (a < 0 ∨ 0 < a) → (a < 12 ∨ 14 < a) → (a < 17 ∨ 17 < a) → y' a = x a) ∧ (∀ i : Int, i ≠ 26 → y' 0 i = x 0 i)) := by
  intro d
  induction d with
  | zero => intro x b hb p n v h_p h_n h_v e0 e1 e2 e3 hmu; exfalso; omega
  | succ d ih =>
    intro x b hb p n v h_p h_n h_v e0 e1 e2 e3 hmu
    refine cn_V (by decide) (fun _ => Nat.le_of_ble_eq_true rfl) (fun G C h hq => ?_)
    have h : OK YM G C cX12_laySubsets RX12 7 none (d + 1 + 10) ((d + 1) * 40 + 300) := h
    show FW YM G C 7 x 0 [(0, vr G 0), (1, vr G b), (2, vi p), (3, vi n), (4, vi v)] []
    have h_b := SA_b hb
    have hs_b : b = 1 ∨ b = 9 ∨ b = 10 := hb
    have h1 := pw2_1 (6 - p)
    refine fr_aload_n h rfl 0 rfl dX12_laySubsets_0 ?_
    refine fr_iload_n h rfl 3 rfl dX12_laySubsets_1 ?_
    refine fr_iload h 4 rfl dX12_laySubsets_2 ?_
    refine fr_cvV h kX12 at_0M wX12_emit lX12_279 (c_X12_emit x n v (by omega) (by omega) (by omega) (by omega) (by omega)) rfl (by omega) (by omega) rfl (Nat.le_of_ble_eq_true rfl) dX12_laySubsets_4 (fun x1 p4 => ?_)
    obtain ⟨p5, f6, f7⟩ := p4
    refine fr_aload_n h rfl 1 rfl dX12_laySubsets_7 ?_
    refine fr_bipush h rfl dX12_laySubsets_8 ?_
    refine fr_iald h (SA_a hb) (by omega) (by omega) ((SA_r hb 105).trans sg_pick) dX12_laySubsets_10 (fun z8 w9 w10 q11 => ?_)
    have r12 := q11.trans (congrFun (f6 b (by omega) (by omega)) 105)
    refine fr_istore (L' := [(0, vr G 0), (1, vr G b), (2, vi p), (3, vi n), (4, vi v), (5, vi z8)]) h dX12_laySubsets_11 (by decide) [1, 2, 3, 4, 5, 0] rfl ?_
    refine fr_iload_n h rfl 2 rfl dX12_laySubsets_13 ?_
    refine fr_istore (L' := [(0, vr G 0), (1, vr G b), (2, vi p), (3, vi n), (4, vi v), (5, vi z8), (6, vi p)]) h dX12_laySubsets_14 (by decide) [1, 2, 3, 4, 5, 6, 0] rfl ?_
    have HL13 : ∀ (n13 : Nat) (l6_13 : Int) (x_13 : Mm), fm_r l6_13 → 0 ≤ l6_13 → l6_13 ≤ 6 → p ≤ l6_13 → x_13 0 26 + pw2 (6 - l6_13) ≤ x 0 26 + 1 + pw2 (6 - p) → x 0 26 ≤ x_13 0 26 → (∀ a : Int, (a < 0 ∨ 0 < a) → (a < 12 ∨ 14 < a) → (a < 17 ∨ 17 < a) → x_13 a = x1 a) → (∀ i : Int, i ≠ 26 → x_13 0 i = x1 0 i) → (6 - l6_13) < n13 → FW YM G C 7 x_13 16 [(0, vr G 0), (1, vr G b), (2, vi p), (3, vi n), (4, vi v), (5, vi z8), (6, vi l6_13)] [] := by
      intro n13
      induction n13 with
      | zero =>
        intro l6_13 x_13 g13_0 g13_1 g13_2 g13_3 g13_4 g13_5 g13_6 g13_7 g13_8
        exfalso; omega
      | succ n13 ih13 =>
        intro l6_13 x_13 g13_0 g13_1 g13_2 g13_3 g13_4 g13_5 g13_6 g13_7 g13_8
        refine fr_iload h 6 rfl dX12_laySubsets_16 ?_
        refine fr_aload_n h rfl 1 rfl dX12_laySubsets_18 ?_
        refine fr_bipush h rfl dX12_laySubsets_19 ?_
        refine fr_iload h 5 rfl dX12_laySubsets_21 ?_
        refine fr_iadd h dX12_laySubsets_23 ?_
        refine fr_iald h (SA_a hb) (by omega) (by omega) ((SA_r hb (24 + z8)).trans (sg_len (by omega) (by omega))) dX12_laySubsets_24 (fun z14 w15 w16 q17 => ?_)
        have r18 := q17.trans (congrFun (g13_6 b (by omega) (by omega) (by omega)) (24 + z8))
        have r19 := r18.trans (congrFun (f6 b (by omega) (by omega)) (24 + z8))
        refine fr_icmp_ge (tgt := 67) h dX12_laySubsets_25 (by decide) (by omega) (by omega) (fun c20 => ?_) (fun c20 => ?_)
        ·
          have h2 := pw2_1 (6 - l6_13)
          exact fr_vret h hq ⟨(by omega), (by omega), (fun a k0 k1 k2 => ((g13_6 a (by omega) (by omega) (by omega)).trans (f6 a (by omega) (by omega)))), (fun i k0 => ((g13_7 i (by omega)).trans (f7 i (by omega))))⟩ dX12_laySubsets_67
        ·
          have hs := pw2_t (j := l6_13) (by omega)
          refine fr_aload_n h rfl 0 rfl dX12_laySubsets_28 ?_
          refine fr_getc (z := 17) (iz := 29) h kX12 fX12_60 at_0M rfl rfl rfM_29 (by omega) dX12_laySubsets_29 ?_
          refine fr_iload_n h rfl 3 rfl dX12_laySubsets_32 ?_
          refine fr_iload h 6 rfl dX12_laySubsets_33 ?_
          refine fr_iast h arM_17 (by omega) (by omega) (rrM_17 n) (by omega) (by omega) dX12_laySubsets_35 ?_
          refine fr_mem (fun x21 m22 => ?_)
          refine fr_aload_n h rfl 0 rfl dX12_laySubsets_36 ?_
          refine fr_aload_n h rfl 1 rfl dX12_laySubsets_37 ?_
          refine fr_iload h 6 rfl dX12_laySubsets_38 ?_
          refine fr_iconst h dX12_laySubsets_40 ?_
          refine fr_iadd h dX12_laySubsets_41 ?_
          refine fr_iload_n h rfl 3 rfl dX12_laySubsets_42 ?_
          refine fr_iconst h dX12_laySubsets_43 ?_
          refine fr_iadd h dX12_laySubsets_44 ?_
          refine fr_iload h 4 rfl dX12_laySubsets_45 ?_
          refine fr_aload_n h rfl 1 rfl dX12_laySubsets_47 ?_
          refine fr_bipush h rfl dX12_laySubsets_48 ?_
          refine fr_iload h 5 rfl dX12_laySubsets_50 ?_
          refine fr_imul h dX12_laySubsets_52 ?_
          refine fr_iload h 6 rfl dX12_laySubsets_53 ?_
          refine fr_iadd h dX12_laySubsets_55 ?_
          refine fr_iald h (SA_a hb) (by omega) (by omega) ((SA_r hb ((6 * z8) + l6_13)).trans (sg_num (by omega) (by omega))) dX12_laySubsets_56 (fun z23 w24 w25 q26 => ?_)
          have r27 := q26.trans (fm_rd_k (a := b) (b := ((6 * z8) + l6_13)) m22 (by omega))
          have r28 := r27.trans (congrFun (g13_6 b (by omega) (by omega) (by omega)) ((6 * z8) + l6_13))
          have r29 := r28.trans (congrFun (f6 b (by omega) (by omega)) ((6 * z8) + l6_13))
          refine fr_iadd h dX12_laySubsets_57 ?_
          refine fr_normi (fun z30 w31 q32 => ?_)
          have w33 : fm_r ((v + z23)) → z30 = (v + z23) := fun q => (iI_inj q w31 q32).symm
          have r34 := (fm_rd_k (a := 0) (b := 26) m22 (by omega))
          refine fr_cvV h kX12 at_0M wX12_laySubsets lX12_306 (ih x21 b hb (l6_13 + 1) (n + 1) z30 (by omega) (by omega) (by omega) (by omega) (by omega) (by omega) (by omega) (by omega)) rfl (by omega) (by omega) rfl (Nat.le_of_ble_eq_true rfl) dX12_laySubsets_58 (fun x35 p38 => ?_)
          obtain ⟨p39, p40, f41, f42⟩ := p38
          refine fr_iinc (j := 6) (L' := [(0, vr G 0), (1, vr G b), (2, vi p), (3, vi n), (4, vi v), (5, vi z8), (6, vi (l6_13 + 1))]) h dX12_laySubsets_61 rfl (by decide) [1, 2, 3, 4, 5, 6, 0] rfl ?_
          refine fr_goto (tgt := 16) h dX12_laySubsets_64 (by decide) ?_
          have r43 := (fm_rd_k (a := 0) (b := 26) m22 (by omega))
          have r44 := (fm_rd_k (a := 0) (b := 26) m22 (by omega))
          exact ih13 (l6_13 + 1) x35 (by omega) (by omega) (by omega) (by omega) (by omega) (by omega) (fun a k0 k1 k2 => ((f41 a (by omega) (by omega) (by omega)).trans ((fm_up_row m22 (by omega)).trans (g13_6 a (by omega) (by omega) (by omega))))) (fun i k0 => ((f42 i (by omega)).trans ((fm_rd_k (a := 0) (b := i) m22 (by omega)).trans (g13_7 i (by omega))))) (by omega)
    exact HL13 ((6 - p) + 1 : Int).toNat p x1 (by omega) (by omega) (by omega) (by omega) (by omega) (by omega) (fun a _ _ _ => rfl) (fun i _ => rfl) (by omega)
set_option maxHeartbeats 1000000 in
theorem c_X12_layRoutes : ∀ (d : Nat) (x : Mm) (b : Int) (hb : isSA b) (p : Int) (n : Int) (k : Int) (v : Int) (h_p : fm_r p) (h_n : fm_r n) (h_k : fm_r k) (h_v : fm_r v) (e0 : 0 ≤ p) (e1 : p ≤ 6) (e2 : 0 ≤ n) (e3 : n ≤ 6) (e4 : 0 ≤ k) (e5 : k < 128) (e6 : fr0 k 7 ≤ 6 - n) (e7 : x 0 26 + fct (6 - n) ≤ 1300), (6 - n) < d → CnV YM yX12_layRoutes cX12_layRoutes 8 (d + 10) (d * 40 + 300) (fun G => [vr G 0, vr G b, vi p, vi n, vi k, vi v]) x (fun y' => (y' 0 26 ≤ x 0 26 + fct (6 - n)) ∧ (x 0 26 ≤ y' 0 26) ∧ (∀ a : Int, (a < 0 ∨ 0 < a) → (a < 12 ∨ 14 < a) → (a < 17 ∨ 17 < a) → y' a = x a) ∧ (∀ i : Int, i ≠ 26 → y' 0 i = x 0 i)) := by
  intro d
  induction d with
  | zero => intro x b hb p n k v h_p h_n h_k h_v e0 e1 e2 e3 e4 e5 e6 e7 hmu; exfalso; omega
  | succ d ih =>
    intro x b hb p n k v h_p h_n h_k h_v e0 e1 e2 e3 e4 e5 e6 e7 hmu
    refine cn_V (by decide) (fun _ => Nat.le_of_ble_eq_true rfl) (fun G C h hq => ?_)
    have h : OK YM G C cX12_layRoutes RX12 8 none (d + 1 + 10) ((d + 1) * 40 + 300) := h
    show FW YM G C 8 x 0 [(0, vr G 0), (1, vr G b), (2, vi p), (3, vi n), (4, vi k), (5, vi v)] []
    have h_b := SA_b hb
    have hs_b : b = 1 ∨ b = 9 ∨ b = 10 := hb
    have hf := fct_1 (6 - n)
    refine fr_aload_n h rfl 0 rfl dX12_layRoutes_0 ?_
    refine fr_getc (z := 17) (iz := 29) h kX12 fX12_60 at_0M rfl rfl rfM_29 (by omega) dX12_layRoutes_1 ?_
    refine fr_iload_n h rfl 3 rfl dX12_layRoutes_4 ?_
    refine fr_iload_n h rfl 2 rfl dX12_layRoutes_5 ?_
    refine fr_iast h arM_17 (by omega) (by omega) (rrM_17 n) (by omega) (by omega) dX12_layRoutes_6 ?_
    refine fr_mem (fun x1 m2 => ?_)
    refine fr_iload_n h rfl 2 rfl dX12_layRoutes_7 ?_
    refine fr_aload_n h rfl 1 rfl dX12_layRoutes_8 ?_
    refine fr_bipush h rfl dX12_layRoutes_9 ?_
    refine fr_iald h (SA_a hb) (by omega) (by omega) ((SA_r hb 104).trans sg_e2) dX12_layRoutes_11 (fun z3 w4 w5 q6 => ?_)
    have r7 := q6.trans (fm_rd_k (a := b) (b := 104) m2 (by omega))
    refine fr_icmp_ne (tgt := 25) h dX12_layRoutes_12 (by decide) (by omega) (by omega) (fun c8 => ?_) (fun c8 => ?_)
    ·
      have hz := ml_z k (fct (6 - (n + 1)))
      refine fr_iconst h dX12_layRoutes_25 ?_
      refine fr_istore (L' := [(0, vr G 0), (1, vr G b), (2, vi p), (3, vi n), (4, vi k), (5, vi v), (6, vi 0)]) h dX12_layRoutes_26 (by decide) [1, 2, 3, 4, 5, 6, 0] rfl ?_
      have HL9 : ∀ (n9 : Nat) (l6_9 : Int) (x_9 : Mm), fm_r l6_9 → 0 ≤ l6_9 → l6_9 ≤ 7 → x_9 0 26 ≤ x 0 26 + ml (frr k l6_9) (fct (6 - (n + 1))) → x 0 26 ≤ x_9 0 26 → (∀ a : Int, (a < 0 ∨ 0 < a) → (a < 12 ∨ 14 < a) → (a < 17 ∨ 17 < a) → x_9 a = x1 a) → (∀ i : Int, i ≠ 26 → x_9 0 i = x1 0 i) → (7 - l6_9) < n9 → FW YM G C 8 x_9 28 [(0, vr G 0), (1, vr G b), (2, vi p), (3, vi n), (4, vi k), (5, vi v), (6, vi l6_9)] [] := by
        intro n9
        induction n9 with
        | zero =>
          intro l6_9 x_9 g9_0 g9_1 g9_2 g9_3 g9_4 g9_5 g9_6 g9_7
          exfalso; omega
        | succ n9 ih9 =>
          intro l6_9 x_9 g9_0 g9_1 g9_2 g9_3 g9_4 g9_5 g9_6 g9_7
          refine fr_iload h 6 rfl dX12_layRoutes_28 ?_
          refine fr_bipush h rfl dX12_layRoutes_30 ?_
          refine fr_icmp_ge (tgt := 87) h dX12_layRoutes_32 (by decide) (by omega) (by omega) (fun c10 => ?_) (fun c10 => ?_)
          ·
            have he := ml_e (k := k) (j := l6_9) (m := 6) (n := n) (q := 7) (by omega) e6 (by omega)
            have r11 := (fm_rd_k (a := 0) (b := 26) m2 (by omega))
            have r12 := (fm_rd_k (a := 0) (b := 26) m2 (by omega))
            exact fr_vret h hq ⟨(by omega), (by omega), (fun a k0 k1 k2 => ((g9_5 a (by omega) (by omega) (by omega)).trans (fm_up_row m2 (by omega)))), (fun i k0 => ((g9_6 i (by omega)).trans (fm_rd_k (a := 0) (b := i) m2 (by omega))))⟩ dX12_layRoutes_87
          ·
            have hm := ml_t (k := k) (j := l6_9) (F := fct (6 - (n + 1))) (by omega)
            have hbt := bt_01 k l6_9
            have hf1 := fct_1 (6 - (n + 1))
            refine fr_aload_n h rfl 1 rfl dX12_layRoutes_35 ?_
            refine fr_iload_n h rfl 2 rfl dX12_layRoutes_36 ?_
            refine fr_iload h 6 rfl dX12_layRoutes_37 ?_
            refine fr_csI h wX12_weightOf lX12_105 (c_X12_weightOf x_9 b hb p l6_9 (by omega) (by omega) (by omega) (by omega) (by omega) (by omega)) rfl (by omega) (by omega) rfl (Nat.le_of_ble_eq_true rfl) dX12_layRoutes_39 (fun z14 x13 w15 p16 => ?_)
            obtain ⟨p17, p18, p19, y20⟩ := p16
            rw [y20]
            clear y20
            refine fr_istore (L' := [(0, vr G 0), (1, vr G b), (2, vi p), (3, vi n), (4, vi k), (5, vi v), (6, vi l6_9), (7, vi z14)]) h dX12_layRoutes_42 (by decide) [1, 2, 3, 4, 5, 6, 7, 0] rfl ?_
            refine fr_iload h 7 rfl dX12_layRoutes_44 ?_
            refine fr_if_le (tgt := 81) h dX12_layRoutes_46 (by decide) (by omega) (fun c21 => ?_) (fun c21 => ?_)
            ·
              refine fr_iinc (j := 6) (L' := [(0, vr G 0), (1, vr G b), (2, vi p), (3, vi n), (4, vi k), (5, vi v), (6, vi (l6_9 + 1)), (7, vi z14)]) h dX12_layRoutes_81 rfl (by decide) [1, 2, 3, 4, 5, 6, 0, 7] rfl ?_
              refine fr_goto (tgt := 28) h dX12_layRoutes_84 (by decide) ?_
              refine fr_sub (L' := [(0, vr G 0), (1, vr G b), (2, vi p), (3, vi n), (4, vi k), (5, vi v), (6, vi (l6_9 + 1))]) [0, 1, 2, 3, 4, 5, 6] rfl ?_
              have r22 := (fm_rd_k (a := 0) (b := 26) m2 (by omega))
              have r23 := (fm_rd_k (a := 0) (b := 26) m2 (by omega))
              exact ih9 (l6_9 + 1) x_9 (by omega) (by omega) (by omega) (by omega) (by omega) (fun a k0 k1 k2 => (g9_5 a (by omega) (by omega) (by omega))) (fun i k0 => (g9_6 i (by omega))) (by omega)
            ·
              refine fr_iload h 4 rfl dX12_layRoutes_49 ?_
              refine fr_iload h 6 rfl dX12_layRoutes_51 ?_
              refine fr_csI h wX12_has lX12_300 (c_X12_has x_9 k l6_9 (by omega) (by omega)) rfl (by omega) (by omega) rfl (Nat.le_of_ble_eq_true rfl) dX12_layRoutes_53 (fun z25 x24 w26 p27 => ?_)
              obtain ⟨p28, p29, y30⟩ := p27
              rw [y30]
              clear y30
              refine fr_if_ne (tgt := 81) h dX12_layRoutes_56 (by decide) (by omega) (fun c31 => ?_) (fun c31 => ?_)
              ·
                refine fr_iinc (j := 6) (L' := [(0, vr G 0), (1, vr G b), (2, vi p), (3, vi n), (4, vi k), (5, vi v), (6, vi (l6_9 + 1)), (7, vi z14)]) h dX12_layRoutes_81 rfl (by decide) [1, 2, 3, 4, 5, 6, 0, 7] rfl ?_
                refine fr_goto (tgt := 28) h dX12_layRoutes_84 (by decide) ?_
                refine fr_sub (L' := [(0, vr G 0), (1, vr G b), (2, vi p), (3, vi n), (4, vi k), (5, vi v), (6, vi (l6_9 + 1))]) [0, 1, 2, 3, 4, 5, 6] rfl ?_
                have r32 := (fm_rd_k (a := 0) (b := 26) m2 (by omega))
                have r33 := (fm_rd_k (a := 0) (b := 26) m2 (by omega))
                exact ih9 (l6_9 + 1) x_9 (by omega) (by omega) (by omega) (by omega) (by omega) (fun a k0 k1 k2 => (g9_5 a (by omega) (by omega) (by omega))) (fun i k0 => (g9_6 i (by omega))) (by omega)
              ·
                have hf2 := fr0_7 (p := k) (w := l6_9) (by omega) (by omega) (by omega) (by omega) (by omega) e6
                have hf3 := ml_f (k := k) (j := l6_9) (m := 6) (n := n) (q := 7) (by omega) (by omega) (by omega) e6 (by omega)
                refine fr_aload_n h rfl 0 rfl dX12_layRoutes_59 ?_
                refine fr_aload_n h rfl 1 rfl dX12_layRoutes_60 ?_
                refine fr_iload h 6 rfl dX12_layRoutes_61 ?_
                refine fr_iload_n h rfl 3 rfl dX12_layRoutes_63 ?_
                refine fr_iconst h dX12_layRoutes_64 ?_
                refine fr_iadd h dX12_layRoutes_65 ?_
                refine fr_iload h 4 rfl dX12_layRoutes_66 ?_
                refine fr_iconst h dX12_layRoutes_68 ?_
                refine fr_iload h 6 rfl dX12_layRoutes_69 ?_
                refine fr_ishl h dX12_layRoutes_71 (fun z34 w35 q36 w37 => ?_)
                refine fr_ior h dX12_layRoutes_72 (fun z38 w39 q40 w41 => ?_)
                have w42 := sb_of (by omega) (by omega) (by omega) (by omega) w39 q36 q40
                have hz5 : fr0 z38 7 = fr0 k 7 - 1 := by rw [w42.1]; exact hf2.2
                refine fr_iload h 5 rfl dX12_layRoutes_73 ?_
                refine fr_iload h 7 rfl dX12_layRoutes_75 ?_
                refine fr_iadd h dX12_layRoutes_77 ?_
                refine fr_normi (fun z43 w44 q45 => ?_)
                have w46 : fm_r ((v + z14)) → z43 = (v + z14) := fun q => (iI_inj q w44 q45).symm
                have r47 := (fm_rd_k (a := 0) (b := 26) m2 (by omega))
                refine fr_cvV h kX12 at_0M wX12_layRoutes lX12_309 (ih x_9 b hb l6_9 (n + 1) z38 z43 (by omega) (by omega) (by omega) (by omega) (by omega) (by omega) (by omega) (by omega) (by omega) (by omega) (by omega) (by omega) (by omega)) rfl (by omega) (by omega) rfl (Nat.le_of_ble_eq_true rfl) dX12_layRoutes_78 (fun x48 p51 => ?_)
                obtain ⟨p52, p53, f54, f55⟩ := p51
                refine fr_iinc (j := 6) (L' := [(0, vr G 0), (1, vr G b), (2, vi p), (3, vi n), (4, vi k), (5, vi v), (6, vi (l6_9 + 1)), (7, vi z14)]) h dX12_layRoutes_81 rfl (by decide) [1, 2, 3, 4, 5, 6, 0, 7] rfl ?_
                refine fr_goto (tgt := 28) h dX12_layRoutes_84 (by decide) ?_
                refine fr_sub (L' := [(0, vr G 0), (1, vr G b), (2, vi p), (3, vi n), (4, vi k), (5, vi v), (6, vi (l6_9 + 1))]) [0, 1, 2, 3, 4, 5, 6] rfl ?_
                have r56 := (fm_rd_k (a := 0) (b := 26) m2 (by omega))
                have r57 := (fm_rd_k (a := 0) (b := 26) m2 (by omega))
                exact ih9 (l6_9 + 1) x48 (by omega) (by omega) (by omega) (by omega) (by omega) (fun a k0 k1 k2 => ((f54 a (by omega) (by omega) (by omega)).trans (g9_5 a (by omega) (by omega) (by omega)))) (fun i k0 => ((f55 i (by omega)).trans (g9_6 i (by omega)))) (by omega)
      have r58 := (fm_rd_k (a := 0) (b := 26) m2 (by omega))
      have r59 := (fm_rd_k (a := 0) (b := 26) m2 (by omega))
      exact HL9 ((7 - 0) + 1 : Int).toNat 0 x1 (by omega) (by omega) (by omega) (by omega) (by omega) (fun a _ _ _ => rfl) (fun i _ => rfl) (by omega)
    ·
      refine fr_aload_n h rfl 0 rfl dX12_layRoutes_15 ?_
      refine fr_iload_n h rfl 3 rfl dX12_layRoutes_16 ?_
      refine fr_iconst h dX12_layRoutes_17 ?_
      refine fr_iadd h dX12_layRoutes_18 ?_
      refine fr_iload h 5 rfl dX12_layRoutes_19 ?_
      have r60 := (fm_rd_k (a := 0) (b := 26) m2 (by omega))
      refine fr_cvV h kX12 at_0M wX12_emit lX12_279 (c_X12_emit x1 (n + 1) v (by omega) (by omega) (by omega) (by omega) (by omega)) rfl (by omega) (by omega) rfl (Nat.le_of_ble_eq_true rfl) dX12_layRoutes_21 (fun x61 p64 => ?_)
      obtain ⟨p65, f66, f67⟩ := p64
      have r68 := (fm_rd_k (a := 0) (b := 26) m2 (by omega))
      have r69 := (fm_rd_k (a := 0) (b := 26) m2 (by omega))
      exact fr_vret h hq ⟨(by omega), (by omega), (fun a k0 k1 k2 => ((f66 a (by omega) (by omega)).trans (fm_up_row m2 (by omega)))), (fun i k0 => ((f67 i (by omega)).trans (fm_rd_k (a := 0) (b := i) m2 (by omega))))⟩ dX12_layRoutes_24
