set_option maxHeartbeats 8000000 in
theorem c_X12_readAct (x : Mm) (k : Int) (h_k : fm_r k) (e0 : ((x 0 6 = 2 ∧ x 0 8 ≤ 80) ∨ (x 0 6 = 5 ∧ x 0 8 ≤ 40) ∨ (x 0 6 = 6 ∧ x 0 8 ≤ 40)) ∧ x 0 9 ≤ x 0 8) (e1 : 0 ≤ k) (e2 : k ≤ 240) (e3 : x 0 10 = (-1)) : CnV YM yX12_readAct cX12_readAct 4 4 84 (fun G => [vr G 0, vi k]) x (fun y' => (y' 0 9 ≤ x 0 8) ∧ (y' 0 10 ≠ (-1) ∨ x 0 9 + 1 ≤ y' 0 9) ∧ (∀ a : Int, (a < 0 ∨ 0 < a) → (a < 11 ∨ 11 < a) → y' a = x a) ∧ (∀ i : Int, i ≠ 9 → i ≠ 10 → y' 0 i = x 0 i)) := by
  refine cn_V (by decide) (fun _ => Nat.le_of_ble_eq_true rfl) (fun G C h hq => ?_)
  have h : OK YM G C cX12_readAct RX12 4 none 4 84 := h
  show FW YM G C 4 x 0 [(0, vr G 0), (1, vi k)] []
  refine fr_aload_n h rfl 0 rfl dX12_readAct_0 ?_
  refine fr_cvI h kX12 at_0M wX12_here lX12_135 (c_X12_here x (by omega)) rfl (by decide) (by decide) rfl (Nat.le_of_ble_eq_true rfl) dX12_readAct_1 (fun z2 x1 w3 p4 => ?_)
  obtain ⟨p5, p6, p7, p8, y9⟩ := p4
  rw [y9]
  clear y9
  refine fr_istore_n (L' := [(0, vr G 0), (1, vi k), (2, vi z2)]) h rfl dX12_readAct_4 (by decide) [1, 2, 0] rfl ?_
  refine fr_iload_n h rfl 2 rfl dX12_readAct_5 ?_
  refine fr_bipush h rfl dX12_readAct_6 ?_
  refine fr_icmp_eq (tgt := 56) h dX12_readAct_8 (by decide) (by omega) (by omega) (fun c10 => ?_) (fun c10 => ?_)
  ·
    refine fr_aload_n h rfl 0 rfl dX12_readAct_56 ?_
    refine fr_dup h rfl dX12_readAct_57 ?_
    refine fr_geti (iz := 9) h kX12 fX12_121 at_0M rfl rfl (by decide) (by decide) rfM_9 dX12_readAct_58 (fun z11 w12 w13 q14 => ?_)
    refine fr_iconst h dX12_readAct_61 ?_
    refine fr_iadd h dX12_readAct_62 ?_
    refine fr_puti (iz := 9) h kX12 fX12_121 at_0M rfl rfl (by decide) (by decide) rfl (by decide +kernel) rfM_9 (by omega) (by omega) dX12_readAct_63 ?_
    refine fr_mem (fun x15 m16 => ?_)
    refine fr_aload_n h rfl 0 rfl dX12_readAct_66 ?_
    refine fr_getc (z := 11) (iz := 22) h kX12 fX12_42 at_0M rfl rfl rfM_22 (by omega) dX12_readAct_67 ?_
    refine fr_iload_n h rfl 1 rfl dX12_readAct_70 ?_
    refine fr_iload_n h rfl 2 rfl dX12_readAct_71 ?_
    refine fr_iast h arM_11 (by omega) (by omega) (rrM_11 k) (by omega) (by omega) dX12_readAct_72 ?_
    refine fr_mem (fun x17 m18 => ?_)
    refine fr_iload_n h rfl 2 rfl dX12_readAct_73 ?_
    refine fr_bipush h rfl dX12_readAct_74 ?_
    refine fr_icmp_eq (tgt := 85) h dX12_readAct_76 (by decide) (by omega) (by omega) (fun c19 => by exfalso; omega) (fun c19 => ?_)
    refine fr_iload_n h rfl 2 rfl dX12_readAct_79 ?_
    refine fr_bipush h rfl dX12_readAct_80 ?_
    refine fr_icmp_ne (tgt := 89) h dX12_readAct_82 (by decide) (by omega) (by omega) (fun c20 => ?_) (fun c20 => by exfalso; omega)
    refine fr_iconst h dX12_readAct_89 ?_
    refine fr_istore_n (L' := [(0, vr G 0), (1, vi k), (2, vi z2), (3, vi 0)]) h rfl dX12_readAct_90 (by decide) [1, 2, 3, 0] rfl ?_
    refine fr_aload_n h rfl 0 rfl dX12_readAct_91 ?_
    refine fr_getc (z := 11) (iz := 22) h kX12 fX12_42 at_0M rfl rfl rfM_22 (by omega) dX12_readAct_92 ?_
    refine fr_iload_n h rfl 1 rfl dX12_readAct_95 ?_
    refine fr_iconst h dX12_readAct_96 ?_
    refine fr_iadd h dX12_readAct_97 ?_
    refine fr_iload_n h rfl 3 rfl dX12_readAct_98 ?_
    refine fr_if_eq (tgt := 113) h dX12_readAct_99 (by decide) (by omega) (fun c21 => ?_) (fun c21 => by exfalso; omega)
    refine fr_aload_n h rfl 0 rfl dX12_readAct_113 ?_
    refine fr_bipush h rfl dX12_readAct_114 ?_
    refine fr_iload_n h rfl 2 rfl dX12_readAct_116 ?_
    refine fr_bipush h rfl dX12_readAct_117 ?_
    refine fr_icmp_eq (tgt := 128) h dX12_readAct_119 (by decide) (by omega) (by omega) (fun c22 => ?_) (fun c22 => by exfalso; omega)
    refine fr_iconst h dX12_readAct_128 ?_
    refine fr_goto (tgt := 144) h dX12_readAct_129 (by decide) ?_
    have r23 := (fm_rd_k (a := 0) (b := 6) m18 (by omega))
    have r24 := r23.trans (fm_rd_i (a := 0) (b := 6) m16 (by decide))
    have r25 := (fm_rd_k (a := 0) (b := 8) m18 (by omega))
    have r26 := r25.trans (fm_rd_i (a := 0) (b := 8) m16 (by decide))
    have r27 := (fm_rd_k (a := 0) (b := 6) m18 (by omega))
    have r28 := r27.trans (fm_rd_i (a := 0) (b := 6) m16 (by decide))
    have r29 := (fm_rd_k (a := 0) (b := 8) m18 (by omega))
    have r30 := r29.trans (fm_rd_i (a := 0) (b := 8) m16 (by decide))
    have r31 := (fm_rd_k (a := 0) (b := 6) m18 (by omega))
    have r32 := r31.trans (fm_rd_i (a := 0) (b := 6) m16 (by decide))
    have r33 := (fm_rd_k (a := 0) (b := 8) m18 (by omega))
    have r34 := r33.trans (fm_rd_i (a := 0) (b := 8) m16 (by decide))
    have r35 := (fm_rd_k (a := 0) (b := 9) m18 (by omega))
    have r36 := r35.trans (fm_rd_s m16)
    have r37 := (fm_rd_k (a := 0) (b := 8) m18 (by omega))
    have r38 := r37.trans (fm_rd_i (a := 0) (b := 8) m16 (by decide))
    refine fr_cvI h kX12 at_0M wX12_oneOf lX12_147 (c_X12_oneOf x17 48 4 (by omega) (by omega) (by omega) (by omega) (by omega) (by omega) (by omega)) rfl (by decide) (by decide) rfl (Nat.le_of_ble_eq_true rfl) dX12_readAct_144 (fun z40 x39 w41 p42 => ?_)
    obtain ⟨p43, p44, p45, p46, p47, f48, f49⟩ := p42
    refine fr_iast h arM_11 (by omega) (by omega) (rrM_11 (k + 1)) (by omega) (by omega) dX12_readAct_147 ?_
    refine fr_mem (fun x50 m51 => ?_)
    refine fr_iload_n h rfl 2 rfl dX12_readAct_148 ?_
    refine fr_bipush h rfl dX12_readAct_149 ?_
    refine fr_icmp_ne (tgt := 166) h dX12_readAct_151 (by decide) (by omega) (by omega) (fun c52 => by exfalso; omega) (fun c52 => ?_)
    refine fr_aload_n h rfl 0 rfl dX12_readAct_154 ?_
    refine fr_getc (z := 11) (iz := 22) h kX12 fX12_42 at_0M rfl rfl rfM_22 (by omega) dX12_readAct_155 ?_
    refine fr_iload_n h rfl 1 rfl dX12_readAct_158 ?_
    refine fr_iconst h dX12_readAct_159 ?_
    refine fr_iadd h dX12_readAct_160 ?_
    refine fr_aload_n h rfl 0 rfl dX12_readAct_161 ?_
    have r53 := (fm_rd_k (a := 0) (b := 6) m51 (by omega))
    have r54 := r53.trans (f49 6 (by decide) (by decide))
    have r55 := r54.trans (fm_rd_k (a := 0) (b := 6) m18 (by omega))
    have r56 := r55.trans (fm_rd_i (a := 0) (b := 6) m16 (by decide))
    have r57 := (fm_rd_k (a := 0) (b := 8) m51 (by omega))
    have r58 := r57.trans (f49 8 (by decide) (by decide))
    have r59 := r58.trans (fm_rd_k (a := 0) (b := 8) m18 (by omega))
    have r60 := r59.trans (fm_rd_i (a := 0) (b := 8) m16 (by decide))
    have r61 := (fm_rd_k (a := 0) (b := 6) m51 (by omega))
    have r62 := r61.trans (f49 6 (by decide) (by decide))
    have r63 := r62.trans (fm_rd_k (a := 0) (b := 6) m18 (by omega))
    have r64 := r63.trans (fm_rd_i (a := 0) (b := 6) m16 (by decide))
    have r65 := (fm_rd_k (a := 0) (b := 8) m51 (by omega))
    have r66 := r65.trans (f49 8 (by decide) (by decide))
    have r67 := r66.trans (fm_rd_k (a := 0) (b := 8) m18 (by omega))
    have r68 := r67.trans (fm_rd_i (a := 0) (b := 8) m16 (by decide))
    have r69 := (fm_rd_k (a := 0) (b := 6) m51 (by omega))
    have r70 := r69.trans (f49 6 (by decide) (by decide))
    have r71 := r70.trans (fm_rd_k (a := 0) (b := 6) m18 (by omega))
    have r72 := r71.trans (fm_rd_i (a := 0) (b := 6) m16 (by decide))
    have r73 := (fm_rd_k (a := 0) (b := 8) m51 (by omega))
    have r74 := r73.trans (f49 8 (by decide) (by decide))
    have r75 := r74.trans (fm_rd_k (a := 0) (b := 8) m18 (by omega))
    have r76 := r75.trans (fm_rd_i (a := 0) (b := 8) m16 (by decide))
    have r77 := (fm_rd_k (a := 0) (b := 9) m51 (by omega))
    have r78 := (fm_rd_k (a := 0) (b := 9) m18 (by omega))
    have r79 := r78.trans (fm_rd_s m16)
    have r80 := (fm_rd_k (a := 0) (b := 8) m51 (by omega))
    have r81 := r80.trans (f49 8 (by decide) (by decide))
    have r82 := r81.trans (fm_rd_k (a := 0) (b := 8) m18 (by omega))
    have r83 := r82.trans (fm_rd_i (a := 0) (b := 8) m16 (by decide))
    refine fr_cvI h kX12 at_0M wX12_twoDigits lX12_273 (c_X12_twoDigits x50 (by omega)) rfl (by decide) (by decide) rfl (Nat.le_of_ble_eq_true rfl) dX12_readAct_162 (fun z85 x84 w86 p87 => ?_)
    obtain ⟨p88, p89, p90, p91, f92, f93⟩ := p87
    refine fr_iast h arM_11 (by omega) (by omega) (rrM_11 (k + 2)) (by omega) (by omega) dX12_readAct_165 ?_
    refine fr_mem (fun x94 m95 => ?_)
    refine fr_iload_n h rfl 2 rfl dX12_readAct_166 ?_
    refine fr_bipush h rfl dX12_readAct_167 ?_
    refine fr_icmp_ne (tgt := 188) h dX12_readAct_169 (by decide) (by omega) (by omega) (fun c96 => ?_) (fun c96 => by exfalso; omega)
    refine fr_iload_n h rfl 3 rfl dX12_readAct_188 ?_
    refine fr_if_eq (tgt := 208) h dX12_readAct_189 (by decide) (by omega) (fun c97 => ?_) (fun c97 => by exfalso; omega)
    refine fr_iload_n h rfl 2 rfl dX12_readAct_208 ?_
    refine fr_bipush h rfl dX12_readAct_209 ?_
    refine fr_icmp_ne (tgt := 229) h dX12_readAct_211 (by decide) (by omega) (by omega) (fun c98 => ?_) (fun c98 => by exfalso; omega)
    refine fr_iload_n h rfl 2 rfl dX12_readAct_229 ?_
    refine fr_bipush h rfl dX12_readAct_230 ?_
    refine fr_icmp_eq (tgt := 241) h dX12_readAct_232 (by decide) (by omega) (by omega) (fun c99 => by exfalso; omega) (fun c99 => ?_)
    refine fr_iload_n h rfl 2 rfl dX12_readAct_235 ?_
    refine fr_bipush h rfl dX12_readAct_236 ?_
    refine fr_icmp_ne (tgt := 253) h dX12_readAct_238 (by decide) (by omega) (by omega) (fun c100 => ?_) (fun c100 => by exfalso; omega)
    have r101 := (fm_rd_k (a := 0) (b := 9) m95 (by omega))
    have r102 := (fm_rd_k (a := 0) (b := 9) m51 (by omega))
    have r103 := (fm_rd_k (a := 0) (b := 9) m18 (by omega))
    have r104 := r103.trans (fm_rd_s m16)
    have r105 := (fm_rd_k (a := 0) (b := 10) m95 (by omega))
    have r106 := (fm_rd_k (a := 0) (b := 10) m51 (by omega))
    have r107 := (fm_rd_k (a := 0) (b := 10) m18 (by omega))
    have r108 := r107.trans (fm_rd_i (a := 0) (b := 10) m16 (by decide))
    have r109 := (fm_rd_k (a := 0) (b := 9) m95 (by omega))
    have r110 := (fm_rd_k (a := 0) (b := 9) m51 (by omega))
    have r111 := (fm_rd_k (a := 0) (b := 9) m18 (by omega))
    have r112 := r111.trans (fm_rd_s m16)
    exact fr_vret h hq ⟨(by omega), (by omega), (fun a k0 k1 => ((fm_up_row m95 (by omega)).trans ((f92 a (by omega)).trans ((fm_up_row m51 (by omega)).trans ((f48 a (by omega)).trans ((fm_up_row m18 (by omega)).trans (fm_up_row m16 (by omega)))))))), (fun i k0 k1 => ((fm_rd_k (a := 0) (b := i) m95 (by omega)).trans ((f93 i (by omega) (by omega)).trans ((fm_rd_k (a := 0) (b := i) m51 (by omega)).trans ((f49 i (by omega) (by omega)).trans ((fm_rd_k (a := 0) (b := i) m18 (by omega)).trans (fm_rd_i (a := 0) (b := i) m16 (by omega))))))))⟩ dX12_readAct_253
  ·
    refine fr_iload_n h rfl 2 rfl dX12_readAct_11 ?_
    refine fr_bipush h rfl dX12_readAct_12 ?_
    refine fr_icmp_eq (tgt := 56) h dX12_readAct_14 (by decide) (by omega) (by omega) (fun c113 => ?_) (fun c113 => ?_)
    ·
      refine fr_aload_n h rfl 0 rfl dX12_readAct_56 ?_
      refine fr_dup h rfl dX12_readAct_57 ?_
      refine fr_geti (iz := 9) h kX12 fX12_121 at_0M rfl rfl (by decide) (by decide) rfM_9 dX12_readAct_58 (fun z114 w115 w116 q117 => ?_)
      refine fr_iconst h dX12_readAct_61 ?_
      refine fr_iadd h dX12_readAct_62 ?_
      refine fr_puti (iz := 9) h kX12 fX12_121 at_0M rfl rfl (by decide) (by decide) rfl (by decide +kernel) rfM_9 (by omega) (by omega) dX12_readAct_63 ?_
      refine fr_mem (fun x118 m119 => ?_)
      refine fr_aload_n h rfl 0 rfl dX12_readAct_66 ?_
      refine fr_getc (z := 11) (iz := 22) h kX12 fX12_42 at_0M rfl rfl rfM_22 (by omega) dX12_readAct_67 ?_
      refine fr_iload_n h rfl 1 rfl dX12_readAct_70 ?_
      refine fr_iload_n h rfl 2 rfl dX12_readAct_71 ?_
      refine fr_iast h arM_11 (by omega) (by omega) (rrM_11 k) (by omega) (by omega) dX12_readAct_72 ?_
      refine fr_mem (fun x120 m121 => ?_)
      refine fr_iload_n h rfl 2 rfl dX12_readAct_73 ?_
      refine fr_bipush h rfl dX12_readAct_74 ?_
      refine fr_icmp_eq (tgt := 85) h dX12_readAct_76 (by decide) (by omega) (by omega) (fun c122 => by exfalso; omega) (fun c122 => ?_)
      refine fr_iload_n h rfl 2 rfl dX12_readAct_79 ?_
      refine fr_bipush h rfl dX12_readAct_80 ?_
      refine fr_icmp_ne (tgt := 89) h dX12_readAct_82 (by decide) (by omega) (by omega) (fun c123 => ?_) (fun c123 => by exfalso; omega)
      refine fr_iconst h dX12_readAct_89 ?_
      refine fr_istore_n (L' := [(0, vr G 0), (1, vi k), (2, vi z2), (3, vi 0)]) h rfl dX12_readAct_90 (by decide) [1, 2, 3, 0] rfl ?_
      refine fr_aload_n h rfl 0 rfl dX12_readAct_91 ?_
      refine fr_getc (z := 11) (iz := 22) h kX12 fX12_42 at_0M rfl rfl rfM_22 (by omega) dX12_readAct_92 ?_
      refine fr_iload_n h rfl 1 rfl dX12_readAct_95 ?_
      refine fr_iconst h dX12_readAct_96 ?_
      refine fr_iadd h dX12_readAct_97 ?_
      refine fr_iload_n h rfl 3 rfl dX12_readAct_98 ?_
      refine fr_if_eq (tgt := 113) h dX12_readAct_99 (by decide) (by omega) (fun c124 => ?_) (fun c124 => by exfalso; omega)
      refine fr_aload_n h rfl 0 rfl dX12_readAct_113 ?_
      refine fr_bipush h rfl dX12_readAct_114 ?_
      refine fr_iload_n h rfl 2 rfl dX12_readAct_116 ?_
      refine fr_bipush h rfl dX12_readAct_117 ?_
      refine fr_icmp_eq (tgt := 128) h dX12_readAct_119 (by decide) (by omega) (by omega) (fun c125 => by exfalso; omega) (fun c125 => ?_)
      refine fr_iload_n h rfl 2 rfl dX12_readAct_122 ?_
      refine fr_bipush h rfl dX12_readAct_123 ?_
      refine fr_icmp_ne (tgt := 132) h dX12_readAct_125 (by decide) (by omega) (by omega) (fun c126 => by exfalso; omega) (fun c126 => ?_)
      refine fr_iconst h dX12_readAct_128 ?_
      refine fr_goto (tgt := 144) h dX12_readAct_129 (by decide) ?_
      have r127 := (fm_rd_k (a := 0) (b := 6) m121 (by omega))
      have r128 := r127.trans (fm_rd_i (a := 0) (b := 6) m119 (by decide))
      have r129 := (fm_rd_k (a := 0) (b := 8) m121 (by omega))
      have r130 := r129.trans (fm_rd_i (a := 0) (b := 8) m119 (by decide))
      have r131 := (fm_rd_k (a := 0) (b := 6) m121 (by omega))
      have r132 := r131.trans (fm_rd_i (a := 0) (b := 6) m119 (by decide))
      have r133 := (fm_rd_k (a := 0) (b := 8) m121 (by omega))
      have r134 := r133.trans (fm_rd_i (a := 0) (b := 8) m119 (by decide))
      have r135 := (fm_rd_k (a := 0) (b := 6) m121 (by omega))
      have r136 := r135.trans (fm_rd_i (a := 0) (b := 6) m119 (by decide))
      have r137 := (fm_rd_k (a := 0) (b := 8) m121 (by omega))
      have r138 := r137.trans (fm_rd_i (a := 0) (b := 8) m119 (by decide))
      have r139 := (fm_rd_k (a := 0) (b := 9) m121 (by omega))
      have r140 := r139.trans (fm_rd_s m119)
      have r141 := (fm_rd_k (a := 0) (b := 8) m121 (by omega))
      have r142 := r141.trans (fm_rd_i (a := 0) (b := 8) m119 (by decide))
      refine fr_cvI h kX12 at_0M wX12_oneOf lX12_147 (c_X12_oneOf x120 48 4 (by omega) (by omega) (by omega) (by omega) (by omega) (by omega) (by omega)) rfl (by decide) (by decide) rfl (Nat.le_of_ble_eq_true rfl) dX12_readAct_144 (fun z144 x143 w145 p146 => ?_)
      obtain ⟨p147, p148, p149, p150, p151, f152, f153⟩ := p146
      refine fr_iast h arM_11 (by omega) (by omega) (rrM_11 (k + 1)) (by omega) (by omega) dX12_readAct_147 ?_
      refine fr_mem (fun x154 m155 => ?_)
      refine fr_iload_n h rfl 2 rfl dX12_readAct_148 ?_
      refine fr_bipush h rfl dX12_readAct_149 ?_
      refine fr_icmp_ne (tgt := 166) h dX12_readAct_151 (by decide) (by omega) (by omega) (fun c156 => ?_) (fun c156 => by exfalso; omega)
      refine fr_iload_n h rfl 2 rfl dX12_readAct_166 ?_
      refine fr_bipush h rfl dX12_readAct_167 ?_
      refine fr_icmp_ne (tgt := 188) h dX12_readAct_169 (by decide) (by omega) (by omega) (fun c157 => by exfalso; omega) (fun c157 => ?_)
      refine fr_aload_n h rfl 0 rfl dX12_readAct_172 ?_
      refine fr_getc (z := 11) (iz := 22) h kX12 fX12_42 at_0M rfl rfl rfM_22 (by omega) dX12_readAct_173 ?_
      refine fr_iload_n h rfl 1 rfl dX12_readAct_176 ?_
      refine fr_iconst h dX12_readAct_177 ?_
      refine fr_iadd h dX12_readAct_178 ?_
      refine fr_aload_n h rfl 0 rfl dX12_readAct_179 ?_
      refine fr_bipush h rfl dX12_readAct_180 ?_
      refine fr_bipush h rfl dX12_readAct_182 ?_
      have r158 := (fm_rd_k (a := 0) (b := 6) m155 (by omega))
      have r159 := r158.trans (f153 6 (by decide) (by decide))
      have r160 := r159.trans (fm_rd_k (a := 0) (b := 6) m121 (by omega))
      have r161 := r160.trans (fm_rd_i (a := 0) (b := 6) m119 (by decide))
      have r162 := (fm_rd_k (a := 0) (b := 8) m155 (by omega))
      have r163 := r162.trans (f153 8 (by decide) (by decide))
      have r164 := r163.trans (fm_rd_k (a := 0) (b := 8) m121 (by omega))
      have r165 := r164.trans (fm_rd_i (a := 0) (b := 8) m119 (by decide))
      have r166 := (fm_rd_k (a := 0) (b := 6) m155 (by omega))
      have r167 := r166.trans (f153 6 (by decide) (by decide))
      have r168 := r167.trans (fm_rd_k (a := 0) (b := 6) m121 (by omega))
      have r169 := r168.trans (fm_rd_i (a := 0) (b := 6) m119 (by decide))
      have r170 := (fm_rd_k (a := 0) (b := 8) m155 (by omega))
      have r171 := r170.trans (f153 8 (by decide) (by decide))
      have r172 := r171.trans (fm_rd_k (a := 0) (b := 8) m121 (by omega))
      have r173 := r172.trans (fm_rd_i (a := 0) (b := 8) m119 (by decide))
      have r174 := (fm_rd_k (a := 0) (b := 6) m155 (by omega))
      have r175 := r174.trans (f153 6 (by decide) (by decide))
      have r176 := r175.trans (fm_rd_k (a := 0) (b := 6) m121 (by omega))
      have r177 := r176.trans (fm_rd_i (a := 0) (b := 6) m119 (by decide))
      have r178 := (fm_rd_k (a := 0) (b := 8) m155 (by omega))
      have r179 := r178.trans (f153 8 (by decide) (by decide))
      have r180 := r179.trans (fm_rd_k (a := 0) (b := 8) m121 (by omega))
      have r181 := r180.trans (fm_rd_i (a := 0) (b := 8) m119 (by decide))
      have r182 := (fm_rd_k (a := 0) (b := 9) m155 (by omega))
      have r183 := (fm_rd_k (a := 0) (b := 9) m121 (by omega))
      have r184 := r183.trans (fm_rd_s m119)
      have r185 := (fm_rd_k (a := 0) (b := 8) m155 (by omega))
      have r186 := r185.trans (f153 8 (by decide) (by decide))
      have r187 := r186.trans (fm_rd_k (a := 0) (b := 8) m121 (by omega))
      have r188 := r187.trans (fm_rd_i (a := 0) (b := 8) m119 (by decide))
      refine fr_cvI h kX12 at_0M wX12_oneOf lX12_147 (c_X12_oneOf x154 48 10 (by omega) (by omega) (by omega) (by omega) (by omega) (by omega) (by omega)) rfl (by decide) (by decide) rfl (Nat.le_of_ble_eq_true rfl) dX12_readAct_184 (fun z190 x189 w191 p192 => ?_)
      obtain ⟨p193, p194, p195, p196, p197, f198, f199⟩ := p192
      refine fr_iast h arM_11 (by omega) (by omega) (rrM_11 (k + 2)) (by omega) (by omega) dX12_readAct_187 ?_
      refine fr_mem (fun x200 m201 => ?_)
      refine fr_iload_n h rfl 3 rfl dX12_readAct_188 ?_
      refine fr_if_eq (tgt := 208) h dX12_readAct_189 (by decide) (by omega) (fun c202 => ?_) (fun c202 => by exfalso; omega)
      refine fr_iload_n h rfl 2 rfl dX12_readAct_208 ?_
      refine fr_bipush h rfl dX12_readAct_209 ?_
      refine fr_icmp_ne (tgt := 229) h dX12_readAct_211 (by decide) (by omega) (by omega) (fun c203 => ?_) (fun c203 => by exfalso; omega)
      refine fr_iload_n h rfl 2 rfl dX12_readAct_229 ?_
      refine fr_bipush h rfl dX12_readAct_230 ?_
      refine fr_icmp_eq (tgt := 241) h dX12_readAct_232 (by decide) (by omega) (by omega) (fun c204 => by exfalso; omega) (fun c204 => ?_)
      refine fr_iload_n h rfl 2 rfl dX12_readAct_235 ?_
      refine fr_bipush h rfl dX12_readAct_236 ?_
      refine fr_icmp_ne (tgt := 253) h dX12_readAct_238 (by decide) (by omega) (by omega) (fun c205 => ?_) (fun c205 => by exfalso; omega)
      have r206 := (fm_rd_k (a := 0) (b := 9) m201 (by omega))
      have r207 := (fm_rd_k (a := 0) (b := 9) m155 (by omega))
      have r208 := (fm_rd_k (a := 0) (b := 9) m121 (by omega))
      have r209 := r208.trans (fm_rd_s m119)
      have r210 := (fm_rd_k (a := 0) (b := 10) m201 (by omega))
      have r211 := (fm_rd_k (a := 0) (b := 10) m155 (by omega))
      have r212 := (fm_rd_k (a := 0) (b := 10) m121 (by omega))
      have r213 := r212.trans (fm_rd_i (a := 0) (b := 10) m119 (by decide))
      have r214 := (fm_rd_k (a := 0) (b := 9) m201 (by omega))
      have r215 := (fm_rd_k (a := 0) (b := 9) m155 (by omega))
      have r216 := (fm_rd_k (a := 0) (b := 9) m121 (by omega))
      have r217 := r216.trans (fm_rd_s m119)
      exact fr_vret h hq ⟨(by omega), (by omega), (fun a k0 k1 => ((fm_up_row m201 (by omega)).trans ((f198 a (by omega)).trans ((fm_up_row m155 (by omega)).trans ((f152 a (by omega)).trans ((fm_up_row m121 (by omega)).trans (fm_up_row m119 (by omega)))))))), (fun i k0 k1 => ((fm_rd_k (a := 0) (b := i) m201 (by omega)).trans ((f199 i (by omega) (by omega)).trans ((fm_rd_k (a := 0) (b := i) m155 (by omega)).trans ((f153 i (by omega) (by omega)).trans ((fm_rd_k (a := 0) (b := i) m121 (by omega)).trans (fm_rd_i (a := 0) (b := i) m119 (by omega))))))))⟩ dX12_readAct_253
    ·
      refine fr_iload_n h rfl 2 rfl dX12_readAct_17 ?_
      refine fr_bipush h rfl dX12_readAct_18 ?_
      refine fr_icmp_eq (tgt := 56) h dX12_readAct_20 (by decide) (by omega) (by omega) (fun c218 => ?_) (fun c218 => ?_)
      ·
        refine fr_aload_n h rfl 0 rfl dX12_readAct_56 ?_
        refine fr_dup h rfl dX12_readAct_57 ?_
        refine fr_geti (iz := 9) h kX12 fX12_121 at_0M rfl rfl (by decide) (by decide) rfM_9 dX12_readAct_58 (fun z219 w220 w221 q222 => ?_)
        refine fr_iconst h dX12_readAct_61 ?_
        refine fr_iadd h dX12_readAct_62 ?_
        refine fr_puti (iz := 9) h kX12 fX12_121 at_0M rfl rfl (by decide) (by decide) rfl (by decide +kernel) rfM_9 (by omega) (by omega) dX12_readAct_63 ?_
        refine fr_mem (fun x223 m224 => ?_)
        refine fr_aload_n h rfl 0 rfl dX12_readAct_66 ?_
        refine fr_getc (z := 11) (iz := 22) h kX12 fX12_42 at_0M rfl rfl rfM_22 (by omega) dX12_readAct_67 ?_
        refine fr_iload_n h rfl 1 rfl dX12_readAct_70 ?_
        refine fr_iload_n h rfl 2 rfl dX12_readAct_71 ?_
        refine fr_iast h arM_11 (by omega) (by omega) (rrM_11 k) (by omega) (by omega) dX12_readAct_72 ?_
        refine fr_mem (fun x225 m226 => ?_)
        refine fr_iload_n h rfl 2 rfl dX12_readAct_73 ?_
        refine fr_bipush h rfl dX12_readAct_74 ?_
        refine fr_icmp_eq (tgt := 85) h dX12_readAct_76 (by decide) (by omega) (by omega) (fun c227 => ?_) (fun c227 => by exfalso; omega)
        refine fr_iconst h dX12_readAct_85 ?_
        refine fr_goto (tgt := 90) h dX12_readAct_86 (by decide) ?_
        refine fr_istore_n (L' := [(0, vr G 0), (1, vi k), (2, vi z2), (3, vi 1)]) h rfl dX12_readAct_90 (by decide) [1, 2, 3, 0] rfl ?_
        refine fr_aload_n h rfl 0 rfl dX12_readAct_91 ?_
        refine fr_getc (z := 11) (iz := 22) h kX12 fX12_42 at_0M rfl rfl rfM_22 (by omega) dX12_readAct_92 ?_
        refine fr_iload_n h rfl 1 rfl dX12_readAct_95 ?_
        refine fr_iconst h dX12_readAct_96 ?_
        refine fr_iadd h dX12_readAct_97 ?_
        refine fr_iload_n h rfl 3 rfl dX12_readAct_98 ?_
        refine fr_if_eq (tgt := 113) h dX12_readAct_99 (by decide) (by omega) (fun c228 => by exfalso; omega) (fun c228 => ?_)
        refine fr_aload_n h rfl 0 rfl dX12_readAct_102 ?_
        refine fr_bipush h rfl dX12_readAct_103 ?_
        refine fr_bipush h rfl dX12_readAct_105 ?_
        have r229 := (fm_rd_k (a := 0) (b := 6) m226 (by omega))
        have r230 := r229.trans (fm_rd_i (a := 0) (b := 6) m224 (by decide))
        have r231 := (fm_rd_k (a := 0) (b := 8) m226 (by omega))
        have r232 := r231.trans (fm_rd_i (a := 0) (b := 8) m224 (by decide))
        have r233 := (fm_rd_k (a := 0) (b := 6) m226 (by omega))
        have r234 := r233.trans (fm_rd_i (a := 0) (b := 6) m224 (by decide))
        have r235 := (fm_rd_k (a := 0) (b := 8) m226 (by omega))
        have r236 := r235.trans (fm_rd_i (a := 0) (b := 8) m224 (by decide))
        have r237 := (fm_rd_k (a := 0) (b := 6) m226 (by omega))
        have r238 := r237.trans (fm_rd_i (a := 0) (b := 6) m224 (by decide))
        have r239 := (fm_rd_k (a := 0) (b := 8) m226 (by omega))
        have r240 := r239.trans (fm_rd_i (a := 0) (b := 8) m224 (by decide))
        have r241 := (fm_rd_k (a := 0) (b := 9) m226 (by omega))
        have r242 := r241.trans (fm_rd_s m224)
        have r243 := (fm_rd_k (a := 0) (b := 8) m226 (by omega))
        have r244 := r243.trans (fm_rd_i (a := 0) (b := 8) m224 (by decide))
        refine fr_cvI h kX12 at_0M wX12_oneOf lX12_147 (c_X12_oneOf x225 97 7 (by omega) (by omega) (by omega) (by omega) (by omega) (by omega) (by omega)) rfl (by decide) (by decide) rfl (Nat.le_of_ble_eq_true rfl) dX12_readAct_107 (fun z246 x245 w247 p248 => ?_)
        obtain ⟨p249, p250, p251, p252, p253, f254, f255⟩ := p248
        refine fr_goto (tgt := 147) h dX12_readAct_110 (by decide) ?_
        refine fr_iast h arM_11 (by omega) (by omega) (rrM_11 (k + 1)) (by omega) (by omega) dX12_readAct_147 ?_
        refine fr_mem (fun x256 m257 => ?_)
        refine fr_iload_n h rfl 2 rfl dX12_readAct_148 ?_
        refine fr_bipush h rfl dX12_readAct_149 ?_
        refine fr_icmp_ne (tgt := 166) h dX12_readAct_151 (by decide) (by omega) (by omega) (fun c258 => ?_) (fun c258 => by exfalso; omega)
        refine fr_iload_n h rfl 2 rfl dX12_readAct_166 ?_
        refine fr_bipush h rfl dX12_readAct_167 ?_
        refine fr_icmp_ne (tgt := 188) h dX12_readAct_169 (by decide) (by omega) (by omega) (fun c259 => ?_) (fun c259 => by exfalso; omega)
        refine fr_iload_n h rfl 3 rfl dX12_readAct_188 ?_
        refine fr_if_eq (tgt := 208) h dX12_readAct_189 (by decide) (by omega) (fun c260 => by exfalso; omega) (fun c260 => ?_)
        refine fr_aload_n h rfl 0 rfl dX12_readAct_192 ?_
        refine fr_getc (z := 11) (iz := 22) h kX12 fX12_42 at_0M rfl rfl rfM_22 (by omega) dX12_readAct_193 ?_
        refine fr_iload_n h rfl 1 rfl dX12_readAct_196 ?_
        refine fr_iconst h dX12_readAct_197 ?_
        refine fr_iadd h dX12_readAct_198 ?_
        refine fr_aload_n h rfl 0 rfl dX12_readAct_199 ?_
        refine fr_bipush h rfl dX12_readAct_200 ?_
        refine fr_bipush h rfl dX12_readAct_202 ?_
        have r261 := (fm_rd_k (a := 0) (b := 6) m257 (by omega))
        have r262 := r261.trans (f255 6 (by decide) (by decide))
        have r263 := r262.trans (fm_rd_k (a := 0) (b := 6) m226 (by omega))
        have r264 := r263.trans (fm_rd_i (a := 0) (b := 6) m224 (by decide))
        have r265 := (fm_rd_k (a := 0) (b := 8) m257 (by omega))
        have r266 := r265.trans (f255 8 (by decide) (by decide))
        have r267 := r266.trans (fm_rd_k (a := 0) (b := 8) m226 (by omega))
        have r268 := r267.trans (fm_rd_i (a := 0) (b := 8) m224 (by decide))
        have r269 := (fm_rd_k (a := 0) (b := 6) m257 (by omega))
        have r270 := r269.trans (f255 6 (by decide) (by decide))
        have r271 := r270.trans (fm_rd_k (a := 0) (b := 6) m226 (by omega))
        have r272 := r271.trans (fm_rd_i (a := 0) (b := 6) m224 (by decide))
        have r273 := (fm_rd_k (a := 0) (b := 8) m257 (by omega))
        have r274 := r273.trans (f255 8 (by decide) (by decide))
        have r275 := r274.trans (fm_rd_k (a := 0) (b := 8) m226 (by omega))
        have r276 := r275.trans (fm_rd_i (a := 0) (b := 8) m224 (by decide))
        have r277 := (fm_rd_k (a := 0) (b := 6) m257 (by omega))
        have r278 := r277.trans (f255 6 (by decide) (by decide))
        have r279 := r278.trans (fm_rd_k (a := 0) (b := 6) m226 (by omega))
        have r280 := r279.trans (fm_rd_i (a := 0) (b := 6) m224 (by decide))
        have r281 := (fm_rd_k (a := 0) (b := 8) m257 (by omega))
        have r282 := r281.trans (f255 8 (by decide) (by decide))
        have r283 := r282.trans (fm_rd_k (a := 0) (b := 8) m226 (by omega))
        have r284 := r283.trans (fm_rd_i (a := 0) (b := 8) m224 (by decide))
        have r285 := (fm_rd_k (a := 0) (b := 9) m257 (by omega))
        have r286 := (fm_rd_k (a := 0) (b := 9) m226 (by omega))
        have r287 := r286.trans (fm_rd_s m224)
        have r288 := (fm_rd_k (a := 0) (b := 8) m257 (by omega))
        have r289 := r288.trans (f255 8 (by decide) (by decide))
        have r290 := r289.trans (fm_rd_k (a := 0) (b := 8) m226 (by omega))
        have r291 := r290.trans (fm_rd_i (a := 0) (b := 8) m224 (by decide))
        refine fr_cvI h kX12 at_0M wX12_oneOf lX12_147 (c_X12_oneOf x256 97 7 (by omega) (by omega) (by omega) (by omega) (by omega) (by omega) (by omega)) rfl (by decide) (by decide) rfl (Nat.le_of_ble_eq_true rfl) dX12_readAct_204 (fun z293 x292 w294 p295 => ?_)
        obtain ⟨p296, p297, p298, p299, p300, f301, f302⟩ := p295
        refine fr_iast h arM_11 (by omega) (by omega) (rrM_11 (k + 2)) (by omega) (by omega) dX12_readAct_207 ?_
        refine fr_mem (fun x303 m304 => ?_)
        refine fr_iload_n h rfl 2 rfl dX12_readAct_208 ?_
        refine fr_bipush h rfl dX12_readAct_209 ?_
        refine fr_icmp_ne (tgt := 229) h dX12_readAct_211 (by decide) (by omega) (by omega) (fun c305 => ?_) (fun c305 => by exfalso; omega)
        refine fr_iload_n h rfl 2 rfl dX12_readAct_229 ?_
        refine fr_bipush h rfl dX12_readAct_230 ?_
        refine fr_icmp_eq (tgt := 241) h dX12_readAct_232 (by decide) (by omega) (by omega) (fun c306 => ?_) (fun c306 => by exfalso; omega)
        refine fr_aload_n h rfl 0 rfl dX12_readAct_241 ?_
        refine fr_getc (z := 11) (iz := 22) h kX12 fX12_42 at_0M rfl rfl rfM_22 (by omega) dX12_readAct_242 ?_
        refine fr_iload_n h rfl 1 rfl dX12_readAct_245 ?_
        refine fr_iconst h dX12_readAct_246 ?_
        refine fr_iadd h dX12_readAct_247 ?_
        refine fr_aload_n h rfl 0 rfl dX12_readAct_248 ?_
        have r307 := (fm_rd_k (a := 0) (b := 6) m304 (by omega))
        have r308 := r307.trans (f302 6 (by decide) (by decide))
        have r309 := r308.trans (fm_rd_k (a := 0) (b := 6) m257 (by omega))
        have r310 := r309.trans (f255 6 (by decide) (by decide))
        have r311 := r310.trans (fm_rd_k (a := 0) (b := 6) m226 (by omega))
        have r312 := r311.trans (fm_rd_i (a := 0) (b := 6) m224 (by decide))
        have r313 := (fm_rd_k (a := 0) (b := 8) m304 (by omega))
        have r314 := r313.trans (f302 8 (by decide) (by decide))
        have r315 := r314.trans (fm_rd_k (a := 0) (b := 8) m257 (by omega))
        have r316 := r315.trans (f255 8 (by decide) (by decide))
        have r317 := r316.trans (fm_rd_k (a := 0) (b := 8) m226 (by omega))
        have r318 := r317.trans (fm_rd_i (a := 0) (b := 8) m224 (by decide))
        have r319 := (fm_rd_k (a := 0) (b := 6) m304 (by omega))
        have r320 := r319.trans (f302 6 (by decide) (by decide))
        have r321 := r320.trans (fm_rd_k (a := 0) (b := 6) m257 (by omega))
        have r322 := r321.trans (f255 6 (by decide) (by decide))
        have r323 := r322.trans (fm_rd_k (a := 0) (b := 6) m226 (by omega))
        have r324 := r323.trans (fm_rd_i (a := 0) (b := 6) m224 (by decide))
        have r325 := (fm_rd_k (a := 0) (b := 8) m304 (by omega))
        have r326 := r325.trans (f302 8 (by decide) (by decide))
        have r327 := r326.trans (fm_rd_k (a := 0) (b := 8) m257 (by omega))
        have r328 := r327.trans (f255 8 (by decide) (by decide))
        have r329 := r328.trans (fm_rd_k (a := 0) (b := 8) m226 (by omega))
        have r330 := r329.trans (fm_rd_i (a := 0) (b := 8) m224 (by decide))
        have r331 := (fm_rd_k (a := 0) (b := 6) m304 (by omega))
        have r332 := r331.trans (f302 6 (by decide) (by decide))
        have r333 := r332.trans (fm_rd_k (a := 0) (b := 6) m257 (by omega))
        have r334 := r333.trans (f255 6 (by decide) (by decide))
        have r335 := r334.trans (fm_rd_k (a := 0) (b := 6) m226 (by omega))
        have r336 := r335.trans (fm_rd_i (a := 0) (b := 6) m224 (by decide))
        have r337 := (fm_rd_k (a := 0) (b := 8) m304 (by omega))
        have r338 := r337.trans (f302 8 (by decide) (by decide))
        have r339 := r338.trans (fm_rd_k (a := 0) (b := 8) m257 (by omega))
        have r340 := r339.trans (f255 8 (by decide) (by decide))
        have r341 := r340.trans (fm_rd_k (a := 0) (b := 8) m226 (by omega))
        have r342 := r341.trans (fm_rd_i (a := 0) (b := 8) m224 (by decide))
        have r343 := (fm_rd_k (a := 0) (b := 9) m304 (by omega))
        have r344 := (fm_rd_k (a := 0) (b := 9) m257 (by omega))
        have r345 := (fm_rd_k (a := 0) (b := 9) m226 (by omega))
        have r346 := r345.trans (fm_rd_s m224)
        have r347 := (fm_rd_k (a := 0) (b := 8) m304 (by omega))
        have r348 := r347.trans (f302 8 (by decide) (by decide))
        have r349 := r348.trans (fm_rd_k (a := 0) (b := 8) m257 (by omega))
        have r350 := r349.trans (f255 8 (by decide) (by decide))
        have r351 := r350.trans (fm_rd_k (a := 0) (b := 8) m226 (by omega))
        have r352 := r351.trans (fm_rd_i (a := 0) (b := 8) m224 (by decide))
        refine fr_cvI h kX12 at_0M wX12_twoDigits lX12_273 (c_X12_twoDigits x303 (by omega)) rfl (by decide) (by decide) rfl (Nat.le_of_ble_eq_true rfl) dX12_readAct_249 (fun z354 x353 w355 p356 => ?_)
        obtain ⟨p357, p358, p359, p360, f361, f362⟩ := p356
        refine fr_iast h arM_11 (by omega) (by omega) (rrM_11 (k + 3)) (by omega) (by omega) dX12_readAct_252 ?_
        refine fr_mem (fun x363 m364 => ?_)
        have r365 := (fm_rd_k (a := 0) (b := 9) m364 (by omega))
        have r366 := (fm_rd_k (a := 0) (b := 9) m304 (by omega))
        have r367 := (fm_rd_k (a := 0) (b := 9) m257 (by omega))
        have r368 := (fm_rd_k (a := 0) (b := 9) m226 (by omega))
        have r369 := r368.trans (fm_rd_s m224)
        have r370 := (fm_rd_k (a := 0) (b := 10) m364 (by omega))
        have r371 := (fm_rd_k (a := 0) (b := 10) m304 (by omega))
        have r372 := (fm_rd_k (a := 0) (b := 10) m257 (by omega))
        have r373 := (fm_rd_k (a := 0) (b := 10) m226 (by omega))
        have r374 := r373.trans (fm_rd_i (a := 0) (b := 10) m224 (by decide))
        have r375 := (fm_rd_k (a := 0) (b := 9) m364 (by omega))
        have r376 := (fm_rd_k (a := 0) (b := 9) m304 (by omega))
        have r377 := (fm_rd_k (a := 0) (b := 9) m257 (by omega))
        have r378 := (fm_rd_k (a := 0) (b := 9) m226 (by omega))
        have r379 := r378.trans (fm_rd_s m224)
        exact fr_vret h hq ⟨(by omega), (by omega), (fun a k0 k1 => ((fm_up_row m364 (by omega)).trans ((f361 a (by omega)).trans ((fm_up_row m304 (by omega)).trans ((f301 a (by omega)).trans ((fm_up_row m257 (by omega)).trans ((f254 a (by omega)).trans ((fm_up_row m226 (by omega)).trans (fm_up_row m224 (by omega)))))))))), (fun i k0 k1 => ((fm_rd_k (a := 0) (b := i) m364 (by omega)).trans ((f362 i (by omega) (by omega)).trans ((fm_rd_k (a := 0) (b := i) m304 (by omega)).trans ((f302 i (by omega) (by omega)).trans ((fm_rd_k (a := 0) (b := i) m257 (by omega)).trans ((f255 i (by omega) (by omega)).trans ((fm_rd_k (a := 0) (b := i) m226 (by omega)).trans (fm_rd_i (a := 0) (b := i) m224 (by omega))))))))))⟩ dX12_readAct_253
      ·
        refine fr_iload_n h rfl 2 rfl dX12_readAct_23 ?_
        refine fr_bipush h rfl dX12_readAct_24 ?_
        refine fr_icmp_eq (tgt := 56) h dX12_readAct_26 (by decide) (by omega) (by omega) (fun c380 => ?_) (fun c380 => ?_)
        ·
          refine fr_aload_n h rfl 0 rfl dX12_readAct_56 ?_
          refine fr_dup h rfl dX12_readAct_57 ?_
          refine fr_geti (iz := 9) h kX12 fX12_121 at_0M rfl rfl (by decide) (by decide) rfM_9 dX12_readAct_58 (fun z381 w382 w383 q384 => ?_)
          refine fr_iconst h dX12_readAct_61 ?_
          refine fr_iadd h dX12_readAct_62 ?_
          refine fr_puti (iz := 9) h kX12 fX12_121 at_0M rfl rfl (by decide) (by decide) rfl (by decide +kernel) rfM_9 (by omega) (by omega) dX12_readAct_63 ?_
          refine fr_mem (fun x385 m386 => ?_)
          refine fr_aload_n h rfl 0 rfl dX12_readAct_66 ?_
          refine fr_getc (z := 11) (iz := 22) h kX12 fX12_42 at_0M rfl rfl rfM_22 (by omega) dX12_readAct_67 ?_
          refine fr_iload_n h rfl 1 rfl dX12_readAct_70 ?_
          refine fr_iload_n h rfl 2 rfl dX12_readAct_71 ?_
          refine fr_iast h arM_11 (by omega) (by omega) (rrM_11 k) (by omega) (by omega) dX12_readAct_72 ?_
          refine fr_mem (fun x387 m388 => ?_)
          refine fr_iload_n h rfl 2 rfl dX12_readAct_73 ?_
          refine fr_bipush h rfl dX12_readAct_74 ?_
          refine fr_icmp_eq (tgt := 85) h dX12_readAct_76 (by decide) (by omega) (by omega) (fun c389 => by exfalso; omega) (fun c389 => ?_)
          refine fr_iload_n h rfl 2 rfl dX12_readAct_79 ?_
          refine fr_bipush h rfl dX12_readAct_80 ?_
          refine fr_icmp_ne (tgt := 89) h dX12_readAct_82 (by decide) (by omega) (by omega) (fun c390 => ?_) (fun c390 => by exfalso; omega)
          refine fr_iconst h dX12_readAct_89 ?_
          refine fr_istore_n (L' := [(0, vr G 0), (1, vi k), (2, vi z2), (3, vi 0)]) h rfl dX12_readAct_90 (by decide) [1, 2, 3, 0] rfl ?_
          refine fr_aload_n h rfl 0 rfl dX12_readAct_91 ?_
          refine fr_getc (z := 11) (iz := 22) h kX12 fX12_42 at_0M rfl rfl rfM_22 (by omega) dX12_readAct_92 ?_
          refine fr_iload_n h rfl 1 rfl dX12_readAct_95 ?_
          refine fr_iconst h dX12_readAct_96 ?_
          refine fr_iadd h dX12_readAct_97 ?_
          refine fr_iload_n h rfl 3 rfl dX12_readAct_98 ?_
          refine fr_if_eq (tgt := 113) h dX12_readAct_99 (by decide) (by omega) (fun c391 => ?_) (fun c391 => by exfalso; omega)
          refine fr_aload_n h rfl 0 rfl dX12_readAct_113 ?_
          refine fr_bipush h rfl dX12_readAct_114 ?_
          refine fr_iload_n h rfl 2 rfl dX12_readAct_116 ?_
          refine fr_bipush h rfl dX12_readAct_117 ?_
          refine fr_icmp_eq (tgt := 128) h dX12_readAct_119 (by decide) (by omega) (by omega) (fun c392 => by exfalso; omega) (fun c392 => ?_)
          refine fr_iload_n h rfl 2 rfl dX12_readAct_122 ?_
          refine fr_bipush h rfl dX12_readAct_123 ?_
          refine fr_icmp_ne (tgt := 132) h dX12_readAct_125 (by decide) (by omega) (by omega) (fun c393 => ?_) (fun c393 => by exfalso; omega)
          refine fr_iload_n h rfl 2 rfl dX12_readAct_132 ?_
          refine fr_bipush h rfl dX12_readAct_133 ?_
          refine fr_icmp_ne (tgt := 142) h dX12_readAct_135 (by decide) (by omega) (by omega) (fun c394 => by exfalso; omega) (fun c394 => ?_)
          refine fr_iconst h dX12_readAct_138 ?_
          refine fr_goto (tgt := 144) h dX12_readAct_139 (by decide) ?_
          have r395 := (fm_rd_k (a := 0) (b := 6) m388 (by omega))
          have r396 := r395.trans (fm_rd_i (a := 0) (b := 6) m386 (by decide))
          have r397 := (fm_rd_k (a := 0) (b := 8) m388 (by omega))
          have r398 := r397.trans (fm_rd_i (a := 0) (b := 8) m386 (by decide))
          have r399 := (fm_rd_k (a := 0) (b := 6) m388 (by omega))
          have r400 := r399.trans (fm_rd_i (a := 0) (b := 6) m386 (by decide))
          have r401 := (fm_rd_k (a := 0) (b := 8) m388 (by omega))
          have r402 := r401.trans (fm_rd_i (a := 0) (b := 8) m386 (by decide))
          have r403 := (fm_rd_k (a := 0) (b := 6) m388 (by omega))
          have r404 := r403.trans (fm_rd_i (a := 0) (b := 6) m386 (by decide))
          have r405 := (fm_rd_k (a := 0) (b := 8) m388 (by omega))
          have r406 := r405.trans (fm_rd_i (a := 0) (b := 8) m386 (by decide))
          have r407 := (fm_rd_k (a := 0) (b := 9) m388 (by omega))
          have r408 := r407.trans (fm_rd_s m386)
          have r409 := (fm_rd_k (a := 0) (b := 8) m388 (by omega))
          have r410 := r409.trans (fm_rd_i (a := 0) (b := 8) m386 (by decide))
          refine fr_cvI h kX12 at_0M wX12_oneOf lX12_147 (c_X12_oneOf x387 48 5 (by omega) (by omega) (by omega) (by omega) (by omega) (by omega) (by omega)) rfl (by decide) (by decide) rfl (Nat.le_of_ble_eq_true rfl) dX12_readAct_144 (fun z412 x411 w413 p414 => ?_)
          obtain ⟨p415, p416, p417, p418, p419, f420, f421⟩ := p414
          refine fr_iast h arM_11 (by omega) (by omega) (rrM_11 (k + 1)) (by omega) (by omega) dX12_readAct_147 ?_
          refine fr_mem (fun x422 m423 => ?_)
          refine fr_iload_n h rfl 2 rfl dX12_readAct_148 ?_
          refine fr_bipush h rfl dX12_readAct_149 ?_
          refine fr_icmp_ne (tgt := 166) h dX12_readAct_151 (by decide) (by omega) (by omega) (fun c424 => ?_) (fun c424 => by exfalso; omega)
          refine fr_iload_n h rfl 2 rfl dX12_readAct_166 ?_
          refine fr_bipush h rfl dX12_readAct_167 ?_
          refine fr_icmp_ne (tgt := 188) h dX12_readAct_169 (by decide) (by omega) (by omega) (fun c425 => ?_) (fun c425 => by exfalso; omega)
          refine fr_iload_n h rfl 3 rfl dX12_readAct_188 ?_
          refine fr_if_eq (tgt := 208) h dX12_readAct_189 (by decide) (by omega) (fun c426 => ?_) (fun c426 => by exfalso; omega)
          refine fr_iload_n h rfl 2 rfl dX12_readAct_208 ?_
          refine fr_bipush h rfl dX12_readAct_209 ?_
          refine fr_icmp_ne (tgt := 229) h dX12_readAct_211 (by decide) (by omega) (by omega) (fun c427 => by exfalso; omega) (fun c427 => ?_)
          refine fr_aload_n h rfl 0 rfl dX12_readAct_214 ?_
          refine fr_getc (z := 11) (iz := 22) h kX12 fX12_42 at_0M rfl rfl rfM_22 (by omega) dX12_readAct_215 ?_
          refine fr_iload_n h rfl 1 rfl dX12_readAct_218 ?_
          refine fr_iconst h dX12_readAct_219 ?_
          refine fr_iadd h dX12_readAct_220 ?_
          refine fr_aload_n h rfl 0 rfl dX12_readAct_221 ?_
          refine fr_bipush h rfl dX12_readAct_222 ?_
          refine fr_iconst h dX12_readAct_224 ?_
          have r428 := (fm_rd_k (a := 0) (b := 6) m423 (by omega))
          have r429 := r428.trans (f421 6 (by decide) (by decide))
          have r430 := r429.trans (fm_rd_k (a := 0) (b := 6) m388 (by omega))
          have r431 := r430.trans (fm_rd_i (a := 0) (b := 6) m386 (by decide))
          have r432 := (fm_rd_k (a := 0) (b := 8) m423 (by omega))
          have r433 := r432.trans (f421 8 (by decide) (by decide))
          have r434 := r433.trans (fm_rd_k (a := 0) (b := 8) m388 (by omega))
          have r435 := r434.trans (fm_rd_i (a := 0) (b := 8) m386 (by decide))
          have r436 := (fm_rd_k (a := 0) (b := 6) m423 (by omega))
          have r437 := r436.trans (f421 6 (by decide) (by decide))
          have r438 := r437.trans (fm_rd_k (a := 0) (b := 6) m388 (by omega))
          have r439 := r438.trans (fm_rd_i (a := 0) (b := 6) m386 (by decide))
          have r440 := (fm_rd_k (a := 0) (b := 8) m423 (by omega))
          have r441 := r440.trans (f421 8 (by decide) (by decide))
          have r442 := r441.trans (fm_rd_k (a := 0) (b := 8) m388 (by omega))
          have r443 := r442.trans (fm_rd_i (a := 0) (b := 8) m386 (by decide))
          have r444 := (fm_rd_k (a := 0) (b := 6) m423 (by omega))
          have r445 := r444.trans (f421 6 (by decide) (by decide))
          have r446 := r445.trans (fm_rd_k (a := 0) (b := 6) m388 (by omega))
          have r447 := r446.trans (fm_rd_i (a := 0) (b := 6) m386 (by decide))
          have r448 := (fm_rd_k (a := 0) (b := 8) m423 (by omega))
          have r449 := r448.trans (f421 8 (by decide) (by decide))
          have r450 := r449.trans (fm_rd_k (a := 0) (b := 8) m388 (by omega))
          have r451 := r450.trans (fm_rd_i (a := 0) (b := 8) m386 (by decide))
          have r452 := (fm_rd_k (a := 0) (b := 9) m423 (by omega))
          have r453 := (fm_rd_k (a := 0) (b := 9) m388 (by omega))
          have r454 := r453.trans (fm_rd_s m386)
          have r455 := (fm_rd_k (a := 0) (b := 8) m423 (by omega))
          have r456 := r455.trans (f421 8 (by decide) (by decide))
          have r457 := r456.trans (fm_rd_k (a := 0) (b := 8) m388 (by omega))
          have r458 := r457.trans (fm_rd_i (a := 0) (b := 8) m386 (by decide))
          refine fr_cvI h kX12 at_0M wX12_oneOf lX12_147 (c_X12_oneOf x422 48 5 (by omega) (by omega) (by omega) (by omega) (by omega) (by omega) (by omega)) rfl (by decide) (by decide) rfl (Nat.le_of_ble_eq_true rfl) dX12_readAct_225 (fun z460 x459 w461 p462 => ?_)
          obtain ⟨p463, p464, p465, p466, p467, f468, f469⟩ := p462
          refine fr_iast h arM_11 (by omega) (by omega) (rrM_11 (k + 2)) (by omega) (by omega) dX12_readAct_228 ?_
          refine fr_mem (fun x470 m471 => ?_)
          refine fr_iload_n h rfl 2 rfl dX12_readAct_229 ?_
          refine fr_bipush h rfl dX12_readAct_230 ?_
          refine fr_icmp_eq (tgt := 241) h dX12_readAct_232 (by decide) (by omega) (by omega) (fun c472 => by exfalso; omega) (fun c472 => ?_)
          refine fr_iload_n h rfl 2 rfl dX12_readAct_235 ?_
          refine fr_bipush h rfl dX12_readAct_236 ?_
          refine fr_icmp_ne (tgt := 253) h dX12_readAct_238 (by decide) (by omega) (by omega) (fun c473 => by exfalso; omega) (fun c473 => ?_)
          refine fr_aload_n h rfl 0 rfl dX12_readAct_241 ?_
          refine fr_getc (z := 11) (iz := 22) h kX12 fX12_42 at_0M rfl rfl rfM_22 (by omega) dX12_readAct_242 ?_
          refine fr_iload_n h rfl 1 rfl dX12_readAct_245 ?_
          refine fr_iconst h dX12_readAct_246 ?_
          refine fr_iadd h dX12_readAct_247 ?_
          refine fr_aload_n h rfl 0 rfl dX12_readAct_248 ?_
          have r474 := (fm_rd_k (a := 0) (b := 6) m471 (by omega))
          have r475 := r474.trans (f469 6 (by decide) (by decide))
          have r476 := r475.trans (fm_rd_k (a := 0) (b := 6) m423 (by omega))
          have r477 := r476.trans (f421 6 (by decide) (by decide))
          have r478 := r477.trans (fm_rd_k (a := 0) (b := 6) m388 (by omega))
          have r479 := r478.trans (fm_rd_i (a := 0) (b := 6) m386 (by decide))
          have r480 := (fm_rd_k (a := 0) (b := 8) m471 (by omega))
          have r481 := r480.trans (f469 8 (by decide) (by decide))
          have r482 := r481.trans (fm_rd_k (a := 0) (b := 8) m423 (by omega))
          have r483 := r482.trans (f421 8 (by decide) (by decide))
          have r484 := r483.trans (fm_rd_k (a := 0) (b := 8) m388 (by omega))
          have r485 := r484.trans (fm_rd_i (a := 0) (b := 8) m386 (by decide))
          have r486 := (fm_rd_k (a := 0) (b := 6) m471 (by omega))
          have r487 := r486.trans (f469 6 (by decide) (by decide))
          have r488 := r487.trans (fm_rd_k (a := 0) (b := 6) m423 (by omega))
          have r489 := r488.trans (f421 6 (by decide) (by decide))
          have r490 := r489.trans (fm_rd_k (a := 0) (b := 6) m388 (by omega))
          have r491 := r490.trans (fm_rd_i (a := 0) (b := 6) m386 (by decide))
          have r492 := (fm_rd_k (a := 0) (b := 8) m471 (by omega))
          have r493 := r492.trans (f469 8 (by decide) (by decide))
          have r494 := r493.trans (fm_rd_k (a := 0) (b := 8) m423 (by omega))
          have r495 := r494.trans (f421 8 (by decide) (by decide))
          have r496 := r495.trans (fm_rd_k (a := 0) (b := 8) m388 (by omega))
          have r497 := r496.trans (fm_rd_i (a := 0) (b := 8) m386 (by decide))
          have r498 := (fm_rd_k (a := 0) (b := 6) m471 (by omega))
          have r499 := r498.trans (f469 6 (by decide) (by decide))
          have r500 := r499.trans (fm_rd_k (a := 0) (b := 6) m423 (by omega))
          have r501 := r500.trans (f421 6 (by decide) (by decide))
          have r502 := r501.trans (fm_rd_k (a := 0) (b := 6) m388 (by omega))
          have r503 := r502.trans (fm_rd_i (a := 0) (b := 6) m386 (by decide))
          have r504 := (fm_rd_k (a := 0) (b := 8) m471 (by omega))
          have r505 := r504.trans (f469 8 (by decide) (by decide))
          have r506 := r505.trans (fm_rd_k (a := 0) (b := 8) m423 (by omega))
          have r507 := r506.trans (f421 8 (by decide) (by decide))
          have r508 := r507.trans (fm_rd_k (a := 0) (b := 8) m388 (by omega))
          have r509 := r508.trans (fm_rd_i (a := 0) (b := 8) m386 (by decide))
          have r510 := (fm_rd_k (a := 0) (b := 9) m471 (by omega))
          have r511 := (fm_rd_k (a := 0) (b := 9) m423 (by omega))
          have r512 := (fm_rd_k (a := 0) (b := 9) m388 (by omega))
          have r513 := r512.trans (fm_rd_s m386)
          have r514 := (fm_rd_k (a := 0) (b := 8) m471 (by omega))
          have r515 := r514.trans (f469 8 (by decide) (by decide))
          have r516 := r515.trans (fm_rd_k (a := 0) (b := 8) m423 (by omega))
          have r517 := r516.trans (f421 8 (by decide) (by decide))
          have r518 := r517.trans (fm_rd_k (a := 0) (b := 8) m388 (by omega))
          have r519 := r518.trans (fm_rd_i (a := 0) (b := 8) m386 (by decide))
          refine fr_cvI h kX12 at_0M wX12_twoDigits lX12_273 (c_X12_twoDigits x470 (by omega)) rfl (by decide) (by decide) rfl (Nat.le_of_ble_eq_true rfl) dX12_readAct_249 (fun z521 x520 w522 p523 => ?_)
          obtain ⟨p524, p525, p526, p527, f528, f529⟩ := p523
          refine fr_iast h arM_11 (by omega) (by omega) (rrM_11 (k + 3)) (by omega) (by omega) dX12_readAct_252 ?_
          refine fr_mem (fun x530 m531 => ?_)
          have r532 := (fm_rd_k (a := 0) (b := 9) m531 (by omega))
          have r533 := (fm_rd_k (a := 0) (b := 9) m471 (by omega))
          have r534 := (fm_rd_k (a := 0) (b := 9) m423 (by omega))
          have r535 := (fm_rd_k (a := 0) (b := 9) m388 (by omega))
          have r536 := r535.trans (fm_rd_s m386)
          have r537 := (fm_rd_k (a := 0) (b := 10) m531 (by omega))
          have r538 := (fm_rd_k (a := 0) (b := 10) m471 (by omega))
          have r539 := (fm_rd_k (a := 0) (b := 10) m423 (by omega))
          have r540 := (fm_rd_k (a := 0) (b := 10) m388 (by omega))
          have r541 := r540.trans (fm_rd_i (a := 0) (b := 10) m386 (by decide))
          have r542 := (fm_rd_k (a := 0) (b := 9) m531 (by omega))
          have r543 := (fm_rd_k (a := 0) (b := 9) m471 (by omega))
          have r544 := (fm_rd_k (a := 0) (b := 9) m423 (by omega))
          have r545 := (fm_rd_k (a := 0) (b := 9) m388 (by omega))
          have r546 := r545.trans (fm_rd_s m386)
          exact fr_vret h hq ⟨(by omega), (by omega), (fun a k0 k1 => ((fm_up_row m531 (by omega)).trans ((f528 a (by omega)).trans ((fm_up_row m471 (by omega)).trans ((f468 a (by omega)).trans ((fm_up_row m423 (by omega)).trans ((f420 a (by omega)).trans ((fm_up_row m388 (by omega)).trans (fm_up_row m386 (by omega)))))))))), (fun i k0 k1 => ((fm_rd_k (a := 0) (b := i) m531 (by omega)).trans ((f529 i (by omega) (by omega)).trans ((fm_rd_k (a := 0) (b := i) m471 (by omega)).trans ((f469 i (by omega) (by omega)).trans ((fm_rd_k (a := 0) (b := i) m423 (by omega)).trans ((f421 i (by omega) (by omega)).trans ((fm_rd_k (a := 0) (b := i) m388 (by omega)).trans (fm_rd_i (a := 0) (b := i) m386 (by omega))))))))))⟩ dX12_readAct_253
        ·
          refine fr_iload_n h rfl 2 rfl dX12_readAct_29 ?_
          refine fr_bipush h rfl dX12_readAct_30 ?_
          refine fr_icmp_eq (tgt := 56) h dX12_readAct_32 (by decide) (by omega) (by omega) (fun c547 => ?_) (fun c547 => ?_)
          ·
            refine fr_aload_n h rfl 0 rfl dX12_readAct_56 ?_
            refine fr_dup h rfl dX12_readAct_57 ?_
            refine fr_geti (iz := 9) h kX12 fX12_121 at_0M rfl rfl (by decide) (by decide) rfM_9 dX12_readAct_58 (fun z548 w549 w550 q551 => ?_)
            refine fr_iconst h dX12_readAct_61 ?_
            refine fr_iadd h dX12_readAct_62 ?_
            refine fr_puti (iz := 9) h kX12 fX12_121 at_0M rfl rfl (by decide) (by decide) rfl (by decide +kernel) rfM_9 (by omega) (by omega) dX12_readAct_63 ?_
            refine fr_mem (fun x552 m553 => ?_)
            refine fr_aload_n h rfl 0 rfl dX12_readAct_66 ?_
            refine fr_getc (z := 11) (iz := 22) h kX12 fX12_42 at_0M rfl rfl rfM_22 (by omega) dX12_readAct_67 ?_
            refine fr_iload_n h rfl 1 rfl dX12_readAct_70 ?_
            refine fr_iload_n h rfl 2 rfl dX12_readAct_71 ?_
            refine fr_iast h arM_11 (by omega) (by omega) (rrM_11 k) (by omega) (by omega) dX12_readAct_72 ?_
            refine fr_mem (fun x554 m555 => ?_)
            refine fr_iload_n h rfl 2 rfl dX12_readAct_73 ?_
            refine fr_bipush h rfl dX12_readAct_74 ?_
            refine fr_icmp_eq (tgt := 85) h dX12_readAct_76 (by decide) (by omega) (by omega) (fun c556 => by exfalso; omega) (fun c556 => ?_)
            refine fr_iload_n h rfl 2 rfl dX12_readAct_79 ?_
            refine fr_bipush h rfl dX12_readAct_80 ?_
            refine fr_icmp_ne (tgt := 89) h dX12_readAct_82 (by decide) (by omega) (by omega) (fun c557 => ?_) (fun c557 => by exfalso; omega)
            refine fr_iconst h dX12_readAct_89 ?_
            refine fr_istore_n (L' := [(0, vr G 0), (1, vi k), (2, vi z2), (3, vi 0)]) h rfl dX12_readAct_90 (by decide) [1, 2, 3, 0] rfl ?_
            refine fr_aload_n h rfl 0 rfl dX12_readAct_91 ?_
            refine fr_getc (z := 11) (iz := 22) h kX12 fX12_42 at_0M rfl rfl rfM_22 (by omega) dX12_readAct_92 ?_
            refine fr_iload_n h rfl 1 rfl dX12_readAct_95 ?_
            refine fr_iconst h dX12_readAct_96 ?_
            refine fr_iadd h dX12_readAct_97 ?_
            refine fr_iload_n h rfl 3 rfl dX12_readAct_98 ?_
            refine fr_if_eq (tgt := 113) h dX12_readAct_99 (by decide) (by omega) (fun c558 => ?_) (fun c558 => by exfalso; omega)
            refine fr_aload_n h rfl 0 rfl dX12_readAct_113 ?_
            refine fr_bipush h rfl dX12_readAct_114 ?_
            refine fr_iload_n h rfl 2 rfl dX12_readAct_116 ?_
            refine fr_bipush h rfl dX12_readAct_117 ?_
            refine fr_icmp_eq (tgt := 128) h dX12_readAct_119 (by decide) (by omega) (by omega) (fun c559 => by exfalso; omega) (fun c559 => ?_)
            refine fr_iload_n h rfl 2 rfl dX12_readAct_122 ?_
            refine fr_bipush h rfl dX12_readAct_123 ?_
            refine fr_icmp_ne (tgt := 132) h dX12_readAct_125 (by decide) (by omega) (by omega) (fun c560 => ?_) (fun c560 => by exfalso; omega)
            refine fr_iload_n h rfl 2 rfl dX12_readAct_132 ?_
            refine fr_bipush h rfl dX12_readAct_133 ?_
            refine fr_icmp_ne (tgt := 142) h dX12_readAct_135 (by decide) (by omega) (by omega) (fun c561 => ?_) (fun c561 => by exfalso; omega)
            refine fr_bipush h rfl dX12_readAct_142 ?_
            have r562 := (fm_rd_k (a := 0) (b := 6) m555 (by omega))
            have r563 := r562.trans (fm_rd_i (a := 0) (b := 6) m553 (by decide))
            have r564 := (fm_rd_k (a := 0) (b := 8) m555 (by omega))
            have r565 := r564.trans (fm_rd_i (a := 0) (b := 8) m553 (by decide))
            have r566 := (fm_rd_k (a := 0) (b := 6) m555 (by omega))
            have r567 := r566.trans (fm_rd_i (a := 0) (b := 6) m553 (by decide))
            have r568 := (fm_rd_k (a := 0) (b := 8) m555 (by omega))
            have r569 := r568.trans (fm_rd_i (a := 0) (b := 8) m553 (by decide))
            have r570 := (fm_rd_k (a := 0) (b := 6) m555 (by omega))
            have r571 := r570.trans (fm_rd_i (a := 0) (b := 6) m553 (by decide))
            have r572 := (fm_rd_k (a := 0) (b := 8) m555 (by omega))
            have r573 := r572.trans (fm_rd_i (a := 0) (b := 8) m553 (by decide))
            have r574 := (fm_rd_k (a := 0) (b := 9) m555 (by omega))
            have r575 := r574.trans (fm_rd_s m553)
            have r576 := (fm_rd_k (a := 0) (b := 8) m555 (by omega))
            have r577 := r576.trans (fm_rd_i (a := 0) (b := 8) m553 (by decide))
            refine fr_cvI h kX12 at_0M wX12_oneOf lX12_147 (c_X12_oneOf x554 48 10 (by omega) (by omega) (by omega) (by omega) (by omega) (by omega) (by omega)) rfl (by decide) (by decide) rfl (Nat.le_of_ble_eq_true rfl) dX12_readAct_144 (fun z579 x578 w580 p581 => ?_)
            obtain ⟨p582, p583, p584, p585, p586, f587, f588⟩ := p581
            refine fr_iast h arM_11 (by omega) (by omega) (rrM_11 (k + 1)) (by omega) (by omega) dX12_readAct_147 ?_
            refine fr_mem (fun x589 m590 => ?_)
            refine fr_iload_n h rfl 2 rfl dX12_readAct_148 ?_
            refine fr_bipush h rfl dX12_readAct_149 ?_
            refine fr_icmp_ne (tgt := 166) h dX12_readAct_151 (by decide) (by omega) (by omega) (fun c591 => ?_) (fun c591 => by exfalso; omega)
            refine fr_iload_n h rfl 2 rfl dX12_readAct_166 ?_
            refine fr_bipush h rfl dX12_readAct_167 ?_
            refine fr_icmp_ne (tgt := 188) h dX12_readAct_169 (by decide) (by omega) (by omega) (fun c592 => ?_) (fun c592 => by exfalso; omega)
            refine fr_iload_n h rfl 3 rfl dX12_readAct_188 ?_
            refine fr_if_eq (tgt := 208) h dX12_readAct_189 (by decide) (by omega) (fun c593 => ?_) (fun c593 => by exfalso; omega)
            refine fr_iload_n h rfl 2 rfl dX12_readAct_208 ?_
            refine fr_bipush h rfl dX12_readAct_209 ?_
            refine fr_icmp_ne (tgt := 229) h dX12_readAct_211 (by decide) (by omega) (by omega) (fun c594 => ?_) (fun c594 => by exfalso; omega)
            refine fr_iload_n h rfl 2 rfl dX12_readAct_229 ?_
            refine fr_bipush h rfl dX12_readAct_230 ?_
            refine fr_icmp_eq (tgt := 241) h dX12_readAct_232 (by decide) (by omega) (by omega) (fun c595 => by exfalso; omega) (fun c595 => ?_)
            refine fr_iload_n h rfl 2 rfl dX12_readAct_235 ?_
            refine fr_bipush h rfl dX12_readAct_236 ?_
            refine fr_icmp_ne (tgt := 253) h dX12_readAct_238 (by decide) (by omega) (by omega) (fun c596 => ?_) (fun c596 => by exfalso; omega)
            have r597 := (fm_rd_k (a := 0) (b := 9) m590 (by omega))
            have r598 := (fm_rd_k (a := 0) (b := 9) m555 (by omega))
            have r599 := r598.trans (fm_rd_s m553)
            have r600 := (fm_rd_k (a := 0) (b := 10) m590 (by omega))
            have r601 := (fm_rd_k (a := 0) (b := 10) m555 (by omega))
            have r602 := r601.trans (fm_rd_i (a := 0) (b := 10) m553 (by decide))
            have r603 := (fm_rd_k (a := 0) (b := 9) m590 (by omega))
            have r604 := (fm_rd_k (a := 0) (b := 9) m555 (by omega))
            have r605 := r604.trans (fm_rd_s m553)
            exact fr_vret h hq ⟨(by omega), (by omega), (fun a k0 k1 => ((fm_up_row m590 (by omega)).trans ((f587 a (by omega)).trans ((fm_up_row m555 (by omega)).trans (fm_up_row m553 (by omega)))))), (fun i k0 k1 => ((fm_rd_k (a := 0) (b := i) m590 (by omega)).trans ((f588 i (by omega) (by omega)).trans ((fm_rd_k (a := 0) (b := i) m555 (by omega)).trans (fm_rd_i (a := 0) (b := i) m553 (by omega))))))⟩ dX12_readAct_253
          ·
            refine fr_iload_n h rfl 2 rfl dX12_readAct_35 ?_
            refine fr_bipush h rfl dX12_readAct_36 ?_
            refine fr_icmp_eq (tgt := 56) h dX12_readAct_38 (by decide) (by omega) (by omega) (fun c606 => ?_) (fun c606 => ?_)
            ·
              refine fr_aload_n h rfl 0 rfl dX12_readAct_56 ?_
              refine fr_dup h rfl dX12_readAct_57 ?_
              refine fr_geti (iz := 9) h kX12 fX12_121 at_0M rfl rfl (by decide) (by decide) rfM_9 dX12_readAct_58 (fun z607 w608 w609 q610 => ?_)
              refine fr_iconst h dX12_readAct_61 ?_
              refine fr_iadd h dX12_readAct_62 ?_
              refine fr_puti (iz := 9) h kX12 fX12_121 at_0M rfl rfl (by decide) (by decide) rfl (by decide +kernel) rfM_9 (by omega) (by omega) dX12_readAct_63 ?_
              refine fr_mem (fun x611 m612 => ?_)
              refine fr_aload_n h rfl 0 rfl dX12_readAct_66 ?_
              refine fr_getc (z := 11) (iz := 22) h kX12 fX12_42 at_0M rfl rfl rfM_22 (by omega) dX12_readAct_67 ?_
              refine fr_iload_n h rfl 1 rfl dX12_readAct_70 ?_
              refine fr_iload_n h rfl 2 rfl dX12_readAct_71 ?_
              refine fr_iast h arM_11 (by omega) (by omega) (rrM_11 k) (by omega) (by omega) dX12_readAct_72 ?_
              refine fr_mem (fun x613 m614 => ?_)
              refine fr_iload_n h rfl 2 rfl dX12_readAct_73 ?_
              refine fr_bipush h rfl dX12_readAct_74 ?_
              refine fr_icmp_eq (tgt := 85) h dX12_readAct_76 (by decide) (by omega) (by omega) (fun c615 => by exfalso; omega) (fun c615 => ?_)
              refine fr_iload_n h rfl 2 rfl dX12_readAct_79 ?_
              refine fr_bipush h rfl dX12_readAct_80 ?_
              refine fr_icmp_ne (tgt := 89) h dX12_readAct_82 (by decide) (by omega) (by omega) (fun c616 => ?_) (fun c616 => by exfalso; omega)
              refine fr_iconst h dX12_readAct_89 ?_
              refine fr_istore_n (L' := [(0, vr G 0), (1, vi k), (2, vi z2), (3, vi 0)]) h rfl dX12_readAct_90 (by decide) [1, 2, 3, 0] rfl ?_
              refine fr_aload_n h rfl 0 rfl dX12_readAct_91 ?_
              refine fr_getc (z := 11) (iz := 22) h kX12 fX12_42 at_0M rfl rfl rfM_22 (by omega) dX12_readAct_92 ?_
              refine fr_iload_n h rfl 1 rfl dX12_readAct_95 ?_
              refine fr_iconst h dX12_readAct_96 ?_
              refine fr_iadd h dX12_readAct_97 ?_
              refine fr_iload_n h rfl 3 rfl dX12_readAct_98 ?_
              refine fr_if_eq (tgt := 113) h dX12_readAct_99 (by decide) (by omega) (fun c617 => ?_) (fun c617 => by exfalso; omega)
              refine fr_aload_n h rfl 0 rfl dX12_readAct_113 ?_
              refine fr_bipush h rfl dX12_readAct_114 ?_
              refine fr_iload_n h rfl 2 rfl dX12_readAct_116 ?_
              refine fr_bipush h rfl dX12_readAct_117 ?_
              refine fr_icmp_eq (tgt := 128) h dX12_readAct_119 (by decide) (by omega) (by omega) (fun c618 => by exfalso; omega) (fun c618 => ?_)
              refine fr_iload_n h rfl 2 rfl dX12_readAct_122 ?_
              refine fr_bipush h rfl dX12_readAct_123 ?_
              refine fr_icmp_ne (tgt := 132) h dX12_readAct_125 (by decide) (by omega) (by omega) (fun c619 => ?_) (fun c619 => by exfalso; omega)
              refine fr_iload_n h rfl 2 rfl dX12_readAct_132 ?_
              refine fr_bipush h rfl dX12_readAct_133 ?_
              refine fr_icmp_ne (tgt := 142) h dX12_readAct_135 (by decide) (by omega) (by omega) (fun c620 => ?_) (fun c620 => by exfalso; omega)
              refine fr_bipush h rfl dX12_readAct_142 ?_
              have r621 := (fm_rd_k (a := 0) (b := 6) m614 (by omega))
              have r622 := r621.trans (fm_rd_i (a := 0) (b := 6) m612 (by decide))
              have r623 := (fm_rd_k (a := 0) (b := 8) m614 (by omega))
              have r624 := r623.trans (fm_rd_i (a := 0) (b := 8) m612 (by decide))
              have r625 := (fm_rd_k (a := 0) (b := 6) m614 (by omega))
              have r626 := r625.trans (fm_rd_i (a := 0) (b := 6) m612 (by decide))
              have r627 := (fm_rd_k (a := 0) (b := 8) m614 (by omega))
              have r628 := r627.trans (fm_rd_i (a := 0) (b := 8) m612 (by decide))
              have r629 := (fm_rd_k (a := 0) (b := 6) m614 (by omega))
              have r630 := r629.trans (fm_rd_i (a := 0) (b := 6) m612 (by decide))
              have r631 := (fm_rd_k (a := 0) (b := 8) m614 (by omega))
              have r632 := r631.trans (fm_rd_i (a := 0) (b := 8) m612 (by decide))
              have r633 := (fm_rd_k (a := 0) (b := 9) m614 (by omega))
              have r634 := r633.trans (fm_rd_s m612)
              have r635 := (fm_rd_k (a := 0) (b := 8) m614 (by omega))
              have r636 := r635.trans (fm_rd_i (a := 0) (b := 8) m612 (by decide))
              refine fr_cvI h kX12 at_0M wX12_oneOf lX12_147 (c_X12_oneOf x613 48 10 (by omega) (by omega) (by omega) (by omega) (by omega) (by omega) (by omega)) rfl (by decide) (by decide) rfl (Nat.le_of_ble_eq_true rfl) dX12_readAct_144 (fun z638 x637 w639 p640 => ?_)
              obtain ⟨p641, p642, p643, p644, p645, f646, f647⟩ := p640
              refine fr_iast h arM_11 (by omega) (by omega) (rrM_11 (k + 1)) (by omega) (by omega) dX12_readAct_147 ?_
              refine fr_mem (fun x648 m649 => ?_)
              refine fr_iload_n h rfl 2 rfl dX12_readAct_148 ?_
              refine fr_bipush h rfl dX12_readAct_149 ?_
              refine fr_icmp_ne (tgt := 166) h dX12_readAct_151 (by decide) (by omega) (by omega) (fun c650 => ?_) (fun c650 => by exfalso; omega)
              refine fr_iload_n h rfl 2 rfl dX12_readAct_166 ?_
              refine fr_bipush h rfl dX12_readAct_167 ?_
              refine fr_icmp_ne (tgt := 188) h dX12_readAct_169 (by decide) (by omega) (by omega) (fun c651 => ?_) (fun c651 => by exfalso; omega)
              refine fr_iload_n h rfl 3 rfl dX12_readAct_188 ?_
              refine fr_if_eq (tgt := 208) h dX12_readAct_189 (by decide) (by omega) (fun c652 => ?_) (fun c652 => by exfalso; omega)
              refine fr_iload_n h rfl 2 rfl dX12_readAct_208 ?_
              refine fr_bipush h rfl dX12_readAct_209 ?_
              refine fr_icmp_ne (tgt := 229) h dX12_readAct_211 (by decide) (by omega) (by omega) (fun c653 => ?_) (fun c653 => by exfalso; omega)
              refine fr_iload_n h rfl 2 rfl dX12_readAct_229 ?_
              refine fr_bipush h rfl dX12_readAct_230 ?_
              refine fr_icmp_eq (tgt := 241) h dX12_readAct_232 (by decide) (by omega) (by omega) (fun c654 => by exfalso; omega) (fun c654 => ?_)
              refine fr_iload_n h rfl 2 rfl dX12_readAct_235 ?_
              refine fr_bipush h rfl dX12_readAct_236 ?_
              refine fr_icmp_ne (tgt := 253) h dX12_readAct_238 (by decide) (by omega) (by omega) (fun c655 => ?_) (fun c655 => by exfalso; omega)
              have r656 := (fm_rd_k (a := 0) (b := 9) m649 (by omega))
              have r657 := (fm_rd_k (a := 0) (b := 9) m614 (by omega))
              have r658 := r657.trans (fm_rd_s m612)
              have r659 := (fm_rd_k (a := 0) (b := 10) m649 (by omega))
              have r660 := (fm_rd_k (a := 0) (b := 10) m614 (by omega))
              have r661 := r660.trans (fm_rd_i (a := 0) (b := 10) m612 (by decide))
              have r662 := (fm_rd_k (a := 0) (b := 9) m649 (by omega))
              have r663 := (fm_rd_k (a := 0) (b := 9) m614 (by omega))
              have r664 := r663.trans (fm_rd_s m612)
              exact fr_vret h hq ⟨(by omega), (by omega), (fun a k0 k1 => ((fm_up_row m649 (by omega)).trans ((f646 a (by omega)).trans ((fm_up_row m614 (by omega)).trans (fm_up_row m612 (by omega)))))), (fun i k0 k1 => ((fm_rd_k (a := 0) (b := i) m649 (by omega)).trans ((f647 i (by omega) (by omega)).trans ((fm_rd_k (a := 0) (b := i) m614 (by omega)).trans (fm_rd_i (a := 0) (b := i) m612 (by omega))))))⟩ dX12_readAct_253
            ·
              refine fr_iload_n h rfl 2 rfl dX12_readAct_41 ?_
              refine fr_bipush h rfl dX12_readAct_42 ?_
              refine fr_icmp_eq (tgt := 56) h dX12_readAct_44 (by decide) (by omega) (by omega) (fun c665 => ?_) (fun c665 => ?_)
              ·
                refine fr_aload_n h rfl 0 rfl dX12_readAct_56 ?_
                refine fr_dup h rfl dX12_readAct_57 ?_
                refine fr_geti (iz := 9) h kX12 fX12_121 at_0M rfl rfl (by decide) (by decide) rfM_9 dX12_readAct_58 (fun z666 w667 w668 q669 => ?_)
                refine fr_iconst h dX12_readAct_61 ?_
                refine fr_iadd h dX12_readAct_62 ?_
                refine fr_puti (iz := 9) h kX12 fX12_121 at_0M rfl rfl (by decide) (by decide) rfl (by decide +kernel) rfM_9 (by omega) (by omega) dX12_readAct_63 ?_
                refine fr_mem (fun x670 m671 => ?_)
                refine fr_aload_n h rfl 0 rfl dX12_readAct_66 ?_
                refine fr_getc (z := 11) (iz := 22) h kX12 fX12_42 at_0M rfl rfl rfM_22 (by omega) dX12_readAct_67 ?_
                refine fr_iload_n h rfl 1 rfl dX12_readAct_70 ?_
                refine fr_iload_n h rfl 2 rfl dX12_readAct_71 ?_
                refine fr_iast h arM_11 (by omega) (by omega) (rrM_11 k) (by omega) (by omega) dX12_readAct_72 ?_
                refine fr_mem (fun x672 m673 => ?_)
                refine fr_iload_n h rfl 2 rfl dX12_readAct_73 ?_
                refine fr_bipush h rfl dX12_readAct_74 ?_
                refine fr_icmp_eq (tgt := 85) h dX12_readAct_76 (by decide) (by omega) (by omega) (fun c674 => by exfalso; omega) (fun c674 => ?_)
                refine fr_iload_n h rfl 2 rfl dX12_readAct_79 ?_
                refine fr_bipush h rfl dX12_readAct_80 ?_
                refine fr_icmp_ne (tgt := 89) h dX12_readAct_82 (by decide) (by omega) (by omega) (fun c675 => by exfalso; omega) (fun c675 => ?_)
                refine fr_iconst h dX12_readAct_85 ?_
                refine fr_goto (tgt := 90) h dX12_readAct_86 (by decide) ?_
                refine fr_istore_n (L' := [(0, vr G 0), (1, vi k), (2, vi z2), (3, vi 1)]) h rfl dX12_readAct_90 (by decide) [1, 2, 3, 0] rfl ?_
                refine fr_aload_n h rfl 0 rfl dX12_readAct_91 ?_
                refine fr_getc (z := 11) (iz := 22) h kX12 fX12_42 at_0M rfl rfl rfM_22 (by omega) dX12_readAct_92 ?_
                refine fr_iload_n h rfl 1 rfl dX12_readAct_95 ?_
                refine fr_iconst h dX12_readAct_96 ?_
                refine fr_iadd h dX12_readAct_97 ?_
                refine fr_iload_n h rfl 3 rfl dX12_readAct_98 ?_
                refine fr_if_eq (tgt := 113) h dX12_readAct_99 (by decide) (by omega) (fun c676 => by exfalso; omega) (fun c676 => ?_)
                refine fr_aload_n h rfl 0 rfl dX12_readAct_102 ?_
                refine fr_bipush h rfl dX12_readAct_103 ?_
                refine fr_bipush h rfl dX12_readAct_105 ?_
                have r677 := (fm_rd_k (a := 0) (b := 6) m673 (by omega))
                have r678 := r677.trans (fm_rd_i (a := 0) (b := 6) m671 (by decide))
                have r679 := (fm_rd_k (a := 0) (b := 8) m673 (by omega))
                have r680 := r679.trans (fm_rd_i (a := 0) (b := 8) m671 (by decide))
                have r681 := (fm_rd_k (a := 0) (b := 6) m673 (by omega))
                have r682 := r681.trans (fm_rd_i (a := 0) (b := 6) m671 (by decide))
                have r683 := (fm_rd_k (a := 0) (b := 8) m673 (by omega))
                have r684 := r683.trans (fm_rd_i (a := 0) (b := 8) m671 (by decide))
                have r685 := (fm_rd_k (a := 0) (b := 6) m673 (by omega))
                have r686 := r685.trans (fm_rd_i (a := 0) (b := 6) m671 (by decide))
                have r687 := (fm_rd_k (a := 0) (b := 8) m673 (by omega))
                have r688 := r687.trans (fm_rd_i (a := 0) (b := 8) m671 (by decide))
                have r689 := (fm_rd_k (a := 0) (b := 9) m673 (by omega))
                have r690 := r689.trans (fm_rd_s m671)
                have r691 := (fm_rd_k (a := 0) (b := 8) m673 (by omega))
                have r692 := r691.trans (fm_rd_i (a := 0) (b := 8) m671 (by decide))
                refine fr_cvI h kX12 at_0M wX12_oneOf lX12_147 (c_X12_oneOf x672 97 7 (by omega) (by omega) (by omega) (by omega) (by omega) (by omega) (by omega)) rfl (by decide) (by decide) rfl (Nat.le_of_ble_eq_true rfl) dX12_readAct_107 (fun z694 x693 w695 p696 => ?_)
                obtain ⟨p697, p698, p699, p700, p701, f702, f703⟩ := p696
                refine fr_goto (tgt := 147) h dX12_readAct_110 (by decide) ?_
                refine fr_iast h arM_11 (by omega) (by omega) (rrM_11 (k + 1)) (by omega) (by omega) dX12_readAct_147 ?_
                refine fr_mem (fun x704 m705 => ?_)
                refine fr_iload_n h rfl 2 rfl dX12_readAct_148 ?_
                refine fr_bipush h rfl dX12_readAct_149 ?_
                refine fr_icmp_ne (tgt := 166) h dX12_readAct_151 (by decide) (by omega) (by omega) (fun c706 => ?_) (fun c706 => by exfalso; omega)
                refine fr_iload_n h rfl 2 rfl dX12_readAct_166 ?_
                refine fr_bipush h rfl dX12_readAct_167 ?_
                refine fr_icmp_ne (tgt := 188) h dX12_readAct_169 (by decide) (by omega) (by omega) (fun c707 => ?_) (fun c707 => by exfalso; omega)
                refine fr_iload_n h rfl 3 rfl dX12_readAct_188 ?_
                refine fr_if_eq (tgt := 208) h dX12_readAct_189 (by decide) (by omega) (fun c708 => by exfalso; omega) (fun c708 => ?_)
                refine fr_aload_n h rfl 0 rfl dX12_readAct_192 ?_
                refine fr_getc (z := 11) (iz := 22) h kX12 fX12_42 at_0M rfl rfl rfM_22 (by omega) dX12_readAct_193 ?_
                refine fr_iload_n h rfl 1 rfl dX12_readAct_196 ?_
                refine fr_iconst h dX12_readAct_197 ?_
                refine fr_iadd h dX12_readAct_198 ?_
                refine fr_aload_n h rfl 0 rfl dX12_readAct_199 ?_
                refine fr_bipush h rfl dX12_readAct_200 ?_
                refine fr_bipush h rfl dX12_readAct_202 ?_
                have r709 := (fm_rd_k (a := 0) (b := 6) m705 (by omega))
                have r710 := r709.trans (f703 6 (by decide) (by decide))
                have r711 := r710.trans (fm_rd_k (a := 0) (b := 6) m673 (by omega))
                have r712 := r711.trans (fm_rd_i (a := 0) (b := 6) m671 (by decide))
                have r713 := (fm_rd_k (a := 0) (b := 8) m705 (by omega))
                have r714 := r713.trans (f703 8 (by decide) (by decide))
                have r715 := r714.trans (fm_rd_k (a := 0) (b := 8) m673 (by omega))
                have r716 := r715.trans (fm_rd_i (a := 0) (b := 8) m671 (by decide))
                have r717 := (fm_rd_k (a := 0) (b := 6) m705 (by omega))
                have r718 := r717.trans (f703 6 (by decide) (by decide))
                have r719 := r718.trans (fm_rd_k (a := 0) (b := 6) m673 (by omega))
                have r720 := r719.trans (fm_rd_i (a := 0) (b := 6) m671 (by decide))
                have r721 := (fm_rd_k (a := 0) (b := 8) m705 (by omega))
                have r722 := r721.trans (f703 8 (by decide) (by decide))
                have r723 := r722.trans (fm_rd_k (a := 0) (b := 8) m673 (by omega))
                have r724 := r723.trans (fm_rd_i (a := 0) (b := 8) m671 (by decide))
                have r725 := (fm_rd_k (a := 0) (b := 6) m705 (by omega))
                have r726 := r725.trans (f703 6 (by decide) (by decide))
                have r727 := r726.trans (fm_rd_k (a := 0) (b := 6) m673 (by omega))
                have r728 := r727.trans (fm_rd_i (a := 0) (b := 6) m671 (by decide))
                have r729 := (fm_rd_k (a := 0) (b := 8) m705 (by omega))
                have r730 := r729.trans (f703 8 (by decide) (by decide))
                have r731 := r730.trans (fm_rd_k (a := 0) (b := 8) m673 (by omega))
                have r732 := r731.trans (fm_rd_i (a := 0) (b := 8) m671 (by decide))
                have r733 := (fm_rd_k (a := 0) (b := 9) m705 (by omega))
                have r734 := (fm_rd_k (a := 0) (b := 9) m673 (by omega))
                have r735 := r734.trans (fm_rd_s m671)
                have r736 := (fm_rd_k (a := 0) (b := 8) m705 (by omega))
                have r737 := r736.trans (f703 8 (by decide) (by decide))
                have r738 := r737.trans (fm_rd_k (a := 0) (b := 8) m673 (by omega))
                have r739 := r738.trans (fm_rd_i (a := 0) (b := 8) m671 (by decide))
                refine fr_cvI h kX12 at_0M wX12_oneOf lX12_147 (c_X12_oneOf x704 97 7 (by omega) (by omega) (by omega) (by omega) (by omega) (by omega) (by omega)) rfl (by decide) (by decide) rfl (Nat.le_of_ble_eq_true rfl) dX12_readAct_204 (fun z741 x740 w742 p743 => ?_)
                obtain ⟨p744, p745, p746, p747, p748, f749, f750⟩ := p743
                refine fr_iast h arM_11 (by omega) (by omega) (rrM_11 (k + 2)) (by omega) (by omega) dX12_readAct_207 ?_
                refine fr_mem (fun x751 m752 => ?_)
                refine fr_iload_n h rfl 2 rfl dX12_readAct_208 ?_
                refine fr_bipush h rfl dX12_readAct_209 ?_
                refine fr_icmp_ne (tgt := 229) h dX12_readAct_211 (by decide) (by omega) (by omega) (fun c753 => ?_) (fun c753 => by exfalso; omega)
                refine fr_iload_n h rfl 2 rfl dX12_readAct_229 ?_
                refine fr_bipush h rfl dX12_readAct_230 ?_
                refine fr_icmp_eq (tgt := 241) h dX12_readAct_232 (by decide) (by omega) (by omega) (fun c754 => by exfalso; omega) (fun c754 => ?_)
                refine fr_iload_n h rfl 2 rfl dX12_readAct_235 ?_
                refine fr_bipush h rfl dX12_readAct_236 ?_
                refine fr_icmp_ne (tgt := 253) h dX12_readAct_238 (by decide) (by omega) (by omega) (fun c755 => ?_) (fun c755 => by exfalso; omega)
                have r756 := (fm_rd_k (a := 0) (b := 9) m752 (by omega))
                have r757 := (fm_rd_k (a := 0) (b := 9) m705 (by omega))
                have r758 := (fm_rd_k (a := 0) (b := 9) m673 (by omega))
                have r759 := r758.trans (fm_rd_s m671)
                have r760 := (fm_rd_k (a := 0) (b := 10) m752 (by omega))
                have r761 := (fm_rd_k (a := 0) (b := 10) m705 (by omega))
                have r762 := (fm_rd_k (a := 0) (b := 10) m673 (by omega))
                have r763 := r762.trans (fm_rd_i (a := 0) (b := 10) m671 (by decide))
                have r764 := (fm_rd_k (a := 0) (b := 9) m752 (by omega))
                have r765 := (fm_rd_k (a := 0) (b := 9) m705 (by omega))
                have r766 := (fm_rd_k (a := 0) (b := 9) m673 (by omega))
                have r767 := r766.trans (fm_rd_s m671)
                exact fr_vret h hq ⟨(by omega), (by omega), (fun a k0 k1 => ((fm_up_row m752 (by omega)).trans ((f749 a (by omega)).trans ((fm_up_row m705 (by omega)).trans ((f702 a (by omega)).trans ((fm_up_row m673 (by omega)).trans (fm_up_row m671 (by omega)))))))), (fun i k0 k1 => ((fm_rd_k (a := 0) (b := i) m752 (by omega)).trans ((f750 i (by omega) (by omega)).trans ((fm_rd_k (a := 0) (b := i) m705 (by omega)).trans ((f703 i (by omega) (by omega)).trans ((fm_rd_k (a := 0) (b := i) m673 (by omega)).trans (fm_rd_i (a := 0) (b := i) m671 (by omega))))))))⟩ dX12_readAct_253
              ·
                refine fr_aload_n h rfl 0 rfl dX12_readAct_47 ?_
                refine fr_aload_n h rfl 0 rfl dX12_readAct_48 ?_
                refine fr_geti (iz := 9) h kX12 fX12_121 at_0M rfl rfl (by decide) (by decide) rfM_9 dX12_readAct_49 (fun z768 w769 w770 q771 => ?_)
                refine fr_cvV h kX12 at_0M wX12_fault lX12_143 (c_X12_fault x z768 (by omega) (by omega) (by omega)) rfl (by decide) (by decide) rfl (Nat.le_of_ble_eq_true rfl) dX12_readAct_52 (fun x772 p775 => ?_)
                obtain ⟨p776, f777, f778⟩ := p775
                have r779 := (f778 9 (by decide))
                have r780 := (f778 9 (by decide))
                exact fr_vret h hq ⟨(by omega), (by omega), (fun a k0 k1 => (f777 a (by omega))), (fun i k0 k1 => (f778 i (by omega)))⟩ dX12_readAct_55
set_option maxHeartbeats 4000000 in
theorem c_X12_act (x : Mm) (k : Int) (p : Int) (w : Int) (v : Int) (h_k : fm_r k) (h_p : fm_r p) (h_w : fm_r w) (h_v : fm_r v) (e0 : MI (x 1)) : CnI YM yX12_act cX12_act 5 .boolean 3 68 (fun G => [vr G 0, vi k, vi p, vi w, vi v]) x (fun z y' => (z = 0 ∨ z = 1) ∧ (MI (y' 1)) ∧ (z = 0 → y' 1 = x 1) ∧ (∀ a : Int, (a < 1 ∨ 1 < a) → y' a = x a)) := by
  refine cn_I (by decide) (fun _ => Nat.le_of_ble_eq_true rfl) (fun G C h hq => ?_)
  have h : OK YM G C cX12_act RX12 5 (some .boolean) 3 68 := h
  show FW YM G C 5 x 0 [(0, vr G 0), (1, vi k), (2, vi p), (3, vi w), (4, vi v)] []
  refine fr_iload_n h rfl 1 rfl dX12_act_0 ?_
  by_cases c2 : k = 99
  ·
    refine fr_look (off := 132) (tgt := 133) h dX12_act_1 (by omega) (by decide) (by rw [c2]; rfl) (by decide) ?_
    refine fr_iload_n h rfl 2 rfl dX12_act_133 ?_
    refine fr_iload_n h rfl 3 rfl dX12_act_134 ?_
    refine fr_iload h 4 rfl dX12_act_135 ?_
    refine fr_csI h wX12_canCost lX12_249 (c_X12_canCost x p w v (by omega) (by omega) (by omega)) rfl (by decide) (by decide) rfl (Nat.le_of_ble_eq_true rfl) dX12_act_137 (fun z4 x3 w5 p6 => ?_)
    obtain ⟨p7, p8, y9⟩ := p6
    rw [y9]
    clear y9
    refine fr_if_ne (tgt := 145) h dX12_act_140 (by decide) (by omega) (fun c10 => ?_) (fun c10 => ?_)
    ·
      refine fr_aload_n h rfl 0 rfl dX12_act_145 ?_
      refine fr_getc (z := 1) (iz := 0) h kX12 fX12_9 at_0M rfl rfl rfM_0 (by omega) dX12_act_146 ?_
      refine fr_bipush h rfl dX12_act_149 ?_
      refine fr_iconst h dX12_act_151 ?_
      refine fr_iload_n h rfl 2 rfl dX12_act_152 ?_
      refine fr_imul h dX12_act_153 ?_
      refine fr_iadd h dX12_act_154 ?_
      refine fr_iload_n h rfl 3 rfl dX12_act_155 ?_
      refine fr_iadd h dX12_act_156 ?_
      refine fr_iload h 4 rfl dX12_act_157 ?_
      refine fr_iast h (SA_a SA_1) (by omega) (by omega) ((SA_r SA_1 ((77 + (5 * p)) + w)).trans (sg_wt (by omega) (by omega))) (by omega) (by omega) dX12_act_159 ?_
      refine fr_mem (fun x11 m12 => ?_)
      refine fr_iconst h dX12_act_160 ?_
      exact fr_zret h rfl hq (by omega) ⟨(by omega), (MI_cong e0 (fun i a b => fm_rd_i m12 (by omega))), (fun q => by exfalso; omega), (fun a k0 => (fm_up_row m12 (by omega)))⟩ dX12_act_161
    ·
      refine fr_iconst h dX12_act_143 ?_
      exact fr_zret h rfl hq (by omega) ⟨(by omega), e0, (fun _ => rfl), (fun a _ => rfl)⟩ dX12_act_144
  ·
    by_cases c13 : k = 101
    ·
      refine fr_look (off := 161) (tgt := 162) h dX12_act_1 (by omega) (by decide) (by rw [c13]; rfl) (by decide) ?_
      refine fr_iload_n h rfl 2 rfl dX12_act_162 ?_
      refine fr_iload_n h rfl 3 rfl dX12_act_163 ?_
      refine fr_csI h wX12_canEnd lX12_255 (c_X12_canEnd x p w (by omega) (by omega)) rfl (by decide) (by decide) rfl (Nat.le_of_ble_eq_true rfl) dX12_act_164 (fun z15 x14 w16 p17 => ?_)
      obtain ⟨p18, p19, y20⟩ := p17
      rw [y20]
      clear y20
      refine fr_if_ne (tgt := 172) h dX12_act_167 (by decide) (by omega) (fun c21 => ?_) (fun c21 => ?_)
      ·
        refine fr_aload_n h rfl 0 rfl dX12_act_172 ?_
        refine fr_getc (z := 1) (iz := 0) h kX12 fX12_9 at_0M rfl rfl rfM_0 (by omega) dX12_act_173 ?_
        refine fr_bipush h rfl dX12_act_176 ?_
        refine fr_iload_n h rfl 2 rfl dX12_act_178 ?_
        refine fr_iast h (SA_a SA_1) (by omega) (by omega) ((SA_r SA_1 103).trans sg_e1) (by omega) (by omega) dX12_act_179 ?_
        refine fr_mem (fun x22 m23 => ?_)
        refine fr_aload_n h rfl 0 rfl dX12_act_180 ?_
        refine fr_getc (z := 1) (iz := 0) h kX12 fX12_9 at_0M rfl rfl rfM_0 (by omega) dX12_act_181 ?_
        refine fr_bipush h rfl dX12_act_184 ?_
        refine fr_iload_n h rfl 3 rfl dX12_act_186 ?_
        refine fr_iast h (SA_a SA_1) (by omega) (by omega) ((SA_r SA_1 104).trans sg_e2) (by omega) (by omega) dX12_act_187 ?_
        refine fr_mem (fun x24 m25 => ?_)
        refine fr_iconst h dX12_act_188 ?_
        exact fr_zret h rfl hq (by omega) ⟨(by omega), (MI_cong (MI_cong e0 (fun i a b => fm_rd_i m23 (by omega))) (fun i a b => fm_rd_i m25 (by omega))), (fun q => by exfalso; omega), (fun a k0 => ((fm_up_row m25 (by omega)).trans (fm_up_row m23 (by omega))))⟩ dX12_act_189
      ·
        refine fr_iconst h dX12_act_170 ?_
        exact fr_zret h rfl hq (by omega) ⟨(by omega), e0, (fun _ => rfl), (fun a _ => rfl)⟩ dX12_act_171
    ·
      by_cases c26 : k = 106
      ·
        refine fr_look (off := 103) (tgt := 104) h dX12_act_1 (by omega) (by decide) (by rw [c26]; rfl) (by decide) ?_
        refine fr_aload_n h rfl 0 rfl dX12_act_104 ?_
        refine fr_getc (z := 1) (iz := 0) h kX12 fX12_9 at_0M rfl rfl rfM_0 (by omega) dX12_act_105 ?_
        refine fr_iload_n h rfl 2 rfl dX12_act_108 ?_
        refine fr_iload_n h rfl 3 rfl dX12_act_109 ?_
        refine fr_iload h 4 rfl dX12_act_110 ?_
        refine fr_csI h wX12_refusesJoin lX12_245 (c_X12_refusesJoin x 1 SA_1 p w v (by omega) (by omega) (by omega)) rfl (by decide) (by decide) rfl (Nat.le_of_ble_eq_true rfl) dX12_act_112 (fun z28 x27 w29 p30 => ?_)
        obtain ⟨p31, p32, p33, y34⟩ := p30
        rw [y34]
        clear y34
        refine fr_if_ge (tgt := 120) h dX12_act_115 (by decide) (by omega) (fun c35 => ?_) (fun c35 => ?_)
        ·
          refine fr_aload_n h rfl 0 rfl dX12_act_120 ?_
          refine fr_getc (z := 1) (iz := 0) h kX12 fX12_9 at_0M rfl rfl rfM_0 (by omega) dX12_act_121 ?_
          refine fr_iload_n h rfl 2 rfl dX12_act_124 ?_
          refine fr_iload_n h rfl 3 rfl dX12_act_125 ?_
          refine fr_iload h 4 rfl dX12_act_126 ?_
          refine fr_csV h wX12_weigh lX12_224 (c_X12_weigh x 1 SA_1 p w v (by omega) (by omega) (by omega) (by omega) (by omega) (by omega) (by omega) (by omega) (by omega)) rfl (by decide) (by decide) rfl (Nat.le_of_ble_eq_true rfl) dX12_act_128 (fun x36 p39 => ?_)
          obtain ⟨p40, p41, p42, f43⟩ := p39
          refine fr_iconst h dX12_act_131 ?_
          exact fr_zret h rfl hq (by omega) ⟨(by omega), (MI_weigh (a := p) (b := w) (w := v) e0 (by omega) (by omega) (by omega) (by omega) (by omega) (by omega) p40 p41 p42), (fun q => by exfalso; omega), (fun a k0 => (f43 a (by omega)))⟩ dX12_act_132
        ·
          refine fr_iconst h dX12_act_118 ?_
          exact fr_zret h rfl hq (by omega) ⟨(by omega), e0, (fun _ => rfl), (fun a _ => rfl)⟩ dX12_act_119
      ·
        by_cases c44 : k = 112
        ·
          refine fr_look (off := 51) (tgt := 52) h dX12_act_1 (by omega) (by decide) (by rw [c44]; rfl) (by decide) ?_
          refine fr_aload_n h rfl 0 rfl dX12_act_52 ?_
          refine fr_getc (z := 1) (iz := 0) h kX12 fX12_9 at_0M rfl rfl rfM_0 (by omega) dX12_act_53 ?_
          refine fr_iload_n h rfl 2 rfl dX12_act_56 ?_
          refine fr_iload_n h rfl 3 rfl dX12_act_57 ?_
          refine fr_csI h wX12_refusesPut lX12_235 (c_X12_refusesPut x 1 SA_1 p w (by omega) (by omega)) rfl (by decide) (by decide) rfl (Nat.le_of_ble_eq_true rfl) dX12_act_58 (fun z46 x45 w47 p48 => ?_)
          obtain ⟨p49, p50, p51, y52⟩ := p48
          rw [y52]
          clear y52
          refine fr_if_ge (tgt := 66) h dX12_act_61 (by decide) (by omega) (fun c53 => ?_) (fun c53 => ?_)
          ·
            refine fr_aload_n h rfl 0 rfl dX12_act_66 ?_
            refine fr_getc (z := 1) (iz := 0) h kX12 fX12_9 at_0M rfl rfl rfM_0 (by omega) dX12_act_67 ?_
            refine fr_iload_n h rfl 2 rfl dX12_act_70 ?_
            refine fr_iload_n h rfl 3 rfl dX12_act_71 ?_
            refine fr_csI h wX12_goPut lX12_169 (c_X12_goPut x 1 SA_1 p w (by omega) (by omega) (by omega) (by omega) (by omega) (by omega) (by omega)) rfl (by decide) (by decide) rfl (Nat.le_of_ble_eq_true rfl) dX12_act_72 (fun z55 x54 w56 p57 => ?_)
            obtain ⟨p58, p59, p60, f61⟩ := p57
            refine fr_pop h rfl dX12_act_75 ?_
            refine fr_iconst h dX12_act_76 ?_
            exact fr_zret h rfl hq (by omega) ⟨(by omega), (MI_cong e0 (fun i a b => p60 i (by omega) (by omega))), (fun q => by exfalso; omega), (fun a k0 => (f61 a (by omega)))⟩ dX12_act_77
          ·
            refine fr_iconst h dX12_act_64 ?_
            exact fr_zret h rfl hq (by omega) ⟨(by omega), e0, (fun _ => rfl), (fun a _ => rfl)⟩ dX12_act_65
        ·
          by_cases c62 : k = 116
          ·
            refine fr_look (off := 77) (tgt := 78) h dX12_act_1 (by omega) (by decide) (by rw [c62]; rfl) (by decide) ?_
            refine fr_aload_n h rfl 0 rfl dX12_act_78 ?_
            refine fr_getc (z := 1) (iz := 0) h kX12 fX12_9 at_0M rfl rfl rfM_0 (by omega) dX12_act_79 ?_
            refine fr_iload_n h rfl 2 rfl dX12_act_82 ?_
            refine fr_iload_n h rfl 3 rfl dX12_act_83 ?_
            refine fr_csI h wX12_canTake lX12_238 (c_X12_canTake x 1 SA_1 p w (by omega) (by omega)) rfl (by decide) (by decide) rfl (Nat.le_of_ble_eq_true rfl) dX12_act_84 (fun z64 x63 w65 p66 => ?_)
            obtain ⟨p67, p68, y69⟩ := p66
            rw [y69]
            clear y69
            refine fr_if_ne (tgt := 92) h dX12_act_87 (by decide) (by omega) (fun c70 => ?_) (fun c70 => ?_)
            ·
              refine fr_aload_n h rfl 0 rfl dX12_act_92 ?_
              refine fr_getc (z := 1) (iz := 0) h kX12 fX12_9 at_0M rfl rfl rfM_0 (by omega) dX12_act_93 ?_
              refine fr_iload_n h rfl 2 rfl dX12_act_96 ?_
              refine fr_iload_n h rfl 3 rfl dX12_act_97 ?_
              refine fr_csI h wX12_goTake lX12_242 (c_X12_goTake x 1 SA_1 p w (by omega) (by omega) (by omega) (by omega) (by omega) (by omega)) rfl (by decide) (by decide) rfl (Nat.le_of_ble_eq_true rfl) dX12_act_98 (fun z72 x71 w73 p74 => ?_)
              obtain ⟨p75, p76, p77, f78⟩ := p74
              refine fr_pop h rfl dX12_act_101 ?_
              refine fr_iconst h dX12_act_102 ?_
              exact fr_zret h rfl hq (by omega) ⟨(by omega), (MI_cong e0 (fun i a b => p77 i (by omega))), (fun q => by exfalso; omega), (fun a k0 => (f78 a (by omega)))⟩ dX12_act_103
            ·
              refine fr_iconst h dX12_act_90 ?_
              exact fr_zret h rfl hq (by omega) ⟨(by omega), e0, (fun _ => rfl), (fun a _ => rfl)⟩ dX12_act_91
          ·
            refine fr_look (off := 189) (tgt := 190) h dX12_act_1 (by omega) (by decide) (by simp [Op.lookupswitch.offset]; omega) (by decide) ?_
            refine fr_aload_n h rfl 0 rfl dX12_act_190 ?_
            refine fr_getc (z := 1) (iz := 0) h kX12 fX12_9 at_0M rfl rfl rfM_0 (by omega) dX12_act_191 ?_
            refine fr_iload_n h rfl 1 rfl dX12_act_194 ?_
            refine fr_bipush h rfl dX12_act_195 ?_
            refine fr_icmp_ne (tgt := 204) h dX12_act_197 (by decide) (by omega) (by omega) (fun c79 => ?_) (fun c79 => ?_)
            ·
              refine fr_iconst h dX12_act_204 ?_
              refine fr_iload_n h rfl 2 rfl dX12_act_205 ?_
              refine fr_csI h wX12_refusesSet lX12_252 (c_X12_refusesSet x 1 SA_1 1 p (by omega) (by omega)) rfl (by decide) (by decide) rfl (Nat.le_of_ble_eq_true rfl) dX12_act_206 (fun z81 x80 w82 p83 => ?_)
              obtain ⟨p84, p85, p86, y87⟩ := p83
              rw [y87]
              clear y87
              refine fr_if_ge (tgt := 214) h dX12_act_209 (by decide) (by omega) (fun c88 => ?_) (fun c88 => ?_)
              ·
                refine fr_aload_n h rfl 0 rfl dX12_act_214 ?_
                refine fr_getc (z := 1) (iz := 0) h kX12 fX12_9 at_0M rfl rfl rfM_0 (by omega) dX12_act_215 ?_
                refine fr_iload_n h rfl 1 rfl dX12_act_218 ?_
                refine fr_bipush h rfl dX12_act_219 ?_
                refine fr_icmp_ne (tgt := 229) h dX12_act_221 (by decide) (by omega) (by omega) (fun c89 => ?_) (fun c89 => ?_)
                ·
                  refine fr_bipush h rfl dX12_act_229 ?_
                  refine fr_iload_n h rfl 2 rfl dX12_act_231 ?_
                  refine fr_iast h (SA_a SA_1) (by omega) (by omega) ((SA_r SA_1 105).trans sg_pick) (by omega) (by omega) dX12_act_232 ?_
                  refine fr_mem (fun x90 m91 => ?_)
                  refine fr_iconst h dX12_act_233 ?_
                  exact fr_zret h rfl hq (by omega) ⟨(by omega), (MI_cong e0 (fun i a b => fm_rd_i m91 (by omega))), (fun q => by exfalso; omega), (fun a k0 => (fm_up_row m91 (by omega)))⟩ dX12_act_234
                ·
                  refine fr_bipush h rfl dX12_act_224 ?_
                  refine fr_goto (tgt := 231) h dX12_act_226 (by decide) ?_
                  refine fr_iload_n h rfl 2 rfl dX12_act_231 ?_
                  refine fr_iast h (SA_a SA_1) (by omega) (by omega) ((SA_r SA_1 102).trans sg_size) (by omega) (by omega) dX12_act_232 ?_
                  refine fr_mem (fun x92 m93 => ?_)
                  refine fr_iconst h dX12_act_233 ?_
                  exact fr_zret h rfl hq (by omega) ⟨(by omega), (MI_cong e0 (fun i a b => fm_rd_i m93 (by omega))), (fun q => by exfalso; omega), (fun a k0 => (fm_up_row m93 (by omega)))⟩ dX12_act_234
              ·
                refine fr_iconst h dX12_act_212 ?_
                exact fr_zret h rfl hq (by omega) ⟨(by omega), e0, (fun _ => rfl), (fun a _ => rfl)⟩ dX12_act_213
            ·
              refine fr_iconst h dX12_act_200 ?_
              refine fr_goto (tgt := 205) h dX12_act_201 (by decide) ?_
              refine fr_iload_n h rfl 2 rfl dX12_act_205 ?_
              refine fr_csI h wX12_refusesSet lX12_252 (c_X12_refusesSet x 1 SA_1 0 p (by omega) (by omega)) rfl (by decide) (by decide) rfl (Nat.le_of_ble_eq_true rfl) dX12_act_206 (fun z95 x94 w96 p97 => ?_)
              obtain ⟨p98, p99, p100, y101⟩ := p97
              rw [y101]
              clear y101
              refine fr_if_ge (tgt := 214) h dX12_act_209 (by decide) (by omega) (fun c102 => ?_) (fun c102 => ?_)
              ·
                refine fr_aload_n h rfl 0 rfl dX12_act_214 ?_
                refine fr_getc (z := 1) (iz := 0) h kX12 fX12_9 at_0M rfl rfl rfM_0 (by omega) dX12_act_215 ?_
                refine fr_iload_n h rfl 1 rfl dX12_act_218 ?_
                refine fr_bipush h rfl dX12_act_219 ?_
                refine fr_icmp_ne (tgt := 229) h dX12_act_221 (by decide) (by omega) (by omega) (fun c103 => by exfalso; omega) (fun c103 => ?_)
                refine fr_bipush h rfl dX12_act_224 ?_
                refine fr_goto (tgt := 231) h dX12_act_226 (by decide) ?_
                refine fr_iload_n h rfl 2 rfl dX12_act_231 ?_
                refine fr_iast h (SA_a SA_1) (by omega) (by omega) ((SA_r SA_1 102).trans sg_size) (by omega) (by omega) dX12_act_232 ?_
                refine fr_mem (fun x104 m105 => ?_)
                refine fr_iconst h dX12_act_233 ?_
                exact fr_zret h rfl hq (by omega) ⟨(by omega), (MI_cong e0 (fun i a b => fm_rd_i m105 (by omega))), (fun q => by exfalso; omega), (fun a k0 => (fm_up_row m105 (by omega)))⟩ dX12_act_234
              ·
                refine fr_iconst h dX12_act_212 ?_
                exact fr_zret h rfl hq (by omega) ⟨(by omega), e0, (fun _ => rfl), (fun a _ => rfl)⟩ dX12_act_213
set_option maxHeartbeats 8000000 in
theorem c_X12_day (x : Mm) (e0 : GI x) (e1 : x 0 21 ≤ 2000) : CnI YM yX12_day cX12_day 3 .int 5 107 (fun G => [vr G 0]) x (fun z y' => (y' 0 5 = 0) ∧ (y' 0 2 = 0) ∧ (CHG x y') ∧ (GI y') ∧ (∀ a : Int, (a < 0 ∨ 0 < a) → (a < 1 ∨ 1 < a) → (a < 3 ∨ 3 < a) → (a < 8 ∨ 9 < a) → (a < 11 ∨ 11 < a) → y' a = x a) ∧ (∀ i : Int, i ≠ 2 → i ≠ 6 → i ≠ 7 → i ≠ 8 → i ≠ 9 → i ≠ 10 → i ≠ 4 → i ≠ 5 → i ≠ 18 → i ≠ 21 → y' 0 i = x 0 i)) := by
  refine cn_I (by decide) (fun _ => Nat.le_of_ble_eq_true rfl) (fun G C h hq => ?_)
  have h : OK YM G C cX12_day RX12 3 (some .int) 5 107 := h
  show FW YM G C 3 x 0 [(0, vr G 0)] []
  have e12 := e0.2.2.2
  refine fr_aload_n h rfl 0 rfl dX12_day_0 ?_
  refine fr_iconst h dX12_day_1 ?_
  refine fr_puti (iz := 5) h kX12 fX12_94 at_0M rfl rfl (by decide) (by decide) rfl (by decide +kernel) rfM_5 (by omega) (by omega) dX12_day_2 ?_
  refine fr_mem (fun x1 m2 => ?_)
  refine fr_aload_n h rfl 0 rfl dX12_day_5 ?_
  refine fr_bipush h rfl dX12_day_6 ?_
  refine fr_cvV h kX12 at_0M wX12_beginText lX12_151 (c_X12_beginText x1 60 (by omega) (by omega) (by omega)) rfl (by decide) (by decide) rfl (Nat.le_of_ble_eq_true rfl) dX12_day_8 (fun x3 p6 => ?_)
  obtain ⟨p7, p8, p9, p10, p11, p12, f13, f14⟩ := p6
  refine fr_iconst h dX12_day_11 ?_
  refine fr_istore_n (L' := [(0, vr G 0), (1, vi 0)]) h rfl dX12_day_12 (by decide) [1, 0] rfl ?_
  have HL15 : ∀ (n15 : Nat) (l1_15 : Int) (x_15 : Mm), fm_r l1_15 → 0 ≤ l1_15 → l1_15 ≤ 61 → (l1_15 ≤ x_15 0 9 ∨ x_15 0 10 ≠ (-1)) → x_15 0 9 ≤ x_15 0 8 → (∀ a : Int, (a < 0 ∨ 0 < a) → (a < 11 ∨ 11 < a) → x_15 a = x3 a) → (∀ i : Int, i ≠ 9 → i ≠ 10 → x_15 0 i = x3 0 i) → (61 - l1_15) < n15 → FW YM G C 3 x_15 13 [(0, vr G 0), (1, vi l1_15)] [] := by
    intro n15
    induction n15 with
    | zero =>
      intro l1_15 x_15 g15_0 g15_1 g15_2 g15_3 g15_4 g15_5 g15_6 g15_7
      exfalso; omega
    | succ n15 ih15 =>
      intro l1_15 x_15 g15_0 g15_1 g15_2 g15_3 g15_4 g15_5 g15_6 g15_7
      refine fr_aload_n h rfl 0 rfl dX12_day_13 ?_
      refine fr_cvI h kX12 at_0M wX12_fine lX12_131 (c_X12_fine x_15) rfl (by decide) (by decide) rfl (Nat.le_of_ble_eq_true rfl) dX12_day_14 (fun z17 x16 w18 p19 => ?_)
      obtain ⟨p20, p21, y22⟩ := p19
      rw [y22]
      clear y22
      refine fr_if_eq (tgt := 44) h dX12_day_17 (by decide) (by omega) (fun c23 => ?_) (fun c23 => ?_)
      ·
        refine fr_aload_n h rfl 0 rfl dX12_day_44 ?_
        refine fr_cvI h kX12 at_0M wX12_wasRight lX12_158 (c_X12_wasRight x_15) rfl (by decide) (by decide) rfl (Nat.le_of_ble_eq_true rfl) dX12_day_45 (fun z25 x24 w26 p27 => ?_)
        obtain ⟨p28, p29, p30, f31, f32⟩ := p27
        refine fr_if_ne (tgt := 58) h dX12_day_48 (by decide) (by omega) (fun c33 => ?_) (fun c33 => ?_)
        ·
          refine fr_aload_n h rfl 0 rfl dX12_day_58 ?_
          refine fr_getc (z := 1) (iz := 0) h kX12 fX12_9 at_0M rfl rfl rfM_0 (by omega) dX12_day_59 ?_
          refine fr_aload_n h rfl 0 rfl dX12_day_62 ?_
          refine fr_getc (z := 9) (iz := 19) h kX12 fX12_36 at_0M rfl rfl rfM_19 (by omega) dX12_day_63 ?_
          refine fr_iconst h dX12_day_66 ?_
          refine fr_csV h wX12_lay lX12_231 (c_X12_lay x24 1 SA_1 9 106 (by unfold LTN; omega) 0 (by omega) (by omega) (by omega) (by omega) (by omega)) rfl (by decide) (by decide) rfl (Nat.le_of_ble_eq_true rfl) dX12_day_67 (fun x34 p37 => ?_)
          obtain ⟨p38, p39, f40⟩ := p37
          have hMA : MI (x34 9) := MI_cong (by rw [show x24 1 = x_15 1 from (f31 1 (by omega))]; exact (by rw [show x_15 1 = x3 1 from (g15_5 1 (by omega) (by omega))]; exact (by rw [show x3 1 = x1 1 from (f13 1 (by omega))]; exact (by rw [show x1 1 = x 1 from (fm_up_row m2 (by omega))]; exact e0.1)))) (fun i a b => (congrArg (x34 9) (Int.zero_add i).symm).trans (p38 i (by omega) (by omega)))
          refine fr_iconst h dX12_day_70 ?_
          refine fr_istore_n (L' := [(0, vr G 0), (1, vi l1_15), (2, vi 0)]) h rfl dX12_day_71 (by decide) [1, 2, 0] rfl ?_
          have HL41 : ∀ (n41 : Nat) (l2_41 : Int) (x_41 : Mm), fm_r l2_41 → 0 ≤ l2_41 → l2_41 ≤ 61 → MI (x_41 1) → l2_41 ≤ l1_15 → (l2_41 = 0 → x_41 1 = x 1) → (∀ a : Int, (a < 1 ∨ 1 < a) → x_41 a = x34 a) → (61 - l2_41) < n41 → FW YM G C 3 x_41 72 [(0, vr G 0), (1, vi l1_15), (2, vi l2_41)] [] := by
            intro n41
            induction n41 with
            | zero =>
              intro l2_41 x_41 g41_0 g41_1 g41_2 g41_3 g41_4 g41_5 g41_6 g41_7
              exfalso; omega
            | succ n41 ih41 =>
              intro l2_41 x_41 g41_0 g41_1 g41_2 g41_3 g41_4 g41_5 g41_6 g41_7
              refine fr_iload_n h rfl 2 rfl dX12_day_72 ?_
              refine fr_iload_n h rfl 1 rfl dX12_day_73 ?_
              refine fr_icmp_ge (tgt := 128) h dX12_day_74 (by decide) (by omega) (by omega) (fun c42 => ?_) (fun c42 => ?_)
              ·
                refine fr_iload_n h rfl 2 rfl dX12_day_128 ?_
                refine fr_if_le (tgt := 140) h dX12_day_129 (by decide) (by omega) (fun c43 => ?_) (fun c43 => ?_)
                ·
                  refine fr_aload_n h rfl 0 rfl dX12_day_140 ?_
                  refine fr_iconst h dX12_day_141 ?_
                  refine fr_puti (iz := 4) h kX12 fX12_98 at_0M rfl rfl (by decide) (by decide) rfl (by decide +kernel) rfM_4 (by omega) (by omega) dX12_day_142 ?_
                  refine fr_mem (fun x44 m45 => ?_)
                  refine fr_aload_n h rfl 0 rfl dX12_day_145 ?_
                  refine fr_iload_n h rfl 2 rfl dX12_day_146 ?_
                  refine fr_iload_n h rfl 1 rfl dX12_day_147 ?_
                  refine fr_icmp_ge (tgt := 155) h dX12_day_148 (by decide) (by omega) (by omega) (fun c46 => ?_) (fun c46 => ?_)
                  ·
                    refine fr_lconst (z := 0) h rfl dX12_day_155 ?_
                    have r47 := (fm_rd_s m45)
                    refine fr_cvV h kX12 at_0M wX12_tell lX12_269 (c_X12_tell x44 0 (by omega) (by omega)) rfl (by decide) (by decide) rfl (Nat.le_of_ble_eq_true rfl) dX12_day_156 (fun x48 p51 => ?_)
                    obtain ⟨p52, f53, f54⟩ := p51
                    refine fr_iload_n h rfl 2 rfl dX12_day_159 ?_
                    have r55 := (f54 5 (by decide))
                    have r56 := r55.trans (fm_rd_i (a := 0) (b := 5) m45 (by decide))
                    have r57 := r56.trans (congrFun (g41_6 0 (by omega)) 5)
                    have r58 := r57.trans (congrFun (f40 0 (by omega)) 5)
                    have r59 := r58.trans (f32 5 (by decide))
                    have r60 := r59.trans (g15_6 5 (by decide) (by decide))
                    have r61 := r60.trans (f14 5 (by decide) (by decide) (by decide) (by decide) (by decide) (by decide))
                    have r62 := r61.trans (fm_rd_s m2)
                    have r63 := (f54 2 (by decide))
                    have r64 := r63.trans (fm_rd_i (a := 0) (b := 2) m45 (by decide))
                    have r65 := r64.trans (congrFun (g41_6 0 (by omega)) 2)
                    have r66 := r65.trans (congrFun (f40 0 (by omega)) 2)
                    have r67 := r66.trans (f32 2 (by decide))
                    have r68 := r67.trans (g15_6 2 (by decide) (by decide))
                    have r69 := (fm_rd_i (a := 0) (b := 2) m2 (by decide))
                    have r70 := (f54 21 (by decide))
                    have r71 := r70.trans (fm_rd_i (a := 0) (b := 21) m45 (by decide))
                    have r72 := r71.trans (congrFun (g41_6 0 (by omega)) 21)
                    have r73 := r72.trans (congrFun (f40 0 (by omega)) 21)
                    have r74 := r73.trans (f32 21 (by decide))
                    have r75 := r74.trans (g15_6 21 (by decide) (by decide))
                    have r76 := r75.trans (f14 21 (by decide) (by decide) (by decide) (by decide) (by decide) (by decide))
                    have r77 := r76.trans (fm_rd_i (a := 0) (b := 21) m2 (by decide))
                    have r78 := (f54 12 (by decide))
                    have r79 := r78.trans (fm_rd_i (a := 0) (b := 12) m45 (by decide))
                    have r80 := r79.trans (congrFun (g41_6 0 (by omega)) 12)
                    have r81 := r80.trans (congrFun (f40 0 (by omega)) 12)
                    have r82 := r81.trans (f32 12 (by decide))
                    have r83 := r82.trans (g15_6 12 (by decide) (by decide))
                    have r84 := r83.trans (f14 12 (by decide) (by decide) (by decide) (by decide) (by decide) (by decide))
                    have r85 := r84.trans (fm_rd_i (a := 0) (b := 12) m2 (by decide))
                    exact fr_iret h hq (by omega) ⟨(by omega), (by omega), (Or.inl ⟨(by omega), (((f53 1 (by omega) (by omega)).trans (fm_up_row m45 (by omega)))).trans (g41_5 (by omega))⟩), ⟨(by rw [show x48 1 = x44 1 from (f53 1 (by omega) (by omega))]; exact (by rw [show x44 1 = x_41 1 from (fm_up_row m45 (by omega))]; exact g41_3)), (by rw [show x48 8 = x 8 from ((f53 8 (by omega) (by omega)).trans ((fm_up_row m45 (by omega)).trans ((g41_6 8 (by omega)).trans ((f40 8 (by omega)).trans ((f31 8 (by omega)).trans ((g15_5 8 (by omega) (by omega)).trans ((f13 8 (by omega)).trans (fm_up_row m2 (by omega)))))))))]; exact e0.2.1), (by rw [show x48 26 = x 26 from ((f53 26 (by omega) (by omega)).trans ((fm_up_row m45 (by omega)).trans ((g41_6 26 (by omega)).trans ((f40 26 (by omega)).trans ((f31 26 (by omega)).trans ((g15_5 26 (by omega) (by omega)).trans ((f13 26 (by omega)).trans (fm_up_row m2 (by omega)))))))))]; exact e0.2.2.1), (by have := e0.2.2.2; omega)⟩, (fun a k0 k1 k2 k3 k4 => ((f53 a (by omega) (by omega)).trans ((fm_up_row m45 (by omega)).trans ((g41_6 a (by omega)).trans ((f40 a (by omega)).trans ((f31 a (by omega)).trans ((g15_5 a (by omega) (by omega)).trans ((f13 a (by omega)).trans (fm_up_row m2 (by omega)))))))))), (fun i k0 k1 k2 k3 k4 k5 k6 k7 k8 k9 => ((f54 i (by omega)).trans ((fm_rd_i (a := 0) (b := i) m45 (by omega)).trans ((congrFun (g41_6 0 (by omega)) i).trans ((congrFun (f40 0 (by omega)) i).trans ((f32 i (by omega)).trans ((g15_6 i (by omega) (by omega)).trans ((f14 i (by omega) (by omega) (by omega) (by omega) (by omega) (by omega)).trans (fm_rd_i (a := 0) (b := i) m2 (by omega))))))))))⟩ dX12_day_160
                  ·
                    refine fr_lconst (z := 1) h rfl dX12_day_151 ?_
                    refine fr_goto (tgt := 156) h dX12_day_152 (by decide) ?_
                    have r86 := (fm_rd_s m45)
                    refine fr_cvV h kX12 at_0M wX12_tell lX12_269 (c_X12_tell x44 1 (by omega) (by omega)) rfl (by decide) (by decide) rfl (Nat.le_of_ble_eq_true rfl) dX12_day_156 (fun x87 p90 => ?_)
                    obtain ⟨p91, f92, f93⟩ := p90
                    refine fr_iload_n h rfl 2 rfl dX12_day_159 ?_
                    have r94 := (f93 5 (by decide))
                    have r95 := r94.trans (fm_rd_i (a := 0) (b := 5) m45 (by decide))
                    have r96 := r95.trans (congrFun (g41_6 0 (by omega)) 5)
                    have r97 := r96.trans (congrFun (f40 0 (by omega)) 5)
                    have r98 := r97.trans (f32 5 (by decide))
                    have r99 := r98.trans (g15_6 5 (by decide) (by decide))
                    have r100 := r99.trans (f14 5 (by decide) (by decide) (by decide) (by decide) (by decide) (by decide))
                    have r101 := r100.trans (fm_rd_s m2)
                    have r102 := (f93 2 (by decide))
                    have r103 := r102.trans (fm_rd_i (a := 0) (b := 2) m45 (by decide))
                    have r104 := r103.trans (congrFun (g41_6 0 (by omega)) 2)
                    have r105 := r104.trans (congrFun (f40 0 (by omega)) 2)
                    have r106 := r105.trans (f32 2 (by decide))
                    have r107 := r106.trans (g15_6 2 (by decide) (by decide))
                    have r108 := (fm_rd_i (a := 0) (b := 2) m2 (by decide))
                    have r109 := (f93 21 (by decide))
                    have r110 := r109.trans (fm_rd_i (a := 0) (b := 21) m45 (by decide))
                    have r111 := r110.trans (congrFun (g41_6 0 (by omega)) 21)
                    have r112 := r111.trans (congrFun (f40 0 (by omega)) 21)
                    have r113 := r112.trans (f32 21 (by decide))
                    have r114 := r113.trans (g15_6 21 (by decide) (by decide))
                    have r115 := r114.trans (f14 21 (by decide) (by decide) (by decide) (by decide) (by decide) (by decide))
                    have r116 := r115.trans (fm_rd_i (a := 0) (b := 21) m2 (by decide))
                    have r117 := (f93 12 (by decide))
                    have r118 := r117.trans (fm_rd_i (a := 0) (b := 12) m45 (by decide))
                    have r119 := r118.trans (congrFun (g41_6 0 (by omega)) 12)
                    have r120 := r119.trans (congrFun (f40 0 (by omega)) 12)
                    have r121 := r120.trans (f32 12 (by decide))
                    have r122 := r121.trans (g15_6 12 (by decide) (by decide))
                    have r123 := r122.trans (f14 12 (by decide) (by decide) (by decide) (by decide) (by decide) (by decide))
                    have r124 := r123.trans (fm_rd_i (a := 0) (b := 12) m2 (by decide))
                    exact fr_iret h hq (by omega) ⟨(by omega), (by omega), (Or.inl ⟨(by omega), (((f92 1 (by omega) (by omega)).trans (fm_up_row m45 (by omega)))).trans (g41_5 (by omega))⟩), ⟨(by rw [show x87 1 = x44 1 from (f92 1 (by omega) (by omega))]; exact (by rw [show x44 1 = x_41 1 from (fm_up_row m45 (by omega))]; exact g41_3)), (by rw [show x87 8 = x 8 from ((f92 8 (by omega) (by omega)).trans ((fm_up_row m45 (by omega)).trans ((g41_6 8 (by omega)).trans ((f40 8 (by omega)).trans ((f31 8 (by omega)).trans ((g15_5 8 (by omega) (by omega)).trans ((f13 8 (by omega)).trans (fm_up_row m2 (by omega)))))))))]; exact e0.2.1), (by rw [show x87 26 = x 26 from ((f92 26 (by omega) (by omega)).trans ((fm_up_row m45 (by omega)).trans ((g41_6 26 (by omega)).trans ((f40 26 (by omega)).trans ((f31 26 (by omega)).trans ((g15_5 26 (by omega) (by omega)).trans ((f13 26 (by omega)).trans (fm_up_row m2 (by omega)))))))))]; exact e0.2.2.1), (by have := e0.2.2.2; omega)⟩, (fun a k0 k1 k2 k3 k4 => ((f92 a (by omega) (by omega)).trans ((fm_up_row m45 (by omega)).trans ((g41_6 a (by omega)).trans ((f40 a (by omega)).trans ((f31 a (by omega)).trans ((g15_5 a (by omega) (by omega)).trans ((f13 a (by omega)).trans (fm_up_row m2 (by omega)))))))))), (fun i k0 k1 k2 k3 k4 k5 k6 k7 k8 k9 => ((f93 i (by omega)).trans ((fm_rd_i (a := 0) (b := i) m45 (by omega)).trans ((congrFun (g41_6 0 (by omega)) i).trans ((congrFun (f40 0 (by omega)) i).trans ((f32 i (by omega)).trans ((g15_6 i (by omega) (by omega)).trans ((f14 i (by omega) (by omega) (by omega) (by omega) (by omega) (by omega)).trans (fm_rd_i (a := 0) (b := i) m2 (by omega))))))))))⟩ dX12_day_160
                ·
                  refine fr_aload_n h rfl 0 rfl dX12_day_132 ?_
                  refine fr_aload_n h rfl 0 rfl dX12_day_133 ?_
                  refine fr_getc (z := 9) (iz := 19) h kX12 fX12_36 at_0M rfl rfl rfM_19 (by omega) dX12_day_134 ?_
                  refine fr_cvV h kX12 at_0M wX12_change lX12_165 (c_X12_change x_41 9 SA_9 (by rw [show x_41 8 = x 8 from ((g41_6 8 (by omega)).trans ((f40 8 (by omega)).trans ((f31 8 (by omega)).trans ((g15_5 8 (by omega) (by omega)).trans ((f13 8 (by omega)).trans (fm_up_row m2 (by omega)))))))]; exact e0.2.1) (by rw [show x_41 9 = x34 9 from (g41_6 9 (by omega))]; exact hMA)) rfl (by decide) (by decide) rfl (Nat.le_of_ble_eq_true rfl) dX12_day_137 (fun x125 p128 => ?_)
                  obtain ⟨p129, p130, f131, f132⟩ := p128
                  refine fr_aload_n h rfl 0 rfl dX12_day_140 ?_
                  refine fr_iconst h dX12_day_141 ?_
                  refine fr_puti (iz := 4) h kX12 fX12_98 at_0M rfl rfl (by decide) (by decide) rfl (by decide +kernel) rfM_4 (by omega) (by omega) dX12_day_142 ?_
                  refine fr_mem (fun x133 m134 => ?_)
                  refine fr_aload_n h rfl 0 rfl dX12_day_145 ?_
                  refine fr_iload_n h rfl 2 rfl dX12_day_146 ?_
                  refine fr_iload_n h rfl 1 rfl dX12_day_147 ?_
                  refine fr_icmp_ge (tgt := 155) h dX12_day_148 (by decide) (by omega) (by omega) (fun c135 => ?_) (fun c135 => ?_)
                  ·
                    refine fr_lconst (z := 0) h rfl dX12_day_155 ?_
                    have r136 := (fm_rd_s m134)
                    refine fr_cvV h kX12 at_0M wX12_tell lX12_269 (c_X12_tell x133 0 (by omega) (by omega)) rfl (by decide) (by decide) rfl (Nat.le_of_ble_eq_true rfl) dX12_day_156 (fun x137 p140 => ?_)
                    obtain ⟨p141, f142, f143⟩ := p140
                    refine fr_iload_n h rfl 2 rfl dX12_day_159 ?_
                    have r144 := (f143 5 (by decide))
                    have r145 := r144.trans (fm_rd_i (a := 0) (b := 5) m134 (by decide))
                    have r146 := r145.trans (f132 5 (by decide) (by decide))
                    have r147 := r146.trans (congrFun (g41_6 0 (by omega)) 5)
                    have r148 := r147.trans (congrFun (f40 0 (by omega)) 5)
                    have r149 := r148.trans (f32 5 (by decide))
                    have r150 := r149.trans (g15_6 5 (by decide) (by decide))
                    have r151 := r150.trans (f14 5 (by decide) (by decide) (by decide) (by decide) (by decide) (by decide))
                    have r152 := r151.trans (fm_rd_s m2)
                    have r153 := (f143 2 (by decide))
                    have r154 := r153.trans (fm_rd_i (a := 0) (b := 2) m134 (by decide))
                    have r155 := r154.trans (f132 2 (by decide) (by decide))
                    have r156 := r155.trans (congrFun (g41_6 0 (by omega)) 2)
                    have r157 := r156.trans (congrFun (f40 0 (by omega)) 2)
                    have r158 := r157.trans (f32 2 (by decide))
                    have r159 := r158.trans (g15_6 2 (by decide) (by decide))
                    have r160 := (fm_rd_i (a := 0) (b := 2) m2 (by decide))
                    have r161 := (f143 21 (by decide))
                    have r162 := r161.trans (fm_rd_i (a := 0) (b := 21) m134 (by decide))
                    have r163 := (congrFun (g41_6 0 (by omega)) 21)
                    have r164 := r163.trans (congrFun (f40 0 (by omega)) 21)
                    have r165 := r164.trans (f32 21 (by decide))
                    have r166 := r165.trans (g15_6 21 (by decide) (by decide))
                    have r167 := r166.trans (f14 21 (by decide) (by decide) (by decide) (by decide) (by decide) (by decide))
                    have r168 := r167.trans (fm_rd_i (a := 0) (b := 21) m2 (by decide))
                    have r169 := (f143 12 (by decide))
                    have r170 := r169.trans (fm_rd_i (a := 0) (b := 12) m134 (by decide))
                    have r171 := r170.trans (f132 12 (by decide) (by decide))
                    have r172 := r171.trans (congrFun (g41_6 0 (by omega)) 12)
                    have r173 := r172.trans (congrFun (f40 0 (by omega)) 12)
                    have r174 := r173.trans (f32 12 (by decide))
                    have r175 := r174.trans (g15_6 12 (by decide) (by decide))
                    have r176 := r175.trans (f14 12 (by decide) (by decide) (by decide) (by decide) (by decide) (by decide))
                    have r177 := r176.trans (fm_rd_i (a := 0) (b := 12) m2 (by decide))
                    exact fr_iret h hq (by omega) ⟨(by omega), (by omega), (Or.inr (by omega)), ⟨(by rw [show x137 1 = x133 1 from (f142 1 (by omega) (by omega))]; exact (by rw [show x133 1 = x125 1 from (fm_up_row m134 (by omega))]; exact (by rw [show x125 1 = x_41 1 from (f131 1 (by omega) (by omega))]; exact g41_3))), (by rw [show x137 8 = x125 8 from ((f142 8 (by omega) (by omega)).trans (fm_up_row m134 (by omega)))]; exact p129), (by rw [show x137 26 = x 26 from ((f142 26 (by omega) (by omega)).trans ((fm_up_row m134 (by omega)).trans ((f131 26 (by omega) (by omega)).trans ((g41_6 26 (by omega)).trans ((f40 26 (by omega)).trans ((f31 26 (by omega)).trans ((g15_5 26 (by omega) (by omega)).trans ((f13 26 (by omega)).trans (fm_up_row m2 (by omega))))))))))]; exact e0.2.2.1), (by have := e0.2.2.2; omega)⟩, (fun a k0 k1 k2 k3 k4 => ((f142 a (by omega) (by omega)).trans ((fm_up_row m134 (by omega)).trans ((f131 a (by omega) (by omega)).trans ((g41_6 a (by omega)).trans ((f40 a (by omega)).trans ((f31 a (by omega)).trans ((g15_5 a (by omega) (by omega)).trans ((f13 a (by omega)).trans (fm_up_row m2 (by omega))))))))))), (fun i k0 k1 k2 k3 k4 k5 k6 k7 k8 k9 => ((f143 i (by omega)).trans ((fm_rd_i (a := 0) (b := i) m134 (by omega)).trans ((f132 i (by omega) (by omega)).trans ((congrFun (g41_6 0 (by omega)) i).trans ((congrFun (f40 0 (by omega)) i).trans ((f32 i (by omega)).trans ((g15_6 i (by omega) (by omega)).trans ((f14 i (by omega) (by omega) (by omega) (by omega) (by omega) (by omega)).trans (fm_rd_i (a := 0) (b := i) m2 (by omega)))))))))))⟩ dX12_day_160
                  ·
                    refine fr_lconst (z := 1) h rfl dX12_day_151 ?_
                    refine fr_goto (tgt := 156) h dX12_day_152 (by decide) ?_
                    have r178 := (fm_rd_s m134)
                    refine fr_cvV h kX12 at_0M wX12_tell lX12_269 (c_X12_tell x133 1 (by omega) (by omega)) rfl (by decide) (by decide) rfl (Nat.le_of_ble_eq_true rfl) dX12_day_156 (fun x179 p182 => ?_)
                    obtain ⟨p183, f184, f185⟩ := p182
                    refine fr_iload_n h rfl 2 rfl dX12_day_159 ?_
                    have r186 := (f185 5 (by decide))
                    have r187 := r186.trans (fm_rd_i (a := 0) (b := 5) m134 (by decide))
                    have r188 := r187.trans (f132 5 (by decide) (by decide))
                    have r189 := r188.trans (congrFun (g41_6 0 (by omega)) 5)
                    have r190 := r189.trans (congrFun (f40 0 (by omega)) 5)
                    have r191 := r190.trans (f32 5 (by decide))
                    have r192 := r191.trans (g15_6 5 (by decide) (by decide))
                    have r193 := r192.trans (f14 5 (by decide) (by decide) (by decide) (by decide) (by decide) (by decide))
                    have r194 := r193.trans (fm_rd_s m2)
                    have r195 := (f185 2 (by decide))
                    have r196 := r195.trans (fm_rd_i (a := 0) (b := 2) m134 (by decide))
                    have r197 := r196.trans (f132 2 (by decide) (by decide))
                    have r198 := r197.trans (congrFun (g41_6 0 (by omega)) 2)
                    have r199 := r198.trans (congrFun (f40 0 (by omega)) 2)
                    have r200 := r199.trans (f32 2 (by decide))
                    have r201 := r200.trans (g15_6 2 (by decide) (by decide))
                    have r202 := (fm_rd_i (a := 0) (b := 2) m2 (by decide))
                    have r203 := (f185 21 (by decide))
                    have r204 := r203.trans (fm_rd_i (a := 0) (b := 21) m134 (by decide))
                    have r205 := (congrFun (g41_6 0 (by omega)) 21)
                    have r206 := r205.trans (congrFun (f40 0 (by omega)) 21)
                    have r207 := r206.trans (f32 21 (by decide))
                    have r208 := r207.trans (g15_6 21 (by decide) (by decide))
                    have r209 := r208.trans (f14 21 (by decide) (by decide) (by decide) (by decide) (by decide) (by decide))
                    have r210 := r209.trans (fm_rd_i (a := 0) (b := 21) m2 (by decide))
                    have r211 := (f185 12 (by decide))
                    have r212 := r211.trans (fm_rd_i (a := 0) (b := 12) m134 (by decide))
                    have r213 := r212.trans (f132 12 (by decide) (by decide))
                    have r214 := r213.trans (congrFun (g41_6 0 (by omega)) 12)
                    have r215 := r214.trans (congrFun (f40 0 (by omega)) 12)
                    have r216 := r215.trans (f32 12 (by decide))
                    have r217 := r216.trans (g15_6 12 (by decide) (by decide))
                    have r218 := r217.trans (f14 12 (by decide) (by decide) (by decide) (by decide) (by decide) (by decide))
                    have r219 := r218.trans (fm_rd_i (a := 0) (b := 12) m2 (by decide))
                    exact fr_iret h hq (by omega) ⟨(by omega), (by omega), (Or.inr (by omega)), ⟨(by rw [show x179 1 = x133 1 from (f184 1 (by omega) (by omega))]; exact (by rw [show x133 1 = x125 1 from (fm_up_row m134 (by omega))]; exact (by rw [show x125 1 = x_41 1 from (f131 1 (by omega) (by omega))]; exact g41_3))), (by rw [show x179 8 = x125 8 from ((f184 8 (by omega) (by omega)).trans (fm_up_row m134 (by omega)))]; exact p129), (by rw [show x179 26 = x 26 from ((f184 26 (by omega) (by omega)).trans ((fm_up_row m134 (by omega)).trans ((f131 26 (by omega) (by omega)).trans ((g41_6 26 (by omega)).trans ((f40 26 (by omega)).trans ((f31 26 (by omega)).trans ((g15_5 26 (by omega) (by omega)).trans ((f13 26 (by omega)).trans (fm_up_row m2 (by omega))))))))))]; exact e0.2.2.1), (by have := e0.2.2.2; omega)⟩, (fun a k0 k1 k2 k3 k4 => ((f184 a (by omega) (by omega)).trans ((fm_up_row m134 (by omega)).trans ((f131 a (by omega) (by omega)).trans ((g41_6 a (by omega)).trans ((f40 a (by omega)).trans ((f31 a (by omega)).trans ((g15_5 a (by omega) (by omega)).trans ((f13 a (by omega)).trans (fm_up_row m2 (by omega))))))))))), (fun i k0 k1 k2 k3 k4 k5 k6 k7 k8 k9 => ((f185 i (by omega)).trans ((fm_rd_i (a := 0) (b := i) m134 (by omega)).trans ((f132 i (by omega) (by omega)).trans ((congrFun (g41_6 0 (by omega)) i).trans ((congrFun (f40 0 (by omega)) i).trans ((f32 i (by omega)).trans ((g15_6 i (by omega) (by omega)).trans ((f14 i (by omega) (by omega) (by omega) (by omega) (by omega) (by omega)).trans (fm_rd_i (a := 0) (b := i) m2 (by omega)))))))))))⟩ dX12_day_160
              ·
                refine fr_aload_n h rfl 0 rfl dX12_day_77 ?_
                refine fr_aload_n h rfl 0 rfl dX12_day_78 ?_
                refine fr_getc (z := 11) (iz := 22) h kX12 fX12_42 at_0M rfl rfl rfM_22 (by omega) dX12_day_79 ?_
                refine fr_iconst h dX12_day_82 ?_
                refine fr_iload_n h rfl 2 rfl dX12_day_83 ?_
                refine fr_imul h dX12_day_84 ?_
                refine fr_iald h arM_11 (by omega) (by omega) (rrM_11 (4 * l2_41)) dX12_day_85 (fun z220 w221 w222 q223 => ?_)
                have r224 := q223.trans (congrFun (g41_6 11 (by omega)) (4 * l2_41))
                have r225 := r224.trans (congrFun (f40 11 (by omega)) (4 * l2_41))
                have r226 := r225.trans (congrFun (f31 11 (by omega)) (4 * l2_41))
                have r227 := (congrFun (f13 11 (by omega)) (4 * l2_41))
                have r228 := r227.trans (fm_rd_k (a := 11) (b := (4 * l2_41)) m2 (by omega))
                refine fr_aload_n h rfl 0 rfl dX12_day_86 ?_
                refine fr_getc (z := 11) (iz := 22) h kX12 fX12_42 at_0M rfl rfl rfM_22 (by omega) dX12_day_87 ?_
                refine fr_iconst h dX12_day_90 ?_
                refine fr_iload_n h rfl 2 rfl dX12_day_91 ?_
                refine fr_imul h dX12_day_92 ?_
                refine fr_iconst h dX12_day_93 ?_
                refine fr_iadd h dX12_day_94 ?_
                refine fr_iald h arM_11 (by omega) (by omega) (rrM_11 ((4 * l2_41) + 1)) dX12_day_95 (fun z229 w230 w231 q232 => ?_)
                have r233 := q232.trans (congrFun (g41_6 11 (by omega)) ((4 * l2_41) + 1))
                have r234 := r233.trans (congrFun (f40 11 (by omega)) ((4 * l2_41) + 1))
                have r235 := r234.trans (congrFun (f31 11 (by omega)) ((4 * l2_41) + 1))
                have r236 := (congrFun (f13 11 (by omega)) ((4 * l2_41) + 1))
                have r237 := r236.trans (fm_rd_k (a := 11) (b := ((4 * l2_41) + 1)) m2 (by omega))
                refine fr_aload_n h rfl 0 rfl dX12_day_96 ?_
                refine fr_getc (z := 11) (iz := 22) h kX12 fX12_42 at_0M rfl rfl rfM_22 (by omega) dX12_day_97 ?_
                refine fr_iconst h dX12_day_100 ?_
                refine fr_iload_n h rfl 2 rfl dX12_day_101 ?_
                refine fr_imul h dX12_day_102 ?_
                refine fr_iconst h dX12_day_103 ?_
                refine fr_iadd h dX12_day_104 ?_
                refine fr_iald h arM_11 (by omega) (by omega) (rrM_11 ((4 * l2_41) + 2)) dX12_day_105 (fun z238 w239 w240 q241 => ?_)
                have r242 := q241.trans (congrFun (g41_6 11 (by omega)) ((4 * l2_41) + 2))
                have r243 := r242.trans (congrFun (f40 11 (by omega)) ((4 * l2_41) + 2))
                have r244 := r243.trans (congrFun (f31 11 (by omega)) ((4 * l2_41) + 2))
                have r245 := (congrFun (f13 11 (by omega)) ((4 * l2_41) + 2))
                have r246 := r245.trans (fm_rd_k (a := 11) (b := ((4 * l2_41) + 2)) m2 (by omega))
                refine fr_aload_n h rfl 0 rfl dX12_day_106 ?_
                refine fr_getc (z := 11) (iz := 22) h kX12 fX12_42 at_0M rfl rfl rfM_22 (by omega) dX12_day_107 ?_
                refine fr_iconst h dX12_day_110 ?_
                refine fr_iload_n h rfl 2 rfl dX12_day_111 ?_
                refine fr_imul h dX12_day_112 ?_
                refine fr_iconst h dX12_day_113 ?_
                refine fr_iadd h dX12_day_114 ?_
                refine fr_iald h arM_11 (by omega) (by omega) (rrM_11 ((4 * l2_41) + 3)) dX12_day_115 (fun z247 w248 w249 q250 => ?_)
                have r251 := q250.trans (congrFun (g41_6 11 (by omega)) ((4 * l2_41) + 3))
                have r252 := r251.trans (congrFun (f40 11 (by omega)) ((4 * l2_41) + 3))
                have r253 := r252.trans (congrFun (f31 11 (by omega)) ((4 * l2_41) + 3))
                have r254 := (congrFun (f13 11 (by omega)) ((4 * l2_41) + 3))
                have r255 := r254.trans (fm_rd_k (a := 11) (b := ((4 * l2_41) + 3)) m2 (by omega))
                refine fr_cvI h kX12 at_0M wX12_act lX12_265 (c_X12_act x_41 z220 z229 z238 z247 (by omega) (by omega) (by omega) (by omega) g41_3) rfl (by decide) (by decide) rfl (Nat.le_of_ble_eq_true rfl) dX12_day_116 (fun z257 x256 w258 p259 => ?_)
                obtain ⟨p260, p261, p262, f263⟩ := p259
                refine fr_if_eq (tgt := 128) h dX12_day_119 (by decide) (by omega) (fun c264 => ?_) (fun c264 => ?_)
                ·
                  refine fr_iload_n h rfl 2 rfl dX12_day_128 ?_
                  refine fr_if_le (tgt := 140) h dX12_day_129 (by decide) (by omega) (fun c265 => ?_) (fun c265 => ?_)
                  ·
                    refine fr_aload_n h rfl 0 rfl dX12_day_140 ?_
                    refine fr_iconst h dX12_day_141 ?_
                    refine fr_puti (iz := 4) h kX12 fX12_98 at_0M rfl rfl (by decide) (by decide) rfl (by decide +kernel) rfM_4 (by omega) (by omega) dX12_day_142 ?_
                    refine fr_mem (fun x266 m267 => ?_)
                    refine fr_aload_n h rfl 0 rfl dX12_day_145 ?_
                    refine fr_iload_n h rfl 2 rfl dX12_day_146 ?_
                    refine fr_iload_n h rfl 1 rfl dX12_day_147 ?_
                    refine fr_icmp_ge (tgt := 155) h dX12_day_148 (by decide) (by omega) (by omega) (fun c268 => by exfalso; omega) (fun c268 => ?_)
                    refine fr_lconst (z := 1) h rfl dX12_day_151 ?_
                    refine fr_goto (tgt := 156) h dX12_day_152 (by decide) ?_
                    have r269 := (fm_rd_s m267)
                    refine fr_cvV h kX12 at_0M wX12_tell lX12_269 (c_X12_tell x266 1 (by omega) (by omega)) rfl (by decide) (by decide) rfl (Nat.le_of_ble_eq_true rfl) dX12_day_156 (fun x270 p273 => ?_)
                    obtain ⟨p274, f275, f276⟩ := p273
                    refine fr_iload_n h rfl 2 rfl dX12_day_159 ?_
                    have r277 := (f276 5 (by decide))
                    have r278 := r277.trans (fm_rd_i (a := 0) (b := 5) m267 (by decide))
                    have r279 := r278.trans (congrFun (f263 0 (by omega)) 5)
                    have r280 := r279.trans (congrFun (g41_6 0 (by omega)) 5)
                    have r281 := r280.trans (congrFun (f40 0 (by omega)) 5)
                    have r282 := r281.trans (f32 5 (by decide))
                    have r283 := r282.trans (g15_6 5 (by decide) (by decide))
                    have r284 := r283.trans (f14 5 (by decide) (by decide) (by decide) (by decide) (by decide) (by decide))
                    have r285 := r284.trans (fm_rd_s m2)
                    have r286 := (f276 2 (by decide))
                    have r287 := r286.trans (fm_rd_i (a := 0) (b := 2) m267 (by decide))
                    have r288 := r287.trans (congrFun (f263 0 (by omega)) 2)
                    have r289 := r288.trans (congrFun (g41_6 0 (by omega)) 2)
                    have r290 := r289.trans (congrFun (f40 0 (by omega)) 2)
                    have r291 := r290.trans (f32 2 (by decide))
                    have r292 := r291.trans (g15_6 2 (by decide) (by decide))
                    have r293 := (fm_rd_i (a := 0) (b := 2) m2 (by decide))
                    have r294 := (f276 21 (by decide))
                    have r295 := r294.trans (fm_rd_i (a := 0) (b := 21) m267 (by decide))
                    have r296 := r295.trans (congrFun (f263 0 (by omega)) 21)
                    have r297 := r296.trans (congrFun (g41_6 0 (by omega)) 21)
                    have r298 := r297.trans (congrFun (f40 0 (by omega)) 21)
                    have r299 := r298.trans (f32 21 (by decide))
                    have r300 := r299.trans (g15_6 21 (by decide) (by decide))
                    have r301 := r300.trans (f14 21 (by decide) (by decide) (by decide) (by decide) (by decide) (by decide))
                    have r302 := r301.trans (fm_rd_i (a := 0) (b := 21) m2 (by decide))
                    have r303 := (f276 12 (by decide))
                    have r304 := r303.trans (fm_rd_i (a := 0) (b := 12) m267 (by decide))
                    have r305 := r304.trans (congrFun (f263 0 (by omega)) 12)
                    have r306 := r305.trans (congrFun (g41_6 0 (by omega)) 12)
                    have r307 := r306.trans (congrFun (f40 0 (by omega)) 12)
                    have r308 := r307.trans (f32 12 (by decide))
                    have r309 := r308.trans (g15_6 12 (by decide) (by decide))
                    have r310 := r309.trans (f14 12 (by decide) (by decide) (by decide) (by decide) (by decide) (by decide))
                    have r311 := r310.trans (fm_rd_i (a := 0) (b := 12) m2 (by decide))
                    exact fr_iret h hq (by omega) ⟨(by omega), (by omega), (Or.inl ⟨(by omega), (((f275 1 (by omega) (by omega)).trans (fm_up_row m267 (by omega)))).trans ((p262 (by omega)).trans (g41_5 (by omega)))⟩), ⟨(by rw [show x270 1 = x266 1 from (f275 1 (by omega) (by omega))]; exact (by rw [show x266 1 = x256 1 from (fm_up_row m267 (by omega))]; exact p261)), (by rw [show x270 8 = x 8 from ((f275 8 (by omega) (by omega)).trans ((fm_up_row m267 (by omega)).trans ((f263 8 (by omega)).trans ((g41_6 8 (by omega)).trans ((f40 8 (by omega)).trans ((f31 8 (by omega)).trans ((g15_5 8 (by omega) (by omega)).trans ((f13 8 (by omega)).trans (fm_up_row m2 (by omega))))))))))]; exact e0.2.1), (by rw [show x270 26 = x 26 from ((f275 26 (by omega) (by omega)).trans ((fm_up_row m267 (by omega)).trans ((f263 26 (by omega)).trans ((g41_6 26 (by omega)).trans ((f40 26 (by omega)).trans ((f31 26 (by omega)).trans ((g15_5 26 (by omega) (by omega)).trans ((f13 26 (by omega)).trans (fm_up_row m2 (by omega))))))))))]; exact e0.2.2.1), (by have := e0.2.2.2; omega)⟩, (fun a k0 k1 k2 k3 k4 => ((f275 a (by omega) (by omega)).trans ((fm_up_row m267 (by omega)).trans ((f263 a (by omega)).trans ((g41_6 a (by omega)).trans ((f40 a (by omega)).trans ((f31 a (by omega)).trans ((g15_5 a (by omega) (by omega)).trans ((f13 a (by omega)).trans (fm_up_row m2 (by omega))))))))))), (fun i k0 k1 k2 k3 k4 k5 k6 k7 k8 k9 => ((f276 i (by omega)).trans ((fm_rd_i (a := 0) (b := i) m267 (by omega)).trans ((congrFun (f263 0 (by omega)) i).trans ((congrFun (g41_6 0 (by omega)) i).trans ((congrFun (f40 0 (by omega)) i).trans ((f32 i (by omega)).trans ((g15_6 i (by omega) (by omega)).trans ((f14 i (by omega) (by omega) (by omega) (by omega) (by omega) (by omega)).trans (fm_rd_i (a := 0) (b := i) m2 (by omega)))))))))))⟩ dX12_day_160
                  ·
                    refine fr_aload_n h rfl 0 rfl dX12_day_132 ?_
                    refine fr_aload_n h rfl 0 rfl dX12_day_133 ?_
                    refine fr_getc (z := 9) (iz := 19) h kX12 fX12_36 at_0M rfl rfl rfM_19 (by omega) dX12_day_134 ?_
                    refine fr_cvV h kX12 at_0M wX12_change lX12_165 (c_X12_change x256 9 SA_9 (by rw [show x256 8 = x 8 from ((f263 8 (by omega)).trans ((g41_6 8 (by omega)).trans ((f40 8 (by omega)).trans ((f31 8 (by omega)).trans ((g15_5 8 (by omega) (by omega)).trans ((f13 8 (by omega)).trans (fm_up_row m2 (by omega))))))))]; exact e0.2.1) (by rw [show x256 9 = x34 9 from ((f263 9 (by omega)).trans (g41_6 9 (by omega)))]; exact hMA)) rfl (by decide) (by decide) rfl (Nat.le_of_ble_eq_true rfl) dX12_day_137 (fun x312 p315 => ?_)
                    obtain ⟨p316, p317, f318, f319⟩ := p315
                    refine fr_aload_n h rfl 0 rfl dX12_day_140 ?_
                    refine fr_iconst h dX12_day_141 ?_
                    refine fr_puti (iz := 4) h kX12 fX12_98 at_0M rfl rfl (by decide) (by decide) rfl (by decide +kernel) rfM_4 (by omega) (by omega) dX12_day_142 ?_
                    refine fr_mem (fun x320 m321 => ?_)
                    refine fr_aload_n h rfl 0 rfl dX12_day_145 ?_
                    refine fr_iload_n h rfl 2 rfl dX12_day_146 ?_
                    refine fr_iload_n h rfl 1 rfl dX12_day_147 ?_
                    refine fr_icmp_ge (tgt := 155) h dX12_day_148 (by decide) (by omega) (by omega) (fun c322 => ?_) (fun c322 => ?_)
                    ·
                      refine fr_lconst (z := 0) h rfl dX12_day_155 ?_
                      have r323 := (fm_rd_s m321)
                      refine fr_cvV h kX12 at_0M wX12_tell lX12_269 (c_X12_tell x320 0 (by omega) (by omega)) rfl (by decide) (by decide) rfl (Nat.le_of_ble_eq_true rfl) dX12_day_156 (fun x324 p327 => ?_)
                      obtain ⟨p328, f329, f330⟩ := p327
                      refine fr_iload_n h rfl 2 rfl dX12_day_159 ?_
                      have r331 := (f330 5 (by decide))
                      have r332 := r331.trans (fm_rd_i (a := 0) (b := 5) m321 (by decide))
                      have r333 := r332.trans (f319 5 (by decide) (by decide))
                      have r334 := r333.trans (congrFun (f263 0 (by omega)) 5)
                      have r335 := r334.trans (congrFun (g41_6 0 (by omega)) 5)
                      have r336 := r335.trans (congrFun (f40 0 (by omega)) 5)
                      have r337 := r336.trans (f32 5 (by decide))
                      have r338 := r337.trans (g15_6 5 (by decide) (by decide))
                      have r339 := r338.trans (f14 5 (by decide) (by decide) (by decide) (by decide) (by decide) (by decide))
                      have r340 := r339.trans (fm_rd_s m2)
                      have r341 := (f330 2 (by decide))
                      have r342 := r341.trans (fm_rd_i (a := 0) (b := 2) m321 (by decide))
                      have r343 := r342.trans (f319 2 (by decide) (by decide))
                      have r344 := r343.trans (congrFun (f263 0 (by omega)) 2)
                      have r345 := r344.trans (congrFun (g41_6 0 (by omega)) 2)
                      have r346 := r345.trans (congrFun (f40 0 (by omega)) 2)
                      have r347 := r346.trans (f32 2 (by decide))
                      have r348 := r347.trans (g15_6 2 (by decide) (by decide))
                      have r349 := (fm_rd_i (a := 0) (b := 2) m2 (by decide))
                      have r350 := (f330 21 (by decide))
                      have r351 := r350.trans (fm_rd_i (a := 0) (b := 21) m321 (by decide))
                      have r352 := (congrFun (f263 0 (by omega)) 21)
                      have r353 := r352.trans (congrFun (g41_6 0 (by omega)) 21)
                      have r354 := r353.trans (congrFun (f40 0 (by omega)) 21)
                      have r355 := r354.trans (f32 21 (by decide))
                      have r356 := r355.trans (g15_6 21 (by decide) (by decide))
                      have r357 := r356.trans (f14 21 (by decide) (by decide) (by decide) (by decide) (by decide) (by decide))
                      have r358 := r357.trans (fm_rd_i (a := 0) (b := 21) m2 (by decide))
                      have r359 := (f330 12 (by decide))
                      have r360 := r359.trans (fm_rd_i (a := 0) (b := 12) m321 (by decide))
                      have r361 := r360.trans (f319 12 (by decide) (by decide))
                      have r362 := r361.trans (congrFun (f263 0 (by omega)) 12)
                      have r363 := r362.trans (congrFun (g41_6 0 (by omega)) 12)
                      have r364 := r363.trans (congrFun (f40 0 (by omega)) 12)
                      have r365 := r364.trans (f32 12 (by decide))
                      have r366 := r365.trans (g15_6 12 (by decide) (by decide))
                      have r367 := r366.trans (f14 12 (by decide) (by decide) (by decide) (by decide) (by decide) (by decide))
                      have r368 := r367.trans (fm_rd_i (a := 0) (b := 12) m2 (by decide))
                      exact fr_iret h hq (by omega) ⟨(by omega), (by omega), (Or.inr (by omega)), ⟨(by rw [show x324 1 = x320 1 from (f329 1 (by omega) (by omega))]; exact (by rw [show x320 1 = x312 1 from (fm_up_row m321 (by omega))]; exact (by rw [show x312 1 = x256 1 from (f318 1 (by omega) (by omega))]; exact p261))), (by rw [show x324 8 = x312 8 from ((f329 8 (by omega) (by omega)).trans (fm_up_row m321 (by omega)))]; exact p316), (by rw [show x324 26 = x 26 from ((f329 26 (by omega) (by omega)).trans ((fm_up_row m321 (by omega)).trans ((f318 26 (by omega) (by omega)).trans ((f263 26 (by omega)).trans ((g41_6 26 (by omega)).trans ((f40 26 (by omega)).trans ((f31 26 (by omega)).trans ((g15_5 26 (by omega) (by omega)).trans ((f13 26 (by omega)).trans (fm_up_row m2 (by omega)))))))))))]; exact e0.2.2.1), (by have := e0.2.2.2; omega)⟩, (fun a k0 k1 k2 k3 k4 => ((f329 a (by omega) (by omega)).trans ((fm_up_row m321 (by omega)).trans ((f318 a (by omega) (by omega)).trans ((f263 a (by omega)).trans ((g41_6 a (by omega)).trans ((f40 a (by omega)).trans ((f31 a (by omega)).trans ((g15_5 a (by omega) (by omega)).trans ((f13 a (by omega)).trans (fm_up_row m2 (by omega)))))))))))), (fun i k0 k1 k2 k3 k4 k5 k6 k7 k8 k9 => ((f330 i (by omega)).trans ((fm_rd_i (a := 0) (b := i) m321 (by omega)).trans ((f319 i (by omega) (by omega)).trans ((congrFun (f263 0 (by omega)) i).trans ((congrFun (g41_6 0 (by omega)) i).trans ((congrFun (f40 0 (by omega)) i).trans ((f32 i (by omega)).trans ((g15_6 i (by omega) (by omega)).trans ((f14 i (by omega) (by omega) (by omega) (by omega) (by omega) (by omega)).trans (fm_rd_i (a := 0) (b := i) m2 (by omega))))))))))))⟩ dX12_day_160
                    ·
                      refine fr_lconst (z := 1) h rfl dX12_day_151 ?_
                      refine fr_goto (tgt := 156) h dX12_day_152 (by decide) ?_
                      have r369 := (fm_rd_s m321)
                      refine fr_cvV h kX12 at_0M wX12_tell lX12_269 (c_X12_tell x320 1 (by omega) (by omega)) rfl (by decide) (by decide) rfl (Nat.le_of_ble_eq_true rfl) dX12_day_156 (fun x370 p373 => ?_)
                      obtain ⟨p374, f375, f376⟩ := p373
                      refine fr_iload_n h rfl 2 rfl dX12_day_159 ?_
                      have r377 := (f376 5 (by decide))
                      have r378 := r377.trans (fm_rd_i (a := 0) (b := 5) m321 (by decide))
                      have r379 := r378.trans (f319 5 (by decide) (by decide))
                      have r380 := r379.trans (congrFun (f263 0 (by omega)) 5)
                      have r381 := r380.trans (congrFun (g41_6 0 (by omega)) 5)
                      have r382 := r381.trans (congrFun (f40 0 (by omega)) 5)
                      have r383 := r382.trans (f32 5 (by decide))
                      have r384 := r383.trans (g15_6 5 (by decide) (by decide))
                      have r385 := r384.trans (f14 5 (by decide) (by decide) (by decide) (by decide) (by decide) (by decide))
                      have r386 := r385.trans (fm_rd_s m2)
                      have r387 := (f376 2 (by decide))
                      have r388 := r387.trans (fm_rd_i (a := 0) (b := 2) m321 (by decide))
                      have r389 := r388.trans (f319 2 (by decide) (by decide))
                      have r390 := r389.trans (congrFun (f263 0 (by omega)) 2)
                      have r391 := r390.trans (congrFun (g41_6 0 (by omega)) 2)
                      have r392 := r391.trans (congrFun (f40 0 (by omega)) 2)
                      have r393 := r392.trans (f32 2 (by decide))
                      have r394 := r393.trans (g15_6 2 (by decide) (by decide))
                      have r395 := (fm_rd_i (a := 0) (b := 2) m2 (by decide))
                      have r396 := (f376 21 (by decide))
                      have r397 := r396.trans (fm_rd_i (a := 0) (b := 21) m321 (by decide))
                      have r398 := (congrFun (f263 0 (by omega)) 21)
                      have r399 := r398.trans (congrFun (g41_6 0 (by omega)) 21)
                      have r400 := r399.trans (congrFun (f40 0 (by omega)) 21)
                      have r401 := r400.trans (f32 21 (by decide))
                      have r402 := r401.trans (g15_6 21 (by decide) (by decide))
                      have r403 := r402.trans (f14 21 (by decide) (by decide) (by decide) (by decide) (by decide) (by decide))
                      have r404 := r403.trans (fm_rd_i (a := 0) (b := 21) m2 (by decide))
                      have r405 := (f376 12 (by decide))
                      have r406 := r405.trans (fm_rd_i (a := 0) (b := 12) m321 (by decide))
                      have r407 := r406.trans (f319 12 (by decide) (by decide))
                      have r408 := r407.trans (congrFun (f263 0 (by omega)) 12)
                      have r409 := r408.trans (congrFun (g41_6 0 (by omega)) 12)
                      have r410 := r409.trans (congrFun (f40 0 (by omega)) 12)
                      have r411 := r410.trans (f32 12 (by decide))
                      have r412 := r411.trans (g15_6 12 (by decide) (by decide))
                      have r413 := r412.trans (f14 12 (by decide) (by decide) (by decide) (by decide) (by decide) (by decide))
                      have r414 := r413.trans (fm_rd_i (a := 0) (b := 12) m2 (by decide))
                      exact fr_iret h hq (by omega) ⟨(by omega), (by omega), (Or.inr (by omega)), ⟨(by rw [show x370 1 = x320 1 from (f375 1 (by omega) (by omega))]; exact (by rw [show x320 1 = x312 1 from (fm_up_row m321 (by omega))]; exact (by rw [show x312 1 = x256 1 from (f318 1 (by omega) (by omega))]; exact p261))), (by rw [show x370 8 = x312 8 from ((f375 8 (by omega) (by omega)).trans (fm_up_row m321 (by omega)))]; exact p316), (by rw [show x370 26 = x 26 from ((f375 26 (by omega) (by omega)).trans ((fm_up_row m321 (by omega)).trans ((f318 26 (by omega) (by omega)).trans ((f263 26 (by omega)).trans ((g41_6 26 (by omega)).trans ((f40 26 (by omega)).trans ((f31 26 (by omega)).trans ((g15_5 26 (by omega) (by omega)).trans ((f13 26 (by omega)).trans (fm_up_row m2 (by omega)))))))))))]; exact e0.2.2.1), (by have := e0.2.2.2; omega)⟩, (fun a k0 k1 k2 k3 k4 => ((f375 a (by omega) (by omega)).trans ((fm_up_row m321 (by omega)).trans ((f318 a (by omega) (by omega)).trans ((f263 a (by omega)).trans ((g41_6 a (by omega)).trans ((f40 a (by omega)).trans ((f31 a (by omega)).trans ((g15_5 a (by omega) (by omega)).trans ((f13 a (by omega)).trans (fm_up_row m2 (by omega)))))))))))), (fun i k0 k1 k2 k3 k4 k5 k6 k7 k8 k9 => ((f376 i (by omega)).trans ((fm_rd_i (a := 0) (b := i) m321 (by omega)).trans ((f319 i (by omega) (by omega)).trans ((congrFun (f263 0 (by omega)) i).trans ((congrFun (g41_6 0 (by omega)) i).trans ((congrFun (f40 0 (by omega)) i).trans ((f32 i (by omega)).trans ((g15_6 i (by omega) (by omega)).trans ((f14 i (by omega) (by omega) (by omega) (by omega) (by omega) (by omega)).trans (fm_rd_i (a := 0) (b := i) m2 (by omega))))))))))))⟩ dX12_day_160
                ·
                  refine fr_iinc (j := 2) (L' := [(0, vr G 0), (1, vi l1_15), (2, vi (l2_41 + 1))]) h dX12_day_122 rfl (by decide) [1, 2, 0] rfl ?_
                  refine fr_goto (tgt := 72) h dX12_day_125 (by decide) ?_
                  exact ih41 (l2_41 + 1) x256 (by omega) (by omega) (by omega) p261 (by omega) (fun q => by exfalso; omega) (fun a k0 => ((f263 a (by omega)).trans (g41_6 a (by omega)))) (by omega)
          exact HL41 ((61 - 0) + 1 : Int).toNat 0 x34 (by omega) (by omega) (by omega) (by rw [show x34 1 = x24 1 from (f40 1 (by omega))]; exact (by rw [show x24 1 = x_15 1 from (f31 1 (by omega))]; exact (by rw [show x_15 1 = x3 1 from (g15_5 1 (by omega) (by omega))]; exact (by rw [show x3 1 = x1 1 from (f13 1 (by omega))]; exact (by rw [show x1 1 = x 1 from (fm_up_row m2 (by omega))]; exact e0.1))))) (by omega) (fun _ => ((f40 1 (by omega)).trans ((f31 1 (by omega)).trans ((g15_5 1 (by omega) (by omega)).trans ((f13 1 (by omega)).trans (fm_up_row m2 (by omega))))))) (fun a _ => rfl) (by omega)
        ·
          refine fr_iconst h dX12_day_51 ?_
          refine fr_aload_n h rfl 0 rfl dX12_day_52 ?_
          refine fr_geti (iz := 10) h kX12 fX12_124 at_0M rfl rfl (by decide) (by decide) rfM_10 dX12_day_53 (fun z415 w416 w417 q418 => ?_)
          have r419 := (fm_rd_i (a := 0) (b := 10) m2 (by decide))
          refine fr_isub h dX12_day_56 ?_
          have r420 := (f32 5 (by decide))
          have r421 := r420.trans (g15_6 5 (by decide) (by decide))
          have r422 := r421.trans (f14 5 (by decide) (by decide) (by decide) (by decide) (by decide) (by decide))
          have r423 := r422.trans (fm_rd_s m2)
          have r424 := (f32 2 (by decide))
          have r425 := r424.trans (g15_6 2 (by decide) (by decide))
          have r426 := (fm_rd_i (a := 0) (b := 2) m2 (by decide))
          have r427 := (f32 21 (by decide))
          have r428 := r427.trans (g15_6 21 (by decide) (by decide))
          have r429 := r428.trans (f14 21 (by decide) (by decide) (by decide) (by decide) (by decide) (by decide))
          have r430 := r429.trans (fm_rd_i (a := 0) (b := 21) m2 (by decide))
          have r431 := (f32 12 (by decide))
          have r432 := r431.trans (g15_6 12 (by decide) (by decide))
          have r433 := r432.trans (f14 12 (by decide) (by decide) (by decide) (by decide) (by decide) (by decide))
          have r434 := r433.trans (fm_rd_i (a := 0) (b := 12) m2 (by decide))
          exact fr_iret h hq (by omega) ⟨(by omega), (by omega), (Or.inl ⟨(by omega), ((f31 1 (by omega)).trans ((g15_5 1 (by omega) (by omega)).trans ((f13 1 (by omega)).trans (fm_up_row m2 (by omega)))))⟩), ⟨(by rw [show x24 1 = x_15 1 from (f31 1 (by omega))]; exact (by rw [show x_15 1 = x3 1 from (g15_5 1 (by omega) (by omega))]; exact (by rw [show x3 1 = x1 1 from (f13 1 (by omega))]; exact (by rw [show x1 1 = x 1 from (fm_up_row m2 (by omega))]; exact e0.1)))), (by rw [show x24 8 = x 8 from ((f31 8 (by omega)).trans ((g15_5 8 (by omega) (by omega)).trans ((f13 8 (by omega)).trans (fm_up_row m2 (by omega)))))]; exact e0.2.1), (by rw [show x24 26 = x 26 from ((f31 26 (by omega)).trans ((g15_5 26 (by omega) (by omega)).trans ((f13 26 (by omega)).trans (fm_up_row m2 (by omega)))))]; exact e0.2.2.1), (by have := e0.2.2.2; omega)⟩, (fun a k0 k1 k2 k3 k4 => ((f31 a (by omega)).trans ((g15_5 a (by omega) (by omega)).trans ((f13 a (by omega)).trans (fm_up_row m2 (by omega)))))), (fun i k0 k1 k2 k3 k4 k5 k6 k7 k8 k9 => ((f32 i (by omega)).trans ((g15_6 i (by omega) (by omega)).trans ((f14 i (by omega) (by omega) (by omega) (by omega) (by omega) (by omega)).trans (fm_rd_i (a := 0) (b := i) m2 (by omega))))))⟩ dX12_day_57
      ·
        refine fr_aload_n h rfl 0 rfl dX12_day_20 ?_
        refine fr_geti (iz := 9) h kX12 fX12_121 at_0M rfl rfl (by decide) (by decide) rfM_9 dX12_day_21 (fun z435 w436 w437 q438 => ?_)
        have r439 := (fm_rd_i (a := 0) (b := 9) m2 (by decide))
        refine fr_aload_n h rfl 0 rfl dX12_day_24 ?_
        refine fr_geti (iz := 7) h kX12 fX12_115 at_0M rfl rfl (by decide) (by decide) rfM_7 dX12_day_25 (fun z440 w441 w442 q443 => ?_)
        have r444 := q443.trans (g15_6 7 (by decide) (by decide))
        have r445 := (fm_rd_i (a := 0) (b := 7) m2 (by decide))
        refine fr_icmp_ge (tgt := 44) h dX12_day_28 (by decide) (by omega) (by omega) (fun c446 => ?_) (fun c446 => ?_)
        ·
          refine fr_aload_n h rfl 0 rfl dX12_day_44 ?_
          refine fr_cvI h kX12 at_0M wX12_wasRight lX12_158 (c_X12_wasRight x_15) rfl (by decide) (by decide) rfl (Nat.le_of_ble_eq_true rfl) dX12_day_45 (fun z448 x447 w449 p450 => ?_)
          obtain ⟨p451, p452, p453, f454, f455⟩ := p450
          refine fr_if_ne (tgt := 58) h dX12_day_48 (by decide) (by omega) (fun c456 => ?_) (fun c456 => ?_)
          ·
            refine fr_aload_n h rfl 0 rfl dX12_day_58 ?_
            refine fr_getc (z := 1) (iz := 0) h kX12 fX12_9 at_0M rfl rfl rfM_0 (by omega) dX12_day_59 ?_
            refine fr_aload_n h rfl 0 rfl dX12_day_62 ?_
            refine fr_getc (z := 9) (iz := 19) h kX12 fX12_36 at_0M rfl rfl rfM_19 (by omega) dX12_day_63 ?_
            refine fr_iconst h dX12_day_66 ?_
            refine fr_csV h wX12_lay lX12_231 (c_X12_lay x447 1 SA_1 9 106 (by unfold LTN; omega) 0 (by omega) (by omega) (by omega) (by omega) (by omega)) rfl (by decide) (by decide) rfl (Nat.le_of_ble_eq_true rfl) dX12_day_67 (fun x457 p460 => ?_)
            obtain ⟨p461, p462, f463⟩ := p460
            have hMA : MI (x457 9) := MI_cong (by rw [show x447 1 = x_15 1 from (f454 1 (by omega))]; exact (by rw [show x_15 1 = x3 1 from (g15_5 1 (by omega) (by omega))]; exact (by rw [show x3 1 = x1 1 from (f13 1 (by omega))]; exact (by rw [show x1 1 = x 1 from (fm_up_row m2 (by omega))]; exact e0.1)))) (fun i a b => (congrArg (x457 9) (Int.zero_add i).symm).trans (p461 i (by omega) (by omega)))
            refine fr_iconst h dX12_day_70 ?_
            refine fr_istore_n (L' := [(0, vr G 0), (1, vi l1_15), (2, vi 0)]) h rfl dX12_day_71 (by decide) [1, 2, 0] rfl ?_
            have HL464 : ∀ (n464 : Nat) (l2_464 : Int) (x_464 : Mm), fm_r l2_464 → 0 ≤ l2_464 → l2_464 ≤ 61 → MI (x_464 1) → l2_464 ≤ l1_15 → (l2_464 = 0 → x_464 1 = x 1) → (∀ a : Int, (a < 1 ∨ 1 < a) → x_464 a = x457 a) → (61 - l2_464) < n464 → FW YM G C 3 x_464 72 [(0, vr G 0), (1, vi l1_15), (2, vi l2_464)] [] := by
              intro n464
              induction n464 with
              | zero =>
                intro l2_464 x_464 g464_0 g464_1 g464_2 g464_3 g464_4 g464_5 g464_6 g464_7
                exfalso; omega
              | succ n464 ih464 =>
                intro l2_464 x_464 g464_0 g464_1 g464_2 g464_3 g464_4 g464_5 g464_6 g464_7
                refine fr_iload_n h rfl 2 rfl dX12_day_72 ?_
                refine fr_iload_n h rfl 1 rfl dX12_day_73 ?_
                refine fr_icmp_ge (tgt := 128) h dX12_day_74 (by decide) (by omega) (by omega) (fun c465 => ?_) (fun c465 => ?_)
                ·
                  refine fr_iload_n h rfl 2 rfl dX12_day_128 ?_
                  refine fr_if_le (tgt := 140) h dX12_day_129 (by decide) (by omega) (fun c466 => ?_) (fun c466 => ?_)
                  ·
                    refine fr_aload_n h rfl 0 rfl dX12_day_140 ?_
                    refine fr_iconst h dX12_day_141 ?_
                    refine fr_puti (iz := 4) h kX12 fX12_98 at_0M rfl rfl (by decide) (by decide) rfl (by decide +kernel) rfM_4 (by omega) (by omega) dX12_day_142 ?_
                    refine fr_mem (fun x467 m468 => ?_)
                    refine fr_aload_n h rfl 0 rfl dX12_day_145 ?_
                    refine fr_iload_n h rfl 2 rfl dX12_day_146 ?_
                    refine fr_iload_n h rfl 1 rfl dX12_day_147 ?_
                    refine fr_icmp_ge (tgt := 155) h dX12_day_148 (by decide) (by omega) (by omega) (fun c469 => ?_) (fun c469 => ?_)
                    ·
                      refine fr_lconst (z := 0) h rfl dX12_day_155 ?_
                      have r470 := (fm_rd_s m468)
                      refine fr_cvV h kX12 at_0M wX12_tell lX12_269 (c_X12_tell x467 0 (by omega) (by omega)) rfl (by decide) (by decide) rfl (Nat.le_of_ble_eq_true rfl) dX12_day_156 (fun x471 p474 => ?_)
                      obtain ⟨p475, f476, f477⟩ := p474
                      refine fr_iload_n h rfl 2 rfl dX12_day_159 ?_
                      have r478 := (f477 5 (by decide))
                      have r479 := r478.trans (fm_rd_i (a := 0) (b := 5) m468 (by decide))
                      have r480 := r479.trans (congrFun (g464_6 0 (by omega)) 5)
                      have r481 := r480.trans (congrFun (f463 0 (by omega)) 5)
                      have r482 := r481.trans (f455 5 (by decide))
                      have r483 := r482.trans (g15_6 5 (by decide) (by decide))
                      have r484 := r483.trans (f14 5 (by decide) (by decide) (by decide) (by decide) (by decide) (by decide))
                      have r485 := r484.trans (fm_rd_s m2)
                      have r486 := (f477 2 (by decide))
                      have r487 := r486.trans (fm_rd_i (a := 0) (b := 2) m468 (by decide))
                      have r488 := r487.trans (congrFun (g464_6 0 (by omega)) 2)
                      have r489 := r488.trans (congrFun (f463 0 (by omega)) 2)
                      have r490 := r489.trans (f455 2 (by decide))
                      have r491 := r490.trans (g15_6 2 (by decide) (by decide))
                      have r492 := (fm_rd_i (a := 0) (b := 2) m2 (by decide))
                      have r493 := (f477 21 (by decide))
                      have r494 := r493.trans (fm_rd_i (a := 0) (b := 21) m468 (by decide))
                      have r495 := r494.trans (congrFun (g464_6 0 (by omega)) 21)
                      have r496 := r495.trans (congrFun (f463 0 (by omega)) 21)
                      have r497 := r496.trans (f455 21 (by decide))
                      have r498 := r497.trans (g15_6 21 (by decide) (by decide))
                      have r499 := r498.trans (f14 21 (by decide) (by decide) (by decide) (by decide) (by decide) (by decide))
                      have r500 := r499.trans (fm_rd_i (a := 0) (b := 21) m2 (by decide))
                      have r501 := (f477 12 (by decide))
                      have r502 := r501.trans (fm_rd_i (a := 0) (b := 12) m468 (by decide))
                      have r503 := r502.trans (congrFun (g464_6 0 (by omega)) 12)
                      have r504 := r503.trans (congrFun (f463 0 (by omega)) 12)
                      have r505 := r504.trans (f455 12 (by decide))
                      have r506 := r505.trans (g15_6 12 (by decide) (by decide))
                      have r507 := r506.trans (f14 12 (by decide) (by decide) (by decide) (by decide) (by decide) (by decide))
                      have r508 := r507.trans (fm_rd_i (a := 0) (b := 12) m2 (by decide))
                      exact fr_iret h hq (by omega) ⟨(by omega), (by omega), (Or.inl ⟨(by omega), (((f476 1 (by omega) (by omega)).trans (fm_up_row m468 (by omega)))).trans (g464_5 (by omega))⟩), ⟨(by rw [show x471 1 = x467 1 from (f476 1 (by omega) (by omega))]; exact (by rw [show x467 1 = x_464 1 from (fm_up_row m468 (by omega))]; exact g464_3)), (by rw [show x471 8 = x 8 from ((f476 8 (by omega) (by omega)).trans ((fm_up_row m468 (by omega)).trans ((g464_6 8 (by omega)).trans ((f463 8 (by omega)).trans ((f454 8 (by omega)).trans ((g15_5 8 (by omega) (by omega)).trans ((f13 8 (by omega)).trans (fm_up_row m2 (by omega)))))))))]; exact e0.2.1), (by rw [show x471 26 = x 26 from ((f476 26 (by omega) (by omega)).trans ((fm_up_row m468 (by omega)).trans ((g464_6 26 (by omega)).trans ((f463 26 (by omega)).trans ((f454 26 (by omega)).trans ((g15_5 26 (by omega) (by omega)).trans ((f13 26 (by omega)).trans (fm_up_row m2 (by omega)))))))))]; exact e0.2.2.1), (by have := e0.2.2.2; omega)⟩, (fun a k0 k1 k2 k3 k4 => ((f476 a (by omega) (by omega)).trans ((fm_up_row m468 (by omega)).trans ((g464_6 a (by omega)).trans ((f463 a (by omega)).trans ((f454 a (by omega)).trans ((g15_5 a (by omega) (by omega)).trans ((f13 a (by omega)).trans (fm_up_row m2 (by omega)))))))))), (fun i k0 k1 k2 k3 k4 k5 k6 k7 k8 k9 => ((f477 i (by omega)).trans ((fm_rd_i (a := 0) (b := i) m468 (by omega)).trans ((congrFun (g464_6 0 (by omega)) i).trans ((congrFun (f463 0 (by omega)) i).trans ((f455 i (by omega)).trans ((g15_6 i (by omega) (by omega)).trans ((f14 i (by omega) (by omega) (by omega) (by omega) (by omega) (by omega)).trans (fm_rd_i (a := 0) (b := i) m2 (by omega))))))))))⟩ dX12_day_160
                    ·
                      refine fr_lconst (z := 1) h rfl dX12_day_151 ?_
                      refine fr_goto (tgt := 156) h dX12_day_152 (by decide) ?_
                      have r509 := (fm_rd_s m468)
                      refine fr_cvV h kX12 at_0M wX12_tell lX12_269 (c_X12_tell x467 1 (by omega) (by omega)) rfl (by decide) (by decide) rfl (Nat.le_of_ble_eq_true rfl) dX12_day_156 (fun x510 p513 => ?_)
                      obtain ⟨p514, f515, f516⟩ := p513
                      refine fr_iload_n h rfl 2 rfl dX12_day_159 ?_
                      have r517 := (f516 5 (by decide))
                      have r518 := r517.trans (fm_rd_i (a := 0) (b := 5) m468 (by decide))
                      have r519 := r518.trans (congrFun (g464_6 0 (by omega)) 5)
                      have r520 := r519.trans (congrFun (f463 0 (by omega)) 5)
                      have r521 := r520.trans (f455 5 (by decide))
                      have r522 := r521.trans (g15_6 5 (by decide) (by decide))
                      have r523 := r522.trans (f14 5 (by decide) (by decide) (by decide) (by decide) (by decide) (by decide))
                      have r524 := r523.trans (fm_rd_s m2)
                      have r525 := (f516 2 (by decide))
                      have r526 := r525.trans (fm_rd_i (a := 0) (b := 2) m468 (by decide))
                      have r527 := r526.trans (congrFun (g464_6 0 (by omega)) 2)
                      have r528 := r527.trans (congrFun (f463 0 (by omega)) 2)
                      have r529 := r528.trans (f455 2 (by decide))
                      have r530 := r529.trans (g15_6 2 (by decide) (by decide))
                      have r531 := (fm_rd_i (a := 0) (b := 2) m2 (by decide))
                      have r532 := (f516 21 (by decide))
                      have r533 := r532.trans (fm_rd_i (a := 0) (b := 21) m468 (by decide))
                      have r534 := r533.trans (congrFun (g464_6 0 (by omega)) 21)
                      have r535 := r534.trans (congrFun (f463 0 (by omega)) 21)
                      have r536 := r535.trans (f455 21 (by decide))
                      have r537 := r536.trans (g15_6 21 (by decide) (by decide))
                      have r538 := r537.trans (f14 21 (by decide) (by decide) (by decide) (by decide) (by decide) (by decide))
                      have r539 := r538.trans (fm_rd_i (a := 0) (b := 21) m2 (by decide))
                      have r540 := (f516 12 (by decide))
                      have r541 := r540.trans (fm_rd_i (a := 0) (b := 12) m468 (by decide))
                      have r542 := r541.trans (congrFun (g464_6 0 (by omega)) 12)
                      have r543 := r542.trans (congrFun (f463 0 (by omega)) 12)
                      have r544 := r543.trans (f455 12 (by decide))
                      have r545 := r544.trans (g15_6 12 (by decide) (by decide))
                      have r546 := r545.trans (f14 12 (by decide) (by decide) (by decide) (by decide) (by decide) (by decide))
                      have r547 := r546.trans (fm_rd_i (a := 0) (b := 12) m2 (by decide))
                      exact fr_iret h hq (by omega) ⟨(by omega), (by omega), (Or.inl ⟨(by omega), (((f515 1 (by omega) (by omega)).trans (fm_up_row m468 (by omega)))).trans (g464_5 (by omega))⟩), ⟨(by rw [show x510 1 = x467 1 from (f515 1 (by omega) (by omega))]; exact (by rw [show x467 1 = x_464 1 from (fm_up_row m468 (by omega))]; exact g464_3)), (by rw [show x510 8 = x 8 from ((f515 8 (by omega) (by omega)).trans ((fm_up_row m468 (by omega)).trans ((g464_6 8 (by omega)).trans ((f463 8 (by omega)).trans ((f454 8 (by omega)).trans ((g15_5 8 (by omega) (by omega)).trans ((f13 8 (by omega)).trans (fm_up_row m2 (by omega)))))))))]; exact e0.2.1), (by rw [show x510 26 = x 26 from ((f515 26 (by omega) (by omega)).trans ((fm_up_row m468 (by omega)).trans ((g464_6 26 (by omega)).trans ((f463 26 (by omega)).trans ((f454 26 (by omega)).trans ((g15_5 26 (by omega) (by omega)).trans ((f13 26 (by omega)).trans (fm_up_row m2 (by omega)))))))))]; exact e0.2.2.1), (by have := e0.2.2.2; omega)⟩, (fun a k0 k1 k2 k3 k4 => ((f515 a (by omega) (by omega)).trans ((fm_up_row m468 (by omega)).trans ((g464_6 a (by omega)).trans ((f463 a (by omega)).trans ((f454 a (by omega)).trans ((g15_5 a (by omega) (by omega)).trans ((f13 a (by omega)).trans (fm_up_row m2 (by omega)))))))))), (fun i k0 k1 k2 k3 k4 k5 k6 k7 k8 k9 => ((f516 i (by omega)).trans ((fm_rd_i (a := 0) (b := i) m468 (by omega)).trans ((congrFun (g464_6 0 (by omega)) i).trans ((congrFun (f463 0 (by omega)) i).trans ((f455 i (by omega)).trans ((g15_6 i (by omega) (by omega)).trans ((f14 i (by omega) (by omega) (by omega) (by omega) (by omega) (by omega)).trans (fm_rd_i (a := 0) (b := i) m2 (by omega))))))))))⟩ dX12_day_160
                  ·
                    refine fr_aload_n h rfl 0 rfl dX12_day_132 ?_
                    refine fr_aload_n h rfl 0 rfl dX12_day_133 ?_
                    refine fr_getc (z := 9) (iz := 19) h kX12 fX12_36 at_0M rfl rfl rfM_19 (by omega) dX12_day_134 ?_
                    refine fr_cvV h kX12 at_0M wX12_change lX12_165 (c_X12_change x_464 9 SA_9 (by rw [show x_464 8 = x 8 from ((g464_6 8 (by omega)).trans ((f463 8 (by omega)).trans ((f454 8 (by omega)).trans ((g15_5 8 (by omega) (by omega)).trans ((f13 8 (by omega)).trans (fm_up_row m2 (by omega)))))))]; exact e0.2.1) (by rw [show x_464 9 = x457 9 from (g464_6 9 (by omega))]; exact hMA)) rfl (by decide) (by decide) rfl (Nat.le_of_ble_eq_true rfl) dX12_day_137 (fun x548 p551 => ?_)
                    obtain ⟨p552, p553, f554, f555⟩ := p551
                    refine fr_aload_n h rfl 0 rfl dX12_day_140 ?_
                    refine fr_iconst h dX12_day_141 ?_
                    refine fr_puti (iz := 4) h kX12 fX12_98 at_0M rfl rfl (by decide) (by decide) rfl (by decide +kernel) rfM_4 (by omega) (by omega) dX12_day_142 ?_
                    refine fr_mem (fun x556 m557 => ?_)
                    refine fr_aload_n h rfl 0 rfl dX12_day_145 ?_
                    refine fr_iload_n h rfl 2 rfl dX12_day_146 ?_
                    refine fr_iload_n h rfl 1 rfl dX12_day_147 ?_
                    refine fr_icmp_ge (tgt := 155) h dX12_day_148 (by decide) (by omega) (by omega) (fun c558 => ?_) (fun c558 => ?_)
                    ·
                      refine fr_lconst (z := 0) h rfl dX12_day_155 ?_
                      have r559 := (fm_rd_s m557)
                      refine fr_cvV h kX12 at_0M wX12_tell lX12_269 (c_X12_tell x556 0 (by omega) (by omega)) rfl (by decide) (by decide) rfl (Nat.le_of_ble_eq_true rfl) dX12_day_156 (fun x560 p563 => ?_)
                      obtain ⟨p564, f565, f566⟩ := p563
                      refine fr_iload_n h rfl 2 rfl dX12_day_159 ?_
                      have r567 := (f566 5 (by decide))
                      have r568 := r567.trans (fm_rd_i (a := 0) (b := 5) m557 (by decide))
                      have r569 := r568.trans (f555 5 (by decide) (by decide))
                      have r570 := r569.trans (congrFun (g464_6 0 (by omega)) 5)
                      have r571 := r570.trans (congrFun (f463 0 (by omega)) 5)
                      have r572 := r571.trans (f455 5 (by decide))
                      have r573 := r572.trans (g15_6 5 (by decide) (by decide))
                      have r574 := r573.trans (f14 5 (by decide) (by decide) (by decide) (by decide) (by decide) (by decide))
                      have r575 := r574.trans (fm_rd_s m2)
                      have r576 := (f566 2 (by decide))
                      have r577 := r576.trans (fm_rd_i (a := 0) (b := 2) m557 (by decide))
                      have r578 := r577.trans (f555 2 (by decide) (by decide))
                      have r579 := r578.trans (congrFun (g464_6 0 (by omega)) 2)
                      have r580 := r579.trans (congrFun (f463 0 (by omega)) 2)
                      have r581 := r580.trans (f455 2 (by decide))
                      have r582 := r581.trans (g15_6 2 (by decide) (by decide))
                      have r583 := (fm_rd_i (a := 0) (b := 2) m2 (by decide))
                      have r584 := (f566 21 (by decide))
                      have r585 := r584.trans (fm_rd_i (a := 0) (b := 21) m557 (by decide))
                      have r586 := (congrFun (g464_6 0 (by omega)) 21)
                      have r587 := r586.trans (congrFun (f463 0 (by omega)) 21)
                      have r588 := r587.trans (f455 21 (by decide))
                      have r589 := r588.trans (g15_6 21 (by decide) (by decide))
                      have r590 := r589.trans (f14 21 (by decide) (by decide) (by decide) (by decide) (by decide) (by decide))
                      have r591 := r590.trans (fm_rd_i (a := 0) (b := 21) m2 (by decide))
                      have r592 := (f566 12 (by decide))
                      have r593 := r592.trans (fm_rd_i (a := 0) (b := 12) m557 (by decide))
                      have r594 := r593.trans (f555 12 (by decide) (by decide))
                      have r595 := r594.trans (congrFun (g464_6 0 (by omega)) 12)
                      have r596 := r595.trans (congrFun (f463 0 (by omega)) 12)
                      have r597 := r596.trans (f455 12 (by decide))
                      have r598 := r597.trans (g15_6 12 (by decide) (by decide))
                      have r599 := r598.trans (f14 12 (by decide) (by decide) (by decide) (by decide) (by decide) (by decide))
                      have r600 := r599.trans (fm_rd_i (a := 0) (b := 12) m2 (by decide))
                      exact fr_iret h hq (by omega) ⟨(by omega), (by omega), (Or.inr (by omega)), ⟨(by rw [show x560 1 = x556 1 from (f565 1 (by omega) (by omega))]; exact (by rw [show x556 1 = x548 1 from (fm_up_row m557 (by omega))]; exact (by rw [show x548 1 = x_464 1 from (f554 1 (by omega) (by omega))]; exact g464_3))), (by rw [show x560 8 = x548 8 from ((f565 8 (by omega) (by omega)).trans (fm_up_row m557 (by omega)))]; exact p552), (by rw [show x560 26 = x 26 from ((f565 26 (by omega) (by omega)).trans ((fm_up_row m557 (by omega)).trans ((f554 26 (by omega) (by omega)).trans ((g464_6 26 (by omega)).trans ((f463 26 (by omega)).trans ((f454 26 (by omega)).trans ((g15_5 26 (by omega) (by omega)).trans ((f13 26 (by omega)).trans (fm_up_row m2 (by omega))))))))))]; exact e0.2.2.1), (by have := e0.2.2.2; omega)⟩, (fun a k0 k1 k2 k3 k4 => ((f565 a (by omega) (by omega)).trans ((fm_up_row m557 (by omega)).trans ((f554 a (by omega) (by omega)).trans ((g464_6 a (by omega)).trans ((f463 a (by omega)).trans ((f454 a (by omega)).trans ((g15_5 a (by omega) (by omega)).trans ((f13 a (by omega)).trans (fm_up_row m2 (by omega))))))))))), (fun i k0 k1 k2 k3 k4 k5 k6 k7 k8 k9 => ((f566 i (by omega)).trans ((fm_rd_i (a := 0) (b := i) m557 (by omega)).trans ((f555 i (by omega) (by omega)).trans ((congrFun (g464_6 0 (by omega)) i).trans ((congrFun (f463 0 (by omega)) i).trans ((f455 i (by omega)).trans ((g15_6 i (by omega) (by omega)).trans ((f14 i (by omega) (by omega) (by omega) (by omega) (by omega) (by omega)).trans (fm_rd_i (a := 0) (b := i) m2 (by omega)))))))))))⟩ dX12_day_160
                    ·
                      refine fr_lconst (z := 1) h rfl dX12_day_151 ?_
                      refine fr_goto (tgt := 156) h dX12_day_152 (by decide) ?_
                      have r601 := (fm_rd_s m557)
                      refine fr_cvV h kX12 at_0M wX12_tell lX12_269 (c_X12_tell x556 1 (by omega) (by omega)) rfl (by decide) (by decide) rfl (Nat.le_of_ble_eq_true rfl) dX12_day_156 (fun x602 p605 => ?_)
                      obtain ⟨p606, f607, f608⟩ := p605
                      refine fr_iload_n h rfl 2 rfl dX12_day_159 ?_
                      have r609 := (f608 5 (by decide))
                      have r610 := r609.trans (fm_rd_i (a := 0) (b := 5) m557 (by decide))
                      have r611 := r610.trans (f555 5 (by decide) (by decide))
                      have r612 := r611.trans (congrFun (g464_6 0 (by omega)) 5)
                      have r613 := r612.trans (congrFun (f463 0 (by omega)) 5)
                      have r614 := r613.trans (f455 5 (by decide))
                      have r615 := r614.trans (g15_6 5 (by decide) (by decide))
                      have r616 := r615.trans (f14 5 (by decide) (by decide) (by decide) (by decide) (by decide) (by decide))
                      have r617 := r616.trans (fm_rd_s m2)
                      have r618 := (f608 2 (by decide))
                      have r619 := r618.trans (fm_rd_i (a := 0) (b := 2) m557 (by decide))
                      have r620 := r619.trans (f555 2 (by decide) (by decide))
                      have r621 := r620.trans (congrFun (g464_6 0 (by omega)) 2)
                      have r622 := r621.trans (congrFun (f463 0 (by omega)) 2)
                      have r623 := r622.trans (f455 2 (by decide))
                      have r624 := r623.trans (g15_6 2 (by decide) (by decide))
                      have r625 := (fm_rd_i (a := 0) (b := 2) m2 (by decide))
                      have r626 := (f608 21 (by decide))
                      have r627 := r626.trans (fm_rd_i (a := 0) (b := 21) m557 (by decide))
                      have r628 := (congrFun (g464_6 0 (by omega)) 21)
                      have r629 := r628.trans (congrFun (f463 0 (by omega)) 21)
                      have r630 := r629.trans (f455 21 (by decide))
                      have r631 := r630.trans (g15_6 21 (by decide) (by decide))
                      have r632 := r631.trans (f14 21 (by decide) (by decide) (by decide) (by decide) (by decide) (by decide))
                      have r633 := r632.trans (fm_rd_i (a := 0) (b := 21) m2 (by decide))
                      have r634 := (f608 12 (by decide))
                      have r635 := r634.trans (fm_rd_i (a := 0) (b := 12) m557 (by decide))
                      have r636 := r635.trans (f555 12 (by decide) (by decide))
                      have r637 := r636.trans (congrFun (g464_6 0 (by omega)) 12)
                      have r638 := r637.trans (congrFun (f463 0 (by omega)) 12)
                      have r639 := r638.trans (f455 12 (by decide))
                      have r640 := r639.trans (g15_6 12 (by decide) (by decide))
                      have r641 := r640.trans (f14 12 (by decide) (by decide) (by decide) (by decide) (by decide) (by decide))
                      have r642 := r641.trans (fm_rd_i (a := 0) (b := 12) m2 (by decide))
                      exact fr_iret h hq (by omega) ⟨(by omega), (by omega), (Or.inr (by omega)), ⟨(by rw [show x602 1 = x556 1 from (f607 1 (by omega) (by omega))]; exact (by rw [show x556 1 = x548 1 from (fm_up_row m557 (by omega))]; exact (by rw [show x548 1 = x_464 1 from (f554 1 (by omega) (by omega))]; exact g464_3))), (by rw [show x602 8 = x548 8 from ((f607 8 (by omega) (by omega)).trans (fm_up_row m557 (by omega)))]; exact p552), (by rw [show x602 26 = x 26 from ((f607 26 (by omega) (by omega)).trans ((fm_up_row m557 (by omega)).trans ((f554 26 (by omega) (by omega)).trans ((g464_6 26 (by omega)).trans ((f463 26 (by omega)).trans ((f454 26 (by omega)).trans ((g15_5 26 (by omega) (by omega)).trans ((f13 26 (by omega)).trans (fm_up_row m2 (by omega))))))))))]; exact e0.2.2.1), (by have := e0.2.2.2; omega)⟩, (fun a k0 k1 k2 k3 k4 => ((f607 a (by omega) (by omega)).trans ((fm_up_row m557 (by omega)).trans ((f554 a (by omega) (by omega)).trans ((g464_6 a (by omega)).trans ((f463 a (by omega)).trans ((f454 a (by omega)).trans ((g15_5 a (by omega) (by omega)).trans ((f13 a (by omega)).trans (fm_up_row m2 (by omega))))))))))), (fun i k0 k1 k2 k3 k4 k5 k6 k7 k8 k9 => ((f608 i (by omega)).trans ((fm_rd_i (a := 0) (b := i) m557 (by omega)).trans ((f555 i (by omega) (by omega)).trans ((congrFun (g464_6 0 (by omega)) i).trans ((congrFun (f463 0 (by omega)) i).trans ((f455 i (by omega)).trans ((g15_6 i (by omega) (by omega)).trans ((f14 i (by omega) (by omega) (by omega) (by omega) (by omega) (by omega)).trans (fm_rd_i (a := 0) (b := i) m2 (by omega)))))))))))⟩ dX12_day_160
                ·
                  refine fr_aload_n h rfl 0 rfl dX12_day_77 ?_
                  refine fr_aload_n h rfl 0 rfl dX12_day_78 ?_
                  refine fr_getc (z := 11) (iz := 22) h kX12 fX12_42 at_0M rfl rfl rfM_22 (by omega) dX12_day_79 ?_
                  refine fr_iconst h dX12_day_82 ?_
                  refine fr_iload_n h rfl 2 rfl dX12_day_83 ?_
                  refine fr_imul h dX12_day_84 ?_
                  refine fr_iald h arM_11 (by omega) (by omega) (rrM_11 (4 * l2_464)) dX12_day_85 (fun z643 w644 w645 q646 => ?_)
                  have r647 := q646.trans (congrFun (g464_6 11 (by omega)) (4 * l2_464))
                  have r648 := r647.trans (congrFun (f463 11 (by omega)) (4 * l2_464))
                  have r649 := r648.trans (congrFun (f454 11 (by omega)) (4 * l2_464))
                  have r650 := (congrFun (f13 11 (by omega)) (4 * l2_464))
                  have r651 := r650.trans (fm_rd_k (a := 11) (b := (4 * l2_464)) m2 (by omega))
                  refine fr_aload_n h rfl 0 rfl dX12_day_86 ?_
                  refine fr_getc (z := 11) (iz := 22) h kX12 fX12_42 at_0M rfl rfl rfM_22 (by omega) dX12_day_87 ?_
                  refine fr_iconst h dX12_day_90 ?_
                  refine fr_iload_n h rfl 2 rfl dX12_day_91 ?_
                  refine fr_imul h dX12_day_92 ?_
                  refine fr_iconst h dX12_day_93 ?_
                  refine fr_iadd h dX12_day_94 ?_
                  refine fr_iald h arM_11 (by omega) (by omega) (rrM_11 ((4 * l2_464) + 1)) dX12_day_95 (fun z652 w653 w654 q655 => ?_)
                  have r656 := q655.trans (congrFun (g464_6 11 (by omega)) ((4 * l2_464) + 1))
                  have r657 := r656.trans (congrFun (f463 11 (by omega)) ((4 * l2_464) + 1))
                  have r658 := r657.trans (congrFun (f454 11 (by omega)) ((4 * l2_464) + 1))
                  have r659 := (congrFun (f13 11 (by omega)) ((4 * l2_464) + 1))
                  have r660 := r659.trans (fm_rd_k (a := 11) (b := ((4 * l2_464) + 1)) m2 (by omega))
                  refine fr_aload_n h rfl 0 rfl dX12_day_96 ?_
                  refine fr_getc (z := 11) (iz := 22) h kX12 fX12_42 at_0M rfl rfl rfM_22 (by omega) dX12_day_97 ?_
                  refine fr_iconst h dX12_day_100 ?_
                  refine fr_iload_n h rfl 2 rfl dX12_day_101 ?_
                  refine fr_imul h dX12_day_102 ?_
                  refine fr_iconst h dX12_day_103 ?_
                  refine fr_iadd h dX12_day_104 ?_
                  refine fr_iald h arM_11 (by omega) (by omega) (rrM_11 ((4 * l2_464) + 2)) dX12_day_105 (fun z661 w662 w663 q664 => ?_)
                  have r665 := q664.trans (congrFun (g464_6 11 (by omega)) ((4 * l2_464) + 2))
                  have r666 := r665.trans (congrFun (f463 11 (by omega)) ((4 * l2_464) + 2))
                  have r667 := r666.trans (congrFun (f454 11 (by omega)) ((4 * l2_464) + 2))
                  have r668 := (congrFun (f13 11 (by omega)) ((4 * l2_464) + 2))
                  have r669 := r668.trans (fm_rd_k (a := 11) (b := ((4 * l2_464) + 2)) m2 (by omega))
                  refine fr_aload_n h rfl 0 rfl dX12_day_106 ?_
                  refine fr_getc (z := 11) (iz := 22) h kX12 fX12_42 at_0M rfl rfl rfM_22 (by omega) dX12_day_107 ?_
                  refine fr_iconst h dX12_day_110 ?_
                  refine fr_iload_n h rfl 2 rfl dX12_day_111 ?_
                  refine fr_imul h dX12_day_112 ?_
                  refine fr_iconst h dX12_day_113 ?_
                  refine fr_iadd h dX12_day_114 ?_
                  refine fr_iald h arM_11 (by omega) (by omega) (rrM_11 ((4 * l2_464) + 3)) dX12_day_115 (fun z670 w671 w672 q673 => ?_)
                  have r674 := q673.trans (congrFun (g464_6 11 (by omega)) ((4 * l2_464) + 3))
                  have r675 := r674.trans (congrFun (f463 11 (by omega)) ((4 * l2_464) + 3))
                  have r676 := r675.trans (congrFun (f454 11 (by omega)) ((4 * l2_464) + 3))
                  have r677 := (congrFun (f13 11 (by omega)) ((4 * l2_464) + 3))
                  have r678 := r677.trans (fm_rd_k (a := 11) (b := ((4 * l2_464) + 3)) m2 (by omega))
                  refine fr_cvI h kX12 at_0M wX12_act lX12_265 (c_X12_act x_464 z643 z652 z661 z670 (by omega) (by omega) (by omega) (by omega) g464_3) rfl (by decide) (by decide) rfl (Nat.le_of_ble_eq_true rfl) dX12_day_116 (fun z680 x679 w681 p682 => ?_)
                  obtain ⟨p683, p684, p685, f686⟩ := p682
                  refine fr_if_eq (tgt := 128) h dX12_day_119 (by decide) (by omega) (fun c687 => ?_) (fun c687 => ?_)
                  ·
                    refine fr_iload_n h rfl 2 rfl dX12_day_128 ?_
                    refine fr_if_le (tgt := 140) h dX12_day_129 (by decide) (by omega) (fun c688 => ?_) (fun c688 => ?_)
                    ·
                      refine fr_aload_n h rfl 0 rfl dX12_day_140 ?_
                      refine fr_iconst h dX12_day_141 ?_
                      refine fr_puti (iz := 4) h kX12 fX12_98 at_0M rfl rfl (by decide) (by decide) rfl (by decide +kernel) rfM_4 (by omega) (by omega) dX12_day_142 ?_
                      refine fr_mem (fun x689 m690 => ?_)
                      refine fr_aload_n h rfl 0 rfl dX12_day_145 ?_
                      refine fr_iload_n h rfl 2 rfl dX12_day_146 ?_
                      refine fr_iload_n h rfl 1 rfl dX12_day_147 ?_
                      refine fr_icmp_ge (tgt := 155) h dX12_day_148 (by decide) (by omega) (by omega) (fun c691 => by exfalso; omega) (fun c691 => ?_)
                      refine fr_lconst (z := 1) h rfl dX12_day_151 ?_
                      refine fr_goto (tgt := 156) h dX12_day_152 (by decide) ?_
                      have r692 := (fm_rd_s m690)
                      refine fr_cvV h kX12 at_0M wX12_tell lX12_269 (c_X12_tell x689 1 (by omega) (by omega)) rfl (by decide) (by decide) rfl (Nat.le_of_ble_eq_true rfl) dX12_day_156 (fun x693 p696 => ?_)
                      obtain ⟨p697, f698, f699⟩ := p696
                      refine fr_iload_n h rfl 2 rfl dX12_day_159 ?_
                      have r700 := (f699 5 (by decide))
                      have r701 := r700.trans (fm_rd_i (a := 0) (b := 5) m690 (by decide))
                      have r702 := r701.trans (congrFun (f686 0 (by omega)) 5)
                      have r703 := r702.trans (congrFun (g464_6 0 (by omega)) 5)
                      have r704 := r703.trans (congrFun (f463 0 (by omega)) 5)
                      have r705 := r704.trans (f455 5 (by decide))
                      have r706 := r705.trans (g15_6 5 (by decide) (by decide))
                      have r707 := r706.trans (f14 5 (by decide) (by decide) (by decide) (by decide) (by decide) (by decide))
                      have r708 := r707.trans (fm_rd_s m2)
                      have r709 := (f699 2 (by decide))
                      have r710 := r709.trans (fm_rd_i (a := 0) (b := 2) m690 (by decide))
                      have r711 := r710.trans (congrFun (f686 0 (by omega)) 2)
                      have r712 := r711.trans (congrFun (g464_6 0 (by omega)) 2)
                      have r713 := r712.trans (congrFun (f463 0 (by omega)) 2)
                      have r714 := r713.trans (f455 2 (by decide))
                      have r715 := r714.trans (g15_6 2 (by decide) (by decide))
                      have r716 := (fm_rd_i (a := 0) (b := 2) m2 (by decide))
                      have r717 := (f699 21 (by decide))
                      have r718 := r717.trans (fm_rd_i (a := 0) (b := 21) m690 (by decide))
                      have r719 := r718.trans (congrFun (f686 0 (by omega)) 21)
                      have r720 := r719.trans (congrFun (g464_6 0 (by omega)) 21)
                      have r721 := r720.trans (congrFun (f463 0 (by omega)) 21)
                      have r722 := r721.trans (f455 21 (by decide))
                      have r723 := r722.trans (g15_6 21 (by decide) (by decide))
                      have r724 := r723.trans (f14 21 (by decide) (by decide) (by decide) (by decide) (by decide) (by decide))
                      have r725 := r724.trans (fm_rd_i (a := 0) (b := 21) m2 (by decide))
                      have r726 := (f699 12 (by decide))
                      have r727 := r726.trans (fm_rd_i (a := 0) (b := 12) m690 (by decide))
                      have r728 := r727.trans (congrFun (f686 0 (by omega)) 12)
                      have r729 := r728.trans (congrFun (g464_6 0 (by omega)) 12)
                      have r730 := r729.trans (congrFun (f463 0 (by omega)) 12)
                      have r731 := r730.trans (f455 12 (by decide))
                      have r732 := r731.trans (g15_6 12 (by decide) (by decide))
                      have r733 := r732.trans (f14 12 (by decide) (by decide) (by decide) (by decide) (by decide) (by decide))
                      have r734 := r733.trans (fm_rd_i (a := 0) (b := 12) m2 (by decide))
                      exact fr_iret h hq (by omega) ⟨(by omega), (by omega), (Or.inl ⟨(by omega), (((f698 1 (by omega) (by omega)).trans (fm_up_row m690 (by omega)))).trans ((p685 (by omega)).trans (g464_5 (by omega)))⟩), ⟨(by rw [show x693 1 = x689 1 from (f698 1 (by omega) (by omega))]; exact (by rw [show x689 1 = x679 1 from (fm_up_row m690 (by omega))]; exact p684)), (by rw [show x693 8 = x 8 from ((f698 8 (by omega) (by omega)).trans ((fm_up_row m690 (by omega)).trans ((f686 8 (by omega)).trans ((g464_6 8 (by omega)).trans ((f463 8 (by omega)).trans ((f454 8 (by omega)).trans ((g15_5 8 (by omega) (by omega)).trans ((f13 8 (by omega)).trans (fm_up_row m2 (by omega))))))))))]; exact e0.2.1), (by rw [show x693 26 = x 26 from ((f698 26 (by omega) (by omega)).trans ((fm_up_row m690 (by omega)).trans ((f686 26 (by omega)).trans ((g464_6 26 (by omega)).trans ((f463 26 (by omega)).trans ((f454 26 (by omega)).trans ((g15_5 26 (by omega) (by omega)).trans ((f13 26 (by omega)).trans (fm_up_row m2 (by omega))))))))))]; exact e0.2.2.1), (by have := e0.2.2.2; omega)⟩, (fun a k0 k1 k2 k3 k4 => ((f698 a (by omega) (by omega)).trans ((fm_up_row m690 (by omega)).trans ((f686 a (by omega)).trans ((g464_6 a (by omega)).trans ((f463 a (by omega)).trans ((f454 a (by omega)).trans ((g15_5 a (by omega) (by omega)).trans ((f13 a (by omega)).trans (fm_up_row m2 (by omega))))))))))), (fun i k0 k1 k2 k3 k4 k5 k6 k7 k8 k9 => ((f699 i (by omega)).trans ((fm_rd_i (a := 0) (b := i) m690 (by omega)).trans ((congrFun (f686 0 (by omega)) i).trans ((congrFun (g464_6 0 (by omega)) i).trans ((congrFun (f463 0 (by omega)) i).trans ((f455 i (by omega)).trans ((g15_6 i (by omega) (by omega)).trans ((f14 i (by omega) (by omega) (by omega) (by omega) (by omega) (by omega)).trans (fm_rd_i (a := 0) (b := i) m2 (by omega)))))))))))⟩ dX12_day_160
                    ·
                      refine fr_aload_n h rfl 0 rfl dX12_day_132 ?_
                      refine fr_aload_n h rfl 0 rfl dX12_day_133 ?_
                      refine fr_getc (z := 9) (iz := 19) h kX12 fX12_36 at_0M rfl rfl rfM_19 (by omega) dX12_day_134 ?_
                      refine fr_cvV h kX12 at_0M wX12_change lX12_165 (c_X12_change x679 9 SA_9 (by rw [show x679 8 = x 8 from ((f686 8 (by omega)).trans ((g464_6 8 (by omega)).trans ((f463 8 (by omega)).trans ((f454 8 (by omega)).trans ((g15_5 8 (by omega) (by omega)).trans ((f13 8 (by omega)).trans (fm_up_row m2 (by omega))))))))]; exact e0.2.1) (by rw [show x679 9 = x457 9 from ((f686 9 (by omega)).trans (g464_6 9 (by omega)))]; exact hMA)) rfl (by decide) (by decide) rfl (Nat.le_of_ble_eq_true rfl) dX12_day_137 (fun x735 p738 => ?_)
                      obtain ⟨p739, p740, f741, f742⟩ := p738
                      refine fr_aload_n h rfl 0 rfl dX12_day_140 ?_
                      refine fr_iconst h dX12_day_141 ?_
                      refine fr_puti (iz := 4) h kX12 fX12_98 at_0M rfl rfl (by decide) (by decide) rfl (by decide +kernel) rfM_4 (by omega) (by omega) dX12_day_142 ?_
                      refine fr_mem (fun x743 m744 => ?_)
                      refine fr_aload_n h rfl 0 rfl dX12_day_145 ?_
                      refine fr_iload_n h rfl 2 rfl dX12_day_146 ?_
                      refine fr_iload_n h rfl 1 rfl dX12_day_147 ?_
                      refine fr_icmp_ge (tgt := 155) h dX12_day_148 (by decide) (by omega) (by omega) (fun c745 => ?_) (fun c745 => ?_)
                      ·
                        refine fr_lconst (z := 0) h rfl dX12_day_155 ?_
                        have r746 := (fm_rd_s m744)
                        refine fr_cvV h kX12 at_0M wX12_tell lX12_269 (c_X12_tell x743 0 (by omega) (by omega)) rfl (by decide) (by decide) rfl (Nat.le_of_ble_eq_true rfl) dX12_day_156 (fun x747 p750 => ?_)
                        obtain ⟨p751, f752, f753⟩ := p750
                        refine fr_iload_n h rfl 2 rfl dX12_day_159 ?_
                        have r754 := (f753 5 (by decide))
                        have r755 := r754.trans (fm_rd_i (a := 0) (b := 5) m744 (by decide))
                        have r756 := r755.trans (f742 5 (by decide) (by decide))
                        have r757 := r756.trans (congrFun (f686 0 (by omega)) 5)
                        have r758 := r757.trans (congrFun (g464_6 0 (by omega)) 5)
                        have r759 := r758.trans (congrFun (f463 0 (by omega)) 5)
                        have r760 := r759.trans (f455 5 (by decide))
                        have r761 := r760.trans (g15_6 5 (by decide) (by decide))
                        have r762 := r761.trans (f14 5 (by decide) (by decide) (by decide) (by decide) (by decide) (by decide))
                        have r763 := r762.trans (fm_rd_s m2)
                        have r764 := (f753 2 (by decide))
                        have r765 := r764.trans (fm_rd_i (a := 0) (b := 2) m744 (by decide))
                        have r766 := r765.trans (f742 2 (by decide) (by decide))
                        have r767 := r766.trans (congrFun (f686 0 (by omega)) 2)
                        have r768 := r767.trans (congrFun (g464_6 0 (by omega)) 2)
                        have r769 := r768.trans (congrFun (f463 0 (by omega)) 2)
                        have r770 := r769.trans (f455 2 (by decide))
                        have r771 := r770.trans (g15_6 2 (by decide) (by decide))
                        have r772 := (fm_rd_i (a := 0) (b := 2) m2 (by decide))
                        have r773 := (f753 21 (by decide))
                        have r774 := r773.trans (fm_rd_i (a := 0) (b := 21) m744 (by decide))
                        have r775 := (congrFun (f686 0 (by omega)) 21)
                        have r776 := r775.trans (congrFun (g464_6 0 (by omega)) 21)
                        have r777 := r776.trans (congrFun (f463 0 (by omega)) 21)
                        have r778 := r777.trans (f455 21 (by decide))
                        have r779 := r778.trans (g15_6 21 (by decide) (by decide))
                        have r780 := r779.trans (f14 21 (by decide) (by decide) (by decide) (by decide) (by decide) (by decide))
                        have r781 := r780.trans (fm_rd_i (a := 0) (b := 21) m2 (by decide))
                        have r782 := (f753 12 (by decide))
                        have r783 := r782.trans (fm_rd_i (a := 0) (b := 12) m744 (by decide))
                        have r784 := r783.trans (f742 12 (by decide) (by decide))
                        have r785 := r784.trans (congrFun (f686 0 (by omega)) 12)
                        have r786 := r785.trans (congrFun (g464_6 0 (by omega)) 12)
                        have r787 := r786.trans (congrFun (f463 0 (by omega)) 12)
                        have r788 := r787.trans (f455 12 (by decide))
                        have r789 := r788.trans (g15_6 12 (by decide) (by decide))
                        have r790 := r789.trans (f14 12 (by decide) (by decide) (by decide) (by decide) (by decide) (by decide))
                        have r791 := r790.trans (fm_rd_i (a := 0) (b := 12) m2 (by decide))
                        exact fr_iret h hq (by omega) ⟨(by omega), (by omega), (Or.inr (by omega)), ⟨(by rw [show x747 1 = x743 1 from (f752 1 (by omega) (by omega))]; exact (by rw [show x743 1 = x735 1 from (fm_up_row m744 (by omega))]; exact (by rw [show x735 1 = x679 1 from (f741 1 (by omega) (by omega))]; exact p684))), (by rw [show x747 8 = x735 8 from ((f752 8 (by omega) (by omega)).trans (fm_up_row m744 (by omega)))]; exact p739), (by rw [show x747 26 = x 26 from ((f752 26 (by omega) (by omega)).trans ((fm_up_row m744 (by omega)).trans ((f741 26 (by omega) (by omega)).trans ((f686 26 (by omega)).trans ((g464_6 26 (by omega)).trans ((f463 26 (by omega)).trans ((f454 26 (by omega)).trans ((g15_5 26 (by omega) (by omega)).trans ((f13 26 (by omega)).trans (fm_up_row m2 (by omega)))))))))))]; exact e0.2.2.1), (by have := e0.2.2.2; omega)⟩, (fun a k0 k1 k2 k3 k4 => ((f752 a (by omega) (by omega)).trans ((fm_up_row m744 (by omega)).trans ((f741 a (by omega) (by omega)).trans ((f686 a (by omega)).trans ((g464_6 a (by omega)).trans ((f463 a (by omega)).trans ((f454 a (by omega)).trans ((g15_5 a (by omega) (by omega)).trans ((f13 a (by omega)).trans (fm_up_row m2 (by omega)))))))))))), (fun i k0 k1 k2 k3 k4 k5 k6 k7 k8 k9 => ((f753 i (by omega)).trans ((fm_rd_i (a := 0) (b := i) m744 (by omega)).trans ((f742 i (by omega) (by omega)).trans ((congrFun (f686 0 (by omega)) i).trans ((congrFun (g464_6 0 (by omega)) i).trans ((congrFun (f463 0 (by omega)) i).trans ((f455 i (by omega)).trans ((g15_6 i (by omega) (by omega)).trans ((f14 i (by omega) (by omega) (by omega) (by omega) (by omega) (by omega)).trans (fm_rd_i (a := 0) (b := i) m2 (by omega))))))))))))⟩ dX12_day_160
                      ·
                        refine fr_lconst (z := 1) h rfl dX12_day_151 ?_
                        refine fr_goto (tgt := 156) h dX12_day_152 (by decide) ?_
                        have r792 := (fm_rd_s m744)
                        refine fr_cvV h kX12 at_0M wX12_tell lX12_269 (c_X12_tell x743 1 (by omega) (by omega)) rfl (by decide) (by decide) rfl (Nat.le_of_ble_eq_true rfl) dX12_day_156 (fun x793 p796 => ?_)
                        obtain ⟨p797, f798, f799⟩ := p796
                        refine fr_iload_n h rfl 2 rfl dX12_day_159 ?_
                        have r800 := (f799 5 (by decide))
                        have r801 := r800.trans (fm_rd_i (a := 0) (b := 5) m744 (by decide))
                        have r802 := r801.trans (f742 5 (by decide) (by decide))
                        have r803 := r802.trans (congrFun (f686 0 (by omega)) 5)
                        have r804 := r803.trans (congrFun (g464_6 0 (by omega)) 5)
                        have r805 := r804.trans (congrFun (f463 0 (by omega)) 5)
                        have r806 := r805.trans (f455 5 (by decide))
                        have r807 := r806.trans (g15_6 5 (by decide) (by decide))
                        have r808 := r807.trans (f14 5 (by decide) (by decide) (by decide) (by decide) (by decide) (by decide))
                        have r809 := r808.trans (fm_rd_s m2)
                        have r810 := (f799 2 (by decide))
                        have r811 := r810.trans (fm_rd_i (a := 0) (b := 2) m744 (by decide))
                        have r812 := r811.trans (f742 2 (by decide) (by decide))
                        have r813 := r812.trans (congrFun (f686 0 (by omega)) 2)
                        have r814 := r813.trans (congrFun (g464_6 0 (by omega)) 2)
                        have r815 := r814.trans (congrFun (f463 0 (by omega)) 2)
                        have r816 := r815.trans (f455 2 (by decide))
                        have r817 := r816.trans (g15_6 2 (by decide) (by decide))
                        have r818 := (fm_rd_i (a := 0) (b := 2) m2 (by decide))
                        have r819 := (f799 21 (by decide))
                        have r820 := r819.trans (fm_rd_i (a := 0) (b := 21) m744 (by decide))
                        have r821 := (congrFun (f686 0 (by omega)) 21)
                        have r822 := r821.trans (congrFun (g464_6 0 (by omega)) 21)
                        have r823 := r822.trans (congrFun (f463 0 (by omega)) 21)
                        have r824 := r823.trans (f455 21 (by decide))
                        have r825 := r824.trans (g15_6 21 (by decide) (by decide))
                        have r826 := r825.trans (f14 21 (by decide) (by decide) (by decide) (by decide) (by decide) (by decide))
                        have r827 := r826.trans (fm_rd_i (a := 0) (b := 21) m2 (by decide))
                        have r828 := (f799 12 (by decide))
                        have r829 := r828.trans (fm_rd_i (a := 0) (b := 12) m744 (by decide))
                        have r830 := r829.trans (f742 12 (by decide) (by decide))
                        have r831 := r830.trans (congrFun (f686 0 (by omega)) 12)
                        have r832 := r831.trans (congrFun (g464_6 0 (by omega)) 12)
                        have r833 := r832.trans (congrFun (f463 0 (by omega)) 12)
                        have r834 := r833.trans (f455 12 (by decide))
                        have r835 := r834.trans (g15_6 12 (by decide) (by decide))
                        have r836 := r835.trans (f14 12 (by decide) (by decide) (by decide) (by decide) (by decide) (by decide))
                        have r837 := r836.trans (fm_rd_i (a := 0) (b := 12) m2 (by decide))
                        exact fr_iret h hq (by omega) ⟨(by omega), (by omega), (Or.inr (by omega)), ⟨(by rw [show x793 1 = x743 1 from (f798 1 (by omega) (by omega))]; exact (by rw [show x743 1 = x735 1 from (fm_up_row m744 (by omega))]; exact (by rw [show x735 1 = x679 1 from (f741 1 (by omega) (by omega))]; exact p684))), (by rw [show x793 8 = x735 8 from ((f798 8 (by omega) (by omega)).trans (fm_up_row m744 (by omega)))]; exact p739), (by rw [show x793 26 = x 26 from ((f798 26 (by omega) (by omega)).trans ((fm_up_row m744 (by omega)).trans ((f741 26 (by omega) (by omega)).trans ((f686 26 (by omega)).trans ((g464_6 26 (by omega)).trans ((f463 26 (by omega)).trans ((f454 26 (by omega)).trans ((g15_5 26 (by omega) (by omega)).trans ((f13 26 (by omega)).trans (fm_up_row m2 (by omega)))))))))))]; exact e0.2.2.1), (by have := e0.2.2.2; omega)⟩, (fun a k0 k1 k2 k3 k4 => ((f798 a (by omega) (by omega)).trans ((fm_up_row m744 (by omega)).trans ((f741 a (by omega) (by omega)).trans ((f686 a (by omega)).trans ((g464_6 a (by omega)).trans ((f463 a (by omega)).trans ((f454 a (by omega)).trans ((g15_5 a (by omega) (by omega)).trans ((f13 a (by omega)).trans (fm_up_row m2 (by omega)))))))))))), (fun i k0 k1 k2 k3 k4 k5 k6 k7 k8 k9 => ((f799 i (by omega)).trans ((fm_rd_i (a := 0) (b := i) m744 (by omega)).trans ((f742 i (by omega) (by omega)).trans ((congrFun (f686 0 (by omega)) i).trans ((congrFun (g464_6 0 (by omega)) i).trans ((congrFun (f463 0 (by omega)) i).trans ((f455 i (by omega)).trans ((g15_6 i (by omega) (by omega)).trans ((f14 i (by omega) (by omega) (by omega) (by omega) (by omega) (by omega)).trans (fm_rd_i (a := 0) (b := i) m2 (by omega))))))))))))⟩ dX12_day_160
                  ·
                    refine fr_iinc (j := 2) (L' := [(0, vr G 0), (1, vi l1_15), (2, vi (l2_464 + 1))]) h dX12_day_122 rfl (by decide) [1, 2, 0] rfl ?_
                    refine fr_goto (tgt := 72) h dX12_day_125 (by decide) ?_
                    exact ih464 (l2_464 + 1) x679 (by omega) (by omega) (by omega) p684 (by omega) (fun q => by exfalso; omega) (fun a k0 => ((f686 a (by omega)).trans (g464_6 a (by omega)))) (by omega)
            exact HL464 ((61 - 0) + 1 : Int).toNat 0 x457 (by omega) (by omega) (by omega) (by rw [show x457 1 = x447 1 from (f463 1 (by omega))]; exact (by rw [show x447 1 = x_15 1 from (f454 1 (by omega))]; exact (by rw [show x_15 1 = x3 1 from (g15_5 1 (by omega) (by omega))]; exact (by rw [show x3 1 = x1 1 from (f13 1 (by omega))]; exact (by rw [show x1 1 = x 1 from (fm_up_row m2 (by omega))]; exact e0.1))))) (by omega) (fun _ => ((f463 1 (by omega)).trans ((f454 1 (by omega)).trans ((g15_5 1 (by omega) (by omega)).trans ((f13 1 (by omega)).trans (fm_up_row m2 (by omega))))))) (fun a _ => rfl) (by omega)
          ·
            refine fr_iconst h dX12_day_51 ?_
            refine fr_aload_n h rfl 0 rfl dX12_day_52 ?_
            refine fr_geti (iz := 10) h kX12 fX12_124 at_0M rfl rfl (by decide) (by decide) rfM_10 dX12_day_53 (fun z838 w839 w840 q841 => ?_)
            have r842 := (fm_rd_i (a := 0) (b := 10) m2 (by decide))
            refine fr_isub h dX12_day_56 ?_
            have r843 := (f455 5 (by decide))
            have r844 := r843.trans (g15_6 5 (by decide) (by decide))
            have r845 := r844.trans (f14 5 (by decide) (by decide) (by decide) (by decide) (by decide) (by decide))
            have r846 := r845.trans (fm_rd_s m2)
            have r847 := (f455 2 (by decide))
            have r848 := r847.trans (g15_6 2 (by decide) (by decide))
            have r849 := (fm_rd_i (a := 0) (b := 2) m2 (by decide))
            have r850 := (f455 21 (by decide))
            have r851 := r850.trans (g15_6 21 (by decide) (by decide))
            have r852 := r851.trans (f14 21 (by decide) (by decide) (by decide) (by decide) (by decide) (by decide))
            have r853 := r852.trans (fm_rd_i (a := 0) (b := 21) m2 (by decide))
            have r854 := (f455 12 (by decide))
            have r855 := r854.trans (g15_6 12 (by decide) (by decide))
            have r856 := r855.trans (f14 12 (by decide) (by decide) (by decide) (by decide) (by decide) (by decide))
            have r857 := r856.trans (fm_rd_i (a := 0) (b := 12) m2 (by decide))
            exact fr_iret h hq (by omega) ⟨(by omega), (by omega), (Or.inl ⟨(by omega), ((f454 1 (by omega)).trans ((g15_5 1 (by omega) (by omega)).trans ((f13 1 (by omega)).trans (fm_up_row m2 (by omega)))))⟩), ⟨(by rw [show x447 1 = x_15 1 from (f454 1 (by omega))]; exact (by rw [show x_15 1 = x3 1 from (g15_5 1 (by omega) (by omega))]; exact (by rw [show x3 1 = x1 1 from (f13 1 (by omega))]; exact (by rw [show x1 1 = x 1 from (fm_up_row m2 (by omega))]; exact e0.1)))), (by rw [show x447 8 = x 8 from ((f454 8 (by omega)).trans ((g15_5 8 (by omega) (by omega)).trans ((f13 8 (by omega)).trans (fm_up_row m2 (by omega)))))]; exact e0.2.1), (by rw [show x447 26 = x 26 from ((f454 26 (by omega)).trans ((g15_5 26 (by omega) (by omega)).trans ((f13 26 (by omega)).trans (fm_up_row m2 (by omega)))))]; exact e0.2.2.1), (by have := e0.2.2.2; omega)⟩, (fun a k0 k1 k2 k3 k4 => ((f454 a (by omega)).trans ((g15_5 a (by omega) (by omega)).trans ((f13 a (by omega)).trans (fm_up_row m2 (by omega)))))), (fun i k0 k1 k2 k3 k4 k5 k6 k7 k8 k9 => ((f455 i (by omega)).trans ((g15_6 i (by omega) (by omega)).trans ((f14 i (by omega) (by omega) (by omega) (by omega) (by omega) (by omega)).trans (fm_rd_i (a := 0) (b := i) m2 (by omega))))))⟩ dX12_day_57
        ·
          refine fr_aload_n h rfl 0 rfl dX12_day_31 ?_
          refine fr_iconst h dX12_day_32 ?_
          refine fr_iload_n h rfl 1 rfl dX12_day_33 ?_
          refine fr_imul h dX12_day_34 ?_
          have r858 := (g15_6 6 (by decide) (by decide))
          have r859 := (fm_rd_i (a := 0) (b := 6) m2 (by decide))
          have r860 := (g15_6 8 (by decide) (by decide))
          have r861 := (fm_rd_i (a := 0) (b := 8) m2 (by decide))
          have r862 := (g15_6 6 (by decide) (by decide))
          have r863 := (fm_rd_i (a := 0) (b := 6) m2 (by decide))
          have r864 := (g15_6 8 (by decide) (by decide))
          have r865 := (fm_rd_i (a := 0) (b := 8) m2 (by decide))
          have r866 := (g15_6 6 (by decide) (by decide))
          have r867 := (fm_rd_i (a := 0) (b := 6) m2 (by decide))
          have r868 := (g15_6 8 (by decide) (by decide))
          have r869 := (fm_rd_i (a := 0) (b := 8) m2 (by decide))
          have r870 := (fm_rd_i (a := 0) (b := 9) m2 (by decide))
          have r871 := (g15_6 8 (by decide) (by decide))
          have r872 := (fm_rd_i (a := 0) (b := 8) m2 (by decide))
          have r873 := (fm_rd_i (a := 0) (b := 10) m2 (by decide))
          refine fr_cvV h kX12 at_0M wX12_readAct lX12_262 (c_X12_readAct x_15 (4 * l1_15) (by omega) (by omega) (by omega) (by omega) (by omega)) rfl (by decide) (by decide) rfl (Nat.le_of_ble_eq_true rfl) dX12_day_35 (fun x874 p877 => ?_)
          obtain ⟨p878, p879, f880, f881⟩ := p877
          refine fr_iinc (j := 1) (L' := [(0, vr G 0), (1, vi (l1_15 + 1))]) h dX12_day_38 rfl (by decide) [1, 0] rfl ?_
          refine fr_goto (tgt := 13) h dX12_day_41 (by decide) ?_
          have r882 := (fm_rd_i (a := 0) (b := 9) m2 (by decide))
          have r883 := (fm_rd_i (a := 0) (b := 10) m2 (by decide))
          have r884 := (fm_rd_i (a := 0) (b := 9) m2 (by decide))
          have r885 := (f881 8 (by decide) (by decide))
          have r886 := r885.trans (g15_6 8 (by decide) (by decide))
          have r887 := (fm_rd_i (a := 0) (b := 8) m2 (by decide))
          exact ih15 (l1_15 + 1) x874 (by omega) (by omega) (by omega) (by omega) (by omega) (fun a k0 k1 => ((f880 a (by omega) (by omega)).trans (g15_5 a (by omega) (by omega)))) (fun i k0 k1 => ((f881 i (by omega) (by omega)).trans (g15_6 i (by omega) (by omega)))) (by omega)
  have r888 := (fm_rd_i (a := 0) (b := 9) m2 (by decide))
  have r889 := (fm_rd_i (a := 0) (b := 10) m2 (by decide))
  have r890 := (fm_rd_i (a := 0) (b := 9) m2 (by decide))
  have r891 := (fm_rd_i (a := 0) (b := 8) m2 (by decide))
  exact HL15 ((61 - 0) + 1 : Int).toNat 0 x3 (by omega) (by omega) (by omega) (by omega) (by omega) (fun a _ _ => rfl) (fun i _ _ => rfl) (by omega)
