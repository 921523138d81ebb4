set_option maxHeartbeats 1000000 in
theorem f_X11_number (x : Mm) (p : Int) (w : Int) (h_p : fm_r p) (h_w : fm_r w) (e0 : FRC x) : CnTI yX11_number cX11_number 4 6 90 (fun G => [vr G 0, vi p, vi w]) x (fun z y' => (False) ∧ (y' = x)) := by
  refine cn_TI (by decide) (fun _ => Nat.le_of_ble_eq_true rfl) (fun G C h hq hn => ?_)
  have h : OK YC G C cX11_number RX11 4 (some .int) 6 90 := h
  show FW YC G C 4 x 0 [(0, vr G 0), (1, vi p), (2, vi w)] []
  obtain ⟨hSZ, hWZ, hTZ, hKN, hKE, h34, h35, h36, h37, h13, h14, h1104, h111, h11, h142, h983, h1071, hCU, hKP⟩ := e0
  have hru : isRu 110 := Or.inl rfl
  have h_110 := Ru_b hru
  have hru5 : isRu 115 := Or.inr rfl
  have h_115 := Ru_b hru5
  refine fr_aload_n h rfl 0 rfl dX11_number_0 ?_
  refine fr_getc (z := 3) (iz := 1) h kX11 fX11_19 at_0 rfl rfl rf_0_1 (by omega) dX11_number_1 ?_
  refine fr_iload_n h rfl 1 rfl dX11_number_4 ?_
  refine fr_iload_n h rfl 2 rfl dX11_number_5 ?_
  refine fr_cvI h kX8 (St_at St_3) wX8_numberAt lX11_139 (f_X8_numberAt x p w (by omega) (by omega) (fun j a b => hSZ j a b)) rfl (by decide) (by decide) rfl (Nat.le_of_ble_eq_true rfl) dX11_number_6 (fun z2 x1 w3 p4 => ?_)
  obtain ⟨p5, y6⟩ := p4
  rw [y6]
  clear y6
  refine fr_istore_n (L' := [(0, vr G 0), (1, vi p), (2, vi w), (3, vi z2)]) h rfl dX11_number_9 (by decide) [1, 2, 3, 0] rfl ?_
  refine fr_iload_n h rfl 3 rfl dX11_number_10 ?_
  refine fr_if_ge (tgt := 24) h dX11_number_11 (by decide) (by omega) (fun c7 => ?_) (fun c7 => ?_)
  ·
    exfalso; omega
  ·
    exact fr_throwS (i := 7) h hq hn (by decide) rfl (by decide) (by decide) (Nat.le_of_ble_eq_true rfl) dX11_number_14 dX11_number_17 dX11_number_18 dX11_number_20 dX11_number_23
set_option maxHeartbeats 1000000 in
theorem f_X11_edge (x : Mm) (p : Int) (w : Int) (h_p : fm_r p) (h_w : fm_r w) (e0 : FRC x) : CnTI yX11_edge cX11_edge 6 6 90 (fun G => [vr G 0, vi p, vi w]) x (fun z y' => (False) ∧ (y' = x)) := by
  refine cn_TI (by decide) (fun _ => Nat.le_of_ble_eq_true rfl) (fun G C h hq hn => ?_)
  have h : OK YC G C cX11_edge RX11 6 (some .int) 6 90 := h
  show FW YC G C 6 x 0 [(0, vr G 0), (1, vi p), (2, vi w)] []
  obtain ⟨hSZ, hWZ, hTZ, hKN, hKE, h34, h35, h36, h37, h13, h14, h1104, h111, h11, h142, h983, h1071, hCU, hKP⟩ := e0
  have hru : isRu 110 := Or.inl rfl
  have h_110 := Ru_b hru
  have hru5 : isRu 115 := Or.inr rfl
  have h_115 := Ru_b hru5
  refine fr_aload_n h rfl 0 rfl dX11_edge_0 ?_
  refine fr_getc (z := 3) (iz := 1) h kX11 fX11_19 at_0 rfl rfl rf_0_1 (by omega) dX11_edge_1 ?_
  refine fr_iload_n h rfl 1 rfl dX11_edge_4 ?_
  refine fr_cvI h kX8 (St_at St_3) wX8_pairOfEdge lX11_150 (f_X8_pairOfEdge x p (by omega) (fun j a b => hWZ j a b)) rfl (by decide) (by decide) rfl (Nat.le_of_ble_eq_true rfl) dX11_edge_5 (fun z2 x1 w3 p4 => ?_)
  obtain ⟨p5, y6⟩ := p4
  rw [y6]
  clear y6
  refine fr_istore_n (L' := [(0, vr G 0), (1, vi p), (2, vi w), (3, vi z2)]) h rfl dX11_edge_8 (by decide) [1, 2, 3, 0] rfl ?_
  refine fr_iload_n h rfl 3 rfl dX11_edge_9 ?_
  refine fr_if_lt (tgt := 22) h dX11_edge_10 (by decide) (by omega) (fun c7 => ?_) (fun c7 => ?_)
  ·
    exact fr_throwS (i := 8) h hq hn (by decide) rfl (by decide) (by decide) (Nat.le_of_ble_eq_true rfl) dX11_edge_22 dX11_edge_25 dX11_edge_26 dX11_edge_28 dX11_edge_31
  ·
    exfalso; omega
set_option maxHeartbeats 1000000 in
theorem f_X11_row (x : Mm) (p : Int) (h_p : fm_r p) (e0 : FRC x) : CnTL yX11_row cX11_row 2 6 90 (fun G => [vr G 0, vi p]) x (fun z y' => (False) ∧ (y' = x)) := by
  refine cn_TL (by decide) (fun _ => Nat.le_of_ble_eq_true rfl) (fun G C h hq hn => ?_)
  have h : OK YC G C cX11_row RX11 2 (some .long) 6 90 := h
  show FW YC G C 2 x 0 [(0, vr G 0), (1, vi p)] []
  obtain ⟨hSZ, hWZ, hTZ, hKN, hKE, h34, h35, h36, h37, h13, h14, h1104, h111, h11, h142, h983, h1071, hCU, hKP⟩ := e0
  have hru : isRu 110 := Or.inl rfl
  have h_110 := Ru_b hru
  have hru5 : isRu 115 := Or.inr rfl
  have h_115 := Ru_b hru5
  refine fr_iload_n h rfl 1 rfl dX11_row_0 ?_
  refine fr_if_lt (tgt := 15) h dX11_row_1 (by decide) (by omega) (fun c1 => ?_) (fun c1 => ?_)
  ·
    exact fr_throwSW (i := 9) h hq hn (by decide) rfl (by decide) (by decide) (Nat.le_of_ble_eq_true rfl) dX11_row_15 dX11_row_18 dX11_row_19 dX11_row_22 dX11_row_25
  ·
    refine fr_iload_n h rfl 1 rfl dX11_row_4 ?_
    refine fr_aload_n h rfl 0 rfl dX11_row_5 ?_
    refine fr_getc (z := 107) (iz := 11) h kX11 fX11_77 at_0 rfl rfl rf_0_11 (by omega) dX11_row_6 ?_
    refine fr_cvI h kX10 at_107 wX10_size lX11_354 (c_X10_size x) rfl (by decide) (by decide) rfl (Nat.le_of_ble_eq_true rfl) dX11_row_9 (fun z3 x2 w4 p5 => ?_)
    obtain ⟨p6, p7, p8, y9⟩ := p5
    rw [y9]
    clear y9
    refine fr_icmp_lt (tgt := 26) h dX11_row_12 (by decide) (by omega) (by omega) (fun c10 => ?_) (fun c10 => ?_)
    ·
      exfalso; omega
    ·
      exact fr_throwSW (i := 9) h hq hn (by decide) rfl (by decide) (by decide) (Nat.le_of_ble_eq_true rfl) dX11_row_15 dX11_row_18 dX11_row_19 dX11_row_22 dX11_row_25
