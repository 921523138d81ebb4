theorem f_L_number (x : Mm) (hFC : FRC x) {p w : Int} (hp : fm_r p) (hw : fm_r w) : CnIW yL_number cL_number 5 20 300 [(0, 10, 13, 13)] (fun G => [vr G 0, vi p, vi w, vr G 120]) x (fun z y' => (z = 1) ∧ (∀ a : Int, a ≠ 120 → y' a = x a)) := by
  refine cn_W (by decide) (fun _ => Nat.le_of_ble_eq_true rfl) (fun G C h hq hwt => ?_)
  have h : OK YC G C cL_number RL 5 (some .int) 20 300 := h
  show FW YC G C 5 x 0 [(0, vr G 0), (1, vi p), (2, vi w), (3, vr G 120)] []
  have h2 := OK_bump h hwt
  have hq2 := RTw_bump hq hwt
  refine fr_aload_n h rfl 3 rfl dL_number_0 ?_
  refine fr_iconst h dL_number_1 ?_
  refine fr_aload_n h rfl 0 rfl dL_number_2 ?_
  refine fr_iload_n h rfl 1 rfl dL_number_3 ?_
  refine fr_iload_n h rfl 2 rfl dL_number_4 ?_
  refine fr_cvTI (hpc := 13) (as := fun _ => [vi p, vi w]) h hwt wX11_number rfl lL_7 (f_X11_number x p w hp hw hFC) rfl (by decide) (by decide) rfl (Nat.le_of_ble_eq_true rfl) dL_number_5 rfl (by decide) (fun q9 => ?_) (fun z x' hz hpost => ?_)
  · refine fr_astore (L' := [(0, vr G 0), (1, vi p), (2, vi w), (3, vr G 120), (4, .ref q9)]) h2 dL_number_13 (by decide) [1, 2, 3, 4, 0] rfl ?_
    refine fr_iconst h2 dL_number_15 ?_
    exact fr_wret h2 hq2 (by omega) ⟨by omega, fun a _ => rfl⟩ dL_number_16
  · exact hpost.1.elim
theorem f_L_edge (x : Mm) (hFC : FRC x) {p w : Int} (hp : fm_r p) (hw : fm_r w) : CnIW yL_edge cL_edge 5 20 300 [(0, 10, 13, 13)] (fun G => [vr G 0, vi p, vi w, vr G 120]) x (fun z y' => (z = 1) ∧ (∀ a : Int, a ≠ 120 → y' a = x a)) := by
  refine cn_W (by decide) (fun _ => Nat.le_of_ble_eq_true rfl) (fun G C h hq hwt => ?_)
  have h : OK YC G C cL_edge RL 5 (some .int) 20 300 := h
  show FW YC G C 5 x 0 [(0, vr G 0), (1, vi p), (2, vi w), (3, vr G 120)] []
  have h2 := OK_bump h hwt
  have hq2 := RTw_bump hq hwt
  refine fr_aload_n h rfl 3 rfl dL_edge_0 ?_
  refine fr_iconst h dL_edge_1 ?_
  refine fr_aload_n h rfl 0 rfl dL_edge_2 ?_
  refine fr_iload_n h rfl 1 rfl dL_edge_3 ?_
  refine fr_iload_n h rfl 2 rfl dL_edge_4 ?_
  refine fr_cvTI (hpc := 13) (as := fun _ => [vi p, vi w]) h hwt wX11_edge rfl lL_15 (f_X11_edge x p w hp hw hFC) rfl (by decide) (by decide) rfl (Nat.le_of_ble_eq_true rfl) dL_edge_5 rfl (by decide) (fun q9 => ?_) (fun z x' hz hpost => ?_)
  · refine fr_astore (L' := [(0, vr G 0), (1, vi p), (2, vi w), (3, vr G 120), (4, .ref q9)]) h2 dL_edge_13 (by decide) [1, 2, 3, 4, 0] rfl ?_
    refine fr_iconst h2 dL_edge_15 ?_
    exact fr_wret h2 hq2 (by omega) ⟨by omega, fun a _ => rfl⟩ dL_edge_16
  · exact hpost.1.elim
theorem f_L_row (x : Mm) (hFC : FRC x) {p : Int} (hp : fm_r p) : CnIW yL_row cL_row 4 20 300 [(0, 8, 11, 13)] (fun G => [vr G 0, vi p, vr G 120]) x (fun z y' => (z = 1) ∧ (∀ a : Int, a ≠ 120 → y' a = x a)) := by
  refine cn_W (by decide) (fun _ => Nat.le_of_ble_eq_true rfl) (fun G C h hq hwt => ?_)
  have h : OK YC G C cL_row RL 4 (some .int) 20 300 := h
  show FW YC G C 4 x 0 [(0, vr G 0), (1, vi p), (2, vr G 120)] []
  have h2 := OK_bump h hwt
  have hq2 := RTw_bump hq hwt
  refine fr_aload_n h rfl 2 rfl dL_row_0 ?_
  refine fr_iconst h dL_row_1 ?_
  refine fr_aload_n h rfl 0 rfl dL_row_2 ?_
  refine fr_iload_n h rfl 1 rfl dL_row_3 ?_
  refine fr_cvTL (hpc := 11) (as := fun _ => [vi p]) h hwt wX11_row rfl lL_18 (f_X11_row x p hp hFC) rfl (by decide) (by decide) rfl (Nat.le_of_ble_eq_true rfl) dL_row_4 rfl (by decide) (fun q9 => ?_) (fun z x' hz hpost => ?_)
  · refine fr_astore_n (L' := [(0, vr G 0), (1, vi p), (2, vr G 120), (3, .ref q9)]) h2 rfl dL_row_11 (by decide) [1, 2, 3, 0] rfl ?_
    refine fr_iconst h2 dL_row_12 ?_
    exact fr_wret h2 hq2 (by omega) ⟨by omega, fun a _ => rfl⟩ dL_row_13
  · exact hpost.1.elim
