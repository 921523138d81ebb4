theorem arrV_cg {c : ClassId} {n : Nat} {f g : Nat → Value} (h : ∀ j : Nat, j < n → f j = g j) : arrV c n f = arrV c n g := by
  unfold arrV
  rw [show (fun j : Fin n => f j.val) = (fun j => g j.val) from funext (fun j => h j.val j.isLt)]
theorem va_at_i {D : va_G} {cl : List vw_C} {H : Heap} {a n : Nat} {c : ClassId} {f g : Nat → Int32} (q : va_at D cl (a, .inl (c, n, .inl f)) H) (h : ∀ j : Nat, j < n → f j = g j) : va_at D cl (a, .inl (c, n, .inl g)) H := by
  have q1 : H[a]? = some (vp_cell c (n, .inl f)) := q
  show H[a]? = some (vp_cell c (n, .inl g))
  rw [q1, vp_cell_i, vp_cell_i, arrV_cg (fun j hj => by rw [h j hj])]
theorem va_at_l {D : va_G} {cl : List vw_C} {H : Heap} {a n : Nat} {c : ClassId} {f g : Nat → Int64} (q : va_at D cl (a, .inl (c, n, .inr (.inl f))) H) (h : ∀ j : Nat, j < n → f j = g j) : va_at D cl (a, .inl (c, n, .inr (.inl g))) H := by
  have q1 : H[a]? = some (vp_cell c (n, .inr (.inl f))) := q
  show H[a]? = some (vp_cell c (n, .inr (.inl g)))
  rw [q1, vp_cell_l, vp_cell_l, arrV_cg (fun j hj => by rw [h j hj])]
theorem va_at_q {D : va_G} {cl : List vw_C} {H : Heap} {a n : Nat} {c : ClassId} {f g : Nat → Option Nat} (q : va_at D cl (a, .inl (c, n, .inr (.inr (.inr (.inr f))))) H) (h : ∀ j : Nat, j < n → f j = g j) : va_at D cl (a, .inl (c, n, .inr (.inr (.inr (.inr g))))) H := by
  have q1 : H[a]? = some (vp_cell c (n, .inr (.inr (.inr (.inr f))))) := q
  show H[a]? = some (vp_cell c (n, .inr (.inr (.inr (.inr g)))))
  rw [q1, vp_cell_q, vp_cell_q, arrV_cg (fun j hj => by rw [h j hj])]
def XCL : List (Int → Int) := [(fun i => ([1, 3, 8, 13, 14, 66, 77, 78, 89, 94, 98, 107, 109, 110, 115, 0] : List Int)[i.toNat]?.getD 0),
  (fun i => ([2, 0] : List Int)[i.toNat]?.getD 0),
  (fun _ => 0),
  (fun i => ([4, 5, 6, 7, 0, 0, 0, 1] : List Int)[i.toNat]?.getD 0),
  (fun _ => 0),
  (fun _ => 0),
  (fun _ => 0),
  (fun _ => 0),
  (fun i => ([9, 10, 11, 12, 0, 0, 0, 1] : List Int)[i.toNat]?.getD 0),
  (fun _ => 0),
  (fun _ => 0),
  (fun _ => 0),
  (fun _ => 0),
  (fun i => ([0] : List Int)[i.toNat]?.getD 0),
  (fun i => ([15, 0, 0] : List Int)[i.toNat]?.getD 0),
  (fun i => ([16, 21, 26, 31, 36, 41, 46, 51, 56, 61] : List Int)[i.toNat]?.getD 0),
  (fun i => ([17, 18, 19, 20, 0, 0, 0, 1] : List Int)[i.toNat]?.getD 0),
  (fun _ => 0),
  (fun _ => 0),
  (fun _ => 0),
  (fun _ => 0),
  (fun i => ([22, 23, 24, 25, 0, 0, 0, 1] : List Int)[i.toNat]?.getD 0),
  (fun _ => 0),
  (fun _ => 0),
  (fun _ => 0),
  (fun _ => 0),
  (fun i => ([27, 28, 29, 30, 0, 0, 0, 1] : List Int)[i.toNat]?.getD 0),
  (fun _ => 0),
  (fun _ => 0),
  (fun _ => 0),
  (fun _ => 0),
  (fun i => ([32, 33, 34, 35, 0, 0, 0, 1] : List Int)[i.toNat]?.getD 0),
  (fun _ => 0),
  (fun _ => 0),
  (fun _ => 0),
  (fun _ => 0),
  (fun i => ([37, 38, 39, 40, 0, 0, 0, 1] : List Int)[i.toNat]?.getD 0),
  (fun _ => 0),
  (fun _ => 0),
  (fun _ => 0),
  (fun _ => 0),
  (fun i => ([42, 43, 44, 45, 0, 0, 0, 1] : List Int)[i.toNat]?.getD 0),
  (fun _ => 0),
  (fun _ => 0),
  (fun _ => 0),
  (fun _ => 0),
  (fun i => ([47, 48, 49, 50, 0, 0, 0, 1] : List Int)[i.toNat]?.getD 0),
  (fun _ => 0),
  (fun _ => 0),
  (fun _ => 0),
  (fun _ => 0),
  (fun i => ([52, 53, 54, 55, 0, 0, 0, 1] : List Int)[i.toNat]?.getD 0),
  (fun _ => 0),
  (fun _ => 0),
  (fun _ => 0),
  (fun _ => 0),
  (fun i => ([57, 58, 59, 60, 0, 0, 0, 1] : List Int)[i.toNat]?.getD 0),
  (fun _ => 0),
  (fun _ => 0),
  (fun _ => 0),
  (fun _ => 0),
  (fun i => ([62, 63, 64, 65, 0, 0, 0, 1] : List Int)[i.toNat]?.getD 0),
  (fun _ => 0),
  (fun _ => 0),
  (fun _ => 0),
  (fun _ => 0),
  (fun i => ([67, 72] : List Int)[i.toNat]?.getD 0),
  (fun i => ([68, 69, 70, 71, 0, 0, 0, 1] : List Int)[i.toNat]?.getD 0),
  (fun _ => 0),
  (fun _ => 0),
  (fun _ => 0),
  (fun _ => 0),
  (fun i => ([73, 74, 75, 76, 0, 0, 0, 1] : List Int)[i.toNat]?.getD 0),
  (fun _ => 0),
  (fun _ => 0),
  (fun _ => 0),
  (fun _ => 0),
  (fun _ => 0),
  (fun i => ([79, 81, 83, 85, 87] : List Int)[i.toNat]?.getD 0),
  (fun i => ([80, 0, 0] : List Int)[i.toNat]?.getD 0),
  (fun _ => 0),
  (fun i => ([82, 0, 0] : List Int)[i.toNat]?.getD 0),
  (fun _ => 0),
  (fun i => ([84, 0, 0] : List Int)[i.toNat]?.getD 0),
  (fun _ => 0),
  (fun i => ([86, 0, 0] : List Int)[i.toNat]?.getD 0),
  (fun _ => 0),
  (fun i => ([88, 0, 0] : List Int)[i.toNat]?.getD 0),
  (fun _ => 0),
  (fun i => ([90, 91, 92, 93, 0, 0, -1, -1, -1] : List Int)[i.toNat]?.getD 0),
  (fun _ => 0),
  (fun _ => 0),
  (fun _ => 0),
  (fun _ => 0),
  (fun i => ([95, 96, 97] : List Int)[i.toNat]?.getD 0),
  (fun i => ([0, 0, 0, 0] : List Int)[i.toNat]?.getD 0),
  (fun i => ([0, 0, 0, 0] : List Int)[i.toNat]?.getD 0),
  (fun i => ([0, 0, 0, 0] : List Int)[i.toNat]?.getD 0),
  (fun i => ([99, 100, 101, 0] : List Int)[i.toNat]?.getD 0),
  (fun _ => 0),
  (fun _ => 0),
  (fun i => ([102, 103, 104, 105, 106] : List Int)[i.toNat]?.getD 0),
  (fun _ => 0),
  (fun _ => 0),
  (fun _ => 0),
  (fun _ => 0),
  (fun _ => 0),
  (fun i => ([108, 0] : List Int)[i.toNat]?.getD 0),
  (fun _ => 0),
  (fun _ => 0),
  (fun i => ([111, 112, 113, 114, 1, 0, 0, 0] : List Int)[i.toNat]?.getD 0),
  (fun i => ([1115] : List Int)[i.toNat]?.getD 0),
  (fun _ => 0),
  (fun _ => 0),
  (fun _ => 0),
  (fun i => ([116, 117, 118, 119, 1, 0, 0, 0] : List Int)[i.toNat]?.getD 0),
  (fun i => ([1115] : List Int)[i.toNat]?.getD 0),
  (fun _ => 0),
  (fun _ => 0),
  (fun _ => 0),
  (fun _ => 0)]
def x0C : Mm := fun k i => ((XCL[k.toNat]?).getD (fun _ => 0)) i
def PLC : List Nat := [0, 1, 2, 3, 4, 5, 6, 7, 8, 9, 10, 11, 12, 13, 14, 15, 16, 17, 18, 19, 20, 21, 22, 23, 24, 25, 26, 27, 28, 29, 30, 31, 32, 33, 34, 35, 36, 37, 38, 39, 40, 41, 42, 43, 44, 45, 46, 47, 48, 49, 50, 51, 52, 53, 54, 55, 56, 57, 58, 59, 60, 61, 62, 63, 64, 65, 66, 97, 98, 99, 100, 101, 102, 103, 104, 105, 106, 67, 68, 107, 108, 109, 110, 111, 112, 113, 114, 115, 116, 69, 70, 71, 72, 73, 74, 117, 118, 119, 75, 76, 77, 78, 79, 80, 81, 82, 83, 84, 85, 86, 87, 88, 89, 90, 91, 92, 93, 94, 95, 96, 120]
def adC (h : Nat) (u : Nat → Nat) (o : Nat) (aK aV : Nat → Nat) : Int → Nat := fun k => if k < 200 then (([h, u 0, u 1, u 2, u 3, u 4, u 5, u 6, u 7, u 8, u 9, u 10, u 11, u 12, u 13, u 14, u 15, u 16, u 17, u 18, u 19, u 20, u 21, u 22, u 23, u 24, u 25, u 26, u 27, u 28, u 29, u 30, u 31, u 32, u 33, u 34, u 35, u 36, u 37, u 38, u 39, u 40, u 41, u 42, u 43, u 44, u 45, u 46, u 47, u 48, u 49, u 50, u 51, u 52, u 53, u 54, u 55, u 56, u 57, u 58, u 59, u 60, u 61, u 62, u 63, u 64, u 65, u 96, u 97, u 98, u 99, u 100, u 101, u 102, u 103, u 104, u 105, u 66, u 67, u 106, u 107, u 108, u 109, u 110, u 111, u 112, u 113, u 114, u 115, u 68, u 69, u 70, u 71, u 72, u 73, u 116, u 117, u 118, u 74, u 75, u 76, u 77, u 78, u 79, u 80, u 81, u 82, u 83, u 84, u 85, u 86, u 87, u 88, u 89, u 90, u 91, u 92, u 93, u 94, u 95, o] : List Nat)[k.toNat]?).getD 0 else if k < 300 then aK (k - 200).toNat else aV (k - 300).toNat
theorem wC_0 {D : va_G} {dT : Nat → ClassId} {h : Nat} {u : Nat → Nat} {o : Nat} {aK aV : Nat → Nat} : ∃ e : va_E, (kw_11 (D, dT, fun _ => 0) h u ++ [(o, .inl (dT 4, 1, .inr (.inl (fun _ => 0))))])[(PLC[0]?).getD 0]? = some (adC h u o aK aV ((0 : Nat) : Int), e) ∧ ∀ H : Heap, va_at D YC_cl (adC h u o aK aV ((0 : Nat) : Int), e) H → va_at D YC_cl (adC h u o aK aV ((0 : Nat) : Int), fm_e (D, dT, adC h u o aK aV) (YC.2.1 ((0 : Nat) : Int)) (x0C ((0 : Nat) : Int))) H := ⟨_, rfl, fun H q => q⟩
theorem wC_1 {D : va_G} {dT : Nat → ClassId} {h : Nat} {u : Nat → Nat} {o : Nat} {aK aV : Nat → Nat} : ∃ e : va_E, (kw_11 (D, dT, fun _ => 0) h u ++ [(o, .inl (dT 4, 1, .inr (.inl (fun _ => 0))))])[(PLC[1]?).getD 0]? = some (adC h u o aK aV ((1 : Nat) : Int), e) ∧ ∀ H : Heap, va_at D YC_cl (adC h u o aK aV ((1 : Nat) : Int), e) H → va_at D YC_cl (adC h u o aK aV ((1 : Nat) : Int), fm_e (D, dT, adC h u o aK aV) (YC.2.1 ((1 : Nat) : Int)) (x0C ((1 : Nat) : Int))) H := ⟨_, rfl, fun H q => q⟩
theorem wC_2 {D : va_G} {dT : Nat → ClassId} {h : Nat} {u : Nat → Nat} {o : Nat} {aK aV : Nat → Nat} : ∃ e : va_E, (kw_11 (D, dT, fun _ => 0) h u ++ [(o, .inl (dT 4, 1, .inr (.inl (fun _ => 0))))])[(PLC[2]?).getD 0]? = some (adC h u o aK aV ((2 : Nat) : Int), e) ∧ ∀ H : Heap, va_at D YC_cl (adC h u o aK aV ((2 : Nat) : Int), e) H → va_at D YC_cl (adC h u o aK aV ((2 : Nat) : Int), fm_e (D, dT, adC h u o aK aV) (YC.2.1 ((2 : Nat) : Int)) (x0C ((2 : Nat) : Int))) H := ⟨_, rfl, fun H q => va_at_i q (fun j _ => iI_0.symm)⟩
theorem wC_3 {D : va_G} {dT : Nat → ClassId} {h : Nat} {u : Nat → Nat} {o : Nat} {aK aV : Nat → Nat} : ∃ e : va_E, (kw_11 (D, dT, fun _ => 0) h u ++ [(o, .inl (dT 4, 1, .inr (.inl (fun _ => 0))))])[(PLC[3]?).getD 0]? = some (adC h u o aK aV ((3 : Nat) : Int), e) ∧ ∀ H : Heap, va_at D YC_cl (adC h u o aK aV ((3 : Nat) : Int), e) H → va_at D YC_cl (adC h u o aK aV ((3 : Nat) : Int), fm_e (D, dT, adC h u o aK aV) (YC.2.1 ((3 : Nat) : Int)) (x0C ((3 : Nat) : Int))) H := ⟨_, rfl, fun H q => q⟩
theorem wC_4 {D : va_G} {dT : Nat → ClassId} {h : Nat} {u : Nat → Nat} {o : Nat} {aK aV : Nat → Nat} : ∃ e : va_E, (kw_11 (D, dT, fun _ => 0) h u ++ [(o, .inl (dT 4, 1, .inr (.inl (fun _ => 0))))])[(PLC[4]?).getD 0]? = some (adC h u o aK aV ((4 : Nat) : Int), e) ∧ ∀ H : Heap, va_at D YC_cl (adC h u o aK aV ((4 : Nat) : Int), e) H → va_at D YC_cl (adC h u o aK aV ((4 : Nat) : Int), fm_e (D, dT, adC h u o aK aV) (YC.2.1 ((4 : Nat) : Int)) (x0C ((4 : Nat) : Int))) H := ⟨_, rfl, fun H q => va_at_i q (fun j _ => iI_0.symm)⟩
theorem wC_5 {D : va_G} {dT : Nat → ClassId} {h : Nat} {u : Nat → Nat} {o : Nat} {aK aV : Nat → Nat} : ∃ e : va_E, (kw_11 (D, dT, fun _ => 0) h u ++ [(o, .inl (dT 4, 1, .inr (.inl (fun _ => 0))))])[(PLC[5]?).getD 0]? = some (adC h u o aK aV ((5 : Nat) : Int), e) ∧ ∀ H : Heap, va_at D YC_cl (adC h u o aK aV ((5 : Nat) : Int), e) H → va_at D YC_cl (adC h u o aK aV ((5 : Nat) : Int), fm_e (D, dT, adC h u o aK aV) (YC.2.1 ((5 : Nat) : Int)) (x0C ((5 : Nat) : Int))) H := ⟨_, rfl, fun H q => va_at_i q (fun j _ => iI_0.symm)⟩
theorem wC_6 {D : va_G} {dT : Nat → ClassId} {h : Nat} {u : Nat → Nat} {o : Nat} {aK aV : Nat → Nat} : ∃ e : va_E, (kw_11 (D, dT, fun _ => 0) h u ++ [(o, .inl (dT 4, 1, .inr (.inl (fun _ => 0))))])[(PLC[6]?).getD 0]? = some (adC h u o aK aV ((6 : Nat) : Int), e) ∧ ∀ H : Heap, va_at D YC_cl (adC h u o aK aV ((6 : Nat) : Int), e) H → va_at D YC_cl (adC h u o aK aV ((6 : Nat) : Int), fm_e (D, dT, adC h u o aK aV) (YC.2.1 ((6 : Nat) : Int)) (x0C ((6 : Nat) : Int))) H := ⟨_, rfl, fun H q => va_at_i q (fun j _ => iI_0.symm)⟩
theorem wC_7 {D : va_G} {dT : Nat → ClassId} {h : Nat} {u : Nat → Nat} {o : Nat} {aK aV : Nat → Nat} : ∃ e : va_E, (kw_11 (D, dT, fun _ => 0) h u ++ [(o, .inl (dT 4, 1, .inr (.inl (fun _ => 0))))])[(PLC[7]?).getD 0]? = some (adC h u o aK aV ((7 : Nat) : Int), e) ∧ ∀ H : Heap, va_at D YC_cl (adC h u o aK aV ((7 : Nat) : Int), e) H → va_at D YC_cl (adC h u o aK aV ((7 : Nat) : Int), fm_e (D, dT, adC h u o aK aV) (YC.2.1 ((7 : Nat) : Int)) (x0C ((7 : Nat) : Int))) H := ⟨_, rfl, fun H q => va_at_i q (fun j _ => iI_0.symm)⟩
theorem wC_8 {D : va_G} {dT : Nat → ClassId} {h : Nat} {u : Nat → Nat} {o : Nat} {aK aV : Nat → Nat} : ∃ e : va_E, (kw_11 (D, dT, fun _ => 0) h u ++ [(o, .inl (dT 4, 1, .inr (.inl (fun _ => 0))))])[(PLC[8]?).getD 0]? = some (adC h u o aK aV ((8 : Nat) : Int), e) ∧ ∀ H : Heap, va_at D YC_cl (adC h u o aK aV ((8 : Nat) : Int), e) H → va_at D YC_cl (adC h u o aK aV ((8 : Nat) : Int), fm_e (D, dT, adC h u o aK aV) (YC.2.1 ((8 : Nat) : Int)) (x0C ((8 : Nat) : Int))) H := ⟨_, rfl, fun H q => q⟩
theorem wC_9 {D : va_G} {dT : Nat → ClassId} {h : Nat} {u : Nat → Nat} {o : Nat} {aK aV : Nat → Nat} : ∃ e : va_E, (kw_11 (D, dT, fun _ => 0) h u ++ [(o, .inl (dT 4, 1, .inr (.inl (fun _ => 0))))])[(PLC[9]?).getD 0]? = some (adC h u o aK aV ((9 : Nat) : Int), e) ∧ ∀ H : Heap, va_at D YC_cl (adC h u o aK aV ((9 : Nat) : Int), e) H → va_at D YC_cl (adC h u o aK aV ((9 : Nat) : Int), fm_e (D, dT, adC h u o aK aV) (YC.2.1 ((9 : Nat) : Int)) (x0C ((9 : Nat) : Int))) H := ⟨_, rfl, fun H q => va_at_i q (fun j _ => iI_0.symm)⟩
theorem wC_10 {D : va_G} {dT : Nat → ClassId} {h : Nat} {u : Nat → Nat} {o : Nat} {aK aV : Nat → Nat} : ∃ e : va_E, (kw_11 (D, dT, fun _ => 0) h u ++ [(o, .inl (dT 4, 1, .inr (.inl (fun _ => 0))))])[(PLC[10]?).getD 0]? = some (adC h u o aK aV ((10 : Nat) : Int), e) ∧ ∀ H : Heap, va_at D YC_cl (adC h u o aK aV ((10 : Nat) : Int), e) H → va_at D YC_cl (adC h u o aK aV ((10 : Nat) : Int), fm_e (D, dT, adC h u o aK aV) (YC.2.1 ((10 : Nat) : Int)) (x0C ((10 : Nat) : Int))) H := ⟨_, rfl, fun H q => va_at_i q (fun j _ => iI_0.symm)⟩
theorem wC_11 {D : va_G} {dT : Nat → ClassId} {h : Nat} {u : Nat → Nat} {o : Nat} {aK aV : Nat → Nat} : ∃ e : va_E, (kw_11 (D, dT, fun _ => 0) h u ++ [(o, .inl (dT 4, 1, .inr (.inl (fun _ => 0))))])[(PLC[11]?).getD 0]? = some (adC h u o aK aV ((11 : Nat) : Int), e) ∧ ∀ H : Heap, va_at D YC_cl (adC h u o aK aV ((11 : Nat) : Int), e) H → va_at D YC_cl (adC h u o aK aV ((11 : Nat) : Int), fm_e (D, dT, adC h u o aK aV) (YC.2.1 ((11 : Nat) : Int)) (x0C ((11 : Nat) : Int))) H := ⟨_, rfl, fun H q => va_at_i q (fun j _ => iI_0.symm)⟩
theorem wC_12 {D : va_G} {dT : Nat → ClassId} {h : Nat} {u : Nat → Nat} {o : Nat} {aK aV : Nat → Nat} : ∃ e : va_E, (kw_11 (D, dT, fun _ => 0) h u ++ [(o, .inl (dT 4, 1, .inr (.inl (fun _ => 0))))])[(PLC[12]?).getD 0]? = some (adC h u o aK aV ((12 : Nat) : Int), e) ∧ ∀ H : Heap, va_at D YC_cl (adC h u o aK aV ((12 : Nat) : Int), e) H → va_at D YC_cl (adC h u o aK aV ((12 : Nat) : Int), fm_e (D, dT, adC h u o aK aV) (YC.2.1 ((12 : Nat) : Int)) (x0C ((12 : Nat) : Int))) H := ⟨_, rfl, fun H q => va_at_i q (fun j _ => iI_0.symm)⟩
theorem wC_13 {D : va_G} {dT : Nat → ClassId} {h : Nat} {u : Nat → Nat} {o : Nat} {aK aV : Nat → Nat} : ∃ e : va_E, (kw_11 (D, dT, fun _ => 0) h u ++ [(o, .inl (dT 4, 1, .inr (.inl (fun _ => 0))))])[(PLC[13]?).getD 0]? = some (adC h u o aK aV ((13 : Nat) : Int), e) ∧ ∀ H : Heap, va_at D YC_cl (adC h u o aK aV ((13 : Nat) : Int), e) H → va_at D YC_cl (adC h u o aK aV ((13 : Nat) : Int), fm_e (D, dT, adC h u o aK aV) (YC.2.1 ((13 : Nat) : Int)) (x0C ((13 : Nat) : Int))) H := ⟨_, rfl, fun H q => q⟩
theorem wC_14 {D : va_G} {dT : Nat → ClassId} {h : Nat} {u : Nat → Nat} {o : Nat} {aK aV : Nat → Nat} : ∃ e : va_E, (kw_11 (D, dT, fun _ => 0) h u ++ [(o, .inl (dT 4, 1, .inr (.inl (fun _ => 0))))])[(PLC[14]?).getD 0]? = some (adC h u o aK aV ((14 : Nat) : Int), e) ∧ ∀ H : Heap, va_at D YC_cl (adC h u o aK aV ((14 : Nat) : Int), e) H → va_at D YC_cl (adC h u o aK aV ((14 : Nat) : Int), fm_e (D, dT, adC h u o aK aV) (YC.2.1 ((14 : Nat) : Int)) (x0C ((14 : Nat) : Int))) H := ⟨_, rfl, fun H q => q⟩
theorem wC_15 {D : va_G} {dT : Nat → ClassId} {h : Nat} {u : Nat → Nat} {o : Nat} {aK aV : Nat → Nat} : ∃ e : va_E, (kw_11 (D, dT, fun _ => 0) h u ++ [(o, .inl (dT 4, 1, .inr (.inl (fun _ => 0))))])[(PLC[15]?).getD 0]? = some (adC h u o aK aV ((15 : Nat) : Int), e) ∧ ∀ H : Heap, va_at D YC_cl (adC h u o aK aV ((15 : Nat) : Int), e) H → va_at D YC_cl (adC h u o aK aV ((15 : Nat) : Int), fm_e (D, dT, adC h u o aK aV) (YC.2.1 ((15 : Nat) : Int)) (x0C ((15 : Nat) : Int))) H := ⟨_, rfl, fun H q => va_at_q q (fun j hj => by rcases (show j = 0 ∨ j = 1 ∨ j = 2 ∨ j = 3 ∨ j = 4 ∨ j = 5 ∨ j = 6 ∨ j = 7 ∨ j = 8 ∨ j = 9 by omega) with rfl | rfl | rfl | rfl | rfl | rfl | rfl | rfl | rfl | rfl <;> rfl)⟩
theorem wC_16 {D : va_G} {dT : Nat → ClassId} {h : Nat} {u : Nat → Nat} {o : Nat} {aK aV : Nat → Nat} : ∃ e : va_E, (kw_11 (D, dT, fun _ => 0) h u ++ [(o, .inl (dT 4, 1, .inr (.inl (fun _ => 0))))])[(PLC[16]?).getD 0]? = some (adC h u o aK aV ((16 : Nat) : Int), e) ∧ ∀ H : Heap, va_at D YC_cl (adC h u o aK aV ((16 : Nat) : Int), e) H → va_at D YC_cl (adC h u o aK aV ((16 : Nat) : Int), fm_e (D, dT, adC h u o aK aV) (YC.2.1 ((16 : Nat) : Int)) (x0C ((16 : Nat) : Int))) H := ⟨_, rfl, fun H q => q⟩
theorem wC_17 {D : va_G} {dT : Nat → ClassId} {h : Nat} {u : Nat → Nat} {o : Nat} {aK aV : Nat → Nat} : ∃ e : va_E, (kw_11 (D, dT, fun _ => 0) h u ++ [(o, .inl (dT 4, 1, .inr (.inl (fun _ => 0))))])[(PLC[17]?).getD 0]? = some (adC h u o aK aV ((17 : Nat) : Int), e) ∧ ∀ H : Heap, va_at D YC_cl (adC h u o aK aV ((17 : Nat) : Int), e) H → va_at D YC_cl (adC h u o aK aV ((17 : Nat) : Int), fm_e (D, dT, adC h u o aK aV) (YC.2.1 ((17 : Nat) : Int)) (x0C ((17 : Nat) : Int))) H := ⟨_, rfl, fun H q => va_at_i q (fun j _ => iI_0.symm)⟩
theorem wC_18 {D : va_G} {dT : Nat → ClassId} {h : Nat} {u : Nat → Nat} {o : Nat} {aK aV : Nat → Nat} : ∃ e : va_E, (kw_11 (D, dT, fun _ => 0) h u ++ [(o, .inl (dT 4, 1, .inr (.inl (fun _ => 0))))])[(PLC[18]?).getD 0]? = some (adC h u o aK aV ((18 : Nat) : Int), e) ∧ ∀ H : Heap, va_at D YC_cl (adC h u o aK aV ((18 : Nat) : Int), e) H → va_at D YC_cl (adC h u o aK aV ((18 : Nat) : Int), fm_e (D, dT, adC h u o aK aV) (YC.2.1 ((18 : Nat) : Int)) (x0C ((18 : Nat) : Int))) H := ⟨_, rfl, fun H q => va_at_i q (fun j _ => iI_0.symm)⟩
theorem wC_19 {D : va_G} {dT : Nat → ClassId} {h : Nat} {u : Nat → Nat} {o : Nat} {aK aV : Nat → Nat} : ∃ e : va_E, (kw_11 (D, dT, fun _ => 0) h u ++ [(o, .inl (dT 4, 1, .inr (.inl (fun _ => 0))))])[(PLC[19]?).getD 0]? = some (adC h u o aK aV ((19 : Nat) : Int), e) ∧ ∀ H : Heap, va_at D YC_cl (adC h u o aK aV ((19 : Nat) : Int), e) H → va_at D YC_cl (adC h u o aK aV ((19 : Nat) : Int), fm_e (D, dT, adC h u o aK aV) (YC.2.1 ((19 : Nat) : Int)) (x0C ((19 : Nat) : Int))) H := ⟨_, rfl, fun H q => va_at_i q (fun j _ => iI_0.symm)⟩
theorem wC_20 {D : va_G} {dT : Nat → ClassId} {h : Nat} {u : Nat → Nat} {o : Nat} {aK aV : Nat → Nat} : ∃ e : va_E, (kw_11 (D, dT, fun _ => 0) h u ++ [(o, .inl (dT 4, 1, .inr (.inl (fun _ => 0))))])[(PLC[20]?).getD 0]? = some (adC h u o aK aV ((20 : Nat) : Int), e) ∧ ∀ H : Heap, va_at D YC_cl (adC h u o aK aV ((20 : Nat) : Int), e) H → va_at D YC_cl (adC h u o aK aV ((20 : Nat) : Int), fm_e (D, dT, adC h u o aK aV) (YC.2.1 ((20 : Nat) : Int)) (x0C ((20 : Nat) : Int))) H := ⟨_, rfl, fun H q => va_at_i q (fun j _ => iI_0.symm)⟩
theorem wC_21 {D : va_G} {dT : Nat → ClassId} {h : Nat} {u : Nat → Nat} {o : Nat} {aK aV : Nat → Nat} : ∃ e : va_E, (kw_11 (D, dT, fun _ => 0) h u ++ [(o, .inl (dT 4, 1, .inr (.inl (fun _ => 0))))])[(PLC[21]?).getD 0]? = some (adC h u o aK aV ((21 : Nat) : Int), e) ∧ ∀ H : Heap, va_at D YC_cl (adC h u o aK aV ((21 : Nat) : Int), e) H → va_at D YC_cl (adC h u o aK aV ((21 : Nat) : Int), fm_e (D, dT, adC h u o aK aV) (YC.2.1 ((21 : Nat) : Int)) (x0C ((21 : Nat) : Int))) H := ⟨_, rfl, fun H q => q⟩
theorem wC_22 {D : va_G} {dT : Nat → ClassId} {h : Nat} {u : Nat → Nat} {o : Nat} {aK aV : Nat → Nat} : ∃ e : va_E, (kw_11 (D, dT, fun _ => 0) h u ++ [(o, .inl (dT 4, 1, .inr (.inl (fun _ => 0))))])[(PLC[22]?).getD 0]? = some (adC h u o aK aV ((22 : Nat) : Int), e) ∧ ∀ H : Heap, va_at D YC_cl (adC h u o aK aV ((22 : Nat) : Int), e) H → va_at D YC_cl (adC h u o aK aV ((22 : Nat) : Int), fm_e (D, dT, adC h u o aK aV) (YC.2.1 ((22 : Nat) : Int)) (x0C ((22 : Nat) : Int))) H := ⟨_, rfl, fun H q => va_at_i q (fun j _ => iI_0.symm)⟩
theorem wC_23 {D : va_G} {dT : Nat → ClassId} {h : Nat} {u : Nat → Nat} {o : Nat} {aK aV : Nat → Nat} : ∃ e : va_E, (kw_11 (D, dT, fun _ => 0) h u ++ [(o, .inl (dT 4, 1, .inr (.inl (fun _ => 0))))])[(PLC[23]?).getD 0]? = some (adC h u o aK aV ((23 : Nat) : Int), e) ∧ ∀ H : Heap, va_at D YC_cl (adC h u o aK aV ((23 : Nat) : Int), e) H → va_at D YC_cl (adC h u o aK aV ((23 : Nat) : Int), fm_e (D, dT, adC h u o aK aV) (YC.2.1 ((23 : Nat) : Int)) (x0C ((23 : Nat) : Int))) H := ⟨_, rfl, fun H q => va_at_i q (fun j _ => iI_0.symm)⟩
theorem wC_24 {D : va_G} {dT : Nat → ClassId} {h : Nat} {u : Nat → Nat} {o : Nat} {aK aV : Nat → Nat} : ∃ e : va_E, (kw_11 (D, dT, fun _ => 0) h u ++ [(o, .inl (dT 4, 1, .inr (.inl (fun _ => 0))))])[(PLC[24]?).getD 0]? = some (adC h u o aK aV ((24 : Nat) : Int), e) ∧ ∀ H : Heap, va_at D YC_cl (adC h u o aK aV ((24 : Nat) : Int), e) H → va_at D YC_cl (adC h u o aK aV ((24 : Nat) : Int), fm_e (D, dT, adC h u o aK aV) (YC.2.1 ((24 : Nat) : Int)) (x0C ((24 : Nat) : Int))) H := ⟨_, rfl, fun H q => va_at_i q (fun j _ => iI_0.symm)⟩
theorem wC_25 {D : va_G} {dT : Nat → ClassId} {h : Nat} {u : Nat → Nat} {o : Nat} {aK aV : Nat → Nat} : ∃ e : va_E, (kw_11 (D, dT, fun _ => 0) h u ++ [(o, .inl (dT 4, 1, .inr (.inl (fun _ => 0))))])[(PLC[25]?).getD 0]? = some (adC h u o aK aV ((25 : Nat) : Int), e) ∧ ∀ H : Heap, va_at D YC_cl (adC h u o aK aV ((25 : Nat) : Int), e) H → va_at D YC_cl (adC h u o aK aV ((25 : Nat) : Int), fm_e (D, dT, adC h u o aK aV) (YC.2.1 ((25 : Nat) : Int)) (x0C ((25 : Nat) : Int))) H := ⟨_, rfl, fun H q => va_at_i q (fun j _ => iI_0.symm)⟩
theorem wC_26 {D : va_G} {dT : Nat → ClassId} {h : Nat} {u : Nat → Nat} {o : Nat} {aK aV : Nat → Nat} : ∃ e : va_E, (kw_11 (D, dT, fun _ => 0) h u ++ [(o, .inl (dT 4, 1, .inr (.inl (fun _ => 0))))])[(PLC[26]?).getD 0]? = some (adC h u o aK aV ((26 : Nat) : Int), e) ∧ ∀ H : Heap, va_at D YC_cl (adC h u o aK aV ((26 : Nat) : Int), e) H → va_at D YC_cl (adC h u o aK aV ((26 : Nat) : Int), fm_e (D, dT, adC h u o aK aV) (YC.2.1 ((26 : Nat) : Int)) (x0C ((26 : Nat) : Int))) H := ⟨_, rfl, fun H q => q⟩
theorem wC_27 {D : va_G} {dT : Nat → ClassId} {h : Nat} {u : Nat → Nat} {o : Nat} {aK aV : Nat → Nat} : ∃ e : va_E, (kw_11 (D, dT, fun _ => 0) h u ++ [(o, .inl (dT 4, 1, .inr (.inl (fun _ => 0))))])[(PLC[27]?).getD 0]? = some (adC h u o aK aV ((27 : Nat) : Int), e) ∧ ∀ H : Heap, va_at D YC_cl (adC h u o aK aV ((27 : Nat) : Int), e) H → va_at D YC_cl (adC h u o aK aV ((27 : Nat) : Int), fm_e (D, dT, adC h u o aK aV) (YC.2.1 ((27 : Nat) : Int)) (x0C ((27 : Nat) : Int))) H := ⟨_, rfl, fun H q => va_at_i q (fun j _ => iI_0.symm)⟩
theorem wC_28 {D : va_G} {dT : Nat → ClassId} {h : Nat} {u : Nat → Nat} {o : Nat} {aK aV : Nat → Nat} : ∃ e : va_E, (kw_11 (D, dT, fun _ => 0) h u ++ [(o, .inl (dT 4, 1, .inr (.inl (fun _ => 0))))])[(PLC[28]?).getD 0]? = some (adC h u o aK aV ((28 : Nat) : Int), e) ∧ ∀ H : Heap, va_at D YC_cl (adC h u o aK aV ((28 : Nat) : Int), e) H → va_at D YC_cl (adC h u o aK aV ((28 : Nat) : Int), fm_e (D, dT, adC h u o aK aV) (YC.2.1 ((28 : Nat) : Int)) (x0C ((28 : Nat) : Int))) H := ⟨_, rfl, fun H q => va_at_i q (fun j _ => iI_0.symm)⟩
theorem wC_29 {D : va_G} {dT : Nat → ClassId} {h : Nat} {u : Nat → Nat} {o : Nat} {aK aV : Nat → Nat} : ∃ e : va_E, (kw_11 (D, dT, fun _ => 0) h u ++ [(o, .inl (dT 4, 1, .inr (.inl (fun _ => 0))))])[(PLC[29]?).getD 0]? = some (adC h u o aK aV ((29 : Nat) : Int), e) ∧ ∀ H : Heap, va_at D YC_cl (adC h u o aK aV ((29 : Nat) : Int), e) H → va_at D YC_cl (adC h u o aK aV ((29 : Nat) : Int), fm_e (D, dT, adC h u o aK aV) (YC.2.1 ((29 : Nat) : Int)) (x0C ((29 : Nat) : Int))) H := ⟨_, rfl, fun H q => va_at_i q (fun j _ => iI_0.symm)⟩
theorem wC_30 {D : va_G} {dT : Nat → ClassId} {h : Nat} {u : Nat → Nat} {o : Nat} {aK aV : Nat → Nat} : ∃ e : va_E, (kw_11 (D, dT, fun _ => 0) h u ++ [(o, .inl (dT 4, 1, .inr (.inl (fun _ => 0))))])[(PLC[30]?).getD 0]? = some (adC h u o aK aV ((30 : Nat) : Int), e) ∧ ∀ H : Heap, va_at D YC_cl (adC h u o aK aV ((30 : Nat) : Int), e) H → va_at D YC_cl (adC h u o aK aV ((30 : Nat) : Int), fm_e (D, dT, adC h u o aK aV) (YC.2.1 ((30 : Nat) : Int)) (x0C ((30 : Nat) : Int))) H := ⟨_, rfl, fun H q => va_at_i q (fun j _ => iI_0.symm)⟩
theorem wC_31 {D : va_G} {dT : Nat → ClassId} {h : Nat} {u : Nat → Nat} {o : Nat} {aK aV : Nat → Nat} : ∃ e : va_E, (kw_11 (D, dT, fun _ => 0) h u ++ [(o, .inl (dT 4, 1, .inr (.inl (fun _ => 0))))])[(PLC[31]?).getD 0]? = some (adC h u o aK aV ((31 : Nat) : Int), e) ∧ ∀ H : Heap, va_at D YC_cl (adC h u o aK aV ((31 : Nat) : Int), e) H → va_at D YC_cl (adC h u o aK aV ((31 : Nat) : Int), fm_e (D, dT, adC h u o aK aV) (YC.2.1 ((31 : Nat) : Int)) (x0C ((31 : Nat) : Int))) H := ⟨_, rfl, fun H q => q⟩
theorem wC_32 {D : va_G} {dT : Nat → ClassId} {h : Nat} {u : Nat → Nat} {o : Nat} {aK aV : Nat → Nat} : ∃ e : va_E, (kw_11 (D, dT, fun _ => 0) h u ++ [(o, .inl (dT 4, 1, .inr (.inl (fun _ => 0))))])[(PLC[32]?).getD 0]? = some (adC h u o aK aV ((32 : Nat) : Int), e) ∧ ∀ H : Heap, va_at D YC_cl (adC h u o aK aV ((32 : Nat) : Int), e) H → va_at D YC_cl (adC h u o aK aV ((32 : Nat) : Int), fm_e (D, dT, adC h u o aK aV) (YC.2.1 ((32 : Nat) : Int)) (x0C ((32 : Nat) : Int))) H := ⟨_, rfl, fun H q => va_at_i q (fun j _ => iI_0.symm)⟩
theorem wC_33 {D : va_G} {dT : Nat → ClassId} {h : Nat} {u : Nat → Nat} {o : Nat} {aK aV : Nat → Nat} : ∃ e : va_E, (kw_11 (D, dT, fun _ => 0) h u ++ [(o, .inl (dT 4, 1, .inr (.inl (fun _ => 0))))])[(PLC[33]?).getD 0]? = some (adC h u o aK aV ((33 : Nat) : Int), e) ∧ ∀ H : Heap, va_at D YC_cl (adC h u o aK aV ((33 : Nat) : Int), e) H → va_at D YC_cl (adC h u o aK aV ((33 : Nat) : Int), fm_e (D, dT, adC h u o aK aV) (YC.2.1 ((33 : Nat) : Int)) (x0C ((33 : Nat) : Int))) H := ⟨_, rfl, fun H q => va_at_i q (fun j _ => iI_0.symm)⟩
theorem wC_34 {D : va_G} {dT : Nat → ClassId} {h : Nat} {u : Nat → Nat} {o : Nat} {aK aV : Nat → Nat} : ∃ e : va_E, (kw_11 (D, dT, fun _ => 0) h u ++ [(o, .inl (dT 4, 1, .inr (.inl (fun _ => 0))))])[(PLC[34]?).getD 0]? = some (adC h u o aK aV ((34 : Nat) : Int), e) ∧ ∀ H : Heap, va_at D YC_cl (adC h u o aK aV ((34 : Nat) : Int), e) H → va_at D YC_cl (adC h u o aK aV ((34 : Nat) : Int), fm_e (D, dT, adC h u o aK aV) (YC.2.1 ((34 : Nat) : Int)) (x0C ((34 : Nat) : Int))) H := ⟨_, rfl, fun H q => va_at_i q (fun j _ => iI_0.symm)⟩
theorem wC_35 {D : va_G} {dT : Nat → ClassId} {h : Nat} {u : Nat → Nat} {o : Nat} {aK aV : Nat → Nat} : ∃ e : va_E, (kw_11 (D, dT, fun _ => 0) h u ++ [(o, .inl (dT 4, 1, .inr (.inl (fun _ => 0))))])[(PLC[35]?).getD 0]? = some (adC h u o aK aV ((35 : Nat) : Int), e) ∧ ∀ H : Heap, va_at D YC_cl (adC h u o aK aV ((35 : Nat) : Int), e) H → va_at D YC_cl (adC h u o aK aV ((35 : Nat) : Int), fm_e (D, dT, adC h u o aK aV) (YC.2.1 ((35 : Nat) : Int)) (x0C ((35 : Nat) : Int))) H := ⟨_, rfl, fun H q => va_at_i q (fun j _ => iI_0.symm)⟩
theorem wC_36 {D : va_G} {dT : Nat → ClassId} {h : Nat} {u : Nat → Nat} {o : Nat} {aK aV : Nat → Nat} : ∃ e : va_E, (kw_11 (D, dT, fun _ => 0) h u ++ [(o, .inl (dT 4, 1, .inr (.inl (fun _ => 0))))])[(PLC[36]?).getD 0]? = some (adC h u o aK aV ((36 : Nat) : Int), e) ∧ ∀ H : Heap, va_at D YC_cl (adC h u o aK aV ((36 : Nat) : Int), e) H → va_at D YC_cl (adC h u o aK aV ((36 : Nat) : Int), fm_e (D, dT, adC h u o aK aV) (YC.2.1 ((36 : Nat) : Int)) (x0C ((36 : Nat) : Int))) H := ⟨_, rfl, fun H q => q⟩
theorem wC_37 {D : va_G} {dT : Nat → ClassId} {h : Nat} {u : Nat → Nat} {o : Nat} {aK aV : Nat → Nat} : ∃ e : va_E, (kw_11 (D, dT, fun _ => 0) h u ++ [(o, .inl (dT 4, 1, .inr (.inl (fun _ => 0))))])[(PLC[37]?).getD 0]? = some (adC h u o aK aV ((37 : Nat) : Int), e) ∧ ∀ H : Heap, va_at D YC_cl (adC h u o aK aV ((37 : Nat) : Int), e) H → va_at D YC_cl (adC h u o aK aV ((37 : Nat) : Int), fm_e (D, dT, adC h u o aK aV) (YC.2.1 ((37 : Nat) : Int)) (x0C ((37 : Nat) : Int))) H := ⟨_, rfl, fun H q => va_at_i q (fun j _ => iI_0.symm)⟩
theorem wC_38 {D : va_G} {dT : Nat → ClassId} {h : Nat} {u : Nat → Nat} {o : Nat} {aK aV : Nat → Nat} : ∃ e : va_E, (kw_11 (D, dT, fun _ => 0) h u ++ [(o, .inl (dT 4, 1, .inr (.inl (fun _ => 0))))])[(PLC[38]?).getD 0]? = some (adC h u o aK aV ((38 : Nat) : Int), e) ∧ ∀ H : Heap, va_at D YC_cl (adC h u o aK aV ((38 : Nat) : Int), e) H → va_at D YC_cl (adC h u o aK aV ((38 : Nat) : Int), fm_e (D, dT, adC h u o aK aV) (YC.2.1 ((38 : Nat) : Int)) (x0C ((38 : Nat) : Int))) H := ⟨_, rfl, fun H q => va_at_i q (fun j _ => iI_0.symm)⟩
theorem wC_39 {D : va_G} {dT : Nat → ClassId} {h : Nat} {u : Nat → Nat} {o : Nat} {aK aV : Nat → Nat} : ∃ e : va_E, (kw_11 (D, dT, fun _ => 0) h u ++ [(o, .inl (dT 4, 1, .inr (.inl (fun _ => 0))))])[(PLC[39]?).getD 0]? = some (adC h u o aK aV ((39 : Nat) : Int), e) ∧ ∀ H : Heap, va_at D YC_cl (adC h u o aK aV ((39 : Nat) : Int), e) H → va_at D YC_cl (adC h u o aK aV ((39 : Nat) : Int), fm_e (D, dT, adC h u o aK aV) (YC.2.1 ((39 : Nat) : Int)) (x0C ((39 : Nat) : Int))) H := ⟨_, rfl, fun H q => va_at_i q (fun j _ => iI_0.symm)⟩
theorem wC_40 {D : va_G} {dT : Nat → ClassId} {h : Nat} {u : Nat → Nat} {o : Nat} {aK aV : Nat → Nat} : ∃ e : va_E, (kw_11 (D, dT, fun _ => 0) h u ++ [(o, .inl (dT 4, 1, .inr (.inl (fun _ => 0))))])[(PLC[40]?).getD 0]? = some (adC h u o aK aV ((40 : Nat) : Int), e) ∧ ∀ H : Heap, va_at D YC_cl (adC h u o aK aV ((40 : Nat) : Int), e) H → va_at D YC_cl (adC h u o aK aV ((40 : Nat) : Int), fm_e (D, dT, adC h u o aK aV) (YC.2.1 ((40 : Nat) : Int)) (x0C ((40 : Nat) : Int))) H := ⟨_, rfl, fun H q => va_at_i q (fun j _ => iI_0.symm)⟩
theorem wC_41 {D : va_G} {dT : Nat → ClassId} {h : Nat} {u : Nat → Nat} {o : Nat} {aK aV : Nat → Nat} : ∃ e : va_E, (kw_11 (D, dT, fun _ => 0) h u ++ [(o, .inl (dT 4, 1, .inr (.inl (fun _ => 0))))])[(PLC[41]?).getD 0]? = some (adC h u o aK aV ((41 : Nat) : Int), e) ∧ ∀ H : Heap, va_at D YC_cl (adC h u o aK aV ((41 : Nat) : Int), e) H → va_at D YC_cl (adC h u o aK aV ((41 : Nat) : Int), fm_e (D, dT, adC h u o aK aV) (YC.2.1 ((41 : Nat) : Int)) (x0C ((41 : Nat) : Int))) H := ⟨_, rfl, fun H q => q⟩
theorem wC_42 {D : va_G} {dT : Nat → ClassId} {h : Nat} {u : Nat → Nat} {o : Nat} {aK aV : Nat → Nat} : ∃ e : va_E, (kw_11 (D, dT, fun _ => 0) h u ++ [(o, .inl (dT 4, 1, .inr (.inl (fun _ => 0))))])[(PLC[42]?).getD 0]? = some (adC h u o aK aV ((42 : Nat) : Int), e) ∧ ∀ H : Heap, va_at D YC_cl (adC h u o aK aV ((42 : Nat) : Int), e) H → va_at D YC_cl (adC h u o aK aV ((42 : Nat) : Int), fm_e (D, dT, adC h u o aK aV) (YC.2.1 ((42 : Nat) : Int)) (x0C ((42 : Nat) : Int))) H := ⟨_, rfl, fun H q => va_at_i q (fun j _ => iI_0.symm)⟩
theorem wC_43 {D : va_G} {dT : Nat → ClassId} {h : Nat} {u : Nat → Nat} {o : Nat} {aK aV : Nat → Nat} : ∃ e : va_E, (kw_11 (D, dT, fun _ => 0) h u ++ [(o, .inl (dT 4, 1, .inr (.inl (fun _ => 0))))])[(PLC[43]?).getD 0]? = some (adC h u o aK aV ((43 : Nat) : Int), e) ∧ ∀ H : Heap, va_at D YC_cl (adC h u o aK aV ((43 : Nat) : Int), e) H → va_at D YC_cl (adC h u o aK aV ((43 : Nat) : Int), fm_e (D, dT, adC h u o aK aV) (YC.2.1 ((43 : Nat) : Int)) (x0C ((43 : Nat) : Int))) H := ⟨_, rfl, fun H q => va_at_i q (fun j _ => iI_0.symm)⟩
theorem wC_44 {D : va_G} {dT : Nat → ClassId} {h : Nat} {u : Nat → Nat} {o : Nat} {aK aV : Nat → Nat} : ∃ e : va_E, (kw_11 (D, dT, fun _ => 0) h u ++ [(o, .inl (dT 4, 1, .inr (.inl (fun _ => 0))))])[(PLC[44]?).getD 0]? = some (adC h u o aK aV ((44 : Nat) : Int), e) ∧ ∀ H : Heap, va_at D YC_cl (adC h u o aK aV ((44 : Nat) : Int), e) H → va_at D YC_cl (adC h u o aK aV ((44 : Nat) : Int), fm_e (D, dT, adC h u o aK aV) (YC.2.1 ((44 : Nat) : Int)) (x0C ((44 : Nat) : Int))) H := ⟨_, rfl, fun H q => va_at_i q (fun j _ => iI_0.symm)⟩
theorem wC_45 {D : va_G} {dT : Nat → ClassId} {h : Nat} {u : Nat → Nat} {o : Nat} {aK aV : Nat → Nat} : ∃ e : va_E, (kw_11 (D, dT, fun _ => 0) h u ++ [(o, .inl (dT 4, 1, .inr (.inl (fun _ => 0))))])[(PLC[45]?).getD 0]? = some (adC h u o aK aV ((45 : Nat) : Int), e) ∧ ∀ H : Heap, va_at D YC_cl (adC h u o aK aV ((45 : Nat) : Int), e) H → va_at D YC_cl (adC h u o aK aV ((45 : Nat) : Int), fm_e (D, dT, adC h u o aK aV) (YC.2.1 ((45 : Nat) : Int)) (x0C ((45 : Nat) : Int))) H := ⟨_, rfl, fun H q => va_at_i q (fun j _ => iI_0.symm)⟩
theorem wC_46 {D : va_G} {dT : Nat → ClassId} {h : Nat} {u : Nat → Nat} {o : Nat} {aK aV : Nat → Nat} : ∃ e : va_E, (kw_11 (D, dT, fun _ => 0) h u ++ [(o, .inl (dT 4, 1, .inr (.inl (fun _ => 0))))])[(PLC[46]?).getD 0]? = some (adC h u o aK aV ((46 : Nat) : Int), e) ∧ ∀ H : Heap, va_at D YC_cl (adC h u o aK aV ((46 : Nat) : Int), e) H → va_at D YC_cl (adC h u o aK aV ((46 : Nat) : Int), fm_e (D, dT, adC h u o aK aV) (YC.2.1 ((46 : Nat) : Int)) (x0C ((46 : Nat) : Int))) H := ⟨_, rfl, fun H q => q⟩
theorem wC_47 {D : va_G} {dT : Nat → ClassId} {h : Nat} {u : Nat → Nat} {o : Nat} {aK aV : Nat → Nat} : ∃ e : va_E, (kw_11 (D, dT, fun _ => 0) h u ++ [(o, .inl (dT 4, 1, .inr (.inl (fun _ => 0))))])[(PLC[47]?).getD 0]? = some (adC h u o aK aV ((47 : Nat) : Int), e) ∧ ∀ H : Heap, va_at D YC_cl (adC h u o aK aV ((47 : Nat) : Int), e) H → va_at D YC_cl (adC h u o aK aV ((47 : Nat) : Int), fm_e (D, dT, adC h u o aK aV) (YC.2.1 ((47 : Nat) : Int)) (x0C ((47 : Nat) : Int))) H := ⟨_, rfl, fun H q => va_at_i q (fun j _ => iI_0.symm)⟩
theorem wC_48 {D : va_G} {dT : Nat → ClassId} {h : Nat} {u : Nat → Nat} {o : Nat} {aK aV : Nat → Nat} : ∃ e : va_E, (kw_11 (D, dT, fun _ => 0) h u ++ [(o, .inl (dT 4, 1, .inr (.inl (fun _ => 0))))])[(PLC[48]?).getD 0]? = some (adC h u o aK aV ((48 : Nat) : Int), e) ∧ ∀ H : Heap, va_at D YC_cl (adC h u o aK aV ((48 : Nat) : Int), e) H → va_at D YC_cl (adC h u o aK aV ((48 : Nat) : Int), fm_e (D, dT, adC h u o aK aV) (YC.2.1 ((48 : Nat) : Int)) (x0C ((48 : Nat) : Int))) H := ⟨_, rfl, fun H q => va_at_i q (fun j _ => iI_0.symm)⟩
theorem wC_49 {D : va_G} {dT : Nat → ClassId} {h : Nat} {u : Nat → Nat} {o : Nat} {aK aV : Nat → Nat} : ∃ e : va_E, (kw_11 (D, dT, fun _ => 0) h u ++ [(o, .inl (dT 4, 1, .inr (.inl (fun _ => 0))))])[(PLC[49]?).getD 0]? = some (adC h u o aK aV ((49 : Nat) : Int), e) ∧ ∀ H : Heap, va_at D YC_cl (adC h u o aK aV ((49 : Nat) : Int), e) H → va_at D YC_cl (adC h u o aK aV ((49 : Nat) : Int), fm_e (D, dT, adC h u o aK aV) (YC.2.1 ((49 : Nat) : Int)) (x0C ((49 : Nat) : Int))) H := ⟨_, rfl, fun H q => va_at_i q (fun j _ => iI_0.symm)⟩
theorem wC_50 {D : va_G} {dT : Nat → ClassId} {h : Nat} {u : Nat → Nat} {o : Nat} {aK aV : Nat → Nat} : ∃ e : va_E, (kw_11 (D, dT, fun _ => 0) h u ++ [(o, .inl (dT 4, 1, .inr (.inl (fun _ => 0))))])[(PLC[50]?).getD 0]? = some (adC h u o aK aV ((50 : Nat) : Int), e) ∧ ∀ H : Heap, va_at D YC_cl (adC h u o aK aV ((50 : Nat) : Int), e) H → va_at D YC_cl (adC h u o aK aV ((50 : Nat) : Int), fm_e (D, dT, adC h u o aK aV) (YC.2.1 ((50 : Nat) : Int)) (x0C ((50 : Nat) : Int))) H := ⟨_, rfl, fun H q => va_at_i q (fun j _ => iI_0.symm)⟩
theorem wC_51 {D : va_G} {dT : Nat → ClassId} {h : Nat} {u : Nat → Nat} {o : Nat} {aK aV : Nat → Nat} : ∃ e : va_E, (kw_11 (D, dT, fun _ => 0) h u ++ [(o, .inl (dT 4, 1, .inr (.inl (fun _ => 0))))])[(PLC[51]?).getD 0]? = some (adC h u o aK aV ((51 : Nat) : Int), e) ∧ ∀ H : Heap, va_at D YC_cl (adC h u o aK aV ((51 : Nat) : Int), e) H → va_at D YC_cl (adC h u o aK aV ((51 : Nat) : Int), fm_e (D, dT, adC h u o aK aV) (YC.2.1 ((51 : Nat) : Int)) (x0C ((51 : Nat) : Int))) H := ⟨_, rfl, fun H q => q⟩
theorem wC_52 {D : va_G} {dT : Nat → ClassId} {h : Nat} {u : Nat → Nat} {o : Nat} {aK aV : Nat → Nat} : ∃ e : va_E, (kw_11 (D, dT, fun _ => 0) h u ++ [(o, .inl (dT 4, 1, .inr (.inl (fun _ => 0))))])[(PLC[52]?).getD 0]? = some (adC h u o aK aV ((52 : Nat) : Int), e) ∧ ∀ H : Heap, va_at D YC_cl (adC h u o aK aV ((52 : Nat) : Int), e) H → va_at D YC_cl (adC h u o aK aV ((52 : Nat) : Int), fm_e (D, dT, adC h u o aK aV) (YC.2.1 ((52 : Nat) : Int)) (x0C ((52 : Nat) : Int))) H := ⟨_, rfl, fun H q => va_at_i q (fun j _ => iI_0.symm)⟩
theorem wC_53 {D : va_G} {dT : Nat → ClassId} {h : Nat} {u : Nat → Nat} {o : Nat} {aK aV : Nat → Nat} : ∃ e : va_E, (kw_11 (D, dT, fun _ => 0) h u ++ [(o, .inl (dT 4, 1, .inr (.inl (fun _ => 0))))])[(PLC[53]?).getD 0]? = some (adC h u o aK aV ((53 : Nat) : Int), e) ∧ ∀ H : Heap, va_at D YC_cl (adC h u o aK aV ((53 : Nat) : Int), e) H → va_at D YC_cl (adC h u o aK aV ((53 : Nat) : Int), fm_e (D, dT, adC h u o aK aV) (YC.2.1 ((53 : Nat) : Int)) (x0C ((53 : Nat) : Int))) H := ⟨_, rfl, fun H q => va_at_i q (fun j _ => iI_0.symm)⟩
theorem wC_54 {D : va_G} {dT : Nat → ClassId} {h : Nat} {u : Nat → Nat} {o : Nat} {aK aV : Nat → Nat} : ∃ e : va_E, (kw_11 (D, dT, fun _ => 0) h u ++ [(o, .inl (dT 4, 1, .inr (.inl (fun _ => 0))))])[(PLC[54]?).getD 0]? = some (adC h u o aK aV ((54 : Nat) : Int), e) ∧ ∀ H : Heap, va_at D YC_cl (adC h u o aK aV ((54 : Nat) : Int), e) H → va_at D YC_cl (adC h u o aK aV ((54 : Nat) : Int), fm_e (D, dT, adC h u o aK aV) (YC.2.1 ((54 : Nat) : Int)) (x0C ((54 : Nat) : Int))) H := ⟨_, rfl, fun H q => va_at_i q (fun j _ => iI_0.symm)⟩
theorem wC_55 {D : va_G} {dT : Nat → ClassId} {h : Nat} {u : Nat → Nat} {o : Nat} {aK aV : Nat → Nat} : ∃ e : va_E, (kw_11 (D, dT, fun _ => 0) h u ++ [(o, .inl (dT 4, 1, .inr (.inl (fun _ => 0))))])[(PLC[55]?).getD 0]? = some (adC h u o aK aV ((55 : Nat) : Int), e) ∧ ∀ H : Heap, va_at D YC_cl (adC h u o aK aV ((55 : Nat) : Int), e) H → va_at D YC_cl (adC h u o aK aV ((55 : Nat) : Int), fm_e (D, dT, adC h u o aK aV) (YC.2.1 ((55 : Nat) : Int)) (x0C ((55 : Nat) : Int))) H := ⟨_, rfl, fun H q => va_at_i q (fun j _ => iI_0.symm)⟩
theorem wC_56 {D : va_G} {dT : Nat → ClassId} {h : Nat} {u : Nat → Nat} {o : Nat} {aK aV : Nat → Nat} : ∃ e : va_E, (kw_11 (D, dT, fun _ => 0) h u ++ [(o, .inl (dT 4, 1, .inr (.inl (fun _ => 0))))])[(PLC[56]?).getD 0]? = some (adC h u o aK aV ((56 : Nat) : Int), e) ∧ ∀ H : Heap, va_at D YC_cl (adC h u o aK aV ((56 : Nat) : Int), e) H → va_at D YC_cl (adC h u o aK aV ((56 : Nat) : Int), fm_e (D, dT, adC h u o aK aV) (YC.2.1 ((56 : Nat) : Int)) (x0C ((56 : Nat) : Int))) H := ⟨_, rfl, fun H q => q⟩
theorem wC_57 {D : va_G} {dT : Nat → ClassId} {h : Nat} {u : Nat → Nat} {o : Nat} {aK aV : Nat → Nat} : ∃ e : va_E, (kw_11 (D, dT, fun _ => 0) h u ++ [(o, .inl (dT 4, 1, .inr (.inl (fun _ => 0))))])[(PLC[57]?).getD 0]? = some (adC h u o aK aV ((57 : Nat) : Int), e) ∧ ∀ H : Heap, va_at D YC_cl (adC h u o aK aV ((57 : Nat) : Int), e) H → va_at D YC_cl (adC h u o aK aV ((57 : Nat) : Int), fm_e (D, dT, adC h u o aK aV) (YC.2.1 ((57 : Nat) : Int)) (x0C ((57 : Nat) : Int))) H := ⟨_, rfl, fun H q => va_at_i q (fun j _ => iI_0.symm)⟩
theorem wC_58 {D : va_G} {dT : Nat → ClassId} {h : Nat} {u : Nat → Nat} {o : Nat} {aK aV : Nat → Nat} : ∃ e : va_E, (kw_11 (D, dT, fun _ => 0) h u ++ [(o, .inl (dT 4, 1, .inr (.inl (fun _ => 0))))])[(PLC[58]?).getD 0]? = some (adC h u o aK aV ((58 : Nat) : Int), e) ∧ ∀ H : Heap, va_at D YC_cl (adC h u o aK aV ((58 : Nat) : Int), e) H → va_at D YC_cl (adC h u o aK aV ((58 : Nat) : Int), fm_e (D, dT, adC h u o aK aV) (YC.2.1 ((58 : Nat) : Int)) (x0C ((58 : Nat) : Int))) H := ⟨_, rfl, fun H q => va_at_i q (fun j _ => iI_0.symm)⟩
theorem wC_59 {D : va_G} {dT : Nat → ClassId} {h : Nat} {u : Nat → Nat} {o : Nat} {aK aV : Nat → Nat} : ∃ e : va_E, (kw_11 (D, dT, fun _ => 0) h u ++ [(o, .inl (dT 4, 1, .inr (.inl (fun _ => 0))))])[(PLC[59]?).getD 0]? = some (adC h u o aK aV ((59 : Nat) : Int), e) ∧ ∀ H : Heap, va_at D YC_cl (adC h u o aK aV ((59 : Nat) : Int), e) H → va_at D YC_cl (adC h u o aK aV ((59 : Nat) : Int), fm_e (D, dT, adC h u o aK aV) (YC.2.1 ((59 : Nat) : Int)) (x0C ((59 : Nat) : Int))) H := ⟨_, rfl, fun H q => va_at_i q (fun j _ => iI_0.symm)⟩
theorem wC_60 {D : va_G} {dT : Nat → ClassId} {h : Nat} {u : Nat → Nat} {o : Nat} {aK aV : Nat → Nat} : ∃ e : va_E, (kw_11 (D, dT, fun _ => 0) h u ++ [(o, .inl (dT 4, 1, .inr (.inl (fun _ => 0))))])[(PLC[60]?).getD 0]? = some (adC h u o aK aV ((60 : Nat) : Int), e) ∧ ∀ H : Heap, va_at D YC_cl (adC h u o aK aV ((60 : Nat) : Int), e) H → va_at D YC_cl (adC h u o aK aV ((60 : Nat) : Int), fm_e (D, dT, adC h u o aK aV) (YC.2.1 ((60 : Nat) : Int)) (x0C ((60 : Nat) : Int))) H := ⟨_, rfl, fun H q => va_at_i q (fun j _ => iI_0.symm)⟩
theorem wC_61 {D : va_G} {dT : Nat → ClassId} {h : Nat} {u : Nat → Nat} {o : Nat} {aK aV : Nat → Nat} : ∃ e : va_E, (kw_11 (D, dT, fun _ => 0) h u ++ [(o, .inl (dT 4, 1, .inr (.inl (fun _ => 0))))])[(PLC[61]?).getD 0]? = some (adC h u o aK aV ((61 : Nat) : Int), e) ∧ ∀ H : Heap, va_at D YC_cl (adC h u o aK aV ((61 : Nat) : Int), e) H → va_at D YC_cl (adC h u o aK aV ((61 : Nat) : Int), fm_e (D, dT, adC h u o aK aV) (YC.2.1 ((61 : Nat) : Int)) (x0C ((61 : Nat) : Int))) H := ⟨_, rfl, fun H q => q⟩
theorem wC_62 {D : va_G} {dT : Nat → ClassId} {h : Nat} {u : Nat → Nat} {o : Nat} {aK aV : Nat → Nat} : ∃ e : va_E, (kw_11 (D, dT, fun _ => 0) h u ++ [(o, .inl (dT 4, 1, .inr (.inl (fun _ => 0))))])[(PLC[62]?).getD 0]? = some (adC h u o aK aV ((62 : Nat) : Int), e) ∧ ∀ H : Heap, va_at D YC_cl (adC h u o aK aV ((62 : Nat) : Int), e) H → va_at D YC_cl (adC h u o aK aV ((62 : Nat) : Int), fm_e (D, dT, adC h u o aK aV) (YC.2.1 ((62 : Nat) : Int)) (x0C ((62 : Nat) : Int))) H := ⟨_, rfl, fun H q => va_at_i q (fun j _ => iI_0.symm)⟩
theorem wC_63 {D : va_G} {dT : Nat → ClassId} {h : Nat} {u : Nat → Nat} {o : Nat} {aK aV : Nat → Nat} : ∃ e : va_E, (kw_11 (D, dT, fun _ => 0) h u ++ [(o, .inl (dT 4, 1, .inr (.inl (fun _ => 0))))])[(PLC[63]?).getD 0]? = some (adC h u o aK aV ((63 : Nat) : Int), e) ∧ ∀ H : Heap, va_at D YC_cl (adC h u o aK aV ((63 : Nat) : Int), e) H → va_at D YC_cl (adC h u o aK aV ((63 : Nat) : Int), fm_e (D, dT, adC h u o aK aV) (YC.2.1 ((63 : Nat) : Int)) (x0C ((63 : Nat) : Int))) H := ⟨_, rfl, fun H q => va_at_i q (fun j _ => iI_0.symm)⟩
theorem wC_64 {D : va_G} {dT : Nat → ClassId} {h : Nat} {u : Nat → Nat} {o : Nat} {aK aV : Nat → Nat} : ∃ e : va_E, (kw_11 (D, dT, fun _ => 0) h u ++ [(o, .inl (dT 4, 1, .inr (.inl (fun _ => 0))))])[(PLC[64]?).getD 0]? = some (adC h u o aK aV ((64 : Nat) : Int), e) ∧ ∀ H : Heap, va_at D YC_cl (adC h u o aK aV ((64 : Nat) : Int), e) H → va_at D YC_cl (adC h u o aK aV ((64 : Nat) : Int), fm_e (D, dT, adC h u o aK aV) (YC.2.1 ((64 : Nat) : Int)) (x0C ((64 : Nat) : Int))) H := ⟨_, rfl, fun H q => va_at_i q (fun j _ => iI_0.symm)⟩
theorem wC_65 {D : va_G} {dT : Nat → ClassId} {h : Nat} {u : Nat → Nat} {o : Nat} {aK aV : Nat → Nat} : ∃ e : va_E, (kw_11 (D, dT, fun _ => 0) h u ++ [(o, .inl (dT 4, 1, .inr (.inl (fun _ => 0))))])[(PLC[65]?).getD 0]? = some (adC h u o aK aV ((65 : Nat) : Int), e) ∧ ∀ H : Heap, va_at D YC_cl (adC h u o aK aV ((65 : Nat) : Int), e) H → va_at D YC_cl (adC h u o aK aV ((65 : Nat) : Int), fm_e (D, dT, adC h u o aK aV) (YC.2.1 ((65 : Nat) : Int)) (x0C ((65 : Nat) : Int))) H := ⟨_, rfl, fun H q => va_at_i q (fun j _ => iI_0.symm)⟩
theorem wC_66 {D : va_G} {dT : Nat → ClassId} {h : Nat} {u : Nat → Nat} {o : Nat} {aK aV : Nat → Nat} : ∃ e : va_E, (kw_11 (D, dT, fun _ => 0) h u ++ [(o, .inl (dT 4, 1, .inr (.inl (fun _ => 0))))])[(PLC[66]?).getD 0]? = some (adC h u o aK aV ((66 : Nat) : Int), e) ∧ ∀ H : Heap, va_at D YC_cl (adC h u o aK aV ((66 : Nat) : Int), e) H → va_at D YC_cl (adC h u o aK aV ((66 : Nat) : Int), fm_e (D, dT, adC h u o aK aV) (YC.2.1 ((66 : Nat) : Int)) (x0C ((66 : Nat) : Int))) H := ⟨_, rfl, fun H q => va_at_q q (fun j hj => by rcases (show j = 0 ∨ j = 1 by omega) with rfl | rfl <;> rfl)⟩
theorem wC_67 {D : va_G} {dT : Nat → ClassId} {h : Nat} {u : Nat → Nat} {o : Nat} {aK aV : Nat → Nat} : ∃ e : va_E, (kw_11 (D, dT, fun _ => 0) h u ++ [(o, .inl (dT 4, 1, .inr (.inl (fun _ => 0))))])[(PLC[67]?).getD 0]? = some (adC h u o aK aV ((67 : Nat) : Int), e) ∧ ∀ H : Heap, va_at D YC_cl (adC h u o aK aV ((67 : Nat) : Int), e) H → va_at D YC_cl (adC h u o aK aV ((67 : Nat) : Int), fm_e (D, dT, adC h u o aK aV) (YC.2.1 ((67 : Nat) : Int)) (x0C ((67 : Nat) : Int))) H := ⟨_, rfl, fun H q => q⟩
theorem wC_68 {D : va_G} {dT : Nat → ClassId} {h : Nat} {u : Nat → Nat} {o : Nat} {aK aV : Nat → Nat} : ∃ e : va_E, (kw_11 (D, dT, fun _ => 0) h u ++ [(o, .inl (dT 4, 1, .inr (.inl (fun _ => 0))))])[(PLC[68]?).getD 0]? = some (adC h u o aK aV ((68 : Nat) : Int), e) ∧ ∀ H : Heap, va_at D YC_cl (adC h u o aK aV ((68 : Nat) : Int), e) H → va_at D YC_cl (adC h u o aK aV ((68 : Nat) : Int), fm_e (D, dT, adC h u o aK aV) (YC.2.1 ((68 : Nat) : Int)) (x0C ((68 : Nat) : Int))) H := ⟨_, rfl, fun H q => va_at_i q (fun j _ => iI_0.symm)⟩
theorem wC_69 {D : va_G} {dT : Nat → ClassId} {h : Nat} {u : Nat → Nat} {o : Nat} {aK aV : Nat → Nat} : ∃ e : va_E, (kw_11 (D, dT, fun _ => 0) h u ++ [(o, .inl (dT 4, 1, .inr (.inl (fun _ => 0))))])[(PLC[69]?).getD 0]? = some (adC h u o aK aV ((69 : Nat) : Int), e) ∧ ∀ H : Heap, va_at D YC_cl (adC h u o aK aV ((69 : Nat) : Int), e) H → va_at D YC_cl (adC h u o aK aV ((69 : Nat) : Int), fm_e (D, dT, adC h u o aK aV) (YC.2.1 ((69 : Nat) : Int)) (x0C ((69 : Nat) : Int))) H := ⟨_, rfl, fun H q => va_at_i q (fun j _ => iI_0.symm)⟩
theorem wC_70 {D : va_G} {dT : Nat → ClassId} {h : Nat} {u : Nat → Nat} {o : Nat} {aK aV : Nat → Nat} : ∃ e : va_E, (kw_11 (D, dT, fun _ => 0) h u ++ [(o, .inl (dT 4, 1, .inr (.inl (fun _ => 0))))])[(PLC[70]?).getD 0]? = some (adC h u o aK aV ((70 : Nat) : Int), e) ∧ ∀ H : Heap, va_at D YC_cl (adC h u o aK aV ((70 : Nat) : Int), e) H → va_at D YC_cl (adC h u o aK aV ((70 : Nat) : Int), fm_e (D, dT, adC h u o aK aV) (YC.2.1 ((70 : Nat) : Int)) (x0C ((70 : Nat) : Int))) H := ⟨_, rfl, fun H q => va_at_i q (fun j _ => iI_0.symm)⟩
theorem wC_71 {D : va_G} {dT : Nat → ClassId} {h : Nat} {u : Nat → Nat} {o : Nat} {aK aV : Nat → Nat} : ∃ e : va_E, (kw_11 (D, dT, fun _ => 0) h u ++ [(o, .inl (dT 4, 1, .inr (.inl (fun _ => 0))))])[(PLC[71]?).getD 0]? = some (adC h u o aK aV ((71 : Nat) : Int), e) ∧ ∀ H : Heap, va_at D YC_cl (adC h u o aK aV ((71 : Nat) : Int), e) H → va_at D YC_cl (adC h u o aK aV ((71 : Nat) : Int), fm_e (D, dT, adC h u o aK aV) (YC.2.1 ((71 : Nat) : Int)) (x0C ((71 : Nat) : Int))) H := ⟨_, rfl, fun H q => va_at_i q (fun j _ => iI_0.symm)⟩
theorem wC_72 {D : va_G} {dT : Nat → ClassId} {h : Nat} {u : Nat → Nat} {o : Nat} {aK aV : Nat → Nat} : ∃ e : va_E, (kw_11 (D, dT, fun _ => 0) h u ++ [(o, .inl (dT 4, 1, .inr (.inl (fun _ => 0))))])[(PLC[72]?).getD 0]? = some (adC h u o aK aV ((72 : Nat) : Int), e) ∧ ∀ H : Heap, va_at D YC_cl (adC h u o aK aV ((72 : Nat) : Int), e) H → va_at D YC_cl (adC h u o aK aV ((72 : Nat) : Int), fm_e (D, dT, adC h u o aK aV) (YC.2.1 ((72 : Nat) : Int)) (x0C ((72 : Nat) : Int))) H := ⟨_, rfl, fun H q => q⟩
theorem wC_73 {D : va_G} {dT : Nat → ClassId} {h : Nat} {u : Nat → Nat} {o : Nat} {aK aV : Nat → Nat} : ∃ e : va_E, (kw_11 (D, dT, fun _ => 0) h u ++ [(o, .inl (dT 4, 1, .inr (.inl (fun _ => 0))))])[(PLC[73]?).getD 0]? = some (adC h u o aK aV ((73 : Nat) : Int), e) ∧ ∀ H : Heap, va_at D YC_cl (adC h u o aK aV ((73 : Nat) : Int), e) H → va_at D YC_cl (adC h u o aK aV ((73 : Nat) : Int), fm_e (D, dT, adC h u o aK aV) (YC.2.1 ((73 : Nat) : Int)) (x0C ((73 : Nat) : Int))) H := ⟨_, rfl, fun H q => va_at_i q (fun j _ => iI_0.symm)⟩
theorem wC_74 {D : va_G} {dT : Nat → ClassId} {h : Nat} {u : Nat → Nat} {o : Nat} {aK aV : Nat → Nat} : ∃ e : va_E, (kw_11 (D, dT, fun _ => 0) h u ++ [(o, .inl (dT 4, 1, .inr (.inl (fun _ => 0))))])[(PLC[74]?).getD 0]? = some (adC h u o aK aV ((74 : Nat) : Int), e) ∧ ∀ H : Heap, va_at D YC_cl (adC h u o aK aV ((74 : Nat) : Int), e) H → va_at D YC_cl (adC h u o aK aV ((74 : Nat) : Int), fm_e (D, dT, adC h u o aK aV) (YC.2.1 ((74 : Nat) : Int)) (x0C ((74 : Nat) : Int))) H := ⟨_, rfl, fun H q => va_at_i q (fun j _ => iI_0.symm)⟩
theorem wC_75 {D : va_G} {dT : Nat → ClassId} {h : Nat} {u : Nat → Nat} {o : Nat} {aK aV : Nat → Nat} : ∃ e : va_E, (kw_11 (D, dT, fun _ => 0) h u ++ [(o, .inl (dT 4, 1, .inr (.inl (fun _ => 0))))])[(PLC[75]?).getD 0]? = some (adC h u o aK aV ((75 : Nat) : Int), e) ∧ ∀ H : Heap, va_at D YC_cl (adC h u o aK aV ((75 : Nat) : Int), e) H → va_at D YC_cl (adC h u o aK aV ((75 : Nat) : Int), fm_e (D, dT, adC h u o aK aV) (YC.2.1 ((75 : Nat) : Int)) (x0C ((75 : Nat) : Int))) H := ⟨_, rfl, fun H q => va_at_i q (fun j _ => iI_0.symm)⟩
theorem wC_76 {D : va_G} {dT : Nat → ClassId} {h : Nat} {u : Nat → Nat} {o : Nat} {aK aV : Nat → Nat} : ∃ e : va_E, (kw_11 (D, dT, fun _ => 0) h u ++ [(o, .inl (dT 4, 1, .inr (.inl (fun _ => 0))))])[(PLC[76]?).getD 0]? = some (adC h u o aK aV ((76 : Nat) : Int), e) ∧ ∀ H : Heap, va_at D YC_cl (adC h u o aK aV ((76 : Nat) : Int), e) H → va_at D YC_cl (adC h u o aK aV ((76 : Nat) : Int), fm_e (D, dT, adC h u o aK aV) (YC.2.1 ((76 : Nat) : Int)) (x0C ((76 : Nat) : Int))) H := ⟨_, rfl, fun H q => va_at_i q (fun j _ => iI_0.symm)⟩
theorem wC_77 {D : va_G} {dT : Nat → ClassId} {h : Nat} {u : Nat → Nat} {o : Nat} {aK aV : Nat → Nat} : ∃ e : va_E, (kw_11 (D, dT, fun _ => 0) h u ++ [(o, .inl (dT 4, 1, .inr (.inl (fun _ => 0))))])[(PLC[77]?).getD 0]? = some (adC h u o aK aV ((77 : Nat) : Int), e) ∧ ∀ H : Heap, va_at D YC_cl (adC h u o aK aV ((77 : Nat) : Int), e) H → va_at D YC_cl (adC h u o aK aV ((77 : Nat) : Int), fm_e (D, dT, adC h u o aK aV) (YC.2.1 ((77 : Nat) : Int)) (x0C ((77 : Nat) : Int))) H := ⟨_, rfl, fun H q => va_at_i q (fun j _ => iI_0.symm)⟩
theorem wC_78 {D : va_G} {dT : Nat → ClassId} {h : Nat} {u : Nat → Nat} {o : Nat} {aK aV : Nat → Nat} : ∃ e : va_E, (kw_11 (D, dT, fun _ => 0) h u ++ [(o, .inl (dT 4, 1, .inr (.inl (fun _ => 0))))])[(PLC[78]?).getD 0]? = some (adC h u o aK aV ((78 : Nat) : Int), e) ∧ ∀ H : Heap, va_at D YC_cl (adC h u o aK aV ((78 : Nat) : Int), e) H → va_at D YC_cl (adC h u o aK aV ((78 : Nat) : Int), fm_e (D, dT, adC h u o aK aV) (YC.2.1 ((78 : Nat) : Int)) (x0C ((78 : Nat) : Int))) H := ⟨_, rfl, fun H q => va_at_q q (fun j hj => by rcases (show j = 0 ∨ j = 1 ∨ j = 2 ∨ j = 3 ∨ j = 4 by omega) with rfl | rfl | rfl | rfl | rfl <;> rfl)⟩
theorem wC_79 {D : va_G} {dT : Nat → ClassId} {h : Nat} {u : Nat → Nat} {o : Nat} {aK aV : Nat → Nat} : ∃ e : va_E, (kw_11 (D, dT, fun _ => 0) h u ++ [(o, .inl (dT 4, 1, .inr (.inl (fun _ => 0))))])[(PLC[79]?).getD 0]? = some (adC h u o aK aV ((79 : Nat) : Int), e) ∧ ∀ H : Heap, va_at D YC_cl (adC h u o aK aV ((79 : Nat) : Int), e) H → va_at D YC_cl (adC h u o aK aV ((79 : Nat) : Int), fm_e (D, dT, adC h u o aK aV) (YC.2.1 ((79 : Nat) : Int)) (x0C ((79 : Nat) : Int))) H := ⟨_, rfl, fun H q => q⟩
theorem wC_80 {D : va_G} {dT : Nat → ClassId} {h : Nat} {u : Nat → Nat} {o : Nat} {aK aV : Nat → Nat} : ∃ e : va_E, (kw_11 (D, dT, fun _ => 0) h u ++ [(o, .inl (dT 4, 1, .inr (.inl (fun _ => 0))))])[(PLC[80]?).getD 0]? = some (adC h u o aK aV ((80 : Nat) : Int), e) ∧ ∀ H : Heap, va_at D YC_cl (adC h u o aK aV ((80 : Nat) : Int), e) H → va_at D YC_cl (adC h u o aK aV ((80 : Nat) : Int), fm_e (D, dT, adC h u o aK aV) (YC.2.1 ((80 : Nat) : Int)) (x0C ((80 : Nat) : Int))) H := ⟨_, rfl, fun H q => va_at_l q (fun j _ => lI_0.symm)⟩
theorem wC_81 {D : va_G} {dT : Nat → ClassId} {h : Nat} {u : Nat → Nat} {o : Nat} {aK aV : Nat → Nat} : ∃ e : va_E, (kw_11 (D, dT, fun _ => 0) h u ++ [(o, .inl (dT 4, 1, .inr (.inl (fun _ => 0))))])[(PLC[81]?).getD 0]? = some (adC h u o aK aV ((81 : Nat) : Int), e) ∧ ∀ H : Heap, va_at D YC_cl (adC h u o aK aV ((81 : Nat) : Int), e) H → va_at D YC_cl (adC h u o aK aV ((81 : Nat) : Int), fm_e (D, dT, adC h u o aK aV) (YC.2.1 ((81 : Nat) : Int)) (x0C ((81 : Nat) : Int))) H := ⟨_, rfl, fun H q => q⟩
theorem wC_82 {D : va_G} {dT : Nat → ClassId} {h : Nat} {u : Nat → Nat} {o : Nat} {aK aV : Nat → Nat} : ∃ e : va_E, (kw_11 (D, dT, fun _ => 0) h u ++ [(o, .inl (dT 4, 1, .inr (.inl (fun _ => 0))))])[(PLC[82]?).getD 0]? = some (adC h u o aK aV ((82 : Nat) : Int), e) ∧ ∀ H : Heap, va_at D YC_cl (adC h u o aK aV ((82 : Nat) : Int), e) H → va_at D YC_cl (adC h u o aK aV ((82 : Nat) : Int), fm_e (D, dT, adC h u o aK aV) (YC.2.1 ((82 : Nat) : Int)) (x0C ((82 : Nat) : Int))) H := ⟨_, rfl, fun H q => va_at_l q (fun j _ => lI_0.symm)⟩
theorem wC_83 {D : va_G} {dT : Nat → ClassId} {h : Nat} {u : Nat → Nat} {o : Nat} {aK aV : Nat → Nat} : ∃ e : va_E, (kw_11 (D, dT, fun _ => 0) h u ++ [(o, .inl (dT 4, 1, .inr (.inl (fun _ => 0))))])[(PLC[83]?).getD 0]? = some (adC h u o aK aV ((83 : Nat) : Int), e) ∧ ∀ H : Heap, va_at D YC_cl (adC h u o aK aV ((83 : Nat) : Int), e) H → va_at D YC_cl (adC h u o aK aV ((83 : Nat) : Int), fm_e (D, dT, adC h u o aK aV) (YC.2.1 ((83 : Nat) : Int)) (x0C ((83 : Nat) : Int))) H := ⟨_, rfl, fun H q => q⟩
theorem wC_84 {D : va_G} {dT : Nat → ClassId} {h : Nat} {u : Nat → Nat} {o : Nat} {aK aV : Nat → Nat} : ∃ e : va_E, (kw_11 (D, dT, fun _ => 0) h u ++ [(o, .inl (dT 4, 1, .inr (.inl (fun _ => 0))))])[(PLC[84]?).getD 0]? = some (adC h u o aK aV ((84 : Nat) : Int), e) ∧ ∀ H : Heap, va_at D YC_cl (adC h u o aK aV ((84 : Nat) : Int), e) H → va_at D YC_cl (adC h u o aK aV ((84 : Nat) : Int), fm_e (D, dT, adC h u o aK aV) (YC.2.1 ((84 : Nat) : Int)) (x0C ((84 : Nat) : Int))) H := ⟨_, rfl, fun H q => va_at_l q (fun j _ => lI_0.symm)⟩
theorem wC_85 {D : va_G} {dT : Nat → ClassId} {h : Nat} {u : Nat → Nat} {o : Nat} {aK aV : Nat → Nat} : ∃ e : va_E, (kw_11 (D, dT, fun _ => 0) h u ++ [(o, .inl (dT 4, 1, .inr (.inl (fun _ => 0))))])[(PLC[85]?).getD 0]? = some (adC h u o aK aV ((85 : Nat) : Int), e) ∧ ∀ H : Heap, va_at D YC_cl (adC h u o aK aV ((85 : Nat) : Int), e) H → va_at D YC_cl (adC h u o aK aV ((85 : Nat) : Int), fm_e (D, dT, adC h u o aK aV) (YC.2.1 ((85 : Nat) : Int)) (x0C ((85 : Nat) : Int))) H := ⟨_, rfl, fun H q => q⟩
theorem wC_86 {D : va_G} {dT : Nat → ClassId} {h : Nat} {u : Nat → Nat} {o : Nat} {aK aV : Nat → Nat} : ∃ e : va_E, (kw_11 (D, dT, fun _ => 0) h u ++ [(o, .inl (dT 4, 1, .inr (.inl (fun _ => 0))))])[(PLC[86]?).getD 0]? = some (adC h u o aK aV ((86 : Nat) : Int), e) ∧ ∀ H : Heap, va_at D YC_cl (adC h u o aK aV ((86 : Nat) : Int), e) H → va_at D YC_cl (adC h u o aK aV ((86 : Nat) : Int), fm_e (D, dT, adC h u o aK aV) (YC.2.1 ((86 : Nat) : Int)) (x0C ((86 : Nat) : Int))) H := ⟨_, rfl, fun H q => va_at_l q (fun j _ => lI_0.symm)⟩
theorem wC_87 {D : va_G} {dT : Nat → ClassId} {h : Nat} {u : Nat → Nat} {o : Nat} {aK aV : Nat → Nat} : ∃ e : va_E, (kw_11 (D, dT, fun _ => 0) h u ++ [(o, .inl (dT 4, 1, .inr (.inl (fun _ => 0))))])[(PLC[87]?).getD 0]? = some (adC h u o aK aV ((87 : Nat) : Int), e) ∧ ∀ H : Heap, va_at D YC_cl (adC h u o aK aV ((87 : Nat) : Int), e) H → va_at D YC_cl (adC h u o aK aV ((87 : Nat) : Int), fm_e (D, dT, adC h u o aK aV) (YC.2.1 ((87 : Nat) : Int)) (x0C ((87 : Nat) : Int))) H := ⟨_, rfl, fun H q => q⟩
theorem wC_88 {D : va_G} {dT : Nat → ClassId} {h : Nat} {u : Nat → Nat} {o : Nat} {aK aV : Nat → Nat} : ∃ e : va_E, (kw_11 (D, dT, fun _ => 0) h u ++ [(o, .inl (dT 4, 1, .inr (.inl (fun _ => 0))))])[(PLC[88]?).getD 0]? = some (adC h u o aK aV ((88 : Nat) : Int), e) ∧ ∀ H : Heap, va_at D YC_cl (adC h u o aK aV ((88 : Nat) : Int), e) H → va_at D YC_cl (adC h u o aK aV ((88 : Nat) : Int), fm_e (D, dT, adC h u o aK aV) (YC.2.1 ((88 : Nat) : Int)) (x0C ((88 : Nat) : Int))) H := ⟨_, rfl, fun H q => va_at_l q (fun j _ => lI_0.symm)⟩
theorem wC_89 {D : va_G} {dT : Nat → ClassId} {h : Nat} {u : Nat → Nat} {o : Nat} {aK aV : Nat → Nat} : ∃ e : va_E, (kw_11 (D, dT, fun _ => 0) h u ++ [(o, .inl (dT 4, 1, .inr (.inl (fun _ => 0))))])[(PLC[89]?).getD 0]? = some (adC h u o aK aV ((89 : Nat) : Int), e) ∧ ∀ H : Heap, va_at D YC_cl (adC h u o aK aV ((89 : Nat) : Int), e) H → va_at D YC_cl (adC h u o aK aV ((89 : Nat) : Int), fm_e (D, dT, adC h u o aK aV) (YC.2.1 ((89 : Nat) : Int)) (x0C ((89 : Nat) : Int))) H := ⟨_, rfl, fun H q => q⟩
theorem wC_90 {D : va_G} {dT : Nat → ClassId} {h : Nat} {u : Nat → Nat} {o : Nat} {aK aV : Nat → Nat} : ∃ e : va_E, (kw_11 (D, dT, fun _ => 0) h u ++ [(o, .inl (dT 4, 1, .inr (.inl (fun _ => 0))))])[(PLC[90]?).getD 0]? = some (adC h u o aK aV ((90 : Nat) : Int), e) ∧ ∀ H : Heap, va_at D YC_cl (adC h u o aK aV ((90 : Nat) : Int), e) H → va_at D YC_cl (adC h u o aK aV ((90 : Nat) : Int), fm_e (D, dT, adC h u o aK aV) (YC.2.1 ((90 : Nat) : Int)) (x0C ((90 : Nat) : Int))) H := ⟨_, rfl, fun H q => va_at_i q (fun j _ => iI_0.symm)⟩
theorem wC_91 {D : va_G} {dT : Nat → ClassId} {h : Nat} {u : Nat → Nat} {o : Nat} {aK aV : Nat → Nat} : ∃ e : va_E, (kw_11 (D, dT, fun _ => 0) h u ++ [(o, .inl (dT 4, 1, .inr (.inl (fun _ => 0))))])[(PLC[91]?).getD 0]? = some (adC h u o aK aV ((91 : Nat) : Int), e) ∧ ∀ H : Heap, va_at D YC_cl (adC h u o aK aV ((91 : Nat) : Int), e) H → va_at D YC_cl (adC h u o aK aV ((91 : Nat) : Int), fm_e (D, dT, adC h u o aK aV) (YC.2.1 ((91 : Nat) : Int)) (x0C ((91 : Nat) : Int))) H := ⟨_, rfl, fun H q => va_at_i q (fun j _ => iI_0.symm)⟩
theorem wC_92 {D : va_G} {dT : Nat → ClassId} {h : Nat} {u : Nat → Nat} {o : Nat} {aK aV : Nat → Nat} : ∃ e : va_E, (kw_11 (D, dT, fun _ => 0) h u ++ [(o, .inl (dT 4, 1, .inr (.inl (fun _ => 0))))])[(PLC[92]?).getD 0]? = some (adC h u o aK aV ((92 : Nat) : Int), e) ∧ ∀ H : Heap, va_at D YC_cl (adC h u o aK aV ((92 : Nat) : Int), e) H → va_at D YC_cl (adC h u o aK aV ((92 : Nat) : Int), fm_e (D, dT, adC h u o aK aV) (YC.2.1 ((92 : Nat) : Int)) (x0C ((92 : Nat) : Int))) H := ⟨_, rfl, fun H q => va_at_i q (fun j _ => iI_0.symm)⟩
theorem wC_93 {D : va_G} {dT : Nat → ClassId} {h : Nat} {u : Nat → Nat} {o : Nat} {aK aV : Nat → Nat} : ∃ e : va_E, (kw_11 (D, dT, fun _ => 0) h u ++ [(o, .inl (dT 4, 1, .inr (.inl (fun _ => 0))))])[(PLC[93]?).getD 0]? = some (adC h u o aK aV ((93 : Nat) : Int), e) ∧ ∀ H : Heap, va_at D YC_cl (adC h u o aK aV ((93 : Nat) : Int), e) H → va_at D YC_cl (adC h u o aK aV ((93 : Nat) : Int), fm_e (D, dT, adC h u o aK aV) (YC.2.1 ((93 : Nat) : Int)) (x0C ((93 : Nat) : Int))) H := ⟨_, rfl, fun H q => va_at_i q (fun j _ => iI_0.symm)⟩
theorem wC_94 {D : va_G} {dT : Nat → ClassId} {h : Nat} {u : Nat → Nat} {o : Nat} {aK aV : Nat → Nat} : ∃ e : va_E, (kw_11 (D, dT, fun _ => 0) h u ++ [(o, .inl (dT 4, 1, .inr (.inl (fun _ => 0))))])[(PLC[94]?).getD 0]? = some (adC h u o aK aV ((94 : Nat) : Int), e) ∧ ∀ H : Heap, va_at D YC_cl (adC h u o aK aV ((94 : Nat) : Int), e) H → va_at D YC_cl (adC h u o aK aV ((94 : Nat) : Int), fm_e (D, dT, adC h u o aK aV) (YC.2.1 ((94 : Nat) : Int)) (x0C ((94 : Nat) : Int))) H := ⟨_, rfl, fun H q => va_at_q q (fun j hj => by rcases (show j = 0 ∨ j = 1 ∨ j = 2 by omega) with rfl | rfl | rfl <;> rfl)⟩
theorem wC_95 {D : va_G} {dT : Nat → ClassId} {h : Nat} {u : Nat → Nat} {o : Nat} {aK aV : Nat → Nat} : ∃ e : va_E, (kw_11 (D, dT, fun _ => 0) h u ++ [(o, .inl (dT 4, 1, .inr (.inl (fun _ => 0))))])[(PLC[95]?).getD 0]? = some (adC h u o aK aV ((95 : Nat) : Int), e) ∧ ∀ H : Heap, va_at D YC_cl (adC h u o aK aV ((95 : Nat) : Int), e) H → va_at D YC_cl (adC h u o aK aV ((95 : Nat) : Int), fm_e (D, dT, adC h u o aK aV) (YC.2.1 ((95 : Nat) : Int)) (x0C ((95 : Nat) : Int))) H := ⟨_, rfl, fun H q => q⟩
theorem wC_96 {D : va_G} {dT : Nat → ClassId} {h : Nat} {u : Nat → Nat} {o : Nat} {aK aV : Nat → Nat} : ∃ e : va_E, (kw_11 (D, dT, fun _ => 0) h u ++ [(o, .inl (dT 4, 1, .inr (.inl (fun _ => 0))))])[(PLC[96]?).getD 0]? = some (adC h u o aK aV ((96 : Nat) : Int), e) ∧ ∀ H : Heap, va_at D YC_cl (adC h u o aK aV ((96 : Nat) : Int), e) H → va_at D YC_cl (adC h u o aK aV ((96 : Nat) : Int), fm_e (D, dT, adC h u o aK aV) (YC.2.1 ((96 : Nat) : Int)) (x0C ((96 : Nat) : Int))) H := ⟨_, rfl, fun H q => q⟩
theorem wC_97 {D : va_G} {dT : Nat → ClassId} {h : Nat} {u : Nat → Nat} {o : Nat} {aK aV : Nat → Nat} : ∃ e : va_E, (kw_11 (D, dT, fun _ => 0) h u ++ [(o, .inl (dT 4, 1, .inr (.inl (fun _ => 0))))])[(PLC[97]?).getD 0]? = some (adC h u o aK aV ((97 : Nat) : Int), e) ∧ ∀ H : Heap, va_at D YC_cl (adC h u o aK aV ((97 : Nat) : Int), e) H → va_at D YC_cl (adC h u o aK aV ((97 : Nat) : Int), fm_e (D, dT, adC h u o aK aV) (YC.2.1 ((97 : Nat) : Int)) (x0C ((97 : Nat) : Int))) H := ⟨_, rfl, fun H q => q⟩
theorem wC_98 {D : va_G} {dT : Nat → ClassId} {h : Nat} {u : Nat → Nat} {o : Nat} {aK aV : Nat → Nat} : ∃ e : va_E, (kw_11 (D, dT, fun _ => 0) h u ++ [(o, .inl (dT 4, 1, .inr (.inl (fun _ => 0))))])[(PLC[98]?).getD 0]? = some (adC h u o aK aV ((98 : Nat) : Int), e) ∧ ∀ H : Heap, va_at D YC_cl (adC h u o aK aV ((98 : Nat) : Int), e) H → va_at D YC_cl (adC h u o aK aV ((98 : Nat) : Int), fm_e (D, dT, adC h u o aK aV) (YC.2.1 ((98 : Nat) : Int)) (x0C ((98 : Nat) : Int))) H := ⟨_, rfl, fun H q => q⟩
theorem wC_99 {D : va_G} {dT : Nat → ClassId} {h : Nat} {u : Nat → Nat} {o : Nat} {aK aV : Nat → Nat} : ∃ e : va_E, (kw_11 (D, dT, fun _ => 0) h u ++ [(o, .inl (dT 4, 1, .inr (.inl (fun _ => 0))))])[(PLC[99]?).getD 0]? = some (adC h u o aK aV ((99 : Nat) : Int), e) ∧ ∀ H : Heap, va_at D YC_cl (adC h u o aK aV ((99 : Nat) : Int), e) H → va_at D YC_cl (adC h u o aK aV ((99 : Nat) : Int), fm_e (D, dT, adC h u o aK aV) (YC.2.1 ((99 : Nat) : Int)) (x0C ((99 : Nat) : Int))) H := ⟨_, rfl, fun H q => va_at_i q (fun j _ => iI_0.symm)⟩
theorem wC_100 {D : va_G} {dT : Nat → ClassId} {h : Nat} {u : Nat → Nat} {o : Nat} {aK aV : Nat → Nat} : ∃ e : va_E, (kw_11 (D, dT, fun _ => 0) h u ++ [(o, .inl (dT 4, 1, .inr (.inl (fun _ => 0))))])[(PLC[100]?).getD 0]? = some (adC h u o aK aV ((100 : Nat) : Int), e) ∧ ∀ H : Heap, va_at D YC_cl (adC h u o aK aV ((100 : Nat) : Int), e) H → va_at D YC_cl (adC h u o aK aV ((100 : Nat) : Int), fm_e (D, dT, adC h u o aK aV) (YC.2.1 ((100 : Nat) : Int)) (x0C ((100 : Nat) : Int))) H := ⟨_, rfl, fun H q => va_at_i q (fun j _ => iI_0.symm)⟩
theorem wC_101 {D : va_G} {dT : Nat → ClassId} {h : Nat} {u : Nat → Nat} {o : Nat} {aK aV : Nat → Nat} : ∃ e : va_E, (kw_11 (D, dT, fun _ => 0) h u ++ [(o, .inl (dT 4, 1, .inr (.inl (fun _ => 0))))])[(PLC[101]?).getD 0]? = some (adC h u o aK aV ((101 : Nat) : Int), e) ∧ ∀ H : Heap, va_at D YC_cl (adC h u o aK aV ((101 : Nat) : Int), e) H → va_at D YC_cl (adC h u o aK aV ((101 : Nat) : Int), fm_e (D, dT, adC h u o aK aV) (YC.2.1 ((101 : Nat) : Int)) (x0C ((101 : Nat) : Int))) H := ⟨_, rfl, fun H q => va_at_q q (fun j hj => by rcases (show j = 0 ∨ j = 1 ∨ j = 2 ∨ j = 3 ∨ j = 4 by omega) with rfl | rfl | rfl | rfl | rfl <;> rfl)⟩
theorem wC_102 {D : va_G} {dT : Nat → ClassId} {h : Nat} {u : Nat → Nat} {o : Nat} {aK aV : Nat → Nat} : ∃ e : va_E, (kw_11 (D, dT, fun _ => 0) h u ++ [(o, .inl (dT 4, 1, .inr (.inl (fun _ => 0))))])[(PLC[102]?).getD 0]? = some (adC h u o aK aV ((102 : Nat) : Int), e) ∧ ∀ H : Heap, va_at D YC_cl (adC h u o aK aV ((102 : Nat) : Int), e) H → va_at D YC_cl (adC h u o aK aV ((102 : Nat) : Int), fm_e (D, dT, adC h u o aK aV) (YC.2.1 ((102 : Nat) : Int)) (x0C ((102 : Nat) : Int))) H := ⟨_, rfl, fun H q => va_at_i q (fun j _ => iI_0.symm)⟩
theorem wC_103 {D : va_G} {dT : Nat → ClassId} {h : Nat} {u : Nat → Nat} {o : Nat} {aK aV : Nat → Nat} : ∃ e : va_E, (kw_11 (D, dT, fun _ => 0) h u ++ [(o, .inl (dT 4, 1, .inr (.inl (fun _ => 0))))])[(PLC[103]?).getD 0]? = some (adC h u o aK aV ((103 : Nat) : Int), e) ∧ ∀ H : Heap, va_at D YC_cl (adC h u o aK aV ((103 : Nat) : Int), e) H → va_at D YC_cl (adC h u o aK aV ((103 : Nat) : Int), fm_e (D, dT, adC h u o aK aV) (YC.2.1 ((103 : Nat) : Int)) (x0C ((103 : Nat) : Int))) H := ⟨_, rfl, fun H q => va_at_i q (fun j _ => iI_0.symm)⟩
theorem wC_104 {D : va_G} {dT : Nat → ClassId} {h : Nat} {u : Nat → Nat} {o : Nat} {aK aV : Nat → Nat} : ∃ e : va_E, (kw_11 (D, dT, fun _ => 0) h u ++ [(o, .inl (dT 4, 1, .inr (.inl (fun _ => 0))))])[(PLC[104]?).getD 0]? = some (adC h u o aK aV ((104 : Nat) : Int), e) ∧ ∀ H : Heap, va_at D YC_cl (adC h u o aK aV ((104 : Nat) : Int), e) H → va_at D YC_cl (adC h u o aK aV ((104 : Nat) : Int), fm_e (D, dT, adC h u o aK aV) (YC.2.1 ((104 : Nat) : Int)) (x0C ((104 : Nat) : Int))) H := ⟨_, rfl, fun H q => va_at_i q (fun j _ => iI_0.symm)⟩
theorem wC_105 {D : va_G} {dT : Nat → ClassId} {h : Nat} {u : Nat → Nat} {o : Nat} {aK aV : Nat → Nat} : ∃ e : va_E, (kw_11 (D, dT, fun _ => 0) h u ++ [(o, .inl (dT 4, 1, .inr (.inl (fun _ => 0))))])[(PLC[105]?).getD 0]? = some (adC h u o aK aV ((105 : Nat) : Int), e) ∧ ∀ H : Heap, va_at D YC_cl (adC h u o aK aV ((105 : Nat) : Int), e) H → va_at D YC_cl (adC h u o aK aV ((105 : Nat) : Int), fm_e (D, dT, adC h u o aK aV) (YC.2.1 ((105 : Nat) : Int)) (x0C ((105 : Nat) : Int))) H := ⟨_, rfl, fun H q => va_at_i q (fun j _ => iI_0.symm)⟩
theorem wC_106 {D : va_G} {dT : Nat → ClassId} {h : Nat} {u : Nat → Nat} {o : Nat} {aK aV : Nat → Nat} : ∃ e : va_E, (kw_11 (D, dT, fun _ => 0) h u ++ [(o, .inl (dT 4, 1, .inr (.inl (fun _ => 0))))])[(PLC[106]?).getD 0]? = some (adC h u o aK aV ((106 : Nat) : Int), e) ∧ ∀ H : Heap, va_at D YC_cl (adC h u o aK aV ((106 : Nat) : Int), e) H → va_at D YC_cl (adC h u o aK aV ((106 : Nat) : Int), fm_e (D, dT, adC h u o aK aV) (YC.2.1 ((106 : Nat) : Int)) (x0C ((106 : Nat) : Int))) H := ⟨_, rfl, fun H q => va_at_i q (fun j _ => iI_0.symm)⟩
theorem wC_107 {D : va_G} {dT : Nat → ClassId} {h : Nat} {u : Nat → Nat} {o : Nat} {aK aV : Nat → Nat} : ∃ e : va_E, (kw_11 (D, dT, fun _ => 0) h u ++ [(o, .inl (dT 4, 1, .inr (.inl (fun _ => 0))))])[(PLC[107]?).getD 0]? = some (adC h u o aK aV ((107 : Nat) : Int), e) ∧ ∀ H : Heap, va_at D YC_cl (adC h u o aK aV ((107 : Nat) : Int), e) H → va_at D YC_cl (adC h u o aK aV ((107 : Nat) : Int), fm_e (D, dT, adC h u o aK aV) (YC.2.1 ((107 : Nat) : Int)) (x0C ((107 : Nat) : Int))) H := ⟨_, rfl, fun H q => q⟩
theorem wC_108 {D : va_G} {dT : Nat → ClassId} {h : Nat} {u : Nat → Nat} {o : Nat} {aK aV : Nat → Nat} : ∃ e : va_E, (kw_11 (D, dT, fun _ => 0) h u ++ [(o, .inl (dT 4, 1, .inr (.inl (fun _ => 0))))])[(PLC[108]?).getD 0]? = some (adC h u o aK aV ((108 : Nat) : Int), e) ∧ ∀ H : Heap, va_at D YC_cl (adC h u o aK aV ((108 : Nat) : Int), e) H → va_at D YC_cl (adC h u o aK aV ((108 : Nat) : Int), fm_e (D, dT, adC h u o aK aV) (YC.2.1 ((108 : Nat) : Int)) (x0C ((108 : Nat) : Int))) H := ⟨_, rfl, fun H q => va_at_l q (fun j _ => lI_0.symm)⟩
theorem wC_109 {D : va_G} {dT : Nat → ClassId} {h : Nat} {u : Nat → Nat} {o : Nat} {aK aV : Nat → Nat} : ∃ e : va_E, (kw_11 (D, dT, fun _ => 0) h u ++ [(o, .inl (dT 4, 1, .inr (.inl (fun _ => 0))))])[(PLC[109]?).getD 0]? = some (adC h u o aK aV ((109 : Nat) : Int), e) ∧ ∀ H : Heap, va_at D YC_cl (adC h u o aK aV ((109 : Nat) : Int), e) H → va_at D YC_cl (adC h u o aK aV ((109 : Nat) : Int), fm_e (D, dT, adC h u o aK aV) (YC.2.1 ((109 : Nat) : Int)) (x0C ((109 : Nat) : Int))) H := ⟨_, rfl, fun H q => va_at_i q (fun j _ => iI_0.symm)⟩
theorem wC_110 {D : va_G} {dT : Nat → ClassId} {h : Nat} {u : Nat → Nat} {o : Nat} {aK aV : Nat → Nat} : ∃ e : va_E, (kw_11 (D, dT, fun _ => 0) h u ++ [(o, .inl (dT 4, 1, .inr (.inl (fun _ => 0))))])[(PLC[110]?).getD 0]? = some (adC h u o aK aV ((110 : Nat) : Int), e) ∧ ∀ H : Heap, va_at D YC_cl (adC h u o aK aV ((110 : Nat) : Int), e) H → va_at D YC_cl (adC h u o aK aV ((110 : Nat) : Int), fm_e (D, dT, adC h u o aK aV) (YC.2.1 ((110 : Nat) : Int)) (x0C ((110 : Nat) : Int))) H := ⟨_, rfl, fun H q => q⟩
theorem wC_111 {D : va_G} {dT : Nat → ClassId} {h : Nat} {u : Nat → Nat} {o : Nat} {aK aV : Nat → Nat} : ∃ e : va_E, (kw_11 (D, dT, fun _ => 0) h u ++ [(o, .inl (dT 4, 1, .inr (.inl (fun _ => 0))))])[(PLC[111]?).getD 0]? = some (adC h u o aK aV ((111 : Nat) : Int), e) ∧ ∀ H : Heap, va_at D YC_cl (adC h u o aK aV ((111 : Nat) : Int), e) H → va_at D YC_cl (adC h u o aK aV ((111 : Nat) : Int), fm_e (D, dT, adC h u o aK aV) (YC.2.1 ((111 : Nat) : Int)) (x0C ((111 : Nat) : Int))) H := ⟨_, rfl, fun H q => va_at_i q (fun j hj => by cases j with
    | zero => rfl
    | succ j => exact iI_0.symm)⟩
theorem wC_112 {D : va_G} {dT : Nat → ClassId} {h : Nat} {u : Nat → Nat} {o : Nat} {aK aV : Nat → Nat} : ∃ e : va_E, (kw_11 (D, dT, fun _ => 0) h u ++ [(o, .inl (dT 4, 1, .inr (.inl (fun _ => 0))))])[(PLC[112]?).getD 0]? = some (adC h u o aK aV ((112 : Nat) : Int), e) ∧ ∀ H : Heap, va_at D YC_cl (adC h u o aK aV ((112 : Nat) : Int), e) H → va_at D YC_cl (adC h u o aK aV ((112 : Nat) : Int), fm_e (D, dT, adC h u o aK aV) (YC.2.1 ((112 : Nat) : Int)) (x0C ((112 : Nat) : Int))) H := ⟨_, rfl, fun H q => va_at_i q (fun j _ => iI_0.symm)⟩
theorem wC_113 {D : va_G} {dT : Nat → ClassId} {h : Nat} {u : Nat → Nat} {o : Nat} {aK aV : Nat → Nat} : ∃ e : va_E, (kw_11 (D, dT, fun _ => 0) h u ++ [(o, .inl (dT 4, 1, .inr (.inl (fun _ => 0))))])[(PLC[113]?).getD 0]? = some (adC h u o aK aV ((113 : Nat) : Int), e) ∧ ∀ H : Heap, va_at D YC_cl (adC h u o aK aV ((113 : Nat) : Int), e) H → va_at D YC_cl (adC h u o aK aV ((113 : Nat) : Int), fm_e (D, dT, adC h u o aK aV) (YC.2.1 ((113 : Nat) : Int)) (x0C ((113 : Nat) : Int))) H := ⟨_, rfl, fun H q => va_at_i q (fun j _ => iI_0.symm)⟩
theorem wC_114 {D : va_G} {dT : Nat → ClassId} {h : Nat} {u : Nat → Nat} {o : Nat} {aK aV : Nat → Nat} : ∃ e : va_E, (kw_11 (D, dT, fun _ => 0) h u ++ [(o, .inl (dT 4, 1, .inr (.inl (fun _ => 0))))])[(PLC[114]?).getD 0]? = some (adC h u o aK aV ((114 : Nat) : Int), e) ∧ ∀ H : Heap, va_at D YC_cl (adC h u o aK aV ((114 : Nat) : Int), e) H → va_at D YC_cl (adC h u o aK aV ((114 : Nat) : Int), fm_e (D, dT, adC h u o aK aV) (YC.2.1 ((114 : Nat) : Int)) (x0C ((114 : Nat) : Int))) H := ⟨_, rfl, fun H q => va_at_i q (fun j _ => iI_0.symm)⟩
theorem wC_115 {D : va_G} {dT : Nat → ClassId} {h : Nat} {u : Nat → Nat} {o : Nat} {aK aV : Nat → Nat} : ∃ e : va_E, (kw_11 (D, dT, fun _ => 0) h u ++ [(o, .inl (dT 4, 1, .inr (.inl (fun _ => 0))))])[(PLC[115]?).getD 0]? = some (adC h u o aK aV ((115 : Nat) : Int), e) ∧ ∀ H : Heap, va_at D YC_cl (adC h u o aK aV ((115 : Nat) : Int), e) H → va_at D YC_cl (adC h u o aK aV ((115 : Nat) : Int), fm_e (D, dT, adC h u o aK aV) (YC.2.1 ((115 : Nat) : Int)) (x0C ((115 : Nat) : Int))) H := ⟨_, rfl, fun H q => q⟩
theorem wC_116 {D : va_G} {dT : Nat → ClassId} {h : Nat} {u : Nat → Nat} {o : Nat} {aK aV : Nat → Nat} : ∃ e : va_E, (kw_11 (D, dT, fun _ => 0) h u ++ [(o, .inl (dT 4, 1, .inr (.inl (fun _ => 0))))])[(PLC[116]?).getD 0]? = some (adC h u o aK aV ((116 : Nat) : Int), e) ∧ ∀ H : Heap, va_at D YC_cl (adC h u o aK aV ((116 : Nat) : Int), e) H → va_at D YC_cl (adC h u o aK aV ((116 : Nat) : Int), fm_e (D, dT, adC h u o aK aV) (YC.2.1 ((116 : Nat) : Int)) (x0C ((116 : Nat) : Int))) H := ⟨_, rfl, fun H q => va_at_i q (fun j hj => by cases j with
    | zero => rfl
    | succ j => exact iI_0.symm)⟩
theorem wC_117 {D : va_G} {dT : Nat → ClassId} {h : Nat} {u : Nat → Nat} {o : Nat} {aK aV : Nat → Nat} : ∃ e : va_E, (kw_11 (D, dT, fun _ => 0) h u ++ [(o, .inl (dT 4, 1, .inr (.inl (fun _ => 0))))])[(PLC[117]?).getD 0]? = some (adC h u o aK aV ((117 : Nat) : Int), e) ∧ ∀ H : Heap, va_at D YC_cl (adC h u o aK aV ((117 : Nat) : Int), e) H → va_at D YC_cl (adC h u o aK aV ((117 : Nat) : Int), fm_e (D, dT, adC h u o aK aV) (YC.2.1 ((117 : Nat) : Int)) (x0C ((117 : Nat) : Int))) H := ⟨_, rfl, fun H q => va_at_i q (fun j _ => iI_0.symm)⟩
theorem wC_118 {D : va_G} {dT : Nat → ClassId} {h : Nat} {u : Nat → Nat} {o : Nat} {aK aV : Nat → Nat} : ∃ e : va_E, (kw_11 (D, dT, fun _ => 0) h u ++ [(o, .inl (dT 4, 1, .inr (.inl (fun _ => 0))))])[(PLC[118]?).getD 0]? = some (adC h u o aK aV ((118 : Nat) : Int), e) ∧ ∀ H : Heap, va_at D YC_cl (adC h u o aK aV ((118 : Nat) : Int), e) H → va_at D YC_cl (adC h u o aK aV ((118 : Nat) : Int), fm_e (D, dT, adC h u o aK aV) (YC.2.1 ((118 : Nat) : Int)) (x0C ((118 : Nat) : Int))) H := ⟨_, rfl, fun H q => va_at_i q (fun j _ => iI_0.symm)⟩
theorem wC_119 {D : va_G} {dT : Nat → ClassId} {h : Nat} {u : Nat → Nat} {o : Nat} {aK aV : Nat → Nat} : ∃ e : va_E, (kw_11 (D, dT, fun _ => 0) h u ++ [(o, .inl (dT 4, 1, .inr (.inl (fun _ => 0))))])[(PLC[119]?).getD 0]? = some (adC h u o aK aV ((119 : Nat) : Int), e) ∧ ∀ H : Heap, va_at D YC_cl (adC h u o aK aV ((119 : Nat) : Int), e) H → va_at D YC_cl (adC h u o aK aV ((119 : Nat) : Int), fm_e (D, dT, adC h u o aK aV) (YC.2.1 ((119 : Nat) : Int)) (x0C ((119 : Nat) : Int))) H := ⟨_, rfl, fun H q => va_at_i q (fun j _ => iI_0.symm)⟩
theorem wC_120 {D : va_G} {dT : Nat → ClassId} {h : Nat} {u : Nat → Nat} {o : Nat} {aK aV : Nat → Nat} : ∃ e : va_E, (kw_11 (D, dT, fun _ => 0) h u ++ [(o, .inl (dT 4, 1, .inr (.inl (fun _ => 0))))])[(PLC[120]?).getD 0]? = some (adC h u o aK aV ((120 : Nat) : Int), e) ∧ ∀ H : Heap, va_at D YC_cl (adC h u o aK aV ((120 : Nat) : Int), e) H → va_at D YC_cl (adC h u o aK aV ((120 : Nat) : Int), fm_e (D, dT, adC h u o aK aV) (YC.2.1 ((120 : Nat) : Int)) (x0C ((120 : Nat) : Int))) H := ⟨_, rfl, fun H q => va_at_l q (fun j _ => lI_0.symm)⟩
theorem wC_all {D : va_G} {dT : Nat → ClassId} {h : Nat} {u : Nat → Nat} {o : Nat} {aK aV : Nat → Nat} : ∀ k : Nat, k < 121 → ∃ e : va_E, (kw_11 (D, dT, fun _ => 0) h u ++ [(o, .inl (dT 4, 1, .inr (.inl (fun _ => 0))))])[(PLC[k]?).getD 0]? = some (adC h u o aK aV ((k : Nat) : Int), e) ∧ ∀ H : Heap, va_at D YC_cl (adC h u o aK aV ((k : Nat) : Int), e) H → va_at D YC_cl (adC h u o aK aV ((k : Nat) : Int), fm_e (D, dT, adC h u o aK aV) (YC.2.1 ((k : Nat) : Int)) (x0C ((k : Nat) : Int))) H := by
  intro k hk
  by_cases c0_121 : k < 60
  ·
    by_cases c0_60 : k < 30
    ·
      by_cases c0_30 : k < 15
      ·
        by_cases c0_15 : k < 7
        ·
          by_cases c0_7 : k < 3
          ·
            by_cases c0_3 : k < 1
            ·
              obtain rfl : k = 0 := by omega
              exact wC_0
            ·
              by_cases c1_3 : k < 2
              ·
                obtain rfl : k = 1 := by omega
                exact wC_1
              ·
                obtain rfl : k = 2 := by omega
                exact wC_2
          ·
            by_cases c3_7 : k < 5
            ·
              by_cases c3_5 : k < 4
              ·
                obtain rfl : k = 3 := by omega
                exact wC_3
              ·
                obtain rfl : k = 4 := by omega
                exact wC_4
            ·
              by_cases c5_7 : k < 6
              ·
                obtain rfl : k = 5 := by omega
                exact wC_5
              ·
                obtain rfl : k = 6 := by omega
                exact wC_6
        ·
          by_cases c7_15 : k < 11
          ·
            by_cases c7_11 : k < 9
            ·
              by_cases c7_9 : k < 8
              ·
                obtain rfl : k = 7 := by omega
                exact wC_7
              ·
                obtain rfl : k = 8 := by omega
                exact wC_8
            ·
              by_cases c9_11 : k < 10
              ·
                obtain rfl : k = 9 := by omega
                exact wC_9
              ·
                obtain rfl : k = 10 := by omega
                exact wC_10
          ·
            by_cases c11_15 : k < 13
            ·
              by_cases c11_13 : k < 12
              ·
                obtain rfl : k = 11 := by omega
                exact wC_11
              ·
                obtain rfl : k = 12 := by omega
                exact wC_12
            ·
              by_cases c13_15 : k < 14
              ·
                obtain rfl : k = 13 := by omega
                exact wC_13
              ·
                obtain rfl : k = 14 := by omega
                exact wC_14
      ·
        by_cases c15_30 : k < 22
        ·
          by_cases c15_22 : k < 18
          ·
            by_cases c15_18 : k < 16
            ·
              obtain rfl : k = 15 := by omega
              exact wC_15
            ·
              by_cases c16_18 : k < 17
              ·
                obtain rfl : k = 16 := by omega
                exact wC_16
              ·
                obtain rfl : k = 17 := by omega
                exact wC_17
          ·
            by_cases c18_22 : k < 20
            ·
              by_cases c18_20 : k < 19
              ·
                obtain rfl : k = 18 := by omega
                exact wC_18
              ·
                obtain rfl : k = 19 := by omega
                exact wC_19
            ·
              by_cases c20_22 : k < 21
              ·
                obtain rfl : k = 20 := by omega
                exact wC_20
              ·
                obtain rfl : k = 21 := by omega
                exact wC_21
        ·
          by_cases c22_30 : k < 26
          ·
            by_cases c22_26 : k < 24
            ·
              by_cases c22_24 : k < 23
              ·
                obtain rfl : k = 22 := by omega
                exact wC_22
              ·
                obtain rfl : k = 23 := by omega
                exact wC_23
            ·
              by_cases c24_26 : k < 25
              ·
                obtain rfl : k = 24 := by omega
                exact wC_24
              ·
                obtain rfl : k = 25 := by omega
                exact wC_25
          ·
            by_cases c26_30 : k < 28
            ·
              by_cases c26_28 : k < 27
              ·
                obtain rfl : k = 26 := by omega
                exact wC_26
              ·
                obtain rfl : k = 27 := by omega
                exact wC_27
            ·
              by_cases c28_30 : k < 29
              ·
                obtain rfl : k = 28 := by omega
                exact wC_28
              ·
                obtain rfl : k = 29 := by omega
                exact wC_29
    ·
      by_cases c30_60 : k < 45
      ·
        by_cases c30_45 : k < 37
        ·
          by_cases c30_37 : k < 33
          ·
            by_cases c30_33 : k < 31
            ·
              obtain rfl : k = 30 := by omega
              exact wC_30
            ·
              by_cases c31_33 : k < 32
              ·
                obtain rfl : k = 31 := by omega
                exact wC_31
              ·
                obtain rfl : k = 32 := by omega
                exact wC_32
          ·
            by_cases c33_37 : k < 35
            ·
              by_cases c33_35 : k < 34
              ·
                obtain rfl : k = 33 := by omega
                exact wC_33
              ·
                obtain rfl : k = 34 := by omega
                exact wC_34
            ·
              by_cases c35_37 : k < 36
              ·
                obtain rfl : k = 35 := by omega
                exact wC_35
              ·
                obtain rfl : k = 36 := by omega
                exact wC_36
        ·
          by_cases c37_45 : k < 41
          ·
            by_cases c37_41 : k < 39
            ·
              by_cases c37_39 : k < 38
              ·
                obtain rfl : k = 37 := by omega
                exact wC_37
              ·
                obtain rfl : k = 38 := by omega
                exact wC_38
            ·
              by_cases c39_41 : k < 40
              ·
                obtain rfl : k = 39 := by omega
                exact wC_39
              ·
                obtain rfl : k = 40 := by omega
                exact wC_40
          ·
            by_cases c41_45 : k < 43
            ·
              by_cases c41_43 : k < 42
              ·
                obtain rfl : k = 41 := by omega
                exact wC_41
              ·
                obtain rfl : k = 42 := by omega
                exact wC_42
            ·
              by_cases c43_45 : k < 44
              ·
                obtain rfl : k = 43 := by omega
                exact wC_43
              ·
                obtain rfl : k = 44 := by omega
                exact wC_44
      ·
        by_cases c45_60 : k < 52
        ·
          by_cases c45_52 : k < 48
          ·
            by_cases c45_48 : k < 46
            ·
              obtain rfl : k = 45 := by omega
              exact wC_45
            ·
              by_cases c46_48 : k < 47
              ·
                obtain rfl : k = 46 := by omega
                exact wC_46
              ·
                obtain rfl : k = 47 := by omega
                exact wC_47
          ·
            by_cases c48_52 : k < 50
            ·
              by_cases c48_50 : k < 49
              ·
                obtain rfl : k = 48 := by omega
                exact wC_48
              ·
                obtain rfl : k = 49 := by omega
                exact wC_49
            ·
              by_cases c50_52 : k < 51
              ·
                obtain rfl : k = 50 := by omega
                exact wC_50
              ·
                obtain rfl : k = 51 := by omega
                exact wC_51
        ·
          by_cases c52_60 : k < 56
          ·
            by_cases c52_56 : k < 54
            ·
              by_cases c52_54 : k < 53
              ·
                obtain rfl : k = 52 := by omega
                exact wC_52
              ·
                obtain rfl : k = 53 := by omega
                exact wC_53
            ·
              by_cases c54_56 : k < 55
              ·
                obtain rfl : k = 54 := by omega
                exact wC_54
              ·
                obtain rfl : k = 55 := by omega
                exact wC_55
          ·
            by_cases c56_60 : k < 58
            ·
              by_cases c56_58 : k < 57
              ·
                obtain rfl : k = 56 := by omega
                exact wC_56
              ·
                obtain rfl : k = 57 := by omega
                exact wC_57
            ·
              by_cases c58_60 : k < 59
              ·
                obtain rfl : k = 58 := by omega
                exact wC_58
              ·
                obtain rfl : k = 59 := by omega
                exact wC_59
  ·
    by_cases c60_121 : k < 90
    ·
      by_cases c60_90 : k < 75
      ·
        by_cases c60_75 : k < 67
        ·
          by_cases c60_67 : k < 63
          ·
            by_cases c60_63 : k < 61
            ·
              obtain rfl : k = 60 := by omega
              exact wC_60
            ·
              by_cases c61_63 : k < 62
              ·
                obtain rfl : k = 61 := by omega
                exact wC_61
              ·
                obtain rfl : k = 62 := by omega
                exact wC_62
          ·
            by_cases c63_67 : k < 65
            ·
              by_cases c63_65 : k < 64
              ·
                obtain rfl : k = 63 := by omega
                exact wC_63
              ·
                obtain rfl : k = 64 := by omega
                exact wC_64
            ·
              by_cases c65_67 : k < 66
              ·
                obtain rfl : k = 65 := by omega
                exact wC_65
              ·
                obtain rfl : k = 66 := by omega
                exact wC_66
        ·
          by_cases c67_75 : k < 71
          ·
            by_cases c67_71 : k < 69
            ·
              by_cases c67_69 : k < 68
              ·
                obtain rfl : k = 67 := by omega
                exact wC_67
              ·
                obtain rfl : k = 68 := by omega
                exact wC_68
            ·
              by_cases c69_71 : k < 70
              ·
                obtain rfl : k = 69 := by omega
                exact wC_69
              ·
                obtain rfl : k = 70 := by omega
                exact wC_70
          ·
            by_cases c71_75 : k < 73
            ·
              by_cases c71_73 : k < 72
              ·
                obtain rfl : k = 71 := by omega
                exact wC_71
              ·
                obtain rfl : k = 72 := by omega
                exact wC_72
            ·
              by_cases c73_75 : k < 74
              ·
                obtain rfl : k = 73 := by omega
                exact wC_73
              ·
                obtain rfl : k = 74 := by omega
                exact wC_74
      ·
        by_cases c75_90 : k < 82
        ·
          by_cases c75_82 : k < 78
          ·
            by_cases c75_78 : k < 76
            ·
              obtain rfl : k = 75 := by omega
              exact wC_75
            ·
              by_cases c76_78 : k < 77
              ·
                obtain rfl : k = 76 := by omega
                exact wC_76
              ·
                obtain rfl : k = 77 := by omega
                exact wC_77
          ·
            by_cases c78_82 : k < 80
            ·
              by_cases c78_80 : k < 79
              ·
                obtain rfl : k = 78 := by omega
                exact wC_78
              ·
                obtain rfl : k = 79 := by omega
                exact wC_79
            ·
              by_cases c80_82 : k < 81
              ·
                obtain rfl : k = 80 := by omega
                exact wC_80
              ·
                obtain rfl : k = 81 := by omega
                exact wC_81
        ·
          by_cases c82_90 : k < 86
          ·
            by_cases c82_86 : k < 84
            ·
              by_cases c82_84 : k < 83
              ·
                obtain rfl : k = 82 := by omega
                exact wC_82
              ·
                obtain rfl : k = 83 := by omega
                exact wC_83
            ·
              by_cases c84_86 : k < 85
              ·
                obtain rfl : k = 84 := by omega
                exact wC_84
              ·
                obtain rfl : k = 85 := by omega
                exact wC_85
          ·
            by_cases c86_90 : k < 88
            ·
              by_cases c86_88 : k < 87
              ·
                obtain rfl : k = 86 := by omega
                exact wC_86
              ·
                obtain rfl : k = 87 := by omega
                exact wC_87
            ·
              by_cases c88_90 : k < 89
              ·
                obtain rfl : k = 88 := by omega
                exact wC_88
              ·
                obtain rfl : k = 89 := by omega
                exact wC_89
    ·
      by_cases c90_121 : k < 105
      ·
        by_cases c90_105 : k < 97
        ·
          by_cases c90_97 : k < 93
          ·
            by_cases c90_93 : k < 91
            ·
              obtain rfl : k = 90 := by omega
              exact wC_90
            ·
              by_cases c91_93 : k < 92
              ·
                obtain rfl : k = 91 := by omega
                exact wC_91
              ·
                obtain rfl : k = 92 := by omega
                exact wC_92
          ·
            by_cases c93_97 : k < 95
            ·
              by_cases c93_95 : k < 94
              ·
                obtain rfl : k = 93 := by omega
                exact wC_93
              ·
                obtain rfl : k = 94 := by omega
                exact wC_94
            ·
              by_cases c95_97 : k < 96
              ·
                obtain rfl : k = 95 := by omega
                exact wC_95
              ·
                obtain rfl : k = 96 := by omega
                exact wC_96
        ·
          by_cases c97_105 : k < 101
          ·
            by_cases c97_101 : k < 99
            ·
              by_cases c97_99 : k < 98
              ·
                obtain rfl : k = 97 := by omega
                exact wC_97
              ·
                obtain rfl : k = 98 := by omega
                exact wC_98
            ·
              by_cases c99_101 : k < 100
              ·
                obtain rfl : k = 99 := by omega
                exact wC_99
              ·
                obtain rfl : k = 100 := by omega
                exact wC_100
          ·
            by_cases c101_105 : k < 103
            ·
              by_cases c101_103 : k < 102
              ·
                obtain rfl : k = 101 := by omega
                exact wC_101
              ·
                obtain rfl : k = 102 := by omega
                exact wC_102
            ·
              by_cases c103_105 : k < 104
              ·
                obtain rfl : k = 103 := by omega
                exact wC_103
              ·
                obtain rfl : k = 104 := by omega
                exact wC_104
      ·
        by_cases c105_121 : k < 113
        ·
          by_cases c105_113 : k < 109
          ·
            by_cases c105_109 : k < 107
            ·
              by_cases c105_107 : k < 106
              ·
                obtain rfl : k = 105 := by omega
                exact wC_105
              ·
                obtain rfl : k = 106 := by omega
                exact wC_106
            ·
              by_cases c107_109 : k < 108
              ·
                obtain rfl : k = 107 := by omega
                exact wC_107
              ·
                obtain rfl : k = 108 := by omega
                exact wC_108
          ·
            by_cases c109_113 : k < 111
            ·
              by_cases c109_111 : k < 110
              ·
                obtain rfl : k = 109 := by omega
                exact wC_109
              ·
                obtain rfl : k = 110 := by omega
                exact wC_110
            ·
              by_cases c111_113 : k < 112
              ·
                obtain rfl : k = 111 := by omega
                exact wC_111
              ·
                obtain rfl : k = 112 := by omega
                exact wC_112
        ·
          by_cases c113_121 : k < 117
          ·
            by_cases c113_117 : k < 115
            ·
              by_cases c113_115 : k < 114
              ·
                obtain rfl : k = 113 := by omega
                exact wC_113
              ·
                obtain rfl : k = 114 := by omega
                exact wC_114
            ·
              by_cases c115_117 : k < 116
              ·
                obtain rfl : k = 115 := by omega
                exact wC_115
              ·
                obtain rfl : k = 116 := by omega
                exact wC_116
          ·
            by_cases c117_121 : k < 119
            ·
              by_cases c117_119 : k < 118
              ·
                obtain rfl : k = 117 := by omega
                exact wC_117
              ·
                obtain rfl : k = 118 := by omega
                exact wC_118
            ·
              by_cases c119_121 : k < 120
              ·
                obtain rfl : k = 119 := by omega
                exact wC_119
              ·
                obtain rfl : k = 120 := by omega
                exact wC_120
def XML : List (Int → Int) := [(fun i => ([1, 2, 0, 3, 0, 0, -1, 0, 0, 0, 0, 4, 5, 6, 0, 0, 7, 8, 0, 9, 10, 0, 11, 12, 13, 14, 0, 15, 16, 17, 18, 19, 20, 21, 22, 23, 24, 0, 25, 0, 26, 27] : List Int)[i.toNat]?.getD 0),
  (fun i => if i = 104 then 1 else 0),
  (fun _ => 0),
  (fun _ => 0),
  (fun _ => 0),
  (fun _ => 0),
  (fun _ => 0),
  (fun _ => 0),
  (fun _ => 0),
  (fun _ => 0),
  (fun _ => 0),
  (fun _ => 0),
  (fun _ => 0),
  (fun _ => 0),
  (fun _ => 0),
  (fun _ => 0),
  (fun _ => 0),
  (fun _ => 0),
  (fun _ => 0),
  (fun _ => 0),
  (fun i => ([-1, -1, -1] : List Int)[i.toNat]?.getD 0),
  (fun _ => 0),
  (fun _ => 0),
  (fun _ => 0),
  (fun _ => 0),
  (fun _ => 0),
  (fun _ => 0),
  (fun _ => 0)]
def x0M : Mm := fun k i => ((XML[k.toNat]?).getD (fun _ => 0)) i
def PLM : List Nat := [0, 1, 2, 3, 4, 5, 6, 7, 8, 9, 10, 11, 12, 13, 14, 15, 16, 17, 18, 19, 20, 21, 22, 23, 24, 25, 26, 27]
def adM (h : Nat) (u : Nat → Nat) : Int → Nat := fun k => (([h, u 0, u 1, u 2, u 3, u 4, u 5, u 6, u 7, u 8, u 9, u 10, u 11, u 12, u 13, u 14, u 15, u 16, u 17, u 18, u 19, u 20, u 21, u 22, u 23, u 24, u 25, u 26] : List Nat)[k.toNat]?).getD 0
theorem wM_0 {D : va_G} {dT : Nat → ClassId} {h : Nat} {u : Nat → Nat} : ∃ e : va_E, (kw_12 (D, dT, fun _ => 0) h u)[(PLM[0]?).getD 0]? = some (adM h u ((0 : Nat) : Int), e) ∧ ∀ H : Heap, va_at D YM_cl (adM h u ((0 : Nat) : Int), e) H → va_at D YM_cl (adM h u ((0 : Nat) : Int), fm_e (D, dT, adM h u) (YM.2.1 ((0 : Nat) : Int)) (x0M ((0 : Nat) : Int))) H := ⟨_, rfl, fun H q => q⟩
theorem wM_1 {D : va_G} {dT : Nat → ClassId} {h : Nat} {u : Nat → Nat} : ∃ e : va_E, (kw_12 (D, dT, fun _ => 0) h u)[(PLM[1]?).getD 0]? = some (adM h u ((1 : Nat) : Int), e) ∧ ∀ H : Heap, va_at D YM_cl (adM h u ((1 : Nat) : Int), e) H → va_at D YM_cl (adM h u ((1 : Nat) : Int), fm_e (D, dT, adM h u) (YM.2.1 ((1 : Nat) : Int)) (x0M ((1 : Nat) : Int))) H := ⟨_, rfl, fun H q => va_at_i q (fun j hj => by 
    show upd (fun _ => 0) 104 (iI 1) j = iI (if (j : Int) = 104 then 1 else 0)
    unfold upd
    by_cases e : j = 104
    · rw [if_pos e, if_pos (by omega)]
    · rw [if_neg e, if_neg (by omega)]
      exact iI_0.symm)⟩
theorem wM_2 {D : va_G} {dT : Nat → ClassId} {h : Nat} {u : Nat → Nat} : ∃ e : va_E, (kw_12 (D, dT, fun _ => 0) h u)[(PLM[2]?).getD 0]? = some (adM h u ((2 : Nat) : Int), e) ∧ ∀ H : Heap, va_at D YM_cl (adM h u ((2 : Nat) : Int), e) H → va_at D YM_cl (adM h u ((2 : Nat) : Int), fm_e (D, dT, adM h u) (YM.2.1 ((2 : Nat) : Int)) (x0M ((2 : Nat) : Int))) H := ⟨_, rfl, fun H q => va_at_i q (fun j _ => iI_0.symm)⟩
theorem wM_3 {D : va_G} {dT : Nat → ClassId} {h : Nat} {u : Nat → Nat} : ∃ e : va_E, (kw_12 (D, dT, fun _ => 0) h u)[(PLM[3]?).getD 0]? = some (adM h u ((3 : Nat) : Int), e) ∧ ∀ H : Heap, va_at D YM_cl (adM h u ((3 : Nat) : Int), e) H → va_at D YM_cl (adM h u ((3 : Nat) : Int), fm_e (D, dT, adM h u) (YM.2.1 ((3 : Nat) : Int)) (x0M ((3 : Nat) : Int))) H := ⟨_, rfl, fun H q => va_at_l q (fun j _ => lI_0.symm)⟩
theorem wM_4 {D : va_G} {dT : Nat → ClassId} {h : Nat} {u : Nat → Nat} : ∃ e : va_E, (kw_12 (D, dT, fun _ => 0) h u)[(PLM[4]?).getD 0]? = some (adM h u ((4 : Nat) : Int), e) ∧ ∀ H : Heap, va_at D YM_cl (adM h u ((4 : Nat) : Int), e) H → va_at D YM_cl (adM h u ((4 : Nat) : Int), fm_e (D, dT, adM h u) (YM.2.1 ((4 : Nat) : Int)) (x0M ((4 : Nat) : Int))) H := ⟨_, rfl, fun H q => va_at_i q (fun j _ => iI_0.symm)⟩
theorem wM_5 {D : va_G} {dT : Nat → ClassId} {h : Nat} {u : Nat → Nat} : ∃ e : va_E, (kw_12 (D, dT, fun _ => 0) h u)[(PLM[5]?).getD 0]? = some (adM h u ((5 : Nat) : Int), e) ∧ ∀ H : Heap, va_at D YM_cl (adM h u ((5 : Nat) : Int), e) H → va_at D YM_cl (adM h u ((5 : Nat) : Int), fm_e (D, dT, adM h u) (YM.2.1 ((5 : Nat) : Int)) (x0M ((5 : Nat) : Int))) H := ⟨_, rfl, fun H q => va_at_i q (fun j _ => iI_0.symm)⟩
theorem wM_6 {D : va_G} {dT : Nat → ClassId} {h : Nat} {u : Nat → Nat} : ∃ e : va_E, (kw_12 (D, dT, fun _ => 0) h u)[(PLM[6]?).getD 0]? = some (adM h u ((6 : Nat) : Int), e) ∧ ∀ H : Heap, va_at D YM_cl (adM h u ((6 : Nat) : Int), e) H → va_at D YM_cl (adM h u ((6 : Nat) : Int), fm_e (D, dT, adM h u) (YM.2.1 ((6 : Nat) : Int)) (x0M ((6 : Nat) : Int))) H := ⟨_, rfl, fun H q => va_at_i q (fun j _ => iI_0.symm)⟩
theorem wM_7 {D : va_G} {dT : Nat → ClassId} {h : Nat} {u : Nat → Nat} : ∃ e : va_E, (kw_12 (D, dT, fun _ => 0) h u)[(PLM[7]?).getD 0]? = some (adM h u ((7 : Nat) : Int), e) ∧ ∀ H : Heap, va_at D YM_cl (adM h u ((7 : Nat) : Int), e) H → va_at D YM_cl (adM h u ((7 : Nat) : Int), fm_e (D, dT, adM h u) (YM.2.1 ((7 : Nat) : Int)) (x0M ((7 : Nat) : Int))) H := ⟨_, rfl, fun H q => va_at_i q (fun j _ => iI_0.symm)⟩
theorem wM_8 {D : va_G} {dT : Nat → ClassId} {h : Nat} {u : Nat → Nat} : ∃ e : va_E, (kw_12 (D, dT, fun _ => 0) h u)[(PLM[8]?).getD 0]? = some (adM h u ((8 : Nat) : Int), e) ∧ ∀ H : Heap, va_at D YM_cl (adM h u ((8 : Nat) : Int), e) H → va_at D YM_cl (adM h u ((8 : Nat) : Int), fm_e (D, dT, adM h u) (YM.2.1 ((8 : Nat) : Int)) (x0M ((8 : Nat) : Int))) H := ⟨_, rfl, fun H q => va_at_i q (fun j _ => iI_0.symm)⟩
theorem wM_9 {D : va_G} {dT : Nat → ClassId} {h : Nat} {u : Nat → Nat} : ∃ e : va_E, (kw_12 (D, dT, fun _ => 0) h u)[(PLM[9]?).getD 0]? = some (adM h u ((9 : Nat) : Int), e) ∧ ∀ H : Heap, va_at D YM_cl (adM h u ((9 : Nat) : Int), e) H → va_at D YM_cl (adM h u ((9 : Nat) : Int), fm_e (D, dT, adM h u) (YM.2.1 ((9 : Nat) : Int)) (x0M ((9 : Nat) : Int))) H := ⟨_, rfl, fun H q => va_at_i q (fun j _ => iI_0.symm)⟩
theorem wM_10 {D : va_G} {dT : Nat → ClassId} {h : Nat} {u : Nat → Nat} : ∃ e : va_E, (kw_12 (D, dT, fun _ => 0) h u)[(PLM[10]?).getD 0]? = some (adM h u ((10 : Nat) : Int), e) ∧ ∀ H : Heap, va_at D YM_cl (adM h u ((10 : Nat) : Int), e) H → va_at D YM_cl (adM h u ((10 : Nat) : Int), fm_e (D, dT, adM h u) (YM.2.1 ((10 : Nat) : Int)) (x0M ((10 : Nat) : Int))) H := ⟨_, rfl, fun H q => va_at_i q (fun j _ => iI_0.symm)⟩
theorem wM_11 {D : va_G} {dT : Nat → ClassId} {h : Nat} {u : Nat → Nat} : ∃ e : va_E, (kw_12 (D, dT, fun _ => 0) h u)[(PLM[11]?).getD 0]? = some (adM h u ((11 : Nat) : Int), e) ∧ ∀ H : Heap, va_at D YM_cl (adM h u ((11 : Nat) : Int), e) H → va_at D YM_cl (adM h u ((11 : Nat) : Int), fm_e (D, dT, adM h u) (YM.2.1 ((11 : Nat) : Int)) (x0M ((11 : Nat) : Int))) H := ⟨_, rfl, fun H q => va_at_i q (fun j _ => iI_0.symm)⟩
theorem wM_12 {D : va_G} {dT : Nat → ClassId} {h : Nat} {u : Nat → Nat} : ∃ e : va_E, (kw_12 (D, dT, fun _ => 0) h u)[(PLM[12]?).getD 0]? = some (adM h u ((12 : Nat) : Int), e) ∧ ∀ H : Heap, va_at D YM_cl (adM h u ((12 : Nat) : Int), e) H → va_at D YM_cl (adM h u ((12 : Nat) : Int), fm_e (D, dT, adM h u) (YM.2.1 ((12 : Nat) : Int)) (x0M ((12 : Nat) : Int))) H := ⟨_, rfl, fun H q => va_at_i q (fun j _ => iI_0.symm)⟩
theorem wM_13 {D : va_G} {dT : Nat → ClassId} {h : Nat} {u : Nat → Nat} : ∃ e : va_E, (kw_12 (D, dT, fun _ => 0) h u)[(PLM[13]?).getD 0]? = some (adM h u ((13 : Nat) : Int), e) ∧ ∀ H : Heap, va_at D YM_cl (adM h u ((13 : Nat) : Int), e) H → va_at D YM_cl (adM h u ((13 : Nat) : Int), fm_e (D, dT, adM h u) (YM.2.1 ((13 : Nat) : Int)) (x0M ((13 : Nat) : Int))) H := ⟨_, rfl, fun H q => va_at_i q (fun j _ => iI_0.symm)⟩
theorem wM_14 {D : va_G} {dT : Nat → ClassId} {h : Nat} {u : Nat → Nat} : ∃ e : va_E, (kw_12 (D, dT, fun _ => 0) h u)[(PLM[14]?).getD 0]? = some (adM h u ((14 : Nat) : Int), e) ∧ ∀ H : Heap, va_at D YM_cl (adM h u ((14 : Nat) : Int), e) H → va_at D YM_cl (adM h u ((14 : Nat) : Int), fm_e (D, dT, adM h u) (YM.2.1 ((14 : Nat) : Int)) (x0M ((14 : Nat) : Int))) H := ⟨_, rfl, fun H q => va_at_i q (fun j _ => iI_0.symm)⟩
theorem wM_15 {D : va_G} {dT : Nat → ClassId} {h : Nat} {u : Nat → Nat} : ∃ e : va_E, (kw_12 (D, dT, fun _ => 0) h u)[(PLM[15]?).getD 0]? = some (adM h u ((15 : Nat) : Int), e) ∧ ∀ H : Heap, va_at D YM_cl (adM h u ((15 : Nat) : Int), e) H → va_at D YM_cl (adM h u ((15 : Nat) : Int), fm_e (D, dT, adM h u) (YM.2.1 ((15 : Nat) : Int)) (x0M ((15 : Nat) : Int))) H := ⟨_, rfl, fun H q => va_at_i q (fun j _ => iI_0.symm)⟩
theorem wM_16 {D : va_G} {dT : Nat → ClassId} {h : Nat} {u : Nat → Nat} : ∃ e : va_E, (kw_12 (D, dT, fun _ => 0) h u)[(PLM[16]?).getD 0]? = some (adM h u ((16 : Nat) : Int), e) ∧ ∀ H : Heap, va_at D YM_cl (adM h u ((16 : Nat) : Int), e) H → va_at D YM_cl (adM h u ((16 : Nat) : Int), fm_e (D, dT, adM h u) (YM.2.1 ((16 : Nat) : Int)) (x0M ((16 : Nat) : Int))) H := ⟨_, rfl, fun H q => va_at_i q (fun j _ => iI_0.symm)⟩
theorem wM_17 {D : va_G} {dT : Nat → ClassId} {h : Nat} {u : Nat → Nat} : ∃ e : va_E, (kw_12 (D, dT, fun _ => 0) h u)[(PLM[17]?).getD 0]? = some (adM h u ((17 : Nat) : Int), e) ∧ ∀ H : Heap, va_at D YM_cl (adM h u ((17 : Nat) : Int), e) H → va_at D YM_cl (adM h u ((17 : Nat) : Int), fm_e (D, dT, adM h u) (YM.2.1 ((17 : Nat) : Int)) (x0M ((17 : Nat) : Int))) H := ⟨_, rfl, fun H q => va_at_i q (fun j _ => iI_0.symm)⟩
theorem wM_18 {D : va_G} {dT : Nat → ClassId} {h : Nat} {u : Nat → Nat} : ∃ e : va_E, (kw_12 (D, dT, fun _ => 0) h u)[(PLM[18]?).getD 0]? = some (adM h u ((18 : Nat) : Int), e) ∧ ∀ H : Heap, va_at D YM_cl (adM h u ((18 : Nat) : Int), e) H → va_at D YM_cl (adM h u ((18 : Nat) : Int), fm_e (D, dT, adM h u) (YM.2.1 ((18 : Nat) : Int)) (x0M ((18 : Nat) : Int))) H := ⟨_, rfl, fun H q => va_at_i q (fun j _ => iI_0.symm)⟩
theorem wM_19 {D : va_G} {dT : Nat → ClassId} {h : Nat} {u : Nat → Nat} : ∃ e : va_E, (kw_12 (D, dT, fun _ => 0) h u)[(PLM[19]?).getD 0]? = some (adM h u ((19 : Nat) : Int), e) ∧ ∀ H : Heap, va_at D YM_cl (adM h u ((19 : Nat) : Int), e) H → va_at D YM_cl (adM h u ((19 : Nat) : Int), fm_e (D, dT, adM h u) (YM.2.1 ((19 : Nat) : Int)) (x0M ((19 : Nat) : Int))) H := ⟨_, rfl, fun H q => va_at_i q (fun j _ => iI_0.symm)⟩
theorem wM_20 {D : va_G} {dT : Nat → ClassId} {h : Nat} {u : Nat → Nat} : ∃ e : va_E, (kw_12 (D, dT, fun _ => 0) h u)[(PLM[20]?).getD 0]? = some (adM h u ((20 : Nat) : Int), e) ∧ ∀ H : Heap, va_at D YM_cl (adM h u ((20 : Nat) : Int), e) H → va_at D YM_cl (adM h u ((20 : Nat) : Int), fm_e (D, dT, adM h u) (YM.2.1 ((20 : Nat) : Int)) (x0M ((20 : Nat) : Int))) H := ⟨_, rfl, fun H q => va_at_i q (fun j hj => by rcases (show j = 0 ∨ j = 1 ∨ j = 2 by omega) with rfl | rfl | rfl <;> rfl)⟩
theorem wM_21 {D : va_G} {dT : Nat → ClassId} {h : Nat} {u : Nat → Nat} : ∃ e : va_E, (kw_12 (D, dT, fun _ => 0) h u)[(PLM[21]?).getD 0]? = some (adM h u ((21 : Nat) : Int), e) ∧ ∀ H : Heap, va_at D YM_cl (adM h u ((21 : Nat) : Int), e) H → va_at D YM_cl (adM h u ((21 : Nat) : Int), fm_e (D, dT, adM h u) (YM.2.1 ((21 : Nat) : Int)) (x0M ((21 : Nat) : Int))) H := ⟨_, rfl, fun H q => va_at_i q (fun j _ => iI_0.symm)⟩
theorem wM_22 {D : va_G} {dT : Nat → ClassId} {h : Nat} {u : Nat → Nat} : ∃ e : va_E, (kw_12 (D, dT, fun _ => 0) h u)[(PLM[22]?).getD 0]? = some (adM h u ((22 : Nat) : Int), e) ∧ ∀ H : Heap, va_at D YM_cl (adM h u ((22 : Nat) : Int), e) H → va_at D YM_cl (adM h u ((22 : Nat) : Int), fm_e (D, dT, adM h u) (YM.2.1 ((22 : Nat) : Int)) (x0M ((22 : Nat) : Int))) H := ⟨_, rfl, fun H q => va_at_i q (fun j _ => iI_0.symm)⟩
theorem wM_23 {D : va_G} {dT : Nat → ClassId} {h : Nat} {u : Nat → Nat} : ∃ e : va_E, (kw_12 (D, dT, fun _ => 0) h u)[(PLM[23]?).getD 0]? = some (adM h u ((23 : Nat) : Int), e) ∧ ∀ H : Heap, va_at D YM_cl (adM h u ((23 : Nat) : Int), e) H → va_at D YM_cl (adM h u ((23 : Nat) : Int), fm_e (D, dT, adM h u) (YM.2.1 ((23 : Nat) : Int)) (x0M ((23 : Nat) : Int))) H := ⟨_, rfl, fun H q => va_at_i q (fun j _ => iI_0.symm)⟩
theorem wM_24 {D : va_G} {dT : Nat → ClassId} {h : Nat} {u : Nat → Nat} : ∃ e : va_E, (kw_12 (D, dT, fun _ => 0) h u)[(PLM[24]?).getD 0]? = some (adM h u ((24 : Nat) : Int), e) ∧ ∀ H : Heap, va_at D YM_cl (adM h u ((24 : Nat) : Int), e) H → va_at D YM_cl (adM h u ((24 : Nat) : Int), fm_e (D, dT, adM h u) (YM.2.1 ((24 : Nat) : Int)) (x0M ((24 : Nat) : Int))) H := ⟨_, rfl, fun H q => va_at_i q (fun j _ => iI_0.symm)⟩
theorem wM_25 {D : va_G} {dT : Nat → ClassId} {h : Nat} {u : Nat → Nat} : ∃ e : va_E, (kw_12 (D, dT, fun _ => 0) h u)[(PLM[25]?).getD 0]? = some (adM h u ((25 : Nat) : Int), e) ∧ ∀ H : Heap, va_at D YM_cl (adM h u ((25 : Nat) : Int), e) H → va_at D YM_cl (adM h u ((25 : Nat) : Int), fm_e (D, dT, adM h u) (YM.2.1 ((25 : Nat) : Int)) (x0M ((25 : Nat) : Int))) H := ⟨_, rfl, fun H q => va_at_i q (fun j _ => iI_0.symm)⟩
theorem wM_26 {D : va_G} {dT : Nat → ClassId} {h : Nat} {u : Nat → Nat} : ∃ e : va_E, (kw_12 (D, dT, fun _ => 0) h u)[(PLM[26]?).getD 0]? = some (adM h u ((26 : Nat) : Int), e) ∧ ∀ H : Heap, va_at D YM_cl (adM h u ((26 : Nat) : Int), e) H → va_at D YM_cl (adM h u ((26 : Nat) : Int), fm_e (D, dT, adM h u) (YM.2.1 ((26 : Nat) : Int)) (x0M ((26 : Nat) : Int))) H := ⟨_, rfl, fun H q => va_at_i q (fun j _ => iI_0.symm)⟩
theorem wM_27 {D : va_G} {dT : Nat → ClassId} {h : Nat} {u : Nat → Nat} : ∃ e : va_E, (kw_12 (D, dT, fun _ => 0) h u)[(PLM[27]?).getD 0]? = some (adM h u ((27 : Nat) : Int), e) ∧ ∀ H : Heap, va_at D YM_cl (adM h u ((27 : Nat) : Int), e) H → va_at D YM_cl (adM h u ((27 : Nat) : Int), fm_e (D, dT, adM h u) (YM.2.1 ((27 : Nat) : Int)) (x0M ((27 : Nat) : Int))) H := ⟨_, rfl, fun H q => va_at_i q (fun j _ => iI_0.symm)⟩
theorem wM_all {D : va_G} {dT : Nat → ClassId} {h : Nat} {u : Nat → Nat} : ∀ k : Nat, k < 28 → ∃ e : va_E, (kw_12 (D, dT, fun _ => 0) h u)[(PLM[k]?).getD 0]? = some (adM h u ((k : Nat) : Int), e) ∧ ∀ H : Heap, va_at D YM_cl (adM h u ((k : Nat) : Int), e) H → va_at D YM_cl (adM h u ((k : Nat) : Int), fm_e (D, dT, adM h u) (YM.2.1 ((k : Nat) : Int)) (x0M ((k : Nat) : Int))) H := by
  intro k hk
  by_cases c0_28 : k < 14
  ·
    by_cases c0_14 : k < 7
    ·
      by_cases c0_7 : k < 3
      ·
        by_cases c0_3 : k < 1
        ·
          obtain rfl : k = 0 := by omega
          exact wM_0
        ·
          by_cases c1_3 : k < 2
          ·
            obtain rfl : k = 1 := by omega
            exact wM_1
          ·
            obtain rfl : k = 2 := by omega
            exact wM_2
      ·
        by_cases c3_7 : k < 5
        ·
          by_cases c3_5 : k < 4
          ·
            obtain rfl : k = 3 := by omega
            exact wM_3
          ·
            obtain rfl : k = 4 := by omega
            exact wM_4
        ·
          by_cases c5_7 : k < 6
          ·
            obtain rfl : k = 5 := by omega
            exact wM_5
          ·
            obtain rfl : k = 6 := by omega
            exact wM_6
    ·
      by_cases c7_14 : k < 10
      ·
        by_cases c7_10 : k < 8
        ·
          obtain rfl : k = 7 := by omega
          exact wM_7
        ·
          by_cases c8_10 : k < 9
          ·
            obtain rfl : k = 8 := by omega
            exact wM_8
          ·
            obtain rfl : k = 9 := by omega
            exact wM_9
      ·
        by_cases c10_14 : k < 12
        ·
          by_cases c10_12 : k < 11
          ·
            obtain rfl : k = 10 := by omega
            exact wM_10
          ·
            obtain rfl : k = 11 := by omega
            exact wM_11
        ·
          by_cases c12_14 : k < 13
          ·
            obtain rfl : k = 12 := by omega
            exact wM_12
          ·
            obtain rfl : k = 13 := by omega
            exact wM_13
  ·
    by_cases c14_28 : k < 21
    ·
      by_cases c14_21 : k < 17
      ·
        by_cases c14_17 : k < 15
        ·
          obtain rfl : k = 14 := by omega
          exact wM_14
        ·
          by_cases c15_17 : k < 16
          ·
            obtain rfl : k = 15 := by omega
            exact wM_15
          ·
            obtain rfl : k = 16 := by omega
            exact wM_16
      ·
        by_cases c17_21 : k < 19
        ·
          by_cases c17_19 : k < 18
          ·
            obtain rfl : k = 17 := by omega
            exact wM_17
          ·
            obtain rfl : k = 18 := by omega
            exact wM_18
        ·
          by_cases c19_21 : k < 20
          ·
            obtain rfl : k = 19 := by omega
            exact wM_19
          ·
            obtain rfl : k = 20 := by omega
            exact wM_20
    ·
      by_cases c21_28 : k < 24
      ·
        by_cases c21_24 : k < 22
        ·
          obtain rfl : k = 21 := by omega
          exact wM_21
        ·
          by_cases c22_24 : k < 23
          ·
            obtain rfl : k = 22 := by omega
            exact wM_22
          ·
            obtain rfl : k = 23 := by omega
            exact wM_23
      ·
        by_cases c24_28 : k < 26
        ·
          by_cases c24_26 : k < 25
          ·
            obtain rfl : k = 24 := by omega
            exact wM_24
          ·
            obtain rfl : k = 25 := by omega
            exact wM_25
        ·
          by_cases c26_28 : k < 27
          ·
            obtain rfl : k = 26 := by omega
            exact wM_26
          ·
            obtain rfl : k = 27 := by omega
            exact wM_27
