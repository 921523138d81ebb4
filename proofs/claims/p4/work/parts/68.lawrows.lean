/-! THE LAW'S ROWS: two flat memories, the class's and the reference's, and the script -/
abbrev LC : Type := Program × Launch × Env × State × MethodId × List Frame × Method × Code × Nat × Nat × (Nat → Int32) × Gx × Gx
abbrev lc_p (C : LC) : Program := C.1
abbrev lc_l (C : LC) : Launch := C.2.1
abbrev lc_e (C : LC) : Env := C.2.2.1
abbrev lc_s (C : LC) : State := C.2.2.2.1
abbrev lc_m (C : LC) : MethodId := C.2.2.2.2.1
abbrev lc_below (C : LC) : List Frame := C.2.2.2.2.2.1
abbrev lc_meth (C : LC) : Method := C.2.2.2.2.2.2.1
abbrev lc_c (C : LC) : Code := C.2.2.2.2.2.2.2.1
abbrev lc_b (C : LC) : Nat := C.2.2.2.2.2.2.2.2.1
abbrev lc_L (C : LC) : Nat := C.2.2.2.2.2.2.2.2.2.1
abbrev lc_xs (C : LC) : Nat → Int32 := C.2.2.2.2.2.2.2.2.2.2.1
abbrev lc_GC (C : LC) : Gx := C.2.2.2.2.2.2.2.2.2.2.2.1
abbrev lc_GM (C : LC) : Gx := C.2.2.2.2.2.2.2.2.2.2.2.2
def LOK (C : LC) (N : Nat) : Prop := ((lc_p C).tables.exec = Jvm.exec) ∧ ((lc_c C).code = code) ∧ ((lc_meth C).sig.returnType = ret) ∧ ((lc_c C).maxLocals = 8) ∧ ((lc_s C).vm.findClass R_law = some (lc_m C).cls) ∧ (∀ w ∈ TB, w.before #[Value.ref (lc_b C)] (lc_s C) = true) ∧ (va_X (lc_b C) (lc_L C) (lc_xs C) (lc_s C) (lc_s C).heap) ∧ ((lc_b C) < (lc_s C).heap.size) ∧ ((lc_meth C).locks = false) ∧ ((lc_l C).stackTraces = false) ∧ ((lc_L C) ≤ N) ∧ (va_K (lc_GC C).1 (fm_c YC) (fm_t (lc_GC C)) (lc_s C)) ∧ (va_K (lc_GM C).1 (fm_c YM) (fm_t (lc_GM C)) (lc_s C)) ∧ (∀ x, va_D (fm_A YC (lc_GC C)) (fm_w YC (lc_GC C) x)) ∧ (∀ x, va_D (fm_A YM (lc_GM C)) (fm_w YM (lc_GM C) x)) ∧ (∀ q, fm_A YC (lc_GC C) q → (lc_s C).heap.size ≤ q ∧ ¬ fm_A YM (lc_GM C) q) ∧ (∀ q, fm_A YM (lc_GM C) q → (lc_s C).heap.size ≤ q ∧ ¬ fm_A YC (lc_GC C) q) ∧ (fm_x YC (lc_GC C) (fm_A YC (lc_GC C)) (lc_s C)) ∧ (fm_x YM (lc_GM C) (fm_A YM (lc_GM C)) (lc_s C)) ∧ (fm_Xc YC) ∧ (fm_Xc YM)
theorem LOK_hx {C : LC} {N : Nat} (h : LOK C N) : (lc_p C).tables.exec = Jvm.exec := h.1
theorem LOK_hb {C : LC} {N : Nat} (h : LOK C N) : (lc_c C).code = code := h.2.1
theorem LOK_hret {C : LC} {N : Nat} (h : LOK C N) : (lc_meth C).sig.returnType = ret := h.2.2.1
theorem LOK_hml {C : LC} {N : Nat} (h : LOK C N) : (lc_c C).maxLocals = 8 := h.2.2.2.1
theorem LOK_hown {C : LC} {N : Nat} (h : LOK C N) : (lc_s C).vm.findClass R_law = some (lc_m C).cls := h.2.2.2.2.1
theorem LOK_hts {C : LC} {N : Nat} (h : LOK C N) : ∀ w ∈ TB, w.before #[Value.ref (lc_b C)] (lc_s C) = true := h.2.2.2.2.2.1
theorem LOK_hX {C : LC} {N : Nat} (h : LOK C N) : va_X (lc_b C) (lc_L C) (lc_xs C) (lc_s C) (lc_s C).heap := h.2.2.2.2.2.2.1
theorem LOK_hbl {C : LC} {N : Nat} (h : LOK C N) : (lc_b C) < (lc_s C).heap.size := h.2.2.2.2.2.2.2.1
theorem LOK_hlocks {C : LC} {N : Nat} (h : LOK C N) : (lc_meth C).locks = false := h.2.2.2.2.2.2.2.2.1
theorem LOK_hst {C : LC} {N : Nat} (h : LOK C N) : (lc_l C).stackTraces = false := h.2.2.2.2.2.2.2.2.2.1
theorem LOK_hLN {C : LC} {N : Nat} (h : LOK C N) : (lc_L C) ≤ N := h.2.2.2.2.2.2.2.2.2.2.1
theorem LOK_hKC {C : LC} {N : Nat} (h : LOK C N) : va_K (lc_GC C).1 (fm_c YC) (fm_t (lc_GC C)) (lc_s C) := h.2.2.2.2.2.2.2.2.2.2.2.1
theorem LOK_hKM {C : LC} {N : Nat} (h : LOK C N) : va_K (lc_GM C).1 (fm_c YM) (fm_t (lc_GM C)) (lc_s C) := h.2.2.2.2.2.2.2.2.2.2.2.2.1
theorem LOK_hDC {C : LC} {N : Nat} (h : LOK C N) : ∀ x, va_D (fm_A YC (lc_GC C)) (fm_w YC (lc_GC C) x) := h.2.2.2.2.2.2.2.2.2.2.2.2.2.1
theorem LOK_hDM {C : LC} {N : Nat} (h : LOK C N) : ∀ x, va_D (fm_A YM (lc_GM C)) (fm_w YM (lc_GM C) x) := h.2.2.2.2.2.2.2.2.2.2.2.2.2.2.1
theorem LOK_hAC {C : LC} {N : Nat} (h : LOK C N) : ∀ q, fm_A YC (lc_GC C) q → (lc_s C).heap.size ≤ q ∧ ¬ fm_A YM (lc_GM C) q := h.2.2.2.2.2.2.2.2.2.2.2.2.2.2.2.1
theorem LOK_hAM {C : LC} {N : Nat} (h : LOK C N) : ∀ q, fm_A YM (lc_GM C) q → (lc_s C).heap.size ≤ q ∧ ¬ fm_A YC (lc_GC C) q := h.2.2.2.2.2.2.2.2.2.2.2.2.2.2.2.2.1
theorem LOK_hXC {C : LC} {N : Nat} (h : LOK C N) : fm_x YC (lc_GC C) (fm_A YC (lc_GC C)) (lc_s C) := h.2.2.2.2.2.2.2.2.2.2.2.2.2.2.2.2.2.1
theorem LOK_hXM {C : LC} {N : Nat} (h : LOK C N) : fm_x YM (lc_GM C) (fm_A YM (lc_GM C)) (lc_s C) := h.2.2.2.2.2.2.2.2.2.2.2.2.2.2.2.2.2.2.1
theorem LOK_hcC {C : LC} {N : Nat} (h : LOK C N) : fm_Xc YC := h.2.2.2.2.2.2.2.2.2.2.2.2.2.2.2.2.2.2.2.1
theorem LOK_hcM {C : LC} {N : Nat} (h : LOK C N) : fm_Xc YM := h.2.2.2.2.2.2.2.2.2.2.2.2.2.2.2.2.2.2.2.2
def LW (C : LC) (ce sl : Nat) (x y : Mm) (pc : Nat) (L : List (Nat × Value)) (st : List Value) : Prop := fm_R YC x → fm_R YM y → ∀ (H : Heap) (locs : List Loc) (ls : Array Slot), va_P (lc_GC C).1 (fm_c YC) (fm_w YC (lc_GC C) x) H → va_P (lc_GM C).1 (fm_c YM) (fm_w YM (lc_GM C) y) H → va_S (fun q => (lc_s C).heap.size ≤ q) (lc_s C).heap H locs → lv_has ls 8 L → W (lc_p C) (lc_l C) (lc_e C) room_1 (lc_s C) (lc_m C) #[Value.ref (lc_b C)] (lc_below C) (lc_meth C) (lc_c C) H locs ce sl (lw_Z (lc_below C) #[Value.ref (lc_b C)] (lc_s C)) (F0 (lc_m C) pc ls st)
theorem fm_wA {Y : Ly} {G : Gx} {x : Mm} {k : Nat} {q : Nat × va_E} (h : (fm_w Y G x)[k]? = some q) : fm_A Y G q.1 := by
  have hl : k < Y.1 := by
    have := (List.getElem?_eq_some_iff.mp h).1
    rwa [fm_w_len] at this
  rw [fm_w_get hl] at h
  cases h
  exact ⟨k, hl, rfl⟩
section LAWR
variable {C : LC} {N ce sl : Nat} {x y : Mm} {pc : Nat} {L L' : List (Nat × Value)} {st : List Value}
set_option maxHeartbeats 200000 in
theorem lr_iconst (h : LOK C N) {n : Int} (hd : decode code pc = .ok (.iconst n, 1)) (k : LW C ce sl x y (pc + 1) L (vi n :: st)) : LW C ce sl x y pc L (st) := by
  intro hR hR2 H locs ls hP hP2 hS hl
  exact lv_iconst (LOK_hx h) (LOK_hb h) hd rfl (k hR hR2 H locs ls hP hP2 hS hl)
set_option maxHeartbeats 200000 in
theorem lr_bipush (h : LOK C N) {n : Int} (hv : (Int8.ofInt n).toInt32 = iI n) (hd : decode code pc = .ok (.bipush n, 2)) (k : LW C ce sl x y (pc + 2) L (vi n :: st)) : LW C ce sl x y pc L (st) := by
  intro hR hR2 H locs ls hP hP2 hS hl
  exact lv_bipush (LOK_hx h) (LOK_hb h) hd hv (k hR hR2 H locs ls hP hP2 hS hl)
set_option maxHeartbeats 200000 in
theorem lr_sipush (h : LOK C N) {n : Int} (hv : (Int16.ofInt n).toInt32 = iI n) (hd : decode code pc = .ok (.sipush n, 3)) (k : LW C ce sl x y (pc + 3) L (vi n :: st)) : LW C ce sl x y pc L (st) := by
  intro hR hR2 H locs ls hP hP2 hS hl
  exact lv_sipush (LOK_hx h) (LOK_hb h) hd hv (k hR hR2 H locs ls hP hP2 hS hl)
set_option maxHeartbeats 200000 in
theorem lr_iload_n (h : LOK C N) {f : Fin 4} {i : Nat} {z : Int} (hi : (f : Nat) = i) (j : Nat) (hk : L[j]? = some (i, vi z)) (hd : decode code pc = .ok (.iload_n f, 1)) (k : LW C ce sl x y (pc + 1) L (vi z :: st)) : LW C ce sl x y pc L (st) := by
  intro hR hR2 H locs ls hP hP2 hS hl
  exact lv_iload_n (LOK_hx h) (LOK_hb h) hd hi (lv_at hl j hk) (k hR hR2 H locs ls hP hP2 hS hl)
set_option maxHeartbeats 200000 in
theorem lr_iload (h : LOK C N) {i : Nat} {z : Int} (j : Nat) (hk : L[j]? = some (i, vi z)) (hd : decode code pc = .ok (.iload i, 2)) (k : LW C ce sl x y (pc + 2) L (vi z :: st)) : LW C ce sl x y pc L (st) := by
  intro hR hR2 H locs ls hP hP2 hS hl
  exact lv_iload (LOK_hx h) (LOK_hb h) hd (lv_at hl j hk) (k hR hR2 H locs ls hP hP2 hS hl)
set_option maxHeartbeats 200000 in
theorem lr_lload_n (h : LOK C N) {f : Fin 4} {i : Nat} {z : Int} (hi : (f : Nat) = i) (j : Nat) (hk : L[j]? = some (i, vj z)) (hd : decode code pc = .ok (.lload_n f, 1)) (k : LW C ce sl x y (pc + 1) L (vj z :: st)) : LW C ce sl x y pc L (st) := by
  intro hR hR2 H locs ls hP hP2 hS hl
  exact lv_lload_n (LOK_hx h) (LOK_hb h) hd hi (lv_at hl j hk) (k hR hR2 H locs ls hP hP2 hS hl)
set_option maxHeartbeats 200000 in
theorem lr_lload (h : LOK C N) {i : Nat} {z : Int} (j : Nat) (hk : L[j]? = some (i, vj z)) (hd : decode code pc = .ok (.lload i, 2)) (k : LW C ce sl x y (pc + 2) L (vj z :: st)) : LW C ce sl x y pc L (st) := by
  intro hR hR2 H locs ls hP hP2 hS hl
  exact lv_lload (LOK_hx h) (LOK_hb h) hd (lv_at hl j hk) (k hR hR2 H locs ls hP hP2 hS hl)
set_option maxHeartbeats 200000 in
theorem lr_aload_n (h : LOK C N) {f : Fin 4} {i : Nat} {a : Nat} (hi : (f : Nat) = i) (j : Nat) (hk : L[j]? = some (i, .ref a)) (hd : decode code pc = .ok (.aload_n f, 1)) (k : LW C ce sl x y (pc + 1) L (.ref a :: st)) : LW C ce sl x y pc L (st) := by
  intro hR hR2 H locs ls hP hP2 hS hl
  exact lv_aload_n (LOK_hx h) (LOK_hb h) hd hi (lv_at hl j hk) (k hR hR2 H locs ls hP hP2 hS hl)
set_option maxHeartbeats 200000 in
theorem lr_aload (h : LOK C N) {i : Nat} {a : Nat} (j : Nat) (hk : L[j]? = some (i, .ref a)) (hd : decode code pc = .ok (.aload i, 2)) (k : LW C ce sl x y (pc + 2) L (.ref a :: st)) : LW C ce sl x y pc L (st) := by
  intro hR hR2 H locs ls hP hP2 hS hl
  exact lv_aload (LOK_hx h) (LOK_hb h) hd (lv_at hl j hk) (k hR hR2 H locs ls hP hP2 hS hl)
set_option maxHeartbeats 200000 in
theorem lr_istore_n (h : LOK C N) {f : Fin 4} {i : Nat} {z : Int} (hi : (f : Nat) = i) (hd : decode code pc = .ok (.istore_n f, 1)) (hn : i < 8) (ks : List Nat) (hL : lv_pick ((i, vi z) :: L.filter (fun q => !(q.1 == i) && !(q.1 + 1 == i && q.2.category == 2))) ks = L') (k : LW C ce sl x y (pc + 1) L' st) : LW C ce sl x y pc L (vi z :: st) := by
  intro hR hR2 H locs ls hP hP2 hS hl
  exact lv_istore_n (LOK_hx h) (LOK_hb h) hd hi hl hn rfl (fun ls hl => k hR hR2 H locs ls hP hP2 hS (lv_sub hl ks hL))
set_option maxHeartbeats 200000 in
theorem lr_istore (h : LOK C N) {i : Nat} {z : Int} (hd : decode code pc = .ok (.istore i, 2)) (hn : i < 8) (ks : List Nat) (hL : lv_pick ((i, vi z) :: L.filter (fun q => !(q.1 == i) && !(q.1 + 1 == i && q.2.category == 2))) ks = L') (k : LW C ce sl x y (pc + 2) L' st) : LW C ce sl x y pc L (vi z :: st) := by
  intro hR hR2 H locs ls hP hP2 hS hl
  exact lv_istore (LOK_hx h) (LOK_hb h) hd hl hn rfl (fun ls hl => k hR hR2 H locs ls hP hP2 hS (lv_sub hl ks hL))
set_option maxHeartbeats 200000 in
theorem lr_lstore_n (h : LOK C N) {f : Fin 4} {i : Nat} {z : Int} (hi : (f : Nat) = i) (hd : decode code pc = .ok (.lstore_n f, 1)) (hn : i + 1 < 8) (ks : List Nat) (hL : lv_pick ((i, vj z) :: L.filter (fun q => !(q.1 == i) && (!(q.1 == i + 1) && !(q.1 + 1 == i && q.2.category == 2)))) ks = L') (k : LW C ce sl x y (pc + 1) L' st) : LW C ce sl x y pc L (vj z :: st) := by
  intro hR hR2 H locs ls hP hP2 hS hl
  exact lv_lstore_n (LOK_hx h) (LOK_hb h) hd hi hl hn rfl (fun ls hl => k hR hR2 H locs ls hP hP2 hS (lv_sub hl ks hL))
set_option maxHeartbeats 200000 in
theorem lr_lstore (h : LOK C N) {i : Nat} {z : Int} (hd : decode code pc = .ok (.lstore i, 2)) (hn : i + 1 < 8) (ks : List Nat) (hL : lv_pick ((i, vj z) :: L.filter (fun q => !(q.1 == i) && (!(q.1 == i + 1) && !(q.1 + 1 == i && q.2.category == 2)))) ks = L') (k : LW C ce sl x y (pc + 2) L' st) : LW C ce sl x y pc L (vj z :: st) := by
  intro hR hR2 H locs ls hP hP2 hS hl
  exact lv_lstore (LOK_hx h) (LOK_hb h) hd hl hn rfl (fun ls hl => k hR hR2 H locs ls hP hP2 hS (lv_sub hl ks hL))
set_option maxHeartbeats 200000 in
theorem lr_astore_n (h : LOK C N) {f : Fin 4} {i : Nat} {a : Nat} (hi : (f : Nat) = i) (hd : decode code pc = .ok (.astore_n f, 1)) (hn : i < 8) (ks : List Nat) (hL : lv_pick ((i, .ref a) :: L.filter (fun q => !(q.1 == i) && !(q.1 + 1 == i && q.2.category == 2))) ks = L') (k : LW C ce sl x y (pc + 1) L' st) : LW C ce sl x y pc L (.ref a :: st) := by
  intro hR hR2 H locs ls hP hP2 hS hl
  exact lv_astore_n (LOK_hx h) (LOK_hb h) hd hi hl hn rfl (fun ls hl => k hR hR2 H locs ls hP hP2 hS (lv_sub hl ks hL))
set_option maxHeartbeats 200000 in
theorem lr_astore (h : LOK C N) {i : Nat} {a : Nat} (hd : decode code pc = .ok (.astore i, 2)) (hn : i < 8) (ks : List Nat) (hL : lv_pick ((i, .ref a) :: L.filter (fun q => !(q.1 == i) && !(q.1 + 1 == i && q.2.category == 2))) ks = L') (k : LW C ce sl x y (pc + 2) L' st) : LW C ce sl x y pc L (.ref a :: st) := by
  intro hR hR2 H locs ls hP hP2 hS hl
  exact lv_astore (LOK_hx h) (LOK_hb h) hd hl hn rfl (fun ls hl => k hR hR2 H locs ls hP hP2 hS (lv_sub hl ks hL))
set_option maxHeartbeats 200000 in
theorem lr_iinc (h : LOK C N) {i j : Nat} {n z : Int} (hd : decode code pc = .ok (.iinc i n, 3)) (hk : L[j]? = some (i, vi z)) (hn : i < 8) (ks : List Nat) (hL : lv_pick ((i, vi (z + n)) :: L.filter (fun q => !(q.1 == i) && !(q.1 + 1 == i && q.2.category == 2))) ks = L') (k : LW C ce sl x y (pc + 3) L' st) : LW C ce sl x y pc L st := by
  intro hR hR2 H locs ls hP hP2 hS hl
  exact lv_iinc (LOK_hx h) (LOK_hb h) hd hl hk (iI_add z n) hn rfl (fun ls hl => k hR hR2 H locs ls hP hP2 hS (lv_sub hl ks hL))
set_option maxHeartbeats 200000 in
theorem lr_iadd (h : LOK C N) {a b : Int} (hd : decode code pc = .ok (.iadd, 1)) (k : LW C ce sl x y (pc + 1) L (vi (a + b) :: st)) : LW C ce sl x y pc L (vi b :: vi a :: st) := by
  intro hR hR2 H locs ls hP hP2 hS hl
  exact lv_iadd (LOK_hx h) (LOK_hb h) hd (by rw [iI_add]; exact (k hR hR2 H locs ls hP hP2 hS hl))
set_option maxHeartbeats 200000 in
theorem lr_isub (h : LOK C N) {a b : Int} (hd : decode code pc = .ok (.isub, 1)) (k : LW C ce sl x y (pc + 1) L (vi (a - b) :: st)) : LW C ce sl x y pc L (vi b :: vi a :: st) := by
  intro hR hR2 H locs ls hP hP2 hS hl
  exact lv_isub (LOK_hx h) (LOK_hb h) hd (by rw [iI_sub]; exact (k hR hR2 H locs ls hP hP2 hS hl))
set_option maxHeartbeats 200000 in
theorem lr_i2l (h : LOK C N) {a : Int} (ha : fm_r a) (hd : decode code pc = .ok (.i2l, 1)) (k : LW C ce sl x y (pc + 1) L (vj a :: st)) : LW C ce sl x y pc L (vi a :: st) := by
  intro hR hR2 H locs ls hP hP2 hS hl
  exact lv_i2l (LOK_hx h) (LOK_hb h) hd (iI_l ha) (k hR hR2 H locs ls hP hP2 hS hl)
set_option maxHeartbeats 200000 in
theorem lr_iand (h : LOK C N) {a b : Int} (hd : decode code pc = .ok (.iand, 1)) (k : ∀ z : Int, fm_r z → iI a &&& iI b = iI z → (0 ≤ b → b ≤ 2147483647 → 0 ≤ z ∧ z ≤ b) → LW C ce sl x y (pc + 1) L (vi z :: st)) : LW C ce sl x y pc L (vi b :: vi a :: st) := by
  intro hR hR2 H locs ls hP hP2 hS hl
  obtain ⟨z, h1, h2, h3⟩ := iI_and a b
  exact lv_iand (LOK_hx h) (LOK_hb h) hd (by rw [h2]; exact (k z h1 h2 h3 hR hR2 H locs ls hP hP2 hS hl))
set_option maxHeartbeats 200000 in
theorem lr_normi {z : Int} (k : ∀ a : Int, fm_r a → iI z = iI a → LW C ce sl x y pc L (vi a :: st)) : LW C ce sl x y pc L (vi z :: st) := by
  have h := k (iI z).toInt (iI_r _) (iI_of _).symm
  rwa [vi, iI_of] at h
set_option maxHeartbeats 200000 in
theorem lr_nmi {z : Int} (k : ∀ a : Int, a = z → LW C ce sl x y pc L (vi a :: st)) : LW C ce sl x y pc L (vi z :: st) := k z rfl
set_option maxHeartbeats 200000 in
theorem lr_dup (h : LOK C N) {v : Value} (hv : v.category = 1) (hd : decode code pc = .ok (.dup, 1)) (k : LW C ce sl x y (pc + 1) L (v :: v :: st)) : LW C ce sl x y pc L (v :: st) := by
  intro hR hR2 H locs ls hP hP2 hS hl
  exact lv_dup (LOK_hx h) (LOK_hb h) hd hv (k hR hR2 H locs ls hP hP2 hS hl)
set_option maxHeartbeats 200000 in
theorem lr_pop (h : LOK C N) {v : Value} (hv : v.category = 1) (hd : decode code pc = .ok (.pop, 1)) (k : LW C ce sl x y (pc + 1) L (st)) : LW C ce sl x y pc L (v :: st) := by
  intro hR hR2 H locs ls hP hP2 hS hl
  exact lv_pop (LOK_hx h) (LOK_hb h) hd hv (k hR hR2 H locs ls hP hP2 hS hl)
set_option maxHeartbeats 200000 in
theorem lr_icmp_eq (h : LOK C N) {a b off : Int} {tgt : Nat} (hd : decode code pc = .ok (.if_icmp .eq off, 3)) (ht : (pc : Int) + off = (tgt : Int)) (ha : fm_r a) (hb0 : fm_r b) (kt : a = b → LW C ce sl x y tgt L st) (kf : a ≠ b → LW C ce sl x y (pc + 3) L st) : LW C ce sl x y pc L (vi b :: vi a :: st) := by
  intro hR hR2 H locs ls hP hP2 hS hl
  exact lv_icmp_eq (LOK_hx h) (LOK_hb h) hd ht (fun q => kt ((iI_eq ha hb0).mp q) hR hR2 H locs ls hP hP2 hS hl) (fun q => kf (fun r => q ((iI_eq ha hb0).mpr r)) hR hR2 H locs ls hP hP2 hS hl)
set_option maxHeartbeats 200000 in
theorem lr_icmp_ne (h : LOK C N) {a b off : Int} {tgt : Nat} (hd : decode code pc = .ok (.if_icmp .ne off, 3)) (ht : (pc : Int) + off = (tgt : Int)) (ha : fm_r a) (hb0 : fm_r b) (kt : a ≠ b → LW C ce sl x y tgt L st) (kf : a = b → LW C ce sl x y (pc + 3) L st) : LW C ce sl x y pc L (vi b :: vi a :: st) := by
  intro hR hR2 H locs ls hP hP2 hS hl
  exact lv_icmp_ne (LOK_hx h) (LOK_hb h) hd ht (fun q => kt (fun r => q ((iI_eq ha hb0).mpr r)) hR hR2 H locs ls hP hP2 hS hl) (fun q => kf ((iI_eq ha hb0).mp q) hR hR2 H locs ls hP hP2 hS hl)
set_option maxHeartbeats 200000 in
theorem lr_icmp_lt (h : LOK C N) {a b off : Int} {tgt : Nat} (hd : decode code pc = .ok (.if_icmp .lt off, 3)) (ht : (pc : Int) + off = (tgt : Int)) (ha : fm_r a) (hb0 : fm_r b) (kt : a < b → LW C ce sl x y tgt L st) (kf : b ≤ a → LW C ce sl x y (pc + 3) L st) : LW C ce sl x y pc L (vi b :: vi a :: st) := by
  intro hR hR2 H locs ls hP hP2 hS hl
  exact lv_icmp_lt (LOK_hx h) (LOK_hb h) hd ht (fun q => kt ((iI_lt ha hb0).mp q) hR hR2 H locs ls hP hP2 hS hl) (fun q => kf (Int.not_lt.mp fun r => q ((iI_lt ha hb0).mpr r)) hR hR2 H locs ls hP hP2 hS hl)
set_option maxHeartbeats 200000 in
theorem lr_icmp_ge (h : LOK C N) {a b off : Int} {tgt : Nat} (hd : decode code pc = .ok (.if_icmp .ge off, 3)) (ht : (pc : Int) + off = (tgt : Int)) (ha : fm_r a) (hb0 : fm_r b) (kt : b ≤ a → LW C ce sl x y tgt L st) (kf : a < b → LW C ce sl x y (pc + 3) L st) : LW C ce sl x y pc L (vi b :: vi a :: st) := by
  intro hR hR2 H locs ls hP hP2 hS hl
  exact lv_icmp_ge (LOK_hx h) (LOK_hb h) hd ht (fun q => kt ((iI_le hb0 ha).mp q) hR hR2 H locs ls hP hP2 hS hl) (fun q => kf (Int.not_le.mp fun r => q ((iI_le hb0 ha).mpr r)) hR hR2 H locs ls hP hP2 hS hl)
set_option maxHeartbeats 200000 in
theorem lr_icmp_gt (h : LOK C N) {a b off : Int} {tgt : Nat} (hd : decode code pc = .ok (.if_icmp .gt off, 3)) (ht : (pc : Int) + off = (tgt : Int)) (ha : fm_r a) (hb0 : fm_r b) (kt : b < a → LW C ce sl x y tgt L st) (kf : a ≤ b → LW C ce sl x y (pc + 3) L st) : LW C ce sl x y pc L (vi b :: vi a :: st) := by
  intro hR hR2 H locs ls hP hP2 hS hl
  exact lv_icmp_gt (LOK_hx h) (LOK_hb h) hd ht (fun q => kt ((iI_lt hb0 ha).mp q) hR hR2 H locs ls hP hP2 hS hl) (fun q => kf (Int.not_lt.mp fun r => q ((iI_lt hb0 ha).mpr r)) hR hR2 H locs ls hP hP2 hS hl)
set_option maxHeartbeats 200000 in
theorem lr_icmp_le (h : LOK C N) {a b off : Int} {tgt : Nat} (hd : decode code pc = .ok (.if_icmp .le off, 3)) (ht : (pc : Int) + off = (tgt : Int)) (ha : fm_r a) (hb0 : fm_r b) (kt : a ≤ b → LW C ce sl x y tgt L st) (kf : b < a → LW C ce sl x y (pc + 3) L st) : LW C ce sl x y pc L (vi b :: vi a :: st) := by
  intro hR hR2 H locs ls hP hP2 hS hl
  exact lv_icmp_le (LOK_hx h) (LOK_hb h) hd ht (fun q => kt ((iI_le ha hb0).mp q) hR hR2 H locs ls hP hP2 hS hl) (fun q => kf (Int.not_le.mp fun r => q ((iI_le ha hb0).mpr r)) hR hR2 H locs ls hP hP2 hS hl)
set_option maxHeartbeats 200000 in
theorem lr_if_eq (h : LOK C N) {a off : Int} {tgt : Nat} (hd : decode code pc = .ok (.ifCond .eq off, 3)) (ht : (pc : Int) + off = (tgt : Int)) (ha : fm_r a) (kt : a = 0 → LW C ce sl x y tgt L st) (kf : a ≠ 0 → LW C ce sl x y (pc + 3) L st) : LW C ce sl x y pc L (vi a :: st) := by
  intro hR hR2 H locs ls hP hP2 hS hl
  have hb0 : fm_r 0 := by omega
  exact lv_if_eq (LOK_hx h) (LOK_hb h) hd ht (fun q => kt ((iI_eq ha hb0).mp q) hR hR2 H locs ls hP hP2 hS hl) (fun q => kf (fun r => q ((iI_eq ha hb0).mpr r)) hR hR2 H locs ls hP hP2 hS hl)
set_option maxHeartbeats 200000 in
theorem lr_if_ne (h : LOK C N) {a off : Int} {tgt : Nat} (hd : decode code pc = .ok (.ifCond .ne off, 3)) (ht : (pc : Int) + off = (tgt : Int)) (ha : fm_r a) (kt : a ≠ 0 → LW C ce sl x y tgt L st) (kf : a = 0 → LW C ce sl x y (pc + 3) L st) : LW C ce sl x y pc L (vi a :: st) := by
  intro hR hR2 H locs ls hP hP2 hS hl
  have hb0 : fm_r 0 := by omega
  exact lv_if_ne (LOK_hx h) (LOK_hb h) hd ht (fun q => kt (fun r => q ((iI_eq ha hb0).mpr r)) hR hR2 H locs ls hP hP2 hS hl) (fun q => kf ((iI_eq ha hb0).mp q) hR hR2 H locs ls hP hP2 hS hl)
set_option maxHeartbeats 200000 in
theorem lr_if_lt (h : LOK C N) {a off : Int} {tgt : Nat} (hd : decode code pc = .ok (.ifCond .lt off, 3)) (ht : (pc : Int) + off = (tgt : Int)) (ha : fm_r a) (kt : a < 0 → LW C ce sl x y tgt L st) (kf : 0 ≤ a → LW C ce sl x y (pc + 3) L st) : LW C ce sl x y pc L (vi a :: st) := by
  intro hR hR2 H locs ls hP hP2 hS hl
  have hb0 : fm_r 0 := by omega
  exact lv_if_lt (LOK_hx h) (LOK_hb h) hd ht (fun q => kt ((iI_lt ha hb0).mp q) hR hR2 H locs ls hP hP2 hS hl) (fun q => kf (Int.not_lt.mp fun r => q ((iI_lt ha hb0).mpr r)) hR hR2 H locs ls hP hP2 hS hl)
set_option maxHeartbeats 200000 in
theorem lr_if_ge (h : LOK C N) {a off : Int} {tgt : Nat} (hd : decode code pc = .ok (.ifCond .ge off, 3)) (ht : (pc : Int) + off = (tgt : Int)) (ha : fm_r a) (kt : 0 ≤ a → LW C ce sl x y tgt L st) (kf : a < 0 → LW C ce sl x y (pc + 3) L st) : LW C ce sl x y pc L (vi a :: st) := by
  intro hR hR2 H locs ls hP hP2 hS hl
  have hb0 : fm_r 0 := by omega
  exact lv_if_ge (LOK_hx h) (LOK_hb h) hd ht (fun q => kt ((iI_le hb0 ha).mp q) hR hR2 H locs ls hP hP2 hS hl) (fun q => kf (Int.not_le.mp fun r => q ((iI_le hb0 ha).mpr r)) hR hR2 H locs ls hP hP2 hS hl)
set_option maxHeartbeats 200000 in
theorem lr_if_gt (h : LOK C N) {a off : Int} {tgt : Nat} (hd : decode code pc = .ok (.ifCond .gt off, 3)) (ht : (pc : Int) + off = (tgt : Int)) (ha : fm_r a) (kt : 0 < a → LW C ce sl x y tgt L st) (kf : a ≤ 0 → LW C ce sl x y (pc + 3) L st) : LW C ce sl x y pc L (vi a :: st) := by
  intro hR hR2 H locs ls hP hP2 hS hl
  have hb0 : fm_r 0 := by omega
  exact lv_if_gt (LOK_hx h) (LOK_hb h) hd ht (fun q => kt ((iI_lt hb0 ha).mp q) hR hR2 H locs ls hP hP2 hS hl) (fun q => kf (Int.not_lt.mp fun r => q ((iI_lt hb0 ha).mpr r)) hR hR2 H locs ls hP hP2 hS hl)
set_option maxHeartbeats 200000 in
theorem lr_if_le (h : LOK C N) {a off : Int} {tgt : Nat} (hd : decode code pc = .ok (.ifCond .le off, 3)) (ht : (pc : Int) + off = (tgt : Int)) (ha : fm_r a) (kt : a ≤ 0 → LW C ce sl x y tgt L st) (kf : 0 < a → LW C ce sl x y (pc + 3) L st) : LW C ce sl x y pc L (vi a :: st) := by
  intro hR hR2 H locs ls hP hP2 hS hl
  have hb0 : fm_r 0 := by omega
  exact lv_if_le (LOK_hx h) (LOK_hb h) hd ht (fun q => kt ((iI_le ha hb0).mp q) hR hR2 H locs ls hP hP2 hS hl) (fun q => kf (Int.not_le.mp fun r => q ((iI_le ha hb0).mpr r)) hR hR2 H locs ls hP hP2 hS hl)
set_option maxHeartbeats 200000 in
theorem lr_goto (h : LOK C N) {off : Int} {tgt : Nat} (hd : decode code pc = .ok (.goto off, 3)) (ht : (pc : Int) + off = (tgt : Int)) (k : LW C ce sl x y tgt L st) : LW C ce sl x y pc L st := by
  intro hR hR2 H locs ls hP hP2 hS hl
  exact lv_goto (LOK_hx h) (LOK_hb h) hd ht (k hR hR2 H locs ls hP hP2 hS hl)
set_option maxHeartbeats 200000 in
theorem lr_lcmp (h : LOK C N) {a b : Int} (hd : decode code pc = .ok (.lcmp, 1)) (ha : fm_l a) (hb0 : fm_l b) (k : ∀ z : Int, (z = -1 ∧ a < b) ∨ (z = 0 ∧ a = b) ∨ (z = 1 ∧ b < a) → LW C ce sl x y (pc + 1) L (vi z :: st)) : LW C ce sl x y pc L (vj b :: vj a :: st) := by
  intro hR hR2 H locs ls hP hP2 hS hl
  obtain ⟨z, h1, h2⟩ := lc_cases ha hb0
  exact W.lcmp (LOK_hx h) (LOK_hb h) hd (by rw [h1]; exact k z h2 hR hR2 H locs ls hP hP2 hS hl)
set_option maxHeartbeats 200000 in
theorem lr_tab_out (h : LOK C N) {a d lo hi : Int} {offs : Array Int} {len tgt : Nat} (hd : decode code pc = .ok (.tableswitch d lo hi offs, len)) (ha : fm_r a) (hq : a < lo ∨ hi < a) (ht : (pc : Int) + d = (tgt : Int)) (k : LW C ce sl x y tgt L st) : LW C ce sl x y pc L (vi a :: st) := by
  intro hR hR2 H locs ls hP hP2 hS hl
  exact lv_tableOut (LOK_hx h) (LOK_hb h) hd (by rw [iI_t ha]; exact hq) ht (k hR hR2 H locs ls hP hP2 hS hl)
set_option maxHeartbeats 200000 in
theorem lr_tab_in (h : LOK C N) {a d lo hi : Int} {offs : Array Int} {len tgt : Nat} {off : Int} (hd : decode code pc = .ok (.tableswitch d lo hi offs, len)) (ha : fm_r a) (hq : lo ≤ a) (hq2 : a ≤ hi) (ho : offs[(a - lo).toNat]? = some off) (ht : (pc : Int) + off = (tgt : Int)) (k : LW C ce sl x y tgt L st) : LW C ce sl x y pc L (vi a :: st) := by
  intro hR hR2 H locs ls hP hP2 hS hl
  exact lv_tableIn (LOK_hx h) (LOK_hb h) hd (by rw [iI_t ha]; omega) (by rw [iI_t ha]; omega) (by rw [iI_t ha]; exact ho) ht (k hR hR2 H locs ls hP hP2 hS hl)
set_option maxHeartbeats 200000 in
theorem lr_pop2 (h : LOK C N) {z : Int} (hd : decode code pc = .ok (.pop2, 1)) (k : LW C ce sl x y (pc + 1) L st) : LW C ce sl x y pc L (vj z :: st) := by
  intro hR hR2 H locs ls hP hP2 hS hl
  exact lv_pop2_2 (LOK_hx h) (LOK_hb h) hd rfl (k hR hR2 H locs ls hP hP2 hS hl)
set_option maxHeartbeats 200000 in
theorem lr_sub (ks : List Nat) (hL : lv_pick L ks = L') (k : LW C ce sl x y pc L' st) : LW C ce sl x y pc L st := by
  intro hR hR2 H locs ls hP hP2 hS hl
  exact k hR hR2 H locs ls hP hP2 hS (lv_sub hl ks hL)
set_option maxHeartbeats 200000 in
theorem lr_len (h : LOK C N) (hN : N ≤ 2147483647) (hd : decode code pc = .ok (.arraylength, 1)) (k : LW C ce sl x y (pc + 1) L (vi ((lc_L C) : Int) :: st)) : LW C ce sl x y pc L (.ref (lc_b C) :: st) := by
  intro hR hR2 H locs ls hP hP2 hS hl
  have e : Int32.ofNat (lc_L C) = iI ((lc_L C) : Int) := (iI_nat (lc_L C)).symm
  exact va_slen (LOK_hx h) (LOK_hb h) (LOK_hX h) (LOK_hbl h) (by have := (LOK_hbl h); omega) hS hd (by rw [e]; exact k hR hR2 H locs ls hP hP2 hS hl)
def sc (C : LC) (j : Int) : Int := ((lc_xs C) (iI j).toNatClampNeg).toInt
set_option maxHeartbeats 200000 in
theorem lr_sld (h : LOK C N) (hN : N ≤ 2147483647) {j : Int} (h0 : 0 ≤ j) (hj : j < (lc_L C)) (hd : decode code pc = .ok (.iaload, 1)) (k : ∀ z : Int, fm_r z → z = sc C j → LW C ce sl x y (pc + 1) L (vi z :: st)) : LW C ce sl x y pc L (vi j :: .ref (lc_b C) :: st) := by
  intro hR hR2 H locs ls hP hP2 hS hl
  have hLN := (LOK_hLN h)
  have hin : vp_in (iI j) (lc_L C) := iI_in h0 hj (by omega)
  have k1 := k (sc C j) (iI_r _) rfl hR hR2 H locs ls hP hP2 hS hl
  have e : vi (sc C j) = .int ((lc_xs C) (iI j).toNatClampNeg) := congrArg Value.int (iI_of _)
  rw [e] at k1
  exact va_sld (LOK_hx h) (LOK_hb h) (LOK_hX h) (LOK_hbl h) (by have := (LOK_hbl h); omega) hS hin hd k1
set_option maxHeartbeats 200000 in
theorem lr_cCI (h : LOK C N) {yy : MethodName} {bb : ByteArray} {n np fr1 lc1 index : Nat} {rt : FieldType} {as : List Value} {k : Int} {ci : Nat} {ts : List Nat} {T : u_T} {NN : Nat} {ty : Nat → FieldType} {post : Int → Mm → Prop} (hC : fm_cls YC ci yy.cls T NN ty) (hk : fm_at YC k ci ts) (hw : fm_wv yy bb n (some rt) np) (hlk : Cond.methodLink R_law index yy ∈ TB) (hc : CnI YC yy bb n rt fr1 lc1 (fun G => vr G k :: as) x post) (hnp : as.length = np) (hf : fr1 + 1 ≤ room_1.frames) (hlo : 19 + n + lc1 ≤ room_1.locals) {stk : List Value} (hst : stk = as.reverse ++ vr (lc_GC C) k :: st) (hsum : (st.map fun v => v.category).sum ≤ 8) (hcl : ce ≤ room_1.cells) (hsl : sl ≤ room_1.slots) (hd : decode code pc = .ok (.invokevirtual index, 3)) (kk : ∀ (z : Int) (x' : Mm), fm_r z → post z x' → LW C ce sl x' y (pc + 3) L (vi z :: st)) : LW C ce sl x y pc L stk := by
  intro hR hR2 H locs ls hP hP2 hS hl
  subst hst
  refine va_calli (va_runV (As := as) (rest := st) ⟨(LOK_hx h), (LOK_hb h), (LOK_hml h), (LOK_hown h), (LOK_hts h)⟩ (hc (lc_l C) (lc_GC C)) (cwV np (LOK_hts h) (gd_v hw hlk) rfl rfl rfl hw.2.2.2.2 ⟨hf, by show 8 + (n + 11) + lc1 ≤ room_1.locals; omega⟩) ⟨fm_blind, va_recv (LOK_hKC h) hP (ci := ci) (q0 := k.toNat) hC.1 (fm_w_obj hk), fun U hU hW => ⟨rfl, hR, by rw [hU]; exact hP, va_K.moved hW.alike (LOK_hKC h), (LOK_hDC h), (LOK_hcC h) (lc_GC C) _ (lc_s C) U hW (LOK_hXC h) (fun q h1 h2 => by rw [hU]; exact hS.2.1 q h1 (by omega)), (LOK_hcC h)⟩⟩ rfl hnp hl.1 rfl (lv_room hsum) hd ⟨by simpa using hcl, by simpa using hsl⟩) hS (fun q _ hq => ((LOK_hAC h) q hq).1) (fun q hq => ((LOK_hAC h) q hq).1) (fun r u t H1 locs1 ht hvm hpost hB hz hk1 hS1 => ?_)
  obtain ⟨z, x'⟩ := u
  obtain ⟨rfl, hz1, hp1, hR1⟩ := hpost
  rw [ht] at hB
  exact kk z x' hz1 hp1 hR1 hR2 H1 locs1 ls hB (hP2.kept (fun i q hq => hk1 _ (hP2 i q hq).lt (fun g => ((LOK_hAC h) q.1 g).2 (fm_wA hq)))) hS1 hl
set_option maxHeartbeats 200000 in
theorem lr_cCL (h : LOK C N) {yy : MethodName} {bb : ByteArray} {n np fr1 lc1 index : Nat} {as : List Value} {k : Int} {ci : Nat} {ts : List Nat} {T : u_T} {NN : Nat} {ty : Nat → FieldType} {post : Int → Mm → Prop} (hC : fm_cls YC ci yy.cls T NN ty) (hk : fm_at YC k ci ts) (hw : fm_wv yy bb n (some .long) np) (hlk : Cond.methodLink R_law index yy ∈ TB) (hc : CnL YC yy bb n fr1 lc1 (fun G => vr G k :: as) x post) (hnp : as.length = np) (hf : fr1 + 1 ≤ room_1.frames) (hlo : 19 + n + lc1 ≤ room_1.locals) {stk : List Value} (hst : stk = as.reverse ++ vr (lc_GC C) k :: st) (hsum : (st.map fun v => v.category).sum ≤ 8) (hcl : ce ≤ room_1.cells) (hsl : sl ≤ room_1.slots) (hd : decode code pc = .ok (.invokevirtual index, 3)) (kk : ∀ (z : Int) (x' : Mm), fm_l z → post z x' → LW C ce sl x' y (pc + 3) L (vj z :: st)) : LW C ce sl x y pc L stk := by
  intro hR hR2 H locs ls hP hP2 hS hl
  subst hst
  refine va_calll (va_runV (As := as) (rest := st) ⟨(LOK_hx h), (LOK_hb h), (LOK_hml h), (LOK_hown h), (LOK_hts h)⟩ (hc (lc_l C) (lc_GC C)) (cwV np (LOK_hts h) (gd_v hw hlk) rfl rfl rfl hw.2.2.2.2 ⟨hf, by show 8 + (n + 11) + lc1 ≤ room_1.locals; omega⟩) ⟨fm_blind, va_recv (LOK_hKC h) hP (ci := ci) (q0 := k.toNat) hC.1 (fm_w_obj hk), fun U hU hW => ⟨rfl, hR, by rw [hU]; exact hP, va_K.moved hW.alike (LOK_hKC h), (LOK_hDC h), (LOK_hcC h) (lc_GC C) _ (lc_s C) U hW (LOK_hXC h) (fun q h1 h2 => by rw [hU]; exact hS.2.1 q h1 (by omega)), (LOK_hcC h)⟩⟩ rfl hnp hl.1 rfl (lv_room hsum) hd ⟨by simpa using hcl, by simpa using hsl⟩) hS (fun q _ hq => ((LOK_hAC h) q hq).1) (fun q hq => ((LOK_hAC h) q hq).1) (fun r u t H1 locs1 ht hvm hpost hB hz hk1 hS1 => ?_)
  obtain ⟨z, x'⟩ := u
  obtain ⟨rfl, hz1, hp1, hR1⟩ := hpost
  rw [ht] at hB
  exact kk z x' hz1 hp1 hR1 hR2 H1 locs1 ls hB (hP2.kept (fun i q hq => hk1 _ (hP2 i q hq).lt (fun g => ((LOK_hAC h) q.1 g).2 (fm_wA hq)))) hS1 hl
set_option maxHeartbeats 200000 in
theorem lr_cCV (h : LOK C N) {yy : MethodName} {bb : ByteArray} {n np fr1 lc1 index : Nat} {as : List Value} {k : Int} {ci : Nat} {ts : List Nat} {T : u_T} {NN : Nat} {ty : Nat → FieldType} {post : Mm → Prop} (hC : fm_cls YC ci yy.cls T NN ty) (hk : fm_at YC k ci ts) (hw : fm_wv yy bb n (none) np) (hlk : Cond.methodLink R_law index yy ∈ TB) (hc : CnV YC yy bb n fr1 lc1 (fun G => vr G k :: as) x post) (hnp : as.length = np) (hf : fr1 + 1 ≤ room_1.frames) (hlo : 19 + n + lc1 ≤ room_1.locals) {stk : List Value} (hst : stk = as.reverse ++ vr (lc_GC C) k :: st) (hsum : (st.map fun v => v.category).sum ≤ 8) (hcl : ce ≤ room_1.cells) (hsl : sl ≤ room_1.slots) (hd : decode code pc = .ok (.invokevirtual index, 3)) (kk : ∀ (x' : Mm), post x' → LW C ce sl x' y (pc + 3) L st) : LW C ce sl x y pc L stk := by
  intro hR hR2 H locs ls hP hP2 hS hl
  subst hst
  refine va_callv (va_runV (As := as) (rest := st) ⟨(LOK_hx h), (LOK_hb h), (LOK_hml h), (LOK_hown h), (LOK_hts h)⟩ (hc (lc_l C) (lc_GC C)) (cwV np (LOK_hts h) (gd_v hw hlk) rfl rfl rfl hw.2.2.2.2 ⟨hf, by show 8 + (n + 11) + lc1 ≤ room_1.locals; omega⟩) ⟨fm_blind, va_recv (LOK_hKC h) hP (ci := ci) (q0 := k.toNat) hC.1 (fm_w_obj hk), fun U hU hW => ⟨rfl, hR, by rw [hU]; exact hP, va_K.moved hW.alike (LOK_hKC h), (LOK_hDC h), (LOK_hcC h) (lc_GC C) _ (lc_s C) U hW (LOK_hXC h) (fun q h1 h2 => by rw [hU]; exact hS.2.1 q h1 (by omega)), (LOK_hcC h)⟩⟩ rfl hnp hl.1 rfl (lv_room hsum) hd ⟨by simpa using hcl, by simpa using hsl⟩) hS (fun q _ hq => ((LOK_hAC h) q hq).1) (fun q hq => ((LOK_hAC h) q hq).1) (fun u t H1 locs1 ht hvm hpost hB hz hk1 hS1 => ?_)
  obtain ⟨hp1, hR1⟩ := hpost
  rw [ht] at hB
  exact kk u hp1 hR1 hR2 H1 locs1 ls hB (hP2.kept (fun i q hq => hk1 _ (hP2 i q hq).lt (fun g => ((LOK_hAC h) q.1 g).2 (fm_wA hq)))) hS1 hl
set_option maxHeartbeats 200000 in
theorem lr_cMI (h : LOK C N) {yy : MethodName} {bb : ByteArray} {n np fr1 lc1 index : Nat} {rt : FieldType} {as : List Value} {k : Int} {ci : Nat} {ts : List Nat} {T : u_T} {NN : Nat} {ty : Nat → FieldType} {post : Int → Mm → Prop} (hC : fm_cls YM ci yy.cls T NN ty) (hk : fm_at YM k ci ts) (hw : fm_wv yy bb n (some rt) np) (hlk : Cond.methodLink R_law index yy ∈ TB) (hc : CnI YM yy bb n rt fr1 lc1 (fun G => vr G k :: as) y post) (hnp : as.length = np) (hf : fr1 + 1 ≤ room_1.frames) (hlo : 19 + n + lc1 ≤ room_1.locals) {stk : List Value} (hst : stk = as.reverse ++ vr (lc_GM C) k :: st) (hsum : (st.map fun v => v.category).sum ≤ 8) (hcl : ce ≤ room_1.cells) (hsl : sl ≤ room_1.slots) (hd : decode code pc = .ok (.invokevirtual index, 3)) (kk : ∀ (z : Int) (x' : Mm), fm_r z → post z x' → LW C ce sl x x' (pc + 3) L (vi z :: st)) : LW C ce sl x y pc L stk := by
  intro hR hR2 H locs ls hP hP2 hS hl
  subst hst
  refine va_calli (va_runV (As := as) (rest := st) ⟨(LOK_hx h), (LOK_hb h), (LOK_hml h), (LOK_hown h), (LOK_hts h)⟩ (hc (lc_l C) (lc_GM C)) (cwV np (LOK_hts h) (gd_v hw hlk) rfl rfl rfl hw.2.2.2.2 ⟨hf, by show 8 + (n + 11) + lc1 ≤ room_1.locals; omega⟩) ⟨fm_blind, va_recv (LOK_hKM h) hP2 (ci := ci) (q0 := k.toNat) hC.1 (fm_w_obj hk), fun U hU hW => ⟨rfl, hR2, by rw [hU]; exact hP2, va_K.moved hW.alike (LOK_hKM h), (LOK_hDM h), (LOK_hcM h) (lc_GM C) _ (lc_s C) U hW (LOK_hXM h) (fun q h1 h2 => by rw [hU]; exact hS.2.1 q h1 (by omega)), (LOK_hcM h)⟩⟩ rfl hnp hl.1 rfl (lv_room hsum) hd ⟨by simpa using hcl, by simpa using hsl⟩) hS (fun q _ hq => ((LOK_hAM h) q hq).1) (fun q hq => ((LOK_hAM h) q hq).1) (fun r u t H1 locs1 ht hvm hpost hB hz hk1 hS1 => ?_)
  obtain ⟨z, x'⟩ := u
  obtain ⟨rfl, hz1, hp1, hR1⟩ := hpost
  rw [ht] at hB
  exact kk z x' hz1 hp1 hR hR1 H1 locs1 ls (hP.kept (fun i q hq => hk1 _ (hP i q hq).lt (fun g => ((LOK_hAM h) q.1 g).2 (fm_wA hq)))) hB hS1 hl
set_option maxHeartbeats 200000 in
theorem lr_cML (h : LOK C N) {yy : MethodName} {bb : ByteArray} {n np fr1 lc1 index : Nat} {as : List Value} {k : Int} {ci : Nat} {ts : List Nat} {T : u_T} {NN : Nat} {ty : Nat → FieldType} {post : Int → Mm → Prop} (hC : fm_cls YM ci yy.cls T NN ty) (hk : fm_at YM k ci ts) (hw : fm_wv yy bb n (some .long) np) (hlk : Cond.methodLink R_law index yy ∈ TB) (hc : CnL YM yy bb n fr1 lc1 (fun G => vr G k :: as) y post) (hnp : as.length = np) (hf : fr1 + 1 ≤ room_1.frames) (hlo : 19 + n + lc1 ≤ room_1.locals) {stk : List Value} (hst : stk = as.reverse ++ vr (lc_GM C) k :: st) (hsum : (st.map fun v => v.category).sum ≤ 8) (hcl : ce ≤ room_1.cells) (hsl : sl ≤ room_1.slots) (hd : decode code pc = .ok (.invokevirtual index, 3)) (kk : ∀ (z : Int) (x' : Mm), fm_l z → post z x' → LW C ce sl x x' (pc + 3) L (vj z :: st)) : LW C ce sl x y pc L stk := by
  intro hR hR2 H locs ls hP hP2 hS hl
  subst hst
  refine va_calll (va_runV (As := as) (rest := st) ⟨(LOK_hx h), (LOK_hb h), (LOK_hml h), (LOK_hown h), (LOK_hts h)⟩ (hc (lc_l C) (lc_GM C)) (cwV np (LOK_hts h) (gd_v hw hlk) rfl rfl rfl hw.2.2.2.2 ⟨hf, by show 8 + (n + 11) + lc1 ≤ room_1.locals; omega⟩) ⟨fm_blind, va_recv (LOK_hKM h) hP2 (ci := ci) (q0 := k.toNat) hC.1 (fm_w_obj hk), fun U hU hW => ⟨rfl, hR2, by rw [hU]; exact hP2, va_K.moved hW.alike (LOK_hKM h), (LOK_hDM h), (LOK_hcM h) (lc_GM C) _ (lc_s C) U hW (LOK_hXM h) (fun q h1 h2 => by rw [hU]; exact hS.2.1 q h1 (by omega)), (LOK_hcM h)⟩⟩ rfl hnp hl.1 rfl (lv_room hsum) hd ⟨by simpa using hcl, by simpa using hsl⟩) hS (fun q _ hq => ((LOK_hAM h) q hq).1) (fun q hq => ((LOK_hAM h) q hq).1) (fun r u t H1 locs1 ht hvm hpost hB hz hk1 hS1 => ?_)
  obtain ⟨z, x'⟩ := u
  obtain ⟨rfl, hz1, hp1, hR1⟩ := hpost
  rw [ht] at hB
  exact kk z x' hz1 hp1 hR hR1 H1 locs1 ls (hP.kept (fun i q hq => hk1 _ (hP i q hq).lt (fun g => ((LOK_hAM h) q.1 g).2 (fm_wA hq)))) hB hS1 hl
set_option maxHeartbeats 200000 in
theorem lr_cMV (h : LOK C N) {yy : MethodName} {bb : ByteArray} {n np fr1 lc1 index : Nat} {as : List Value} {k : Int} {ci : Nat} {ts : List Nat} {T : u_T} {NN : Nat} {ty : Nat → FieldType} {post : Mm → Prop} (hC : fm_cls YM ci yy.cls T NN ty) (hk : fm_at YM k ci ts) (hw : fm_wv yy bb n (none) np) (hlk : Cond.methodLink R_law index yy ∈ TB) (hc : CnV YM yy bb n fr1 lc1 (fun G => vr G k :: as) y post) (hnp : as.length = np) (hf : fr1 + 1 ≤ room_1.frames) (hlo : 19 + n + lc1 ≤ room_1.locals) {stk : List Value} (hst : stk = as.reverse ++ vr (lc_GM C) k :: st) (hsum : (st.map fun v => v.category).sum ≤ 8) (hcl : ce ≤ room_1.cells) (hsl : sl ≤ room_1.slots) (hd : decode code pc = .ok (.invokevirtual index, 3)) (kk : ∀ (x' : Mm), post x' → LW C ce sl x x' (pc + 3) L st) : LW C ce sl x y pc L stk := by
  intro hR hR2 H locs ls hP hP2 hS hl
  subst hst
  refine va_callv (va_runV (As := as) (rest := st) ⟨(LOK_hx h), (LOK_hb h), (LOK_hml h), (LOK_hown h), (LOK_hts h)⟩ (hc (lc_l C) (lc_GM C)) (cwV np (LOK_hts h) (gd_v hw hlk) rfl rfl rfl hw.2.2.2.2 ⟨hf, by show 8 + (n + 11) + lc1 ≤ room_1.locals; omega⟩) ⟨fm_blind, va_recv (LOK_hKM h) hP2 (ci := ci) (q0 := k.toNat) hC.1 (fm_w_obj hk), fun U hU hW => ⟨rfl, hR2, by rw [hU]; exact hP2, va_K.moved hW.alike (LOK_hKM h), (LOK_hDM h), (LOK_hcM h) (lc_GM C) _ (lc_s C) U hW (LOK_hXM h) (fun q h1 h2 => by rw [hU]; exact hS.2.1 q h1 (by omega)), (LOK_hcM h)⟩⟩ rfl hnp hl.1 rfl (lv_room hsum) hd ⟨by simpa using hcl, by simpa using hsl⟩) hS (fun q _ hq => ((LOK_hAM h) q hq).1) (fun q hq => ((LOK_hAM h) q hq).1) (fun u t H1 locs1 ht hvm hpost hB hz hk1 hS1 => ?_)
  obtain ⟨hp1, hR1⟩ := hpost
  rw [ht] at hB
  exact kk u hp1 hR hR1 H1 locs1 ls (hP.kept (fun i q hq => hk1 _ (hP i q hq).lt (fun g => ((LOK_hAM h) q.1 g).2 (fm_wA hq)))) hB hS1 hl
set_option maxHeartbeats 200000 in
theorem lr_cW (h : LOK C N) {yy : MethodName} {bb : ByteArray} {n np fr1 lc1 index : Nat} {hh : List (Nat × Nat × Nat × Nat)} {as : Gx → List Value} {post : Int → Mm → Prop} (hcd : Cond.codeWith yy bb n (some .int) hh ∈ TB) (hss : Cond.static yy ∈ TB) (hin : Cond.initialized yy.cls ∈ TB) (hlk : Cond.methodLink R_law index yy ∈ TB) (hy : yy.cls ≠ "java/lang/invoke/MethodHandle" ∧ yy.cls ≠ "java/lang/invoke/VarHandle" ∧ (parseMethodDescriptor yy.desc).map (fun d => d.parameters.length) = some np) (hc : CnIW yy bb n fr1 lc1 hh as x post) (hnp : (as (lc_GC C)).length = np) (hf : fr1 + 1 ≤ room_1.frames) (hlo : 19 + n + lc1 ≤ room_1.locals) {stk : List Value} (hst : stk = (as (lc_GC C)).reverse ++ st) (hsum : (st.map fun v => v.category).sum ≤ 8) (hcl : ce + 1 ≤ room_1.cells) (hsl : sl + 6 ≤ room_1.slots) (hd : decode code pc = .ok (.invokestatic index, 3)) (kk : ∀ (z : Int) (x' : Mm), fm_r z → post z x' → LW C (ce + 1) (sl + 6) x' y (pc + 3) L (vi z :: st)) : LW C ce sl x y pc L stk := by
  intro hR hR2 H locs ls hP hP2 hS hl
  subst hst
  have hgd : GoodIn TB (va_wsS R_law index yy (Cond.codeWith yy bb n (some .int) hh :: TB)) := by
    intro w hm
    have h1 : w ∈ TB := by
      unfold va_wsS at hm
      simp only [List.mem_append, List.mem_cons, List.not_mem_nil, or_false] at hm
      rcases hm with (rfl | rfl | rfl) | rfl | hm
      · exact hlk
      · exact hss
      · exact hin
      · exact hcd
      · exact hm
    exact ⟨h1, good_of_word (tb_g w h1)⟩
  refine va_calli (vx_runSW (As := as (lc_GC C)) (rest := st) ⟨(LOK_hx h), (LOK_hb h), (LOK_hml h), (LOK_hown h), (LOK_hts h)⟩ (hc (lc_l C) (LOK_hst h) (lc_GC C)) (vx_cwSW np (LOK_hts h) hgd rfl rfl rfl hy ⟨hf, by show 8 + (n + 11) + lc1 ≤ room_1.locals; omega⟩) ⟨fm_blind, fun U hU hW => ⟨rfl, hR, by rw [hU]; exact hP, va_K.moved hW.alike (LOK_hKC h), (LOK_hDC h), (LOK_hcC h) (lc_GC C) _ (lc_s C) U hW (LOK_hXC h) (fun q h1 h2 => by rw [hU]; exact hS.2.1 q h1 (by omega)), (LOK_hcC h)⟩⟩ rfl hnp hl.1 rfl (lv_room hsum) hd ⟨hcl, hsl⟩) hS (fun q _ hq => ((LOK_hAC h) q hq).1) (fun q hq => ((LOK_hAC h) q hq).1) (fun r u t H1 locs1 ht hvm hpost hB hz hk1 hS1 => ?_)
  obtain ⟨z, x'⟩ := u
  obtain ⟨rfl, hz1, hp1, hR1⟩ := hpost
  rw [ht] at hB
  exact kk z x' hz1 hp1 hR1 hR2 H1 locs1 ls hB (hP2.kept (fun i q hq => hk1 _ (hP2 i q hq).lt (fun g => ((LOK_hAC h) q.1 g).2 (fm_wA hq)))) hS1 hl
set_option maxHeartbeats 200000 in
theorem lr_one (h : LOK C N) (h1 : ce ≤ 601024) (h2 : sl ≤ 7293034) (hd : decode code pc = .ok (.ireturn, 1)) : LW C ce sl x y pc L [vi 1] := by
  intro hR hR2 H locs ls hP hP2 hS hl
  refine fun T hT X => ?_
  exact va_forget (fun q hq => hS.2.2 q hq) (lw_ret (LOK_hx h) (LOK_hb h) (LOK_hret h) (LOK_hlocks h) hd) T hT (X.mono h1 h2)
end LAWR
