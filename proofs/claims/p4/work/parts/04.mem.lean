/-! memory rows, returns, contracts, calls -/
/-- an object's class, as the tables have it -/
def fm_cls (Y : Ly) (ci : Nat) (Cn : String) (T : u_T) (N : Nat) (ty : Nat → FieldType) : Prop := (fm_c Y)[ci]? = some (Cn, T, N) ∧ (∀ w ∈ u_ws Cn T N, w ∈ TB) ∧ (∀ k, k < N → parseFieldDescriptor (T k).2.2.1 = some (ty k)) ∧ (∀ a, a < N → ∀ b, b < N → a ≠ b → (T a).2.1 ≠ (T b).2.1)
/-- a field, as an instruction of class own names it -/
def fm_fld (own : String) (index : Nat) (T : u_T) (N i : Nat) : Prop := i < N ∧ Cond.fieldLink own index (T i).1 (T i).2.1 (T i).2.2.1 ∈ TB
/-- cell k is an object of class number ci, its fields' kinds ts -/
def fm_at (Y : Ly) (k : Int) (ci : Nat) (ts : List Nat) : Prop := 0 ≤ k ∧ k < Y.1 ∧ Y.2.1 k = .inr (ci, ts)
/-- cell k is an array -/
def fm_ar (Y : Ly) (k : Int) (kind n : Nat) : Prop := 0 ≤ k ∧ k < Y.1 ∧ Y.2.1 k = .inl (kind, n) ∧ n ≤ 2147483647
def fm_ty : Nat → FieldType
  | 0 => .int
  | 1 => .byte
  | 2 => .char
  | _ => .boolean
set_option maxHeartbeats 60000 in
theorem fm_t_at {G : Gx} {kind : Nat} (h : kind < 4) : (fm_t G)[kind]? = some (G.2.1 kind, fm_ty kind) := by
  rcases (show kind = 0 ∨ kind = 1 ∨ kind = 2 ∨ kind = 3 by omega) with rfl | rfl | rfl | rfl <;> rfl
set_option maxHeartbeats 60000 in
theorem nar_z {v : Int} (h : v = 0 ∨ v = 1) : vp_nar .boolean (iI v) = iI v := by
  rcases h with rfl | rfl <;> rfl
set_option maxHeartbeats 60000 in
theorem nar_b {v : Int} (h : -128 ≤ v ∧ v ≤ 127) : vp_nar .byte (iI v) = iI v := by
  rw [vp_nar_byte]
  apply Int32.toInt_inj.mp
  rw [Int8.toInt_toInt32, Int32.toInt_toInt8, iI_t (by omega)]
  exact Int.bmod_eq_of_le (by omega) (by omega)
set_option maxHeartbeats 60000 in
theorem nar_c {v : Int} (h : 0 ≤ v ∧ v ≤ 65535) : vp_nar .char (iI v) = iI v := by
  obtain ⟨q, rfl⟩ := Int.eq_ofNat_of_zero_le h.1
  have h1 := (pk_charN (q := q) (by omega)).1
  unfold vp_nar
  rw [show iI (q : Int) = nI q from iI_nat q, h1]
section FMM
variable {Y : Ly} {G : Gx} {C : Cx} {cc : ByteArray} {own : String} {nL : Nat} {ret : Option FieldType} {fr lc : Nat} {x : Mm} {pc : Nat} {L L' : List (Nat × Value)} {st : List Value}
set_option maxHeartbeats 60000 in
theorem fm_vi {t : Nat} {z : Int} (h : t ≠ 4) (h5 : t ≠ 5) : fm_v G t z = vi z := by
  unfold fm_v
  split
  · exact absurd rfl h
  · exact absurd rfl h5
  · rfl
set_option maxHeartbeats 60000 in
theorem fm_vr {z : Int} (h : 0 ≤ z) : fm_v G 5 z = vr G z := by
  show va_rf (fm_rO G z) = _
  rw [fm_rO, if_neg (by omega)]
  rfl
set_option maxHeartbeats 60000 in
theorem fm_w_obj {k : Int} {ci : Nat} {ts : List Nat} (hk : fm_at Y k ci ts) : (fm_w Y G x)[k.toNat]? = some (G.2.2 k, .inr (ci, fm_fs G (x k) ts 0)) := by
  rw [fm_w_geI hk.1 hk.2.1, hk.2.2]
  rfl
set_option maxHeartbeats 60000 in
theorem fm_w_put {k i v : Int} {ci n : Nat} {ts : List Nat} {t : Nat} (hk : fm_at Y k ci ts) (hi : (n : Int) = i) (ht : ts[n]? = some t) : (fm_w Y G x).set k.toNat (G.2.2 k, .inr (ci, (fm_fs G (x k) ts 0).set n (fm_v G t v))) = fm_w Y G (fm_up x k i v) := by
  subst hi
  have h := fm_w_set (Y := Y) (G := G) (x := x) (y := fm_up x k n v) hk.1 (fun a ha => by funext b; exact fm_up_k x ha)
  rw [← h, hk.2.2]
  have e : v = fm_up x k n v k (0 + (n : Int)) := by rw [Int.zero_add, fm_up_s]
  have e2 : (fm_fs G (x k) ts 0).set n (fm_v G t v) = fm_fs G (fm_up x k n v k) ts 0 := by
    conv => lhs; rw [e]
    exact fm_fs_set ht (fun j hj => fm_up_i x (by omega))
  rw [e2]
  rfl
set_option maxHeartbeats 60000 in
theorem fm_e_i {k : Int} {kind n : Nat} (hk : fm_ar Y k kind n) (h4 : kind < 4) : (fm_w Y G x)[k.toNat]? = some (G.2.2 k, .inl (G.2.1 kind, n, .inl (fun j => iI (x k j)))) := by
  rw [fm_w_geI hk.1 hk.2.1, hk.2.2.1]
  simp only [fm_e]
  rw [if_neg (by omega), if_pos h4]
set_option maxHeartbeats 60000 in
theorem fm_e_l {k : Int} {n : Nat} (hk : fm_ar Y k 4 n) : (fm_w Y G x)[k.toNat]? = some (G.2.2 k, .inl (G.2.1 4, n, .inr (.inl (fun j => lI (x k j))))) := by
  rw [fm_w_geI hk.1 hk.2.1, hk.2.2.1]
  rfl
set_option maxHeartbeats 60000 in
theorem fm_e_r {k : Int} {kind n : Nat} (hk : fm_ar Y k kind n) (h4 : 4 < kind) : (fm_w Y G x)[k.toNat]? = some (G.2.2 k, .inl (G.2.1 kind, n, .inr (.inr (.inr (.inr (fun j => fm_rO G (x k j))))))) := by
  rw [fm_w_geI hk.1 hk.2.1, hk.2.2.1]
  simp only [fm_e]
  rw [if_neg (by omega), if_neg (by omega)]
set_option maxHeartbeats 60000 in
theorem fm_w_ast {k j v : Int} {kind n : Nat} (hk : fm_ar Y k kind n) (h4 : kind < 4) (hj : 0 ≤ j) : (fm_w Y G x).set k.toNat (G.2.2 k, .inl (G.2.1 kind, n, .inl (upd (fun q : Nat => iI (x k q)) j.toNat (iI v)))) = fm_w Y G (fm_up x k j v) := by
  have h := fm_w_set (Y := Y) (G := G) (x := x) (y := fm_up x k j v) hk.1 (fun a ha => by funext b; exact fm_up_k x ha)
  rw [← h, hk.2.2.1]
  simp only [fm_e]
  rw [if_neg (by omega), if_pos h4]
  congr 6
  funext q
  unfold upd
  by_cases hq : q = j.toNat
  · rw [if_pos hq, show (q : Int) = j by omega, fm_up_s]
  · rw [if_neg hq, fm_up_i x (by omega)]
set_option maxHeartbeats 60000 in
theorem fm_w_asl {k j v : Int} {n : Nat} (hk : fm_ar Y k 4 n) (hj : 0 ≤ j) : (fm_w Y G x).set k.toNat (G.2.2 k, .inl (G.2.1 4, n, .inr (.inl (vp_updL (fun q : Nat => lI (x k q)) j.toNat (lI v))))) = fm_w Y G (fm_up x k j v) := by
  have h := fm_w_set (Y := Y) (G := G) (x := x) (y := fm_up x k j v) hk.1 (fun a ha => by funext b; exact fm_up_k x ha)
  rw [← h, hk.2.2.1]
  simp only [fm_e]
  rw [if_pos trivial]
  congr 7
  funext q
  unfold vp_updL
  by_cases hq : q = j.toNat
  · rw [if_pos hq, show (q : Int) = j by omega, fm_up_s]
  · rw [if_neg hq, fm_up_i x (by omega)]
set_option maxHeartbeats 60000 in
theorem fr_geti (h : OK Y G C cc own nL ret fr lc) {k : Int} {ci N i t index : Nat} {ts : List Nat} {Cn : String} {T : u_T} {ty : Nat → FieldType} {lo hi : Int} (hC : fm_cls Y ci Cn T N ty) (hF : fm_fld own index T N i) (hk : fm_at Y k ci ts) {iz : Int} (hiz : (i : Int) = iz) (ht : ts[i]? = some t) (h4 : t ≠ 4) (h5 : t ≠ 5) (hr : Y.2.2.1 k iz = (lo, hi)) (hd : decode cc pc = .ok (.getfield index, 3)) (kk : ∀ z : Int, lo ≤ z → z ≤ hi → z = x k iz → FW Y G C nL x (pc + 3) L (vi z :: st)) : FW Y G C nL x pc L (vr G k :: st) := by
  obtain ⟨p, l, e, R, s, m, args, below, meth, c, cells, slots, Q⟩ := C
  obtain ⟨hx, hb, hml, hown, hts, hK, hD, hlocks, hcl, hsl, hX, hXc, hret, hfr, hlc⟩ := h
  intro hR H locs ls hP hS hl
  have hv := fm_fs_get (G := G) (r := x k) (b := 0) ht
  rw [fm_vi h4 h5, Int.zero_add, hiz] at hv
  have h1 := hR k iz
  rw [hr] at h1
  exact va_get hx hb hts hC.2.1 hown hK hP k.toNat (fm_w_obj hk) hC.1 i hF.1 (hts _ hF.2) (fun _ q => q) hv hd (kk _ h1.1 h1.2 rfl hR H locs ls hP hS hl)
set_option maxHeartbeats 60000 in
theorem fr_getr (h : OK Y G C cc own nL ret fr lc) {k : Int} {ci N i index : Nat} {ts : List Nat} {Cn : String} {T : u_T} {ty : Nat → FieldType} (hC : fm_cls Y ci Cn T N ty) (hF : fm_fld own index T N i) (hk : fm_at Y k ci ts) {iz : Int} (hiz : (i : Int) = iz) (ht : ts[i]? = some 5) {z : Int} (hz : x k iz = z) (h0 : 0 ≤ z) (hd : decode cc pc = .ok (.getfield index, 3)) (kk : FW Y G C nL x (pc + 3) L (vr G z :: st)) : FW Y G C nL x pc L (vr G k :: st) := by
  obtain ⟨p, l, e, R, s, m, args, below, meth, c, cells, slots, Q⟩ := C
  obtain ⟨hx, hb, hml, hown, hts, hK, hD, hlocks, hcl, hsl, hX, hXc, hret, hfr, hlc⟩ := h
  intro hR H locs ls hP hS hl
  have hv := fm_fs_get (G := G) (r := x k) (b := 0) ht
  rw [Int.zero_add, hiz, hz, fm_vr h0] at hv
  exact va_get hx hb hts hC.2.1 hown hK hP k.toNat (fm_w_obj hk) hC.1 i hF.1 (hts _ hF.2) (fun _ q => q) hv hd (kk hR H locs ls hP hS hl)
set_option maxHeartbeats 60000 in
theorem fr_getc (h : OK Y G C cc own nL ret fr lc) {k : Int} {ci N i index : Nat} {ts : List Nat} {Cn : String} {T : u_T} {ty : Nat → FieldType} (hC : fm_cls Y ci Cn T N ty) (hF : fm_fld own index T N i) (hk : fm_at Y k ci ts) {iz : Int} (hiz : (i : Int) = iz) (ht : ts[i]? = some 5) {z : Int} (hr : Y.2.2.1 k iz = (z, z)) (h0 : 0 ≤ z) (hd : decode cc pc = .ok (.getfield index, 3)) (kk : FW Y G C nL x (pc + 3) L (vr G z :: st)) : FW Y G C nL x pc L (vr G k :: st) := by
  suffices hh : fm_R Y x → FW Y G C nL x pc L (vr G k :: st) by
    obtain ⟨p, l, e, R, s, m, args, below, meth, c, cells, slots, Q⟩ := C
    intro hR
    exact hh hR hR
  intro hR
  have h1 := hR k iz
  rw [hr] at h1
  exact fr_getr h hC hF hk hiz ht (by omega) h0 hd kk
set_option maxHeartbeats 60000 in
theorem fr_puti (h : OK Y G C cc own nL ret fr lc) {k v : Int} {ci N i t index : Nat} {ts : List Nat} {Cn : String} {T : u_T} {ty : Nat → FieldType} {lo hi : Int} (hC : fm_cls Y ci Cn T N ty) (hF : fm_fld own index T N i) (hk : fm_at Y k ci ts) {iz : Int} (hiz : (i : Int) = iz) (ht : ts[i]? = some t) (h4 : t ≠ 4) (h5 : t ≠ 5) (hfin : (T i).2.2.2 = false) (hI : parseFieldDescriptor (T i).2.2.1 = some .int) (hr : Y.2.2.1 k iz = (lo, hi)) (h1 : lo ≤ v) (h2 : v ≤ hi) (hd : decode cc pc = .ok (.putfield index, 3)) (kk : FW Y G C nL (fm_up x k iz v) (pc + 3) L st) : FW Y G C nL x pc L (vi v :: vr G k :: st) := by
  obtain ⟨p, l, e, R, s, m, args, below, meth, c, cells, slots, Q⟩ := C
  obtain ⟨hx, hb, hml, hown, hts, hK, hD, hlocks, hcl, hsl, hX, hXc, hret, hfr, hlc⟩ := h
  intro hR H locs ls hP hS hl
  have hlen : i < (fm_fs G (x k) ts 0).length := by rw [fm_fs_len]; exact (List.getElem?_eq_some_iff.mp ht).1
  refine va_put hx hb hts hC.2.1 ty hC.2.2.1 hC.2.2.2 hown hK hP (hD x) hS k.toNat (fm_w_obj hk) hC.1 i hF.1 (hts _ hF.2) (fun _ q => q) hfin hI rfl rfl hlen hd (fun H1 locs1 hP1 hD1 hS1 => ?_)
  have e := fm_w_put (G := G) (x := x) (v := v) hk hiz ht
  rw [fm_vi h4 h5] at e
  rw [e] at hP1
  exact kk (fm_R_up hR (by rw [hr]; exact h1) (by rw [hr]; exact h2)) H1 locs1 ls hP1 hS1 hl
set_option maxHeartbeats 60000 in
theorem fr_putz (h : OK Y G C cc own nL ret fr lc) {k v : Int} {ci N i t index : Nat} {ts : List Nat} {Cn : String} {T : u_T} {ty : Nat → FieldType} {lo hi : Int} (hC : fm_cls Y ci Cn T N ty) (hF : fm_fld own index T N i) (hk : fm_at Y k ci ts) {iz : Int} (hiz : (i : Int) = iz) (ht : ts[i]? = some t) (h4 : t ≠ 4) (h5 : t ≠ 5) (hfin : (T i).2.2.2 = false) (hI : parseFieldDescriptor (T i).2.2.1 = some .boolean) (hr : Y.2.2.1 k iz = (lo, hi)) (h1 : lo ≤ v) (h2 : v ≤ hi) (hz : v = 0 ∨ v = 1) (hd : decode cc pc = .ok (.putfield index, 3)) (kk : FW Y G C nL (fm_up x k iz v) (pc + 3) L st) : FW Y G C nL x pc L (vi v :: vr G k :: st) := by
  obtain ⟨p, l, e, R, s, m, args, below, meth, c, cells, slots, Q⟩ := C
  obtain ⟨hx, hb, hml, hown, hts, hK, hD, hlocks, hcl, hsl, hX, hXc, hret, hfr, hlc⟩ := h
  intro hR H locs ls hP hS hl
  have hlen : i < (fm_fs G (x k) ts 0).length := by rw [fm_fs_len]; exact (List.getElem?_eq_some_iff.mp ht).1
  refine va_put hx hb hts hC.2.1 ty hC.2.2.1 hC.2.2.2 hown hK hP (hD x) hS k.toNat (fm_w_obj hk) hC.1 i hF.1 (hts _ hF.2) (fun _ q => q) hfin hI (by rcases hz with rfl | rfl <;> rfl) (by rcases hz with rfl | rfl <;> rfl) hlen hd (fun H1 locs1 hP1 hD1 hS1 => ?_)
  have e := fm_w_put (G := G) (x := x) (v := v) hk hiz ht
  rw [fm_vi h4 h5] at e
  rw [e] at hP1
  exact kk (fm_R_up hR (by rw [hr]; exact h1) (by rw [hr]; exact h2)) H1 locs1 ls hP1 hS1 hl
set_option maxHeartbeats 60000 in
theorem fr_putr (h : OK Y G C cc own nL ret fr lc) {k v : Int} {ci N i index : Nat} {ts : List Nat} {Cn : String} {T : u_T} {ty : Nat → FieldType} {lo hi : Int} {tf : FieldType} (hC : fm_cls Y ci Cn T N ty) (hF : fm_fld own index T N i) (hk : fm_at Y k ci ts) {iz : Int} (hiz : (i : Int) = iz) (ht : ts[i]? = some 5) (hfin : (T i).2.2.2 = false) (hI : parseFieldDescriptor (T i).2.2.1 = some tf) (hn : ∀ a : Nat, narrow tf (.ref a) = .ref a) (hft : ∀ a : Nat, fits tf (.ref a) = true) (hr : Y.2.2.1 k iz = (lo, hi)) (h0 : 0 ≤ v) (h1 : lo ≤ v) (h2 : v ≤ hi) (hd : decode cc pc = .ok (.putfield index, 3)) (kk : FW Y G C nL (fm_up x k iz v) (pc + 3) L st) : FW Y G C nL x pc L (vr G v :: vr G k :: st) := by
  obtain ⟨p, l, e, R, s, m, args, below, meth, c, cells, slots, Q⟩ := C
  obtain ⟨hx, hb, hml, hown, hts, hK, hD, hlocks, hcl, hsl, hX, hXc, hret, hfr, hlc⟩ := h
  intro hR H locs ls hP hS hl
  have hlen : i < (fm_fs G (x k) ts 0).length := by rw [fm_fs_len]; exact (List.getElem?_eq_some_iff.mp ht).1
  refine va_put hx hb hts hC.2.1 ty hC.2.2.1 hC.2.2.2 hown hK hP (hD x) hS k.toNat (fm_w_obj hk) hC.1 i hF.1 (hts _ hF.2) (fun _ q => q) hfin hI (hn _) (hft _) hlen hd (fun H1 locs1 hP1 hD1 hS1 => ?_)
  have e := fm_w_put (G := G) (x := x) (v := v) hk hiz ht
  rw [fm_vr h0] at e
  rw [e] at hP1
  exact kk (fm_R_up hR (by rw [hr]; exact h1) (by rw [hr]; exact h2)) H1 locs1 ls hP1 hS1 hl
set_option maxHeartbeats 60000 in
theorem fr_iald (h : OK Y G C cc own nL ret fr lc) {k j : Int} {n : Nat} {lo hi : Int} (hk : fm_ar Y k 0 n) (h0 : 0 ≤ j) (hj : j < n) (hr : Y.2.2.1 k j = (lo, hi)) (hd : decode cc pc = .ok (.iaload, 1)) (kk : ∀ z : Int, lo ≤ z → z ≤ hi → z = x k j → FW Y G C nL x (pc + 1) L (vi z :: st)) : FW Y G C nL x pc L (vi j :: vr G k :: st) := by
  obtain ⟨p, l, e, R, s, m, args, below, meth, c, cells, slots, Q⟩ := C
  obtain ⟨hx, hb, hml, hown, hts, hK, hD, hlocks, hcl, hsl, hX, hXc, hret, hfr, hlc⟩ := h
  intro hR H locs ls hP hS hl
  have hn := hk.2.2.2
  have h1 := hR k j
  rw [hr] at h1
  refine va_iald hx hb hK hP k.toNat 0 (fm_e_i hk (by decide)) rfl (iI_in h0 hj hn) hd ?_
  rw [iI_cl h0 (by omega), Int.toNat_of_nonneg h0]
  exact kk _ h1.1 h1.2 rfl hR H locs ls hP hS hl
set_option maxHeartbeats 60000 in
theorem fr_bald (h : OK Y G C cc own nL ret fr lc) {k j : Int} {n : Nat} {lo hi : Int} (hk : fm_ar Y k 1 n) (h0 : 0 ≤ j) (hj : j < n) (hr : Y.2.2.1 k j = (lo, hi)) (hd : decode cc pc = .ok (.baload, 1)) (kk : ∀ z : Int, lo ≤ z → z ≤ hi → z = x k j → FW Y G C nL x (pc + 1) L (vi z :: st)) : FW Y G C nL x pc L (vi j :: vr G k :: st) := by
  obtain ⟨p, l, e, R, s, m, args, below, meth, c, cells, slots, Q⟩ := C
  obtain ⟨hx, hb, hml, hown, hts, hK, hD, hlocks, hcl, hsl, hX, hXc, hret, hfr, hlc⟩ := h
  intro hR H locs ls hP hS hl
  have hn := hk.2.2.2
  have h1 := hR k j
  rw [hr] at h1
  refine va_bald hx hb hK hP k.toNat 1 (fm_e_i hk (by decide)) rfl (iI_in h0 hj hn) hd ?_
  rw [iI_cl h0 (by omega), Int.toNat_of_nonneg h0]
  exact kk _ h1.1 h1.2 rfl hR H locs ls hP hS hl
set_option maxHeartbeats 60000 in
theorem fr_cald (h : OK Y G C cc own nL ret fr lc) {k j : Int} {n : Nat} {lo hi : Int} (hk : fm_ar Y k 2 n) (h0 : 0 ≤ j) (hj : j < n) (hr : Y.2.2.1 k j = (lo, hi)) (hd : decode cc pc = .ok (.caload, 1)) (kk : ∀ z : Int, lo ≤ z → z ≤ hi → z = x k j → FW Y G C nL x (pc + 1) L (vi z :: st)) : FW Y G C nL x pc L (vi j :: vr G k :: st) := by
  obtain ⟨p, l, e, R, s, m, args, below, meth, c, cells, slots, Q⟩ := C
  obtain ⟨hx, hb, hml, hown, hts, hK, hD, hlocks, hcl, hsl, hX, hXc, hret, hfr, hlc⟩ := h
  intro hR H locs ls hP hS hl
  have hn := hk.2.2.2
  have h1 := hR k j
  rw [hr] at h1
  refine va_cald hx hb hK hP k.toNat 2 (fm_e_i hk (by decide)) rfl (iI_in h0 hj hn) hd ?_
  rw [iI_cl h0 (by omega), Int.toNat_of_nonneg h0]
  exact kk _ h1.1 h1.2 rfl hR H locs ls hP hS hl
set_option maxHeartbeats 60000 in
theorem fr_zald (h : OK Y G C cc own nL ret fr lc) {k j : Int} {n : Nat} {lo hi : Int} (hk : fm_ar Y k 3 n) (h0 : 0 ≤ j) (hj : j < n) (hr : Y.2.2.1 k j = (lo, hi)) (hd : decode cc pc = .ok (.baload, 1)) (kk : ∀ z : Int, lo ≤ z → z ≤ hi → z = x k j → FW Y G C nL x (pc + 1) L (vi z :: st)) : FW Y G C nL x pc L (vi j :: vr G k :: st) := by
  obtain ⟨p, l, e, R, s, m, args, below, meth, c, cells, slots, Q⟩ := C
  obtain ⟨hx, hb, hml, hown, hts, hK, hD, hlocks, hcl, hsl, hX, hXc, hret, hfr, hlc⟩ := h
  intro hR H locs ls hP hS hl
  have hn := hk.2.2.2
  have h1 := hR k j
  rw [hr] at h1
  refine va_zald hx hb hK hP k.toNat 3 (fm_e_i hk (by decide)) rfl (iI_in h0 hj hn) hd ?_
  rw [iI_cl h0 (by omega), Int.toNat_of_nonneg h0]
  exact kk _ h1.1 h1.2 rfl hR H locs ls hP hS hl
set_option maxHeartbeats 60000 in
theorem fr_lald (h : OK Y G C cc own nL ret fr lc) {k j : Int} {n : Nat} {lo hi : Int} (hk : fm_ar Y k 4 n) (h0 : 0 ≤ j) (hj : j < n) (hr : Y.2.2.1 k j = (lo, hi)) (hd : decode cc pc = .ok (.laload, 1)) (kk : ∀ z : Int, lo ≤ z → z ≤ hi → z = x k j → FW Y G C nL x (pc + 1) L (vj z :: st)) : FW Y G C nL x pc L (vi j :: vr G k :: st) := by
  obtain ⟨p, l, e, R, s, m, args, below, meth, c, cells, slots, Q⟩ := C
  obtain ⟨hx, hb, hml, hown, hts, hK, hD, hlocks, hcl, hsl, hX, hXc, hret, hfr, hlc⟩ := h
  intro hR H locs ls hP hS hl
  have hn := hk.2.2.2
  have h1 := hR k j
  rw [hr] at h1
  refine va_lald hx hb hK hP k.toNat 4 (fm_e_l hk) rfl (iI_in h0 hj hn) hd ?_
  rw [iI_cl h0 (by omega), Int.toNat_of_nonneg h0]
  exact kk _ h1.1 h1.2 rfl hR H locs ls hP hS hl
set_option maxHeartbeats 60000 in
theorem fr_aald5 (h : OK Y G C cc own nL ret fr lc) {k j z : Int} {n : Nat} (hk : fm_ar Y k 5 n) (h0 : 0 ≤ j) (hj : j < n) (hz : x k j = z) (hz0 : 0 ≤ z) (hd : decode cc pc = .ok (.aaload, 1)) (kk : FW Y G C nL x (pc + 1) L (vr G z :: st)) : FW Y G C nL x pc L (vi j :: vr G k :: st) := by
  obtain ⟨p, l, e, R, s, m, args, below, meth, c, cells, slots, Q⟩ := C
  obtain ⟨hx, hb, hml, hown, hts, hK, hD, hlocks, hcl, hsl, hX, hXc, hret, hfr, hlc⟩ := h
  intro hR H locs ls hP hS hl
  have hn := hk.2.2.2
  refine va_aldq hx hb hK hP k.toNat 5 (fm_e_r hk (by decide)) rfl (iI_in h0 hj hn) hd ?_
  rw [iI_cl h0 (by omega), Int.toNat_of_nonneg h0, hz]
  show W p l e R s m args below meth c H locs cells slots Q (F0 m (pc + 1) ls (fm_v G 5 z :: st))
  rw [fm_vr hz0]
  exact kk hR H locs ls hP hS hl
set_option maxHeartbeats 60000 in
theorem fr_aald6 (h : OK Y G C cc own nL ret fr lc) {k j z : Int} {n : Nat} (hk : fm_ar Y k 6 n) (h0 : 0 ≤ j) (hj : j < n) (hz : x k j = z) (hz0 : 0 ≤ z) (hd : decode cc pc = .ok (.aaload, 1)) (kk : FW Y G C nL x (pc + 1) L (vr G z :: st)) : FW Y G C nL x pc L (vi j :: vr G k :: st) := by
  obtain ⟨p, l, e, R, s, m, args, below, meth, c, cells, slots, Q⟩ := C
  obtain ⟨hx, hb, hml, hown, hts, hK, hD, hlocks, hcl, hsl, hX, hXc, hret, hfr, hlc⟩ := h
  intro hR H locs ls hP hS hl
  have hn := hk.2.2.2
  refine va_aldq hx hb hK hP k.toNat 6 (fm_e_r hk (by decide)) rfl (iI_in h0 hj hn) hd ?_
  rw [iI_cl h0 (by omega), Int.toNat_of_nonneg h0, hz]
  show W p l e R s m args below meth c H locs cells slots Q (F0 m (pc + 1) ls (fm_v G 5 z :: st))
  rw [fm_vr hz0]
  exact kk hR H locs ls hP hS hl
set_option maxHeartbeats 60000 in
theorem fr_aald7 (h : OK Y G C cc own nL ret fr lc) {k j z : Int} {n : Nat} (hk : fm_ar Y k 7 n) (h0 : 0 ≤ j) (hj : j < n) (hz : x k j = z) (hz0 : 0 ≤ z) (hd : decode cc pc = .ok (.aaload, 1)) (kk : FW Y G C nL x (pc + 1) L (vr G z :: st)) : FW Y G C nL x pc L (vi j :: vr G k :: st) := by
  obtain ⟨p, l, e, R, s, m, args, below, meth, c, cells, slots, Q⟩ := C
  obtain ⟨hx, hb, hml, hown, hts, hK, hD, hlocks, hcl, hsl, hX, hXc, hret, hfr, hlc⟩ := h
  intro hR H locs ls hP hS hl
  have hn := hk.2.2.2
  refine va_aldq hx hb hK hP k.toNat 7 (fm_e_r hk (by decide)) rfl (iI_in h0 hj hn) hd ?_
  rw [iI_cl h0 (by omega), Int.toNat_of_nonneg h0, hz]
  show W p l e R s m args below meth c H locs cells slots Q (F0 m (pc + 1) ls (fm_v G 5 z :: st))
  rw [fm_vr hz0]
  exact kk hR H locs ls hP hS hl
set_option maxHeartbeats 60000 in
theorem fr_aald8 (h : OK Y G C cc own nL ret fr lc) {k j z : Int} {n : Nat} (hk : fm_ar Y k 8 n) (h0 : 0 ≤ j) (hj : j < n) (hz : x k j = z) (hz0 : 0 ≤ z) (hd : decode cc pc = .ok (.aaload, 1)) (kk : FW Y G C nL x (pc + 1) L (vr G z :: st)) : FW Y G C nL x pc L (vi j :: vr G k :: st) := by
  obtain ⟨p, l, e, R, s, m, args, below, meth, c, cells, slots, Q⟩ := C
  obtain ⟨hx, hb, hml, hown, hts, hK, hD, hlocks, hcl, hsl, hX, hXc, hret, hfr, hlc⟩ := h
  intro hR H locs ls hP hS hl
  have hn := hk.2.2.2
  have hin := iI_in h0 hj hn
  have hlt : (iI j).toNatClampNeg < n := Nat.not_le.mp fun q => hin (Or.inr q)
  refine W.aald (v := va_rf (fm_rO G (x k ((iI j).toNatClampNeg : Nat)))) (ty := .array .int) hx hb (hP k.toNat _ (fm_e_r hk (by decide))) ((hK.2 8 _ rfl).1 n (fun q => va_rf (fm_rO G (x k (q : Nat))))) rfl (fun q => by cases q) (by show ¬ (iI j < 0 ∨ (arrV _ _ _).slots.size ≤ _); rw [arrV_size]; exact hin) (by show (arrV _ _ _).slots[_]? = _; rw [arrV_read _ _ hlt]) rfl rfl hd ?_
  rw [iI_cl h0 (by omega), Int.toNat_of_nonneg h0, hz]
  show W p l e R s m args below meth c H locs cells slots Q (F0 m (pc + 1) ls (fm_v G 5 z :: st))
  rw [fm_vr hz0]
  exact kk hR H locs ls hP hS hl
set_option maxHeartbeats 60000 in
theorem fr_iast (h : OK Y G C cc own nL ret fr lc) {k j v : Int} {n : Nat} {lo hi : Int} (hk : fm_ar Y k 0 n) (h0 : 0 ≤ j) (hj : j < n) (hr : Y.2.2.1 k j = (lo, hi)) (h1 : lo ≤ v) (h2 : v ≤ hi) (hd : decode cc pc = .ok (.iastore, 1)) (kk : FW Y G C nL (fm_up x k j v) (pc + 1) L st) : FW Y G C nL x pc L (vi v :: vi j :: vr G k :: st) := by
  obtain ⟨p, l, e, R, s, m, args, below, meth, c, cells, slots, Q⟩ := C
  obtain ⟨hx, hb, hml, hown, hts, hK, hD, hlocks, hcl, hsl, hX, hXc, hret, hfr, hlc⟩ := h
  intro hR H locs ls hP hS hl
  have hn := hk.2.2.2
  refine va_iast hx hb hK hP (hD x) hS k.toNat 0 (fm_e_i hk (by decide)) rfl (iI_in h0 hj hn) hd (fun H1 locs1 hP1 hD1 hS1 => ?_)
  rw [iI_cl h0 (by omega), fm_w_ast hk (by decide) h0] at hP1
  exact kk (fm_R_up hR (by rw [hr]; exact h1) (by rw [hr]; exact h2)) H1 locs1 ls hP1 hS1 hl
set_option maxHeartbeats 60000 in
theorem fr_bast (h : OK Y G C cc own nL ret fr lc) {k j v : Int} {n : Nat} {lo hi : Int} (hk : fm_ar Y k 1 n) (h0 : 0 ≤ j) (hj : j < n) (hr : Y.2.2.1 k j = (lo, hi)) (h1 : lo ≤ v) (h2 : v ≤ hi) (hz : -128 ≤ v ∧ v ≤ 127) (hd : decode cc pc = .ok (.bastore, 1)) (kk : FW Y G C nL (fm_up x k j v) (pc + 1) L st) : FW Y G C nL x pc L (vi v :: vi j :: vr G k :: st) := by
  obtain ⟨p, l, e, R, s, m, args, below, meth, c, cells, slots, Q⟩ := C
  obtain ⟨hx, hb, hml, hown, hts, hK, hD, hlocks, hcl, hsl, hX, hXc, hret, hfr, hlc⟩ := h
  intro hR H locs ls hP hS hl
  have hn := hk.2.2.2
  refine va_bast hx hb hK hP (hD x) hS k.toNat 1 (fm_e_i hk (by decide)) rfl (iI_in h0 hj hn) hd (fun H1 locs1 hP1 hD1 hS1 => ?_)
  rw [nar_b hz, iI_cl h0 (by omega), fm_w_ast hk (by decide) h0] at hP1
  exact kk (fm_R_up hR (by rw [hr]; exact h1) (by rw [hr]; exact h2)) H1 locs1 ls hP1 hS1 hl
set_option maxHeartbeats 60000 in
theorem fr_zast (h : OK Y G C cc own nL ret fr lc) {k j v : Int} {n : Nat} {lo hi : Int} (hk : fm_ar Y k 3 n) (h0 : 0 ≤ j) (hj : j < n) (hr : Y.2.2.1 k j = (lo, hi)) (h1 : lo ≤ v) (h2 : v ≤ hi) (hz : v = 0 ∨ v = 1) (hd : decode cc pc = .ok (.bastore, 1)) (kk : FW Y G C nL (fm_up x k j v) (pc + 1) L st) : FW Y G C nL x pc L (vi v :: vi j :: vr G k :: st) := by
  obtain ⟨p, l, e, R, s, m, args, below, meth, c, cells, slots, Q⟩ := C
  obtain ⟨hx, hb, hml, hown, hts, hK, hD, hlocks, hcl, hsl, hX, hXc, hret, hfr, hlc⟩ := h
  intro hR H locs ls hP hS hl
  have hn := hk.2.2.2
  refine va_zast hx hb hK hP (hD x) hS k.toNat 3 (fm_e_i hk (by decide)) rfl (iI_in h0 hj hn) hd (fun H1 locs1 hP1 hD1 hS1 => ?_)
  rw [nar_z hz, iI_cl h0 (by omega), fm_w_ast hk (by decide) h0] at hP1
  exact kk (fm_R_up hR (by rw [hr]; exact h1) (by rw [hr]; exact h2)) H1 locs1 ls hP1 hS1 hl
set_option maxHeartbeats 60000 in
theorem fr_cast (h : OK Y G C cc own nL ret fr lc) {k j v : Int} {n : Nat} {lo hi : Int} (hk : fm_ar Y k 2 n) (h0 : 0 ≤ j) (hj : j < n) (hr : Y.2.2.1 k j = (lo, hi)) (h1 : lo ≤ v) (h2 : v ≤ hi) (hz : 0 ≤ v ∧ v ≤ 65535) (hd : decode cc pc = .ok (.castore, 1)) (kk : FW Y G C nL (fm_up x k j v) (pc + 1) L st) : FW Y G C nL x pc L (vi v :: vi j :: vr G k :: st) := by
  obtain ⟨p, l, e, R, s, m, args, below, meth, c, cells, slots, Q⟩ := C
  obtain ⟨hx, hb, hml, hown, hts, hK, hD, hlocks, hcl, hsl, hX, hXc, hret, hfr, hlc⟩ := h
  intro hR H locs ls hP hS hl
  have hn := hk.2.2.2
  refine va_cast hx hb hK hP (hD x) hS k.toNat 2 (fm_e_i hk (by decide)) rfl (iI_in h0 hj hn) hd (fun H1 locs1 hP1 hD1 hS1 => ?_)
  rw [nar_c hz, iI_cl h0 (by omega), fm_w_ast hk (by decide) h0] at hP1
  exact kk (fm_R_up hR (by rw [hr]; exact h1) (by rw [hr]; exact h2)) H1 locs1 ls hP1 hS1 hl
set_option maxHeartbeats 60000 in
theorem fr_last (h : OK Y G C cc own nL ret fr lc) {k j v : Int} {n : Nat} {lo hi : Int} (hk : fm_ar Y k 4 n) (h0 : 0 ≤ j) (hj : j < n) (hr : Y.2.2.1 k j = (lo, hi)) (h1 : lo ≤ v) (h2 : v ≤ hi) (hd : decode cc pc = .ok (.lastore, 1)) (kk : FW Y G C nL (fm_up x k j v) (pc + 1) L st) : FW Y G C nL x pc L (vj v :: vi j :: vr G k :: st) := by
  obtain ⟨p, l, e, R, s, m, args, below, meth, c, cells, slots, Q⟩ := C
  obtain ⟨hx, hb, hml, hown, hts, hK, hD, hlocks, hcl, hsl, hX, hXc, hret, hfr, hlc⟩ := h
  intro hR H locs ls hP hS hl
  have hn := hk.2.2.2
  refine va_last hx hb hK hP (hD x) hS k.toNat 4 (fm_e_l hk) rfl (iI_in h0 hj hn) hd (fun H1 locs1 hP1 hD1 hS1 => ?_)
  rw [iI_cl h0 (by omega), fm_w_asl hk h0] at hP1
  exact kk (fm_R_up hR (by rw [hr]; exact h1) (by rw [hr]; exact h2)) H1 locs1 ls hP1 hS1 hl
set_option maxHeartbeats 60000 in
theorem fr_aleni (h : OK Y G C cc own nL ret fr lc) {k : Int} {kind n : Nat} (hk : fm_ar Y k kind n) (h4 : kind < 4) (hd : decode cc pc = .ok (.arraylength, 1)) (kk : FW Y G C nL x (pc + 1) L (vi (n : Int) :: st)) : FW Y G C nL x pc L (vr G k :: st) := by
  obtain ⟨p, l, e, R, s, m, args, below, meth, c, cells, slots, Q⟩ := C
  obtain ⟨hx, hb, hml, hown, hts, hK, hD, hlocks, hcl, hsl, hX, hXc, hret, hfr, hlc⟩ := h
  intro hR H locs ls hP hS hl
  exact va_alen (ty := (fm_ty kind)) hx hb hK hP k.toNat kind (fm_e_i hk h4) (fm_t_at h4) (iI_nat n).symm hd (kk hR H locs ls hP hS hl)
set_option maxHeartbeats 60000 in
theorem fr_alenl (h : OK Y G C cc own nL ret fr lc) {k : Int} {n : Nat} (hk : fm_ar Y k 4 n) (hd : decode cc pc = .ok (.arraylength, 1)) (kk : FW Y G C nL x (pc + 1) L (vi (n : Int) :: st)) : FW Y G C nL x pc L (vr G k :: st) := by
  obtain ⟨p, l, e, R, s, m, args, below, meth, c, cells, slots, Q⟩ := C
  obtain ⟨hx, hb, hml, hown, hts, hK, hD, hlocks, hcl, hsl, hX, hXc, hret, hfr, hlc⟩ := h
  intro hR H locs ls hP hS hl
  exact va_alen (ty := .long) hx hb hK hP k.toNat 4 (fm_e_l hk) rfl (iI_nat n).symm hd (kk hR H locs ls hP hS hl)
set_option maxHeartbeats 60000 in
theorem fr_aaldc5 (h : OK Y G C cc own nL ret fr lc) {k j q : Int} {n : Nat} (hk : fm_ar Y k 5 n) (h0 : 0 ≤ j) (hj : j < n) (hr : Y.2.2.1 k j = (q, q)) (hq0 : 0 ≤ q) (hd : decode cc pc = .ok (.aaload, 1)) (kk : ∀ z : Int, z = q → FW Y G C nL x (pc + 1) L (vr G z :: st)) : FW Y G C nL x pc L (vi j :: vr G k :: st) := by
  suffices hh : fm_R Y x → FW Y G C nL x pc L (vi j :: vr G k :: st) by
    obtain ⟨p, l, e, R, s, m, args, below, meth, c, cells, slots, Q⟩ := C
    intro hR
    exact hh hR hR
  intro hR
  have h1 := hR k j
  rw [hr] at h1
  exact fr_aald5 h hk h0 hj (Int.le_antisymm h1.2 h1.1) hq0 hd (kk q rfl)
set_option maxHeartbeats 60000 in
theorem fr_aaldc6 (h : OK Y G C cc own nL ret fr lc) {k j q : Int} {n : Nat} (hk : fm_ar Y k 6 n) (h0 : 0 ≤ j) (hj : j < n) (hr : Y.2.2.1 k j = (q, q)) (hq0 : 0 ≤ q) (hd : decode cc pc = .ok (.aaload, 1)) (kk : ∀ z : Int, z = q → FW Y G C nL x (pc + 1) L (vr G z :: st)) : FW Y G C nL x pc L (vi j :: vr G k :: st) := by
  suffices hh : fm_R Y x → FW Y G C nL x pc L (vi j :: vr G k :: st) by
    obtain ⟨p, l, e, R, s, m, args, below, meth, c, cells, slots, Q⟩ := C
    intro hR
    exact hh hR hR
  intro hR
  have h1 := hR k j
  rw [hr] at h1
  exact fr_aald6 h hk h0 hj (Int.le_antisymm h1.2 h1.1) hq0 hd (kk q rfl)
set_option maxHeartbeats 60000 in
theorem fr_aaldc7 (h : OK Y G C cc own nL ret fr lc) {k j q : Int} {n : Nat} (hk : fm_ar Y k 7 n) (h0 : 0 ≤ j) (hj : j < n) (hr : Y.2.2.1 k j = (q, q)) (hq0 : 0 ≤ q) (hd : decode cc pc = .ok (.aaload, 1)) (kk : ∀ z : Int, z = q → FW Y G C nL x (pc + 1) L (vr G z :: st)) : FW Y G C nL x pc L (vi j :: vr G k :: st) := by
  suffices hh : fm_R Y x → FW Y G C nL x pc L (vi j :: vr G k :: st) by
    obtain ⟨p, l, e, R, s, m, args, below, meth, c, cells, slots, Q⟩ := C
    intro hR
    exact hh hR hR
  intro hR
  have h1 := hR k j
  rw [hr] at h1
  exact fr_aald7 h hk h0 hj (Int.le_antisymm h1.2 h1.1) hq0 hd (kk q rfl)
set_option maxHeartbeats 60000 in
theorem fr_aaldc8 (h : OK Y G C cc own nL ret fr lc) {k j q : Int} {n : Nat} (hk : fm_ar Y k 8 n) (h0 : 0 ≤ j) (hj : j < n) (hr : Y.2.2.1 k j = (q, q)) (hq0 : 0 ≤ q) (hd : decode cc pc = .ok (.aaload, 1)) (kk : ∀ z : Int, z = q → FW Y G C nL x (pc + 1) L (vr G z :: st)) : FW Y G C nL x pc L (vi j :: vr G k :: st) := by
  suffices hh : fm_R Y x → FW Y G C nL x pc L (vi j :: vr G k :: st) by
    obtain ⟨p, l, e, R, s, m, args, below, meth, c, cells, slots, Q⟩ := C
    intro hR
    exact hh hR hR
  intro hR
  have h1 := hR k j
  rw [hr] at h1
  exact fr_aald8 h hk h0 hj (Int.le_antisymm h1.2 h1.1) hq0 hd (kk q rfl)
set_option maxHeartbeats 60000 in
theorem fr_sub (ks : List Nat) (hL : lv_pick L ks = L') (k : FW Y G C nL x pc L' st) : FW Y G C nL x pc L st := by
  obtain ⟨p, l, e, R, s, m, args, below, meth, c, cells, slots, Q⟩ := C
  intro hR H locs ls hP hS hl
  exact k hR H locs ls hP hS (lv_sub hl ks hL)
set_option maxHeartbeats 60000 in
theorem fr_mem {y : Mm} (k : ∀ x' : Mm, x' = y → FW Y G C nL x' pc L st) : FW Y G C nL y pc L st := k y rfl
set_option maxHeartbeats 60000 in
theorem fm_up_row {y : Mm} {k i v a : Int} (e : y = fm_up x k i v) (h : a ≠ k) : y a = x a := by
  rw [e]
  funext b
  exact fm_up_k x h
set_option maxHeartbeats 60000 in
theorem fm_rd_k {y : Mm} {k i v a b : Int} (e : y = fm_up x k i v) (h : a ≠ k) : y a b = x a b := by
  rw [e]
  exact fm_up_k x h
set_option maxHeartbeats 60000 in
theorem fm_rd_i {y : Mm} {k i v a b : Int} (e : y = fm_up x k i v) (h : b ≠ i) : y a b = x a b := by
  rw [e]
  exact fm_up_i x h
set_option maxHeartbeats 60000 in
theorem fm_rd_s {y : Mm} {k i v : Int} (e : y = fm_up x k i v) : y k i = v := by
  rw [e]
  exact fm_up_s x k i v
set_option maxHeartbeats 60000 in
theorem fm_rd_b {y : Mm} {k i v b : Int} (e : y = fm_up x k i v) : (b = i → y k b = v) ∧ (b ≠ i → y k b = x k b) := ⟨fun h => by rw [h]; exact fm_rd_s e, fun h => fm_rd_i e h⟩
set_option maxHeartbeats 60000 in
theorem nr_z {z : Int} (h0 : 0 ≤ z) (h1 : z ≤ 1) : narrow .boolean (vi z) = vi z := by
  rcases (show z = 0 ∨ z = 1 by omega) with rfl | rfl <;> rfl
set_option maxHeartbeats 60000 in
theorem nr_c {z : Int} (h0 : 0 ≤ z) (h1 : z ≤ 65535) : narrow .char (vi z) = vi z := by
  obtain ⟨q, rfl⟩ := Int.eq_ofNat_of_zero_le h0
  have h2 := (pk_charN (q := q) (by omega)).1
  rw [show vi (q : Int) = .int (nI q) from congrArg Value.int (iI_nat q)]
  exact h2
end FMM
