section MXH
variable {S : mx_Sc} {μ : mx_M} {pc : Nat} {ls : List (Option Value)} {st : List Value} {bc bs : Nat} {P : Option Value → mx_H → Prop} {PX : String → mx_H → Prop}
variable {f : Bool} {sh : List (Nat × Nat)} {M : Nat → Int → Int} {L : Nat → Nat → Int64} {Rf : Nat → Nat → Option Nat}
theorem mx_cell_congr {X : mx_X} {C : mx_Cs} {h h2 : mx_H} {k : Nat} {q : Nat × Nat} (h1 : h2.2.2.1 k = h.2.2.1 k) (h3 : h2.2.2.2.1 k = h.2.2.2.1 k) (h4 : h2.2.2.2.2 k = h.2.2.2.2 k) : mx_cell X C h2 k q = mx_cell X C h k q := by
  obtain ⟨a, b⟩ := q
  match a with
  | 0 => simp only [mx_cell, h1]
  | 1 => simp only [mx_cell, h3]
  | 2 => simp only [mx_cell, h4]
  | c + 3 =>
    simp only [mx_cell]
    congr 2
    refine List.map_congr_left fun i _ => ?_
    simp only [mx_fv, h1, h4]
theorem mx_w_set {X : mx_X} {C : mx_Cs} {h h2 : mx_H} {a : Nat} {q : Nat × Nat} (hs : h2.2.1 = h.2.1) (ha : h.2.1[a]? = some q) (h1 : ∀ k, k ≠ a → h2.2.2.1 k = h.2.2.1 k) (h3 : ∀ k, k ≠ a → h2.2.2.2.1 k = h.2.2.2.1 k) (h4 : ∀ k, k ≠ a → h2.2.2.2.2 k = h.2.2.2.2 k) :
    (mx_w X C h).set a (X.1 + a, mx_cell X C h2 a q) = mx_w X C h2 := by
  refine List.ext_getElem? fun i => ?_
  have hla : a < h.2.1.length := (List.getElem?_eq_some_iff.mp ha).1
  by_cases hi : i = a
  · subst hi
    rw [List.getElem?_set_self (by simpa [mx_w] using hla), mx_w_at (h := h2) (by rw [hs]; exact ha)]
  · rw [List.getElem?_set_ne (Ne.symm hi)]
    simp only [mx_w, List.getElem?_mapIdx, hs]
    cases hq : h.2.1[i]? with
    | none => rfl
    | some z =>
      simp only [Option.map_some]
      rw [mx_cell_congr (h1 i hi) (h3 i hi) (h4 i hi)]
theorem iI_clamp {z : Int} (h0 : 0 ≤ z) (h1 : z < 2147483648) : (iI z).toNatClampNeg = z.toNat := by
  have e : (iI z).toInt = z := Int32.toInt_ofInt_of_le (by omega) (by omega)
  show (iI z).toInt.toNat = z.toNat
  rw [e]
theorem iI_toInt {z : Int} (h0 : -2147483648 ≤ z) (h1 : z < 2147483648) : (iI z).toInt = z := Int32.toInt_ofInt_of_le (by omega) (by omega)
theorem iI_in {z : Int} {n : Nat} (h0 : 0 ≤ z) (h1 : z < n) (hn : n < 2147483648) : vp_in (iI z) n := by
  rw [vp_in_iff, iI_toInt (by omega) (by omega)]
  omega
/-- the bytes of a class's own words are among the tables' -/
def mx_clOK (ci : Nat) (r : vw_C) : Prop := vwCl[ci]? = some r ∧ (∀ w ∈ u_ws r.1 r.2.1 r.2.2, w ∈ mx_T) ∧ (∀ k, k < r.2.2 → parseFieldDescriptor (r.2.1 k).2.2.1 = some (mx_ty ci k)) ∧ (∀ a, a < r.2.2 → ∀ b, b < r.2.2 → a ≠ b → (r.2.1 a).2.1 ≠ (r.2.1 b).2.1)
/-- a field's link: of class ci, the k-th -/
def mx_flOK (μ : mx_M) (idx ci k : Nat) (r : vw_C) : Prop := mx_clOK ci r ∧ k < r.2.2 ∧ Cond.fieldLink (mx_y μ).cls idx (r.2.1 k).1 (r.2.1 k).2.1 (r.2.1 k).2.2.1 ∈ mx_T
theorem mx_fv_get {X : mx_X} {c N k a : Nat} {h : mx_H} (hk : k < N) : ((List.range N).map (mx_fv X c h a))[k]? = some (mx_fv X c h a k) := by
  simp [hk]
theorem ms_getI {idx ci k a : Nat} {r : vw_C} {z : Int} (hd : decode (mx_b μ) pc = .ok (.getfield idx, 3)) (hf : mx_flOK μ idx ci k r) (hs : sh[a]? = some (ci + 3, r.2.2)) (ht : mx_isI (mx_ty ci k) = true) (hz : (k : Int) = z)
    (kk : mx_E S μ (pc + 3) ls (.int (iI (M a z)) :: st) (f, sh, M, L, Rf) bc bs P PX) (ha : a < 1000 := by first | decide | omega) : mx_E S μ pc ls (.ref a :: st) (f, sh, M, L, Rf) bc bs P PX := by
  intro X C D p l e R s m args below meth c H locs cells slots mc ms lc f0 hI hL hR hS h1 h2 h3 h4 h5
  obtain ⟨C1, T1, N1⟩ := r
  obtain ⟨⟨hc, hw, -, -⟩, hk, hlk⟩ := hf
  have hv : mx_v X (.ref a) = .ref (X.1 + a) := by simp [mx_v, mx_ad, ha]
  rw [List.map_cons, hv]
  refine va_get hI.1 hI.2.1 hI.2.2.2.2.1 hw hI.2.2.2.1 hI.2.2.2.2.2.2.2.2.2.2.1.1 hR.1 a (mx_w_at (C := C) (h := (f, sh, M, L, Rf)) hs) hc k hk (hI.2.2.2.2.1 _ hlk) (fun _ z => z) (mx_fv_get hk) hd ?_
  have e1 : mx_fv X ci (f, sh, M, L, Rf) a k = .int (iI (M a z)) := by simp only [mx_fv, ht, if_true, hz]
  rw [e1]
  exact kk X C D p l e R s m args below meth c H locs cells slots mc ms lc f0 hI hL hR hS h1 h2 h3 h4 h5
theorem ms_getR {idx ci k a b : Nat} {r : vw_C} (hd : decode (mx_b μ) pc = .ok (.getfield idx, 3)) (hf : mx_flOK μ idx ci k r) (hs : sh[a]? = some (ci + 3, r.2.2)) (ht : mx_isI (mx_ty ci k) = false) (hb : Rf a k = some b)
    (kk : mx_E S μ (pc + 3) ls (.ref b :: st) (f, sh, M, L, Rf) bc bs P PX) (ha : a < 1000 := by first | decide | omega) : mx_E S μ pc ls (.ref a :: st) (f, sh, M, L, Rf) bc bs P PX := by
  intro X C D p l e R s m args below meth c H locs cells slots mc ms lc f0 hI hL hR hS h1 h2 h3 h4 h5
  obtain ⟨C1, T1, N1⟩ := r
  obtain ⟨⟨hc, hw, -, -⟩, hk, hlk⟩ := hf
  have hv : mx_v X (.ref a) = .ref (X.1 + a) := by simp [mx_v, mx_ad, ha]
  rw [List.map_cons, hv]
  refine va_get hI.1 hI.2.1 hI.2.2.2.2.1 hw hI.2.2.2.1 hI.2.2.2.2.2.2.2.2.2.2.1.1 hR.1 a (mx_w_at (C := C) (h := (f, sh, M, L, Rf)) hs) hc k hk (hI.2.2.2.2.1 _ hlk) (fun _ z => z) (mx_fv_get hk) hd ?_
  have e1 : mx_fv X ci (f, sh, M, L, Rf) a k = .ref (mx_ad X b) := by simp only [mx_fv, ht, hb]; rfl
  rw [e1]
  exact kk X C D p l e R s m args below meth c H locs cells slots mc ms lc f0 hI hL hR hS h1 h2 h3 h4 h5
theorem mx_range_set {α : Type} (g g2 : Nat → α) (N k : Nat) (h1 : ∀ i, i ≠ k → g2 i = g i) : ((List.range N).map g).set k (g2 k) = (List.range N).map g2 := by
  refine List.ext_getElem? fun i => ?_
  by_cases hi : i = k
  · subst hi
    by_cases hl : i < N
    · rw [List.getElem?_set_self (by simpa using hl)]
      simp [hl]
    · rw [List.getElem?_eq_none (by simp; omega), List.getElem?_eq_none (by simp; omega)]
  · rw [List.getElem?_set_ne (Ne.symm hi)]
    by_cases hl : i < N
    · simp [hl, h1 i hi]
    · rw [List.getElem?_eq_none (by simp; omega), List.getElem?_eq_none (by simp; omega)]
/-- behind a store: the heap is as large as before -/
theorem mx_W_st {p : Program} {l : Launch} {e : Env} {R : Room} {s : State} {m : MethodId} {args : Array Value} {below : List Frame} {meth : Method} {c : Code} {H1 : Heap} {locs : List Loc} {cells slots : Nat} {Q : State → Prop} {g : JFrame}
    (k : H1.size ≤ s.heap.size + cells → W p l e R s m args below meth c H1 locs cells slots Q g) : W p l e R s m args below meth c H1 locs cells slots Q g :=
  fun T hT X9 => k (by rw [← hT]; exact X9.heapSize) T hT X9
theorem mx_S_go {A : Nat → Prop} {H0 H H1 : Heap} {locs locs1 : List Loc} (h : va_S A H0 H locs) (h2 : va_S A H H1 locs1) : va_S A H0 H1 locs1 :=
  ⟨Nat.le_trans h.1 h2.1, fun q hq hA => (h2.2.1 q (Nat.lt_of_lt_of_le hq h.1) hA).trans (h.2.1 q hq hA), h2.2.2⟩
theorem mx_S_rf {A : Nat → Prop} {H0 H : Heap} {locs : List Loc} (h : va_S A H0 H locs) : va_S A H H locs := ⟨Nat.le_refl _, fun _ _ _ => rfl, h.2.2⟩
theorem mx_R_st {X : mx_X} {C : mx_Cs} {D : va_G} {h h2 : mx_H} {H H1 : Heap} {n : Nat} (hR : mx_R X C D h H) (hP : va_P D vwCl (mx_w X C h2) H1) (e1 : h2.1 = h.1) (e2 : h2.2.1 = h.2.1) (h5 : h.1 = true → n ≤ H.size) (hz : H.size ≤ H1.size) (hu : H1.size ≤ n) : mx_R X C D h2 H1 ∧ (h2.1 = true → n ≤ H1.size) := by
  refine ⟨⟨hP, fun q => ?_, Nat.le_trans hR.2.2 hz⟩, fun q => ?_⟩
  · rw [e1] at q
    have a1 := h5 q
    have a2 := hR.2.1 q
    rw [e2]
    omega
  · rw [e1] at q
    have a1 := h5 q
    omega
/-- the tail of every store rule -/
theorem mx_st_tail {X : mx_X} {C : mx_Cs} {D : va_G} {p : Program} {l : Launch} {e : Env} {R : Room} {s : State} {m : MethodId} {args : Array Value} {below : List Frame} {meth : Method} {c : Code} {H H1 : Heap} {locs locs1 : List Loc} {cells slots mc ms : Nat} {lc : Array Slot} {f0 : Bool} {h h2 : mx_H} {pc2 : Nat}
    (k : mx_E S μ pc2 ls st h2 bc bs P PX) (hI : mx_I S μ X C D p l R s m args meth c) (hL : mx_L X (mx_nl μ) lc ls) (hR : mx_R X C D h H) (hS : va_S (mx_A X) s.heap H locs) (h1 : cells + bc = mc) (h2' : slots + bs = ms) (h3 : mc ≤ R.cells) (h4 : ms ≤ R.slots) (h5 : h.1 = true → f0 = true ∧ s.heap.size + cells ≤ H.size)
    (hP : va_P D vwCl (mx_w X C h2) H1) (hS1 : va_S (mx_A X) H H1 locs1) (e1 : h2.1 = h.1) (e2 : h2.2.1 = h.2.1) :
    W p l e R s m args below meth c H1 locs1 cells slots (vx_MQ below (mx_Qc X C D f0 mc P) (mx_XC X C D PX) args s mc ms (mx_A X)) (F0 m pc2 lc (st.map (mx_v X))) := by
  refine mx_W_st fun hu => ?_
  obtain ⟨a1, a2⟩ := mx_R_st hR hP e1 e2 (fun q => (h5 q).2) hS1.1 hu
  exact k X C D p l e R s m args below meth c H1 locs1 cells slots mc ms lc f0 hI hL a1 (mx_S_go hS hS1) h1 h2' h3 h4 (fun q => ⟨(h5 (e1 ▸ q)).1, a2 q⟩)
theorem ms_putI {idx ci k a : Nat} {r : vw_C} {z : Int} {x : Int} (hd : decode (mx_b μ) pc = .ok (.putfield idx, 3)) (hf : mx_flOK μ idx ci k r) (hs : sh[a]? = some (ci + 3, r.2.2)) (ht : mx_ty ci k = .int) (hz : (k : Int) = z) (hfin : (r.2.1 k).2.2.2 = false)
    (kk : mx_E S μ (pc + 3) ls st (f, sh, va_up M a (iu (M a) z x), L, Rf) bc bs P PX) (ha : a < 1000 := by first | decide | omega) : mx_E S μ pc ls (.int (iI x) :: .ref a :: st) (f, sh, M, L, Rf) bc bs P PX := by
  intro X C D p l e R s m args below meth c H locs cells slots mc ms lc f0 hI hL hR hS h1 h2 h3 h4 h5
  obtain ⟨C1, T1, N1⟩ := r
  obtain ⟨⟨hc, hw, hty, hnm⟩, hk, hlk⟩ := hf
  have hv : mx_v X (.ref a) = .ref (X.1 + a) := by simp [mx_v, mx_ad, ha]
  rw [List.map_cons, List.map_cons, hv]
  refine va_put (H0 := H) hI.1 hI.2.1 hI.2.2.2.2.1 hw (mx_ty ci) hty hnm hI.2.2.2.1 hI.2.2.2.2.2.2.2.2.2.2.1.1 hR.1 (mx_w_D X C _) (mx_S_rf hS) a (mx_w_at (C := C) (h := (f, sh, M, L, Rf)) hs) hc k hk (hI.2.2.2.2.1 _ hlk) (fun _ z => z) hfin (ty := .int) (v := .int (iI x)) (by rw [hty k hk, ht]) rfl rfl (by simpa using hk) hd (fun H1 locs1 q1 _ q3 => ?_)
  refine mx_st_tail kk hI hL hR hS h1 h2 h3 h4 h5 ?_ q3 rfl rfl
  have e0 := mx_w_set (X := X) (C := C) (h := (f, sh, M, L, Rf)) (h2 := (f, sh, va_up M a (iu (M a) z x), L, Rf)) rfl hs (fun j hj => by first | rfl | (show va_up M a _ j = M j; simp [va_up, hj])) (fun _ _ => rfl) (fun j hj => by first | rfl | (show va_up Rf a _ j = Rf j; simp [va_up, hj]))
  have e2 : mx_fv X ci (f, sh, va_up M a (iu (M a) z x), L, Rf) a k = .int (iI x) := by simp [mx_fv, ht, mx_isI, va_up, va_rf, iu, hz]
  have e1 : mx_cell X C (f, sh, va_up M a (iu (M a) z x), L, Rf) a (ci + 3, N1) = .inr (ci, ((List.range N1).map (mx_fv X ci (f, sh, M, L, Rf) a)).set k (.int (iI x))) := by
    rw [← e2, mx_range_set _ _ _ _ (fun i hi => ?_)]
    · rfl
    · have : ¬ ((i : Int) = z) := fun q => hi (by omega)
      simp [mx_fv, va_up, iu, this]
  rw [← e0, e1]
  exact q1
theorem ms_putIF {idx ci k a : Nat} {r : vw_C} {z : Int} {x : Int} (hd : decode (mx_b μ) pc = .ok (.putfield idx, 3)) (hf : mx_flOK μ idx ci k r) (hs : sh[a]? = some (ci + 3, r.2.2)) (ht : mx_ty ci k = .int) (hz : (k : Int) = z) (hfin : (r.2.1 k).2.2.2 = true) (hin : (mx_y μ).name = "<init>") (hdecl : (r.2.1 k).1 = (mx_y μ).cls)
    (kk : mx_E S μ (pc + 3) ls st (f, sh, va_up M a (iu (M a) z x), L, Rf) bc bs P PX) (ha : a < 1000 := by first | decide | omega) : mx_E S μ pc ls (.int (iI x) :: .ref a :: st) (f, sh, M, L, Rf) bc bs P PX := by
  intro X C D p l e R s m args below meth c H locs cells slots mc ms lc f0 hI hL hR hS h1 h2 h3 h4 h5
  obtain ⟨C1, T1, N1⟩ := r
  obtain ⟨⟨hc, hw, hty, hnm⟩, hk, hlk⟩ := hf
  have hv : mx_v X (.ref a) = .ref (X.1 + a) := by simp [mx_v, mx_ad, ha]
  rw [List.map_cons, List.map_cons, hv]
  refine va_putF (H0 := H) hI.1 hI.2.1 hI.2.2.2.2.1 hw (mx_ty ci) hty hnm hI.2.2.2.1 hI.2.2.2.2.2.2.2.2.2.2.1.1 hR.1 (mx_w_D X C _) (mx_S_rf hS) a (mx_w_at (C := C) (h := (f, sh, M, L, Rf)) hs) hc k hk (hI.2.2.2.2.1 _ hlk) (fun _ z => z) hfin (hI.2.2.2.2.2.2.2.1.trans hin) hdecl (ty := .int) (v := .int (iI x)) (by rw [hty k hk, ht]) rfl rfl (by simpa using hk) hd (fun H1 locs1 q1 _ q3 => ?_)
  refine mx_st_tail kk hI hL hR hS h1 h2 h3 h4 h5 ?_ q3 rfl rfl
  have e0 := mx_w_set (X := X) (C := C) (h := (f, sh, M, L, Rf)) (h2 := (f, sh, va_up M a (iu (M a) z x), L, Rf)) rfl hs (fun j hj => by first | rfl | (show va_up M a _ j = M j; simp [va_up, hj])) (fun _ _ => rfl) (fun j hj => by first | rfl | (show va_up Rf a _ j = Rf j; simp [va_up, hj]))
  have e2 : mx_fv X ci (f, sh, va_up M a (iu (M a) z x), L, Rf) a k = .int (iI x) := by simp [mx_fv, ht, mx_isI, va_up, va_rf, iu, hz]
  have e1 : mx_cell X C (f, sh, va_up M a (iu (M a) z x), L, Rf) a (ci + 3, N1) = .inr (ci, ((List.range N1).map (mx_fv X ci (f, sh, M, L, Rf) a)).set k (.int (iI x))) := by
    rw [← e2, mx_range_set _ _ _ _ (fun i hi => ?_)]
    · rfl
    · have : ¬ ((i : Int) = z) := fun q => hi (by omega)
      simp [mx_fv, va_up, iu, this]
  rw [← e0, e1]
  exact q1
theorem ms_putZ {idx ci k a : Nat} {r : vw_C} {z : Int} {x : Int} (hzz : x = 0 ∨ x = 1) (hd : decode (mx_b μ) pc = .ok (.putfield idx, 3)) (hf : mx_flOK μ idx ci k r) (hs : sh[a]? = some (ci + 3, r.2.2)) (ht : mx_ty ci k = .boolean) (hz : (k : Int) = z) (hfin : (r.2.1 k).2.2.2 = false)
    (kk : mx_E S μ (pc + 3) ls st (f, sh, va_up M a (iu (M a) z x), L, Rf) bc bs P PX) (ha : a < 1000 := by first | decide | omega) : mx_E S μ pc ls (.int (iI x) :: .ref a :: st) (f, sh, M, L, Rf) bc bs P PX := by
  intro X C D p l e R s m args below meth c H locs cells slots mc ms lc f0 hI hL hR hS h1 h2 h3 h4 h5
  obtain ⟨C1, T1, N1⟩ := r
  obtain ⟨⟨hc, hw, hty, hnm⟩, hk, hlk⟩ := hf
  have hv : mx_v X (.ref a) = .ref (X.1 + a) := by simp [mx_v, mx_ad, ha]
  rw [List.map_cons, List.map_cons, hv]
  refine va_put (H0 := H) hI.1 hI.2.1 hI.2.2.2.2.1 hw (mx_ty ci) hty hnm hI.2.2.2.1 hI.2.2.2.2.2.2.2.2.2.2.1.1 hR.1 (mx_w_D X C _) (mx_S_rf hS) a (mx_w_at (C := C) (h := (f, sh, M, L, Rf)) hs) hc k hk (hI.2.2.2.2.1 _ hlk) (fun _ z => z) hfin (ty := .boolean) (v := .int (iI x)) (by rw [hty k hk, ht]) (by rcases hzz with rfl | rfl <;> rfl) (by rcases hzz with rfl | rfl <;> rfl) (by simpa using hk) hd (fun H1 locs1 q1 _ q3 => ?_)
  refine mx_st_tail kk hI hL hR hS h1 h2 h3 h4 h5 ?_ q3 rfl rfl
  have e0 := mx_w_set (X := X) (C := C) (h := (f, sh, M, L, Rf)) (h2 := (f, sh, va_up M a (iu (M a) z x), L, Rf)) rfl hs (fun j hj => by first | rfl | (show va_up M a _ j = M j; simp [va_up, hj])) (fun _ _ => rfl) (fun j hj => by first | rfl | (show va_up Rf a _ j = Rf j; simp [va_up, hj]))
  have e2 : mx_fv X ci (f, sh, va_up M a (iu (M a) z x), L, Rf) a k = .int (iI x) := by simp [mx_fv, ht, mx_isI, va_up, va_rf, iu, hz]
  have e1 : mx_cell X C (f, sh, va_up M a (iu (M a) z x), L, Rf) a (ci + 3, N1) = .inr (ci, ((List.range N1).map (mx_fv X ci (f, sh, M, L, Rf) a)).set k (.int (iI x))) := by
    rw [← e2, mx_range_set _ _ _ _ (fun i hi => ?_)]
    · rfl
    · have : ¬ ((i : Int) = z) := fun q => hi (by omega)
      simp [mx_fv, va_up, iu, this]
  rw [← e0, e1]
  exact q1
theorem ms_putRo {idx ci k a : Nat} {r : vw_C} {b : Nat} {cn : String} (hd : decode (mx_b μ) pc = .ok (.putfield idx, 3)) (hf : mx_flOK μ idx ci k r) (hs : sh[a]? = some (ci + 3, r.2.2)) (ht : mx_ty ci k = .object cn) (hfin : (r.2.1 k).2.2.2 = false)
    (kk : mx_E S μ (pc + 3) ls st (f, sh, M, L, va_up Rf a (va_up (Rf a) k (some b))) bc bs P PX) (ha : a < 1000 := by first | decide | omega) : mx_E S μ pc ls (.ref b :: .ref a :: st) (f, sh, M, L, Rf) bc bs P PX := by
  intro X C D p l e R s m args below meth c H locs cells slots mc ms lc f0 hI hL hR hS h1 h2 h3 h4 h5
  obtain ⟨C1, T1, N1⟩ := r
  obtain ⟨⟨hc, hw, hty, hnm⟩, hk, hlk⟩ := hf
  have hv : mx_v X (.ref a) = .ref (X.1 + a) := by simp [mx_v, mx_ad, ha]
  rw [List.map_cons, List.map_cons, hv]
  refine va_put (H0 := H) hI.1 hI.2.1 hI.2.2.2.2.1 hw (mx_ty ci) hty hnm hI.2.2.2.1 hI.2.2.2.2.2.2.2.2.2.2.1.1 hR.1 (mx_w_D X C _) (mx_S_rf hS) a (mx_w_at (C := C) (h := (f, sh, M, L, Rf)) hs) hc k hk (hI.2.2.2.2.1 _ hlk) (fun _ z => z) hfin (ty := .object cn) (v := .ref (mx_ad X b)) (by rw [hty k hk, ht]) rfl rfl (by simpa using hk) hd (fun H1 locs1 q1 _ q3 => ?_)
  refine mx_st_tail kk hI hL hR hS h1 h2 h3 h4 h5 ?_ q3 rfl rfl
  have e0 := mx_w_set (X := X) (C := C) (h := (f, sh, M, L, Rf)) (h2 := (f, sh, M, L, va_up Rf a (va_up (Rf a) k (some b)))) rfl hs (fun j hj => by first | rfl | (show va_up M a _ j = M j; simp [va_up, hj])) (fun _ _ => rfl) (fun j hj => by first | rfl | (show va_up Rf a _ j = Rf j; simp [va_up, hj]))
  have e2 : mx_fv X ci (f, sh, M, L, va_up Rf a (va_up (Rf a) k (some b))) a k = .ref (mx_ad X b) := by simp [mx_fv, ht, mx_isI, va_up, va_rf]
  have e1 : mx_cell X C (f, sh, M, L, va_up Rf a (va_up (Rf a) k (some b))) a (ci + 3, N1) = .inr (ci, ((List.range N1).map (mx_fv X ci (f, sh, M, L, Rf) a)).set k (.ref (mx_ad X b))) := by
    rw [← e2, mx_range_set _ _ _ _ (fun i hi => ?_)]
    · rfl
    · simp [mx_fv, va_up, hi]
  rw [← e0, e1]
  exact q1
theorem ms_putRa {idx ci k a : Nat} {r : vw_C} {b : Nat} {et : FieldType} (hd : decode (mx_b μ) pc = .ok (.putfield idx, 3)) (hf : mx_flOK μ idx ci k r) (hs : sh[a]? = some (ci + 3, r.2.2)) (ht : mx_ty ci k = .array et) (hfin : (r.2.1 k).2.2.2 = false)
    (kk : mx_E S μ (pc + 3) ls st (f, sh, M, L, va_up Rf a (va_up (Rf a) k (some b))) bc bs P PX) (ha : a < 1000 := by first | decide | omega) : mx_E S μ pc ls (.ref b :: .ref a :: st) (f, sh, M, L, Rf) bc bs P PX := by
  intro X C D p l e R s m args below meth c H locs cells slots mc ms lc f0 hI hL hR hS h1 h2 h3 h4 h5
  obtain ⟨C1, T1, N1⟩ := r
  obtain ⟨⟨hc, hw, hty, hnm⟩, hk, hlk⟩ := hf
  have hv : mx_v X (.ref a) = .ref (X.1 + a) := by simp [mx_v, mx_ad, ha]
  rw [List.map_cons, List.map_cons, hv]
  refine va_put (H0 := H) hI.1 hI.2.1 hI.2.2.2.2.1 hw (mx_ty ci) hty hnm hI.2.2.2.1 hI.2.2.2.2.2.2.2.2.2.2.1.1 hR.1 (mx_w_D X C _) (mx_S_rf hS) a (mx_w_at (C := C) (h := (f, sh, M, L, Rf)) hs) hc k hk (hI.2.2.2.2.1 _ hlk) (fun _ z => z) hfin (ty := .array et) (v := .ref (mx_ad X b)) (by rw [hty k hk, ht]) rfl rfl (by simpa using hk) hd (fun H1 locs1 q1 _ q3 => ?_)
  refine mx_st_tail kk hI hL hR hS h1 h2 h3 h4 h5 ?_ q3 rfl rfl
  have e0 := mx_w_set (X := X) (C := C) (h := (f, sh, M, L, Rf)) (h2 := (f, sh, M, L, va_up Rf a (va_up (Rf a) k (some b)))) rfl hs (fun j hj => by first | rfl | (show va_up M a _ j = M j; simp [va_up, hj])) (fun _ _ => rfl) (fun j hj => by first | rfl | (show va_up Rf a _ j = Rf j; simp [va_up, hj]))
  have e2 : mx_fv X ci (f, sh, M, L, va_up Rf a (va_up (Rf a) k (some b))) a k = .ref (mx_ad X b) := by simp [mx_fv, ht, mx_isI, va_up, va_rf]
  have e1 : mx_cell X C (f, sh, M, L, va_up Rf a (va_up (Rf a) k (some b))) a (ci + 3, N1) = .inr (ci, ((List.range N1).map (mx_fv X ci (f, sh, M, L, Rf) a)).set k (.ref (mx_ad X b))) := by
    rw [← e2, mx_range_set _ _ _ _ (fun i hi => ?_)]
    · rfl
    · simp [mx_fv, va_up, hi]
  rw [← e0, e1]
  exact q1
theorem ms_putRFo {idx ci k a : Nat} {r : vw_C} {b : Nat} {cn : String} (hd : decode (mx_b μ) pc = .ok (.putfield idx, 3)) (hf : mx_flOK μ idx ci k r) (hs : sh[a]? = some (ci + 3, r.2.2)) (ht : mx_ty ci k = .object cn) (hfin : (r.2.1 k).2.2.2 = true) (hin : (mx_y μ).name = "<init>") (hdecl : (r.2.1 k).1 = (mx_y μ).cls)
    (kk : mx_E S μ (pc + 3) ls st (f, sh, M, L, va_up Rf a (va_up (Rf a) k (some b))) bc bs P PX) (ha : a < 1000 := by first | decide | omega) : mx_E S μ pc ls (.ref b :: .ref a :: st) (f, sh, M, L, Rf) bc bs P PX := by
  intro X C D p l e R s m args below meth c H locs cells slots mc ms lc f0 hI hL hR hS h1 h2 h3 h4 h5
  obtain ⟨C1, T1, N1⟩ := r
  obtain ⟨⟨hc, hw, hty, hnm⟩, hk, hlk⟩ := hf
  have hv : mx_v X (.ref a) = .ref (X.1 + a) := by simp [mx_v, mx_ad, ha]
  rw [List.map_cons, List.map_cons, hv]
  refine va_putF (H0 := H) hI.1 hI.2.1 hI.2.2.2.2.1 hw (mx_ty ci) hty hnm hI.2.2.2.1 hI.2.2.2.2.2.2.2.2.2.2.1.1 hR.1 (mx_w_D X C _) (mx_S_rf hS) a (mx_w_at (C := C) (h := (f, sh, M, L, Rf)) hs) hc k hk (hI.2.2.2.2.1 _ hlk) (fun _ z => z) hfin (hI.2.2.2.2.2.2.2.1.trans hin) hdecl (ty := .object cn) (v := .ref (mx_ad X b)) (by rw [hty k hk, ht]) rfl rfl (by simpa using hk) hd (fun H1 locs1 q1 _ q3 => ?_)
  refine mx_st_tail kk hI hL hR hS h1 h2 h3 h4 h5 ?_ q3 rfl rfl
  have e0 := mx_w_set (X := X) (C := C) (h := (f, sh, M, L, Rf)) (h2 := (f, sh, M, L, va_up Rf a (va_up (Rf a) k (some b)))) rfl hs (fun j hj => by first | rfl | (show va_up M a _ j = M j; simp [va_up, hj])) (fun _ _ => rfl) (fun j hj => by first | rfl | (show va_up Rf a _ j = Rf j; simp [va_up, hj]))
  have e2 : mx_fv X ci (f, sh, M, L, va_up Rf a (va_up (Rf a) k (some b))) a k = .ref (mx_ad X b) := by simp [mx_fv, ht, mx_isI, va_up, va_rf]
  have e1 : mx_cell X C (f, sh, M, L, va_up Rf a (va_up (Rf a) k (some b))) a (ci + 3, N1) = .inr (ci, ((List.range N1).map (mx_fv X ci (f, sh, M, L, Rf) a)).set k (.ref (mx_ad X b))) := by
    rw [← e2, mx_range_set _ _ _ _ (fun i hi => ?_)]
    · rfl
    · simp [mx_fv, va_up, hi]
  rw [← e0, e1]
  exact q1
theorem ms_putRFa {idx ci k a : Nat} {r : vw_C} {b : Nat} {et : FieldType} (hd : decode (mx_b μ) pc = .ok (.putfield idx, 3)) (hf : mx_flOK μ idx ci k r) (hs : sh[a]? = some (ci + 3, r.2.2)) (ht : mx_ty ci k = .array et) (hfin : (r.2.1 k).2.2.2 = true) (hin : (mx_y μ).name = "<init>") (hdecl : (r.2.1 k).1 = (mx_y μ).cls)
    (kk : mx_E S μ (pc + 3) ls st (f, sh, M, L, va_up Rf a (va_up (Rf a) k (some b))) bc bs P PX) (ha : a < 1000 := by first | decide | omega) : mx_E S μ pc ls (.ref b :: .ref a :: st) (f, sh, M, L, Rf) bc bs P PX := by
  intro X C D p l e R s m args below meth c H locs cells slots mc ms lc f0 hI hL hR hS h1 h2 h3 h4 h5
  obtain ⟨C1, T1, N1⟩ := r
  obtain ⟨⟨hc, hw, hty, hnm⟩, hk, hlk⟩ := hf
  have hv : mx_v X (.ref a) = .ref (X.1 + a) := by simp [mx_v, mx_ad, ha]
  rw [List.map_cons, List.map_cons, hv]
  refine va_putF (H0 := H) hI.1 hI.2.1 hI.2.2.2.2.1 hw (mx_ty ci) hty hnm hI.2.2.2.1 hI.2.2.2.2.2.2.2.2.2.2.1.1 hR.1 (mx_w_D X C _) (mx_S_rf hS) a (mx_w_at (C := C) (h := (f, sh, M, L, Rf)) hs) hc k hk (hI.2.2.2.2.1 _ hlk) (fun _ z => z) hfin (hI.2.2.2.2.2.2.2.1.trans hin) hdecl (ty := .array et) (v := .ref (mx_ad X b)) (by rw [hty k hk, ht]) rfl rfl (by simpa using hk) hd (fun H1 locs1 q1 _ q3 => ?_)
  refine mx_st_tail kk hI hL hR hS h1 h2 h3 h4 h5 ?_ q3 rfl rfl
  have e0 := mx_w_set (X := X) (C := C) (h := (f, sh, M, L, Rf)) (h2 := (f, sh, M, L, va_up Rf a (va_up (Rf a) k (some b)))) rfl hs (fun j hj => by first | rfl | (show va_up M a _ j = M j; simp [va_up, hj])) (fun _ _ => rfl) (fun j hj => by first | rfl | (show va_up Rf a _ j = Rf j; simp [va_up, hj]))
  have e2 : mx_fv X ci (f, sh, M, L, va_up Rf a (va_up (Rf a) k (some b))) a k = .ref (mx_ad X b) := by simp [mx_fv, ht, mx_isI, va_up, va_rf]
  have e1 : mx_cell X C (f, sh, M, L, va_up Rf a (va_up (Rf a) k (some b))) a (ci + 3, N1) = .inr (ci, ((List.range N1).map (mx_fv X ci (f, sh, M, L, Rf) a)).set k (.ref (mx_ad X b))) := by
    rw [← e2, mx_range_set _ _ _ _ (fun i hi => ?_)]
    · rfl
    · simp [mx_fv, va_up, hi]
  rw [← e0, e1]
  exact q1
theorem ms_iald {a n : Nat} {i : Int} (hd : decode (mx_b μ) pc = .ok (.iaload, 1)) (hs : sh[a]? = some (0, n)) (kk : mx_E S μ (pc + 1) ls (.int (iI (M a i)) :: st) (f, sh, M, L, Rf) bc bs P PX) (hi0 : 0 ≤ i := by omega) (hi1 : i < n := by omega) (hn : n < 2147483648 := by first | decide | omega) (ha : a < 1000 := by first | decide | omega) : mx_E S μ pc ls (.int (iI i) :: .ref a :: st) (f, sh, M, L, Rf) bc bs P PX := by
  intro X C D p l e R s m args below meth c H locs cells slots mc ms lc f0 hI hL hR hS h1 h2 h3 h4 h5
  have hv : mx_v X (.ref a) = .ref (X.1 + a) := by simp [mx_v, mx_ad, ha]
  rw [List.map_cons, List.map_cons, hv]
  refine va_iald hI.1 hI.2.1 hI.2.2.2.2.2.2.2.2.2.2.1.1 hR.1 a 0 (mx_w_at (C := C) (h := (f, sh, M, L, Rf)) hs) rfl (iI_in hi0 hi1 hn) hd ?_
  have e1 : iI (M a ((((iI i).toNatClampNeg : Nat)) : Int)) = iI (M a i) := by rw [iI_clamp hi0 (by omega), Int.toNat_of_nonneg hi0]
  have e2 := (kk X C D p l e R s m args below meth c H locs cells slots mc ms lc f0 hI hL hR hS h1 h2 h3 h4 h5)
  rw [List.map_cons] at e2
  show W p l e R s m args below meth c H locs cells slots _ (F0 m (pc + 1) lc (.int (iI (M a ((((iI i).toNatClampNeg : Nat)) : Int))) :: _))
  rw [e1]
  exact e2
theorem ms_lald {a n : Nat} {i : Int} (hd : decode (mx_b μ) pc = .ok (.laload, 1)) (hs : sh[a]? = some (1, n)) (kk : mx_E S μ (pc + 1) ls (.long (L a i.toNat) :: st) (f, sh, M, L, Rf) bc bs P PX) (hi0 : 0 ≤ i := by omega) (hi1 : i < n := by omega) (hn : n < 2147483648 := by first | decide | omega) (ha : a < 1000 := by first | decide | omega) : mx_E S μ pc ls (.int (iI i) :: .ref a :: st) (f, sh, M, L, Rf) bc bs P PX := by
  intro X C D p l e R s m args below meth c H locs cells slots mc ms lc f0 hI hL hR hS h1 h2 h3 h4 h5
  have hv : mx_v X (.ref a) = .ref (X.1 + a) := by simp [mx_v, mx_ad, ha]
  rw [List.map_cons, List.map_cons, hv]
  refine va_lald hI.1 hI.2.1 hI.2.2.2.2.2.2.2.2.2.2.1.1 hR.1 a 1 (mx_w_at (C := C) (h := (f, sh, M, L, Rf)) hs) rfl (iI_in hi0 hi1 hn) hd ?_
  rw [iI_clamp hi0 (by omega)]
  exact (kk X C D p l e R s m args below meth c H locs cells slots mc ms lc f0 hI hL hR hS h1 h2 h3 h4 h5)
theorem ms_aald {a n b : Nat} {i : Int} (hd : decode (mx_b μ) pc = .ok (.aaload, 1)) (hs : sh[a]? = some (2, n)) (hb : Rf a i.toNat = some b) (kk : mx_E S μ (pc + 1) ls (.ref b :: st) (f, sh, M, L, Rf) bc bs P PX) (hi0 : 0 ≤ i := by omega) (hi1 : i < n := by omega) (hn : n < 2147483648 := by first | decide | omega) (ha : a < 1000 := by first | decide | omega) : mx_E S μ pc ls (.int (iI i) :: .ref a :: st) (f, sh, M, L, Rf) bc bs P PX := by
  intro X C D p l e R s m args below meth c H locs cells slots mc ms lc f0 hI hL hR hS h1 h2 h3 h4 h5
  have hv : mx_v X (.ref a) = .ref (X.1 + a) := by simp [mx_v, mx_ad, ha]
  rw [List.map_cons, List.map_cons, hv]
  refine va_aldq hI.1 hI.2.1 hI.2.2.2.2.2.2.2.2.2.2.1.1 hR.1 a 2 (mx_w_at (C := C) (h := (f, sh, M, L, Rf)) hs) rfl (iI_in hi0 hi1 hn) hd ?_
  rw [iI_clamp hi0 (by omega)]
  have e1 : va_rf ((Rf a i.toNat).map (mx_ad X)) = .ref (mx_ad X b) := by rw [hb]; rfl
  show W p l e R s m args below meth c H locs cells slots _ (F0 m (pc + 1) lc (va_rf ((Rf a i.toNat).map (mx_ad X)) :: _))
  rw [e1]
  exact (kk X C D p l e R s m args below meth c H locs cells slots mc ms lc f0 hI hL hR hS h1 h2 h3 h4 h5)
theorem ms_alen {a n kd : Nat} (hd : decode (mx_b μ) pc = .ok (.arraylength, 1)) (hs : sh[a]? = some (kd, n)) (hk : kd < 3) {z : Int} (hz : (n : Int) = z) (kk : mx_E S μ (pc + 1) ls (.int (iI z) :: st) (f, sh, M, L, Rf) bc bs P PX) (ha : a < 1000 := by first | decide | omega) : mx_E S μ pc ls (.ref a :: st) (f, sh, M, L, Rf) bc bs P PX := by
  intro X C D p l e R s m args below meth c H locs cells slots mc ms lc f0 hI hL hR hS h1 h2 h3 h4 h5
  have hv9 : mx_v X (.ref a) = .ref (X.1 + a) := by simp [mx_v, mx_ad, ha]
  have hv : Int32.ofNat n = iI z := by subst hz; exact (Int32.ofInt_eq_ofNat).symm
  rw [List.map_cons, hv9]
  have hw := mx_w_at (X := X) (C := C) (h := (f, sh, M, L, Rf)) hs
  match kd, hk with
  | 0, _ => exact va_alen hI.1 hI.2.1 hI.2.2.2.2.2.2.2.2.2.2.1.1 hR.1 a 0 hw rfl hv hd (kk X C D p l e R s m args below meth c H locs cells slots mc ms lc f0 hI hL hR hS h1 h2 h3 h4 h5)
  | 1, _ => exact va_alen hI.1 hI.2.1 hI.2.2.2.2.2.2.2.2.2.2.1.1 hR.1 a 1 hw rfl hv hd (kk X C D p l e R s m args below meth c H locs cells slots mc ms lc f0 hI hL hR hS h1 h2 h3 h4 h5)
  | 2, _ => exact va_alen hI.1 hI.2.1 hI.2.2.2.2.2.2.2.2.2.2.1.1 hR.1 a 2 hw rfl hv hd (kk X C D p l e R s m args below meth c H locs cells slots mc ms lc f0 hI hL hR hS h1 h2 h3 h4 h5)
theorem ms_iast {a n : Nat} {i x : Int} (hd : decode (mx_b μ) pc = .ok (.iastore, 1)) (hs : sh[a]? = some (0, n)) (kk : mx_E S μ (pc + 1) ls st (f, sh, va_up M a (iu (M a) i x), L, Rf) bc bs P PX) (hi0 : 0 ≤ i := by omega) (hi1 : i < n := by omega) (hn : n < 2147483648 := by first | decide | omega) (ha : a < 1000 := by first | decide | omega) : mx_E S μ pc ls (.int (iI x) :: .int (iI i) :: .ref a :: st) (f, sh, M, L, Rf) bc bs P PX := by
  intro X C D p l e R s m args below meth c H locs cells slots mc ms lc f0 hI hL hR hS h1 h2 h3 h4 h5
  have hv : mx_v X (.ref a) = .ref (X.1 + a) := by simp [mx_v, mx_ad, ha]
  rw [List.map_cons, List.map_cons, List.map_cons, hv]
  refine va_iast (H0 := H) hI.1 hI.2.1 hI.2.2.2.2.2.2.2.2.2.2.1.1 hR.1 (mx_w_D X C _) (mx_S_rf hS) a 0 (mx_w_at (C := C) (h := (f, sh, M, L, Rf)) hs) rfl (iI_in hi0 hi1 hn) hd (fun H1 locs1 q1 _ q3 => ?_)
  refine mx_st_tail kk hI hL hR hS h1 h2 h3 h4 h5 ?_ q3 rfl rfl
  have e0 := mx_w_set (X := X) (C := C) (h := (f, sh, M, L, Rf)) (h2 := (f, sh, va_up M a (iu (M a) i x), L, Rf)) rfl hs (fun j hj => by show va_up M a _ j = M j; simp [va_up, hj]) (fun _ _ => rfl) (fun _ _ => rfl)
  have e1 : mx_cell X C (f, sh, va_up M a (iu (M a) i x), L, Rf) a (0, n) = .inl (C.1, n, .inl (upd (fun j => iI (M a (j : Int))) (iI i).toNatClampNeg (iI x))) := by
    rw [iI_clamp hi0 (by omega)]
    have e9 : (fun j : Nat => iI (va_up M a (iu (M a) i x) a (j : Int))) = upd (fun j => iI (M a (j : Int))) i.toNat (iI x) := by
      funext j
      by_cases hj : (j : Int) = i
      · have hj2 : j = i.toNat := by omega
        simp [va_up, iu, upd, hj, hj2, Int.toNat_of_nonneg hi0]
      · have hj2 : ¬ j = i.toNat := by omega
        simp [va_up, iu, upd, hj, hj2]
    simp only [mx_cell]
    rw [e9]
  rw [← e0, e1]
  exact q1
theorem ms_last {a n : Nat} {i : Int} {x : Int64} (hd : decode (mx_b μ) pc = .ok (.lastore, 1)) (hs : sh[a]? = some (1, n)) (kk : mx_E S μ (pc + 1) ls st (f, sh, M, va_up L a (va_up (L a) i.toNat x), Rf) bc bs P PX) (hi0 : 0 ≤ i := by omega) (hi1 : i < n := by omega) (hn : n < 2147483648 := by first | decide | omega) (ha : a < 1000 := by first | decide | omega) : mx_E S μ pc ls (.long x :: .int (iI i) :: .ref a :: st) (f, sh, M, L, Rf) bc bs P PX := by
  intro X C D p l e R s m args below meth c H locs cells slots mc ms lc f0 hI hL hR hS h1 h2 h3 h4 h5
  have hv : mx_v X (.ref a) = .ref (X.1 + a) := by simp [mx_v, mx_ad, ha]
  rw [List.map_cons, List.map_cons, List.map_cons, hv]
  refine va_last (H0 := H) hI.1 hI.2.1 hI.2.2.2.2.2.2.2.2.2.2.1.1 hR.1 (mx_w_D X C _) (mx_S_rf hS) a 1 (mx_w_at (C := C) (h := (f, sh, M, L, Rf)) hs) rfl (iI_in hi0 hi1 hn) hd (fun H1 locs1 q1 _ q3 => ?_)
  refine mx_st_tail kk hI hL hR hS h1 h2 h3 h4 h5 ?_ q3 rfl rfl
  have e0 := mx_w_set (X := X) (C := C) (h := (f, sh, M, L, Rf)) (h2 := (f, sh, M, va_up L a (va_up (L a) i.toNat x), Rf)) rfl hs (fun _ _ => rfl) (fun j hj => by show va_up L a _ j = L j; simp [va_up, hj]) (fun _ _ => rfl)
  have e1 : mx_cell X C (f, sh, M, va_up L a (va_up (L a) i.toNat x), Rf) a (1, n) = .inl (C.2.1, n, .inr (.inl (vp_updL (L a) (iI i).toNatClampNeg x))) := by
    rw [iI_clamp hi0 (by omega)]
    simp only [mx_cell, va_up, if_true]
    rfl
  rw [← e0, e1]
  exact q1
end MXH
