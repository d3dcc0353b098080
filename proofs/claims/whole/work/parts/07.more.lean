section MXM
variable {S : mx_Sc} {μ : mx_M} {pc : Nat} {ls : List (Option Value)} {st : List Value} {bc bs : Nat} {P : Option Value → mx_H → Prop} {PX : String → mx_H → Prop}
variable {f : Bool} {sh : List (Nat × Nat)} {M : Nat → Int → Int} {L : Nat → Nat → Int64} {Rf : Nat → Nat → Option Nat}
/-- the world with one thing more -/
theorem mx_w_push {X : mx_X} {C : mx_Cs} {h h2 : mx_H} {q : Nat × Nat} (hs : h2.2.1 = h.2.1 ++ [q]) (h1 : ∀ k, k ≠ h.2.1.length → h2.2.2.1 k = h.2.2.1 k) (h3 : ∀ k, k ≠ h.2.1.length → h2.2.2.2.1 k = h.2.2.2.1 k) (h4 : ∀ k, k ≠ h.2.1.length → h2.2.2.2.2 k = h.2.2.2.2 k) :
    mx_w X C h ++ [(X.1 + h.2.1.length, mx_cell X C h2 h.2.1.length q)] = mx_w X C h2 := by
  refine List.ext_getElem? fun i => ?_
  have hl : (mx_w X C h).length = h.2.1.length := by simp [mx_w]
  by_cases hi : i < h.2.1.length
  · rw [List.getElem?_append_left (by omega)]
    obtain ⟨z, hz⟩ : ∃ z, h.2.1[i]? = some z := ⟨_, List.getElem?_eq_getElem hi⟩
    rw [mx_w_at hz, mx_w_at (h := h2) (q := z) (by rw [hs, List.getElem?_append_left hi]; exact hz)]
    rw [mx_cell_congr (h1 i (by omega)) (h3 i (by omega)) (h4 i (by omega))]
  · by_cases he : i = h.2.1.length
    · subst he
      rw [List.getElem?_append_right (by omega), hl, Nat.sub_self, mx_w_at (h := h2) (q := q) (by rw [hs]; simp)]
      rfl
    · rw [List.getElem?_eq_none (by simp [hl]; omega), List.getElem?_eq_none (by simp [mx_w, hs]; omega)]
theorem mx_new_tail {X : mx_X} {C : mx_Cs} {D : va_G} {p : Program} {l : Launch} {e : Env} {R : Room} {s : State} {m : MethodId} {args : Array Value} {below : List Frame} {meth : Method} {c : Code} {H H1 : Heap} {locs : List Loc} {cells slots mc ms n : Nat} {lc : Array Slot} {f0 : Bool} {h h2 : mx_H} {pc2 : Nat} {st2 : List Value} {q : Nat × Nat}
    (k : mx_E S μ pc2 ls (.ref h.2.1.length :: st2) h2 bc bs P PX) (hI : mx_I S μ X C D p l R s m args meth c) (hL : mx_L X (mx_nl μ) lc ls) (hR : mx_R X C D h H) (hS : va_S (mx_A X) s.heap H locs) (h1 : cells + (bc + 1) = mc) (h2' : slots + (bs + n) = ms) (h3 : mc ≤ R.cells) (h4 : ms ≤ R.slots) (h5 : h.1 = true → f0 = true ∧ s.heap.size + cells ≤ H.size)
    (hf : h.1 = true) (hlen : h.2.1.length < 1000) (hz : H1.size = H.size + 1) (ho : ∀ q, q < H.size → H1[q]? = H[q]?) (hs : h2.2.1 = h.2.1 ++ [q]) (h6 : ∀ k, k ≠ h.2.1.length → h2.2.2.1 k = h.2.2.1 k) (h7 : ∀ k, k ≠ h.2.1.length → h2.2.2.2.1 k = h.2.2.2.1 k) (h8 : ∀ k, k ≠ h.2.1.length → h2.2.2.2.2 k = h.2.2.2.2 k)
    (hc : va_at D vwCl (X.1 + h.2.1.length, mx_cell X C h2 h.2.1.length q) H1) :
    W p l e R s m args below meth c H1 locs (cells + 1) (slots + n) (vx_MQ below (mx_Qc X C D f0 mc P) (mx_XC X C D PX) args s mc ms (mx_A X)) (F0 m pc2 lc (.ref H.size :: st2.map (mx_v X))) := by
  have hsz := hR.2.1 hf
  have hP1 : va_P D vwCl (mx_w X C h2) H1 := by
    rw [← mx_w_push (h := h) hs h6 h7 h8]
    refine (hR.1.kept fun k z hz' => ho z.1 ((hR.1 k z hz').lt)).app fun k z hz' => ?_
    have hk : k < 1 := (List.getElem?_eq_some_iff.mp hz').1
    rw [show k = 0 by omega] at hz'
    cases hz'
    exact hc
  have hR1 : mx_R X C D h2 H1 := ⟨hP1, fun _ => by rw [hs, List.length_append, hz, hsz]; simp; omega, by have := hR.2.2; omega⟩
  have hS1 : va_S (mx_A X) s.heap H1 locs := ⟨by have := hS.1; omega, fun z hz1 hz2 => (ho z (Nat.lt_of_lt_of_le hz1 hS.1)).trans (hS.2.1 z hz1 hz2), hS.2.2⟩
  have := k X C D p l e R s m args below meth c H1 locs (cells + 1) (slots + n) mc ms lc f0 hI hL hR1 hS1 (by omega) (by omega) h3 h4 (fun _ => ⟨(h5 hf).1, by have := (h5 hf).2; omega⟩)
  rw [List.map_cons, show mx_v X (.ref h.2.1.length) = .ref H.size by simp [mx_v, mx_ad, hlen, hsz]] at this
  exact this
def mx_tok (t : FieldType) : Bool := match t with
  | .int => true
  | .boolean => true
  | .object _ => true
  | .array _ => true
  | _ => false
theorem mx_ty_ok (ci j : Nat) : mx_tok (mx_ty ci j) = true := by
  have h0 : mx_tok (tyX0 j) = true := by unfold tyX0; split <;> rfl
  have h1 : mx_tok (tyX1 j) = true := by unfold tyX1; split <;> rfl
  have h2 : mx_tok (tyX2 j) = true := by unfold tyX2; split <;> rfl
  have h3 : mx_tok (tyX3 j) = true := by unfold tyX3; split <;> rfl
  have h4 : mx_tok (tyX4 j) = true := by unfold tyX4; split <;> rfl
  have h5 : mx_tok (tyX5 j) = true := by unfold tyX5; split <;> rfl
  have h6 : mx_tok (tyX6 j) = true := by unfold tyX6; split <;> rfl
  have h7 : mx_tok (tyX7 j) = true := by unfold tyX7; split <;> rfl
  match ci with
  | 0 => exact h0
  | 1 => exact h1
  | 2 => exact h2
  | 3 => exact h3
  | 4 => exact h4
  | 5 => exact h5
  | 6 => exact h6
  | _ + 7 => exact h7
theorem ms_new {idx ci : Nat} {r : vw_C} (hd : decode (mx_b μ) pc = .ok (.new idx, 3)) (hc : mx_clOK ci r) (hw : Cond.classLink (mx_y μ).cls idx r.1 ∈ mx_T ∧ Cond.instantiable r.1 r.2.2 ∈ mx_T ∧ Cond.initialized r.1 ∈ mx_T) (hlen : sh.length < 1000)
    (kk : mx_E S μ (pc + 3) ls (.ref sh.length :: st) (true, sh ++ [(ci + 3, r.2.2)], va_up M sh.length (fun _ => 0), L, va_up Rf sh.length (fun _ => none)) bc bs P PX) : mx_E S μ pc ls st (true, sh, M, L, Rf) (bc + 1) (bs + r.2.2) P PX := by
  intro X C D p l e R s m args below meth c H locs cells slots mc ms lc f0 hI hL hR hS h1 h2 h3 h4 h5
  obtain ⟨C1, T1, N1⟩ := r
  obtain ⟨hc, hws, hty, hnm⟩ := hc
  have hKn := hI.2.2.2.2.2.2.2.2.2.2.1.1.1 ci _ hc
  refine W.newcK hI.1 hI.2.1 hI.2.2.2.1 (hI.2.2.2.2.1 _ hw.1) (hI.2.2.2.2.1 _ hw.2.1) (hI.2.2.2.2.1 _ hw.2.2) rfl hd (by omega) (by omega) hKn.2.1 rfl fun H1 kC hkC e1 z1 o1 => ?_
  refine mx_new_tail (h := (true, sh, M, L, Rf)) (q := (ci + 3, N1)) kk hI hL hR hS h1 h2 h3 h4 h5 rfl hlen z1 o1 rfl (fun k hk => by show va_up M _ _ k = M k; exact if_neg hk) (fun _ _ => rfl) (fun k hk => by show va_up Rf _ _ k = Rf k; exact if_neg hk) ?_
  have hsz : H.size = X.1 + sh.length := hR.2.1 rfl
  refine ⟨_, hc, ?_⟩
  rw [hsz] at e1
  refine (u_born (mx_ty ci) hI.2.2.2.2.1 hws hKn hkC e1 hty).to fun j hj => ?_
  show defaultValue (mx_ty ci j) = vp_V ((List.range N1).map (mx_fv X ci (true, sh ++ [(ci + 3, N1)], va_up M sh.length (fun _ => 0), L, va_up Rf sh.length (fun _ => none)) sh.length)) j
  have e2 : vp_V ((List.range N1).map (mx_fv X ci (true, sh ++ [(ci + 3, N1)], va_up M sh.length (fun _ => 0), L, va_up Rf sh.length (fun _ => none)) sh.length)) j = mx_fv X ci (true, sh ++ [(ci + 3, N1)], va_up M sh.length (fun _ => 0), L, va_up Rf sh.length (fun _ => none)) sh.length j := by
    have hj2 : j < N1 := hj
    simp [vp_V, hj2]
  rw [e2]
  have hok := mx_ty_ok ci j
  simp only [mx_fv, va_up, if_true]
  generalize mx_ty ci j = t at hok ⊢
  cases t <;> first | rfl | cases hok
theorem ms_newi {z : Int} (hd : decode (mx_b μ) pc = .ok (.newarray .int, 2)) (hw : Cond.arrayClass .int ∈ mx_T) {N : Nat} (hN : (N : Int) = z) (hb : N * 4 ≤ 536870912) (hlen : sh.length < 1000)
    (kk : mx_E S μ (pc + 2) ls (.ref sh.length :: st) (true, sh ++ [(0, N)], va_up M sh.length (fun _ => 0), L, Rf) bc bs P PX) : mx_E S μ pc ls (.int (iI z) :: st) (true, sh, M, L, Rf) (bc + 1) (bs + N) P PX := by
  intro X C D p l e R s m args below meth c H locs cells slots mc ms lc f0 hI hL hR hS h1 h2 h3 h4 h5
  have hN9 : (iI z).toNatClampNeg = N := by rw [iI_clamp (by omega) (by omega)]; omega
  have hn : ¬ iI z < 0 := by rw [Int32.lt_iff_toInt_lt, iI_toInt (by omega) (by omega)]; show ¬ z < 0; omega
  refine va_newaK (atype := .int) hI.1 hI.2.1 (hI.2.2.2.2.1 _ hw) rfl hd rfl hn hN9 hb (by omega) (by omega) rfl fun H1 cA e1 z1 o1 _ hNm => ?_
  refine mx_new_tail (h := (true, sh, M, L, Rf)) (q := (0, N)) kk hI hL hR hS h1 h2 h3 h4 h5 rfl hlen z1 o1 rfl (fun k hk => by show va_up M _ _ k = M k; exact if_neg hk) (fun _ _ => rfl) (fun _ _ => rfl) ?_
  have hsz : H.size = X.1 + sh.length := hR.2.1 rfl
  have hcA : cA = C.1 := Option.some.inj (hNm.symm.trans (hI.2.2.2.2.2.2.2.2.2.2.1.1.2 0 _ rfl).2)
  subst hcA
  show H1[X.1 + sh.length]? = some (vp_cell C.1 (N, .inl (fun j => iI (va_up M sh.length (fun _ => 0) sh.length (j : Int)))))
  rw [← hsz, e1]
  simp only [va_up, if_true]
  rfl
theorem ms_newl {z : Int} (hd : decode (mx_b μ) pc = .ok (.newarray .long, 2)) (hw : Cond.arrayClass .long ∈ mx_T) {N : Nat} (hN : (N : Int) = z) (hb : N * 8 ≤ 536870912) (hlen : sh.length < 1000)
    (kk : mx_E S μ (pc + 2) ls (.ref sh.length :: st) (true, sh ++ [(1, N)], M, va_up L sh.length (fun _ => 0), Rf) bc bs P PX) : mx_E S μ pc ls (.int (iI z) :: st) (true, sh, M, L, Rf) (bc + 1) (bs + N) P PX := by
  intro X C D p l e R s m args below meth c H locs cells slots mc ms lc f0 hI hL hR hS h1 h2 h3 h4 h5
  have hN9 : (iI z).toNatClampNeg = N := by rw [iI_clamp (by omega) (by omega)]; omega
  have hn : ¬ iI z < 0 := by rw [Int32.lt_iff_toInt_lt, iI_toInt (by omega) (by omega)]; show ¬ z < 0; omega
  refine va_newaK (atype := .long) hI.1 hI.2.1 (hI.2.2.2.2.1 _ hw) rfl hd rfl hn hN9 hb (by omega) (by omega) rfl fun H1 cA e1 z1 o1 _ hNm => ?_
  refine mx_new_tail (h := (true, sh, M, L, Rf)) (q := (1, N)) kk hI hL hR hS h1 h2 h3 h4 h5 rfl hlen z1 o1 rfl (fun _ _ => rfl) (fun k hk => by show va_up L _ _ k = L k; exact if_neg hk) (fun _ _ => rfl) ?_
  have hsz : H.size = X.1 + sh.length := hR.2.1 rfl
  have hcA : cA = C.2.1 := Option.some.inj (hNm.symm.trans (hI.2.2.2.2.2.2.2.2.2.2.1.1.2 1 _ rfl).2)
  subst hcA
  show H1[X.1 + sh.length]? = some (vp_cell C.2.1 (N, .inr (.inl (va_up L sh.length (fun _ => 0) sh.length))))
  rw [← hsz, e1]
  simp only [va_up, if_true]
  rfl
theorem ms_newq {idx : Nat} {z : Int} (hd : decode (mx_b μ) pc = .ok (.anewarray idx, 3)) (hw : Cond.classLink (mx_y μ).cls idx "java/lang/String" ∈ mx_T) {N : Nat} (hN : (N : Int) = z) (hb : N * 4 ≤ 536870912) (hlen : sh.length < 1000)
    (kk : mx_E S μ (pc + 3) ls (.ref sh.length :: st) (true, sh ++ [(2, N)], M, L, va_up Rf sh.length (fun _ => none)) bc bs P PX) : mx_E S μ pc ls (.int (iI z) :: st) (true, sh, M, L, Rf) (bc + 1) (bs + N) P PX := by
  intro X C D p l e R s m args below meth c H locs cells slots mc ms lc f0 hI hL hR hS h1 h2 h3 h4 h5
  have hN9 : (iI z).toNatClampNeg = N := by rw [iI_clamp (by omega) (by omega)]; omega
  have hn : ¬ iI z < 0 := by rw [Int32.lt_iff_toInt_lt, iI_toInt (by omega) (by omega)]; show ¬ z < 0; omega
  clear hN
  subst hN9
  refine W.anew hI.1 hI.2.1 hI.2.2.2.1 (hI.2.2.2.2.1 _ hw) (va_AO.use hI.2.2.2.2.2.2.2.2.2.2.1.2.2.1) rfl hd rfl hn hb (by omega) (by omega) fun cA kA comp f1 f2 f3 f4 => ?_
  have hsz : H.size = X.1 + sh.length := hR.2.1 rfl
  refine mx_new_tail (h := (true, sh, M, L, Rf)) (q := (2, (iI z).toNatClampNeg)) kk hI hL hR hS h1 h2 h3 h4 h5 rfl hlen (by rw [Array.size_push]) (fun q hq => by rw [Array.getElem?_push, if_neg (Nat.ne_of_lt hq)]) rfl (fun _ _ => rfl) (fun _ _ => rfl) (fun k hk => by show va_up Rf _ _ k = Rf k; exact if_neg hk) ?_
  have hcA : cA = C.2.2 := by
    obtain ⟨_, _, -, -, -, z4⟩ := (hI.2.2.2.2.2.2.2.2.2.2.1.1.2 2 _ rfl).2
    exact Option.some.inj (f1.symm.trans z4)
  subst hcA
  show (H.push _)[X.1 + sh.length]? = some (vp_cell C.2.2 ((iI z).toNatClampNeg, .inr (.inr (.inr (.inr (fun i => (va_up Rf sh.length (fun _ => none) sh.length i).map (mx_ad X)))))))
  rw [← hsz, Array.getElem?_push_size, arrV_new]
  simp only [va_up, if_true]
  rfl
end MXM
