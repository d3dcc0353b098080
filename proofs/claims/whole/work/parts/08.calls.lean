section MXC
variable {S : mx_Sc} {μ κ : mx_M} {pc : Nat} {ls : List (Option Value)} {st : List Value} {h : mx_H} {bc bs : Nat} {P : Option Value → mx_H → Prop} {PX : String → mx_H → Prop}
variable {f : Bool} {sh : List (Nat × Nat)} {M : Nat → Int → Int} {L : Nat → Nat → Int64} {Rf : Nat → Nat → Option Nat}
theorem ms_ret {v : Int32} (hd : decode (mx_b μ) pc = .ok (.ireturn, 1)) (hr : mx_rt μ = some .int) (hP : P (some (.int v)) h) (hb : h.1 = true → bc = 0) : mx_E S μ pc ls [.int v] h bc bs P PX := by
  intro X C D p l e R s m args below meth c H locs cells slots mc ms lc f0 hI hL hR hS h1 h2 h3 h4 h5
  refine vx_ret (W.widen (k := mc) (n := ms) (by omega) (by omega) ?_)
  exact W.iret hI.1 hI.2.1 (hI.2.2.2.2.2.2.1.trans hr) (fun t ht _ => ⟨⟨some (.int v), h, rfl, hP, by rw [ht]; exact hR, fun q => ⟨(h5 q).1, by have := (h5 q).2; have := hb q; rw [ht]; omega⟩⟩, hS.F ht⟩) hS.2.2 hd hI.2.2.2.2.2.1
theorem ms_retZ {v : Int32} (hd : decode (mx_b μ) pc = .ok (.ireturn, 1)) (hr : mx_rt μ = some .boolean) (hz : v = 0 ∨ v = 1) (hP : P (some (.int v)) h) (hb : h.1 = true → bc = 0) : mx_E S μ pc ls [.int v] h bc bs P PX := by
  intro X C D p l e R s m args below meth c H locs cells slots mc ms lc f0 hI hL hR hS h1 h2 h3 h4 h5
  refine vx_ret (W.widen (k := mc) (n := ms) (by omega) (by omega) ?_)
  exact W.zret hI.1 hI.2.1 (hI.2.2.2.2.2.2.1.trans hr) (by rcases hz with rfl | rfl <;> rfl) (fun t ht _ => ⟨⟨some (.int v), h, rfl, hP, by rw [ht]; exact hR, fun q => ⟨(h5 q).1, by have := (h5 q).2; have := hb q; rw [ht]; omega⟩⟩, hS.F ht⟩) hS.2.2 hd hI.2.2.2.2.2.1
theorem ms_retN {v : Int32} {ty : FieldType} (hd : decode (mx_b μ) pc = .ok (.ireturn, 1)) (hr : mx_rt μ = some ty) (hz : narrow ty (.int v) = .int v) (hP : P (some (.int v)) h) (hb : h.1 = true → bc = 0) : mx_E S μ pc ls [.int v] h bc bs P PX := by
  intro X C D p l e R s m args below meth c H locs cells slots mc ms lc f0 hI hL hR hS h1 h2 h3 h4 h5
  refine vx_ret (W.widen (k := mc) (n := ms) (by omega) (by omega) ?_)
  exact W.zret hI.1 hI.2.1 (hI.2.2.2.2.2.2.1.trans hr) hz (fun t ht _ => ⟨⟨some (.int v), h, rfl, hP, by rw [ht]; exact hR, fun q => ⟨(h5 q).1, by have := (h5 q).2; have := hb q; rw [ht]; omega⟩⟩, hS.F ht⟩) hS.2.2 hd hI.2.2.2.2.2.1
theorem ms_retL {v : Int64} (hd : decode (mx_b μ) pc = .ok (.lreturn, 1)) (hr : mx_rt μ = some .long) (hP : P (some (.long v)) h) (hb : h.1 = true → bc = 0) : mx_E S μ pc ls [.long v] h bc bs P PX := by
  intro X C D p l e R s m args below meth c H locs cells slots mc ms lc f0 hI hL hR hS h1 h2 h3 h4 h5
  refine vx_ret (W.widen (k := mc) (n := ms) (by omega) (by omega) ?_)
  exact W.lret hI.1 hI.2.1 (hI.2.2.2.2.2.2.1.trans hr) (fun t ht _ => ⟨⟨some (.long v), h, rfl, hP, by rw [ht]; exact hR, fun q => ⟨(h5 q).1, by have := (h5 q).2; have := hb q; rw [ht]; omega⟩⟩, hS.F ht⟩) hS.2.2 hd hI.2.2.2.2.2.1
theorem ms_retV (hd : decode (mx_b μ) pc = .ok (.return_, 1)) (hr : mx_rt μ = none) (hP : P none h) (hb : h.1 = true → bc = 0) : mx_E S μ pc ls [] h bc bs P PX := by
  intro X C D p l e R s m args below meth c H locs cells slots mc ms lc f0 hI hL hR hS h1 h2 h3 h4 h5
  refine vx_ret (W.widen (k := mc) (n := ms) (by omega) (by omega) ?_)
  exact W.vret hI.1 hI.2.1 (hI.2.2.2.2.2.2.1.trans hr) (fun t ht _ => ⟨⟨none, h, rfl, hP, by rw [ht]; exact hR, fun q => ⟨(h5 q).1, by have := (h5 q).2; have := hb q; rw [ht]; omega⟩⟩, hS.F ht⟩) hS.2.2 hd hI.2.2.2.2.2.1
/-- exactness may be dropped; budgets may be cut -/
theorem ms_free (kk : mx_E S μ pc ls st (false, sh, M, L, Rf) bc bs P PX) : mx_E S μ pc ls st (f, sh, M, L, Rf) bc bs P PX := by
  intro X C D p l e R s m args below meth c H locs cells slots mc ms lc f0 hI hL hR hS h1 h2 h3 h4 h5
  exact kk X C D p l e R s m args below meth c H locs cells slots mc ms lc f0 hI hL ⟨hR.1, (fun q => by cases q), hR.2.2⟩ hS h1 h2 h3 h4 (fun q => by cases q)
theorem ms_conseq {P2 : Option Value → mx_H → Prop} {PX2 : String → mx_H → Prop} (hP : ∀ v h', P2 v h' → P v h') (hX : ∀ E h', PX2 E h' → PX E h') (kk : mx_E S μ pc ls st h bc bs P2 PX2) : mx_E S μ pc ls st h bc bs P PX := by
  intro X C D p l e R s m args below meth c H locs cells slots mc ms lc f0 hI hL hR hS h1 h2 h3 h4 h5 T hT X9
  obtain ⟨t, a1, o, b1, b2, b3⟩ := (kk X C D p l e R s m args below meth c H locs cells slots mc ms lc f0 hI hL hR hS h1 h2 h3 h4 h5) T hT X9
  refine ⟨t, a1, o, b1, b2, ?_⟩
  rcases b3 with ⟨⟨⟨v, h', c1, c2, c3⟩, c4⟩, c5⟩ | ⟨q, c1, E, ce, L1, ⟨⟨h', c2, c3⟩, c4⟩, c5⟩
  · exact Or.inl ⟨⟨⟨v, h', c1, hP v h' c2, c3⟩, c4⟩, c5⟩
  · exact Or.inr ⟨q, c1, E, ce, L1, ⟨⟨h', hX E h' c2, c3⟩, c4⟩, c5⟩
/-- throw new cls() -/
def mx_exn : List String := ["java/lang/RuntimeException", "java/lang/Exception"]
def mx_thOK (μ : mx_M) (ik ic : Nat) (cls : String) : Prop := Bundle.fit cls = true ∧ (∀ n ∈ mx_exn, Bundle.fit n = true) ∧ Cond.classLink (mx_y μ).cls ik cls ∈ mx_T ∧ Cond.initialized cls ∈ mx_T ∧ (∀ w ∈ vx_at0 (mx_y μ).cls ic cls mx_exn, w ∈ mx_T ∨ w ∈ mx_Bd) ∧ (∀ w ∈ Cond.classLink (mx_y μ).cls ik cls :: Cond.initialized cls :: vx_at0 (mx_y μ).cls ic cls mx_exn, vx_ot w = true) ∧ 5 < mx_fr μ ∧ mx_tb μ = []
theorem ms_throw {ik ic : Nat} {cls : String} (hok : mx_thOK μ ik ic cls) (d0 : decode (mx_b μ) pc = .ok (.new ik, 3)) (d3 : decode (mx_b μ) (pc + 3) = .ok (.dup, 1)) (d4 : decode (mx_b μ) (pc + 4) = .ok (.invokespecial ic, 3)) (d7 : decode (mx_b μ) (pc + 7) = .ok (.athrow, 1))
    (hlo : (st.map fun v => v.category).sum + 81 ≤ mx_lo μ) (hX : PX cls (false, sh, M, L, Rf)) : mx_E S μ pc ls st (f, sh, M, L, Rf) (bc + 1) (bs + 6) P PX := by
  intro X C D p l e R s m args below meth c H locs cells slots mc ms lc f0 hI hL hR hS h1 h2 h3 h4 h5
  obtain ⟨g1, g2, g3, g4, g5, g6, g7, g8⟩ := hok
  have hts := hI.2.2.2.2.1
  have hcat : ((st.map (mx_v X)).map fun v => v.category) = st.map fun v => v.category := by
    rw [List.map_map]
    exact List.map_congr_left fun v _ => mx_v_cat X v
  have hfr := hI.2.2.2.2.2.2.2.2.2.2.2.1
  have hlo2 := hI.2.2.2.2.2.2.2.2.2.2.2.2
  refine vx_throw0 (names := mx_exn) (A := mx_A X) hI.1 hI.2.1 hI.2.2.2.2.2.2.2.2.2.1 hI.2.2.2.1 g1 g2 (hts _ g3) (hts _ g4) (fun w hw => ?_) g6 hI.2.2.2.2.2.2.2.2.2.2.1.2.2.2.1.1 hI.2.2.2.2.2.2.2.2.2.2.1.2.2.2.1.2 hS (hL.1.trans hI.2.2.1.symm) d0 d3 d4 d7 ?_ ?_ ?_ (by omega) (by omega) hI.2.2.2.2.2.1 ?_ hS.2.2 (by omega) (by omega)
  · rcases g5 w hw with z | z
    · exact hts w z
    · exact va_Nw.use (mx_bok_tab (List.mem_filter.mp z).2) (hI.2.2.2.2.2.2.2.2.2.2.1.2.1 w z)
  · intro x hx
    rw [hI.2.2.2.2.2.2.2.2.1, g8] at hx
    cases hx
  · show 2 + 3 < R.frames
    omega
  · rw [hcat]
    show _ + (13 * (2 + 1) + 42) ≤ R.locals
    omega
  · intro t _ hz hk
    refine ⟨⟨(false, sh, M, L, Rf), hX, hR.1.kept fun k z hz' => hk z.1 ((hR.1 k z hz').lt), (fun q => by cases q), Nat.le_trans hR.2.2 hz⟩, Nat.le_trans hS.1 hz, fun q hq hA => (hk q (Nat.lt_of_lt_of_le hq hS.1)).trans (hS.2.1 q hq hA)⟩
theorem mx_args_mem : ∀ (vs : List Value) (j i : Nat) (v : Value), (∀ v ∈ vs, v.category = 1) → vs[i]? = some v → (j + i, v) ∈ lv_args j vs
  | [], _, _, _, _, h => by simp at h
  | w :: vs, j, i, v, hc, h => by
    have hw : ¬ w.category = 2 := by rw [hc w List.mem_cons_self]; omega
    simp only [lv_args, if_neg hw]
    cases i with
    | zero =>
      rw [List.getElem?_cons_zero] at h
      cases h
      exact List.mem_cons_self
    | succ i =>
      rw [List.getElem?_cons_succ] at h
      have := mx_args_mem vs (j + 1) i v (fun v hv => hc v (List.mem_cons_of_mem _ hv)) h
      rw [show j + (i + 1) = j + 1 + i by omega]
      exact List.mem_cons_of_mem _ this
theorem mx_sl_len : ∀ (vs : List Value), (∀ v ∈ vs, v.category = 1) → (lg_sl vs).length = vs.length
  | [], _ => rfl
  | w :: vs, hc => by
    have hw : ¬ w.category = 2 := by rw [hc w List.mem_cons_self]; omega
    have := mx_sl_len vs (fun v hv => hc v (List.mem_cons_of_mem _ hv))
    simp only [lg_sl] at this
    simp only [lg_sl, List.flatMap_cons, if_neg hw, List.length_append, this]
    simp
    omega
theorem mx_entry {X : mx_X} {n : Nat} {av : List Value} (hav : ∀ v ∈ av, v.category = 1) (hn : av.length ≤ n) : mx_L X n ((lg_sl (av.map (mx_v X)) ++ List.replicate (n - (lg_sl (av.map (mx_v X))).length) Slot.unset).toArray) (av.map some ++ List.replicate (n - av.length) none) := by
  have hav2 : ∀ v ∈ av.map (mx_v X), v.category = 1 := fun v hv => by
    obtain ⟨w, hw, rfl⟩ := List.mem_map.mp hv
    rw [mx_v_cat]
    exact hav w hw
  have hl := mx_sl_len _ hav2
  have h := lv_entry (av.map (mx_v X)) (n := n) (by rw [hl, List.length_map]; exact hn)
  refine ⟨h.1, h.2.1, fun i v hi => ?_⟩
  by_cases hlt : i < av.length
  · rw [List.getElem?_append_left (by simpa using hlt), List.getElem?_map] at hi
    obtain ⟨w, hw, e⟩ := Option.map_eq_some_iff.mp hi
    cases e
    have := h.2.2 (0 + i, mx_v X v) (mx_args_mem _ 0 i _ hav2 (by rw [List.getElem?_map, hw]; rfl))
    rwa [Nat.zero_add] at this
  · rw [List.getElem?_append_right (by simp; omega), List.getElem?_replicate] at hi
    split at hi <;> cases hi
/-- from the body to the contract -/
theorem mx_C_of {av : List Value} (hy : plainName (mx_y μ).cls = true) (hav : ∀ v ∈ av, v.category = 1) (hn : av.length ≤ mx_nl μ) (htb : mx_tb μ = [])
    (hbody : mx_E S μ 0 (av.map some ++ List.replicate (mx_nl μ - av.length) none) [] h bc bs P PX) : mx_C S μ av h bc bs P PX := by
  intro X C D l hl
  refine vx_ofW (cc := mx_b μ) (maxL := mx_nl μ) (ret := mx_rt μ) (ws' := mx_T) hy (by simp only [mx_cw, htb, if_true]) ?_
  intro p e s m args below meth c s₁ B hml ht hv
  obtain ⟨rfl, hR, hK⟩ := hv
  have hts := atoms_spec (ws := mx_cw μ :: mx_T) B.pre
  have hI : mx_I S μ X C D p l ({ frames := mx_fr μ, cells := bc, slots := bs, locals := mx_lo μ } : Room) s m ((av.map (mx_v X)).toArray) meth c :=
    ⟨B.exec, B.bytes, hml, findClass_of_methodNamed B.named, fun w hw => hts w (List.mem_cons_of_mem _ hw), B.notSynchronized, B.returns, (name_of_methodNamed B.named B.method).1, by
      rw [htb]
      cases hq : c.exceptionTable.toList with
      | nil => rfl
      | cons x r => exact (ht x (by rw [hq]; exact List.mem_cons_self)).elim, hl, hK, Nat.le_refl _, Nat.le_refl _⟩
  rw [lg_entry_eq]
  exact hbody X C D p l e _ s m _ below meth c s.heap [] 0 0 bc bs _ h.1 hI (mx_entry hav hn) hR va_S.rf (Nat.zero_add _) (Nat.zero_add _) (Nat.le_refl _) (Nat.le_refl _) (fun q => ⟨q, by omega⟩)
theorem mx_C_ofH {av : List Value} (hy : plainName (mx_y μ).cls = true) (hav : ∀ v ∈ av, v.category = 1) (hn : av.length ≤ mx_nl μ) (htb : mx_tb μ ≠ [])
    (hbody : mx_E S μ 0 (av.map some ++ List.replicate (mx_nl μ - av.length) none) [] h bc bs P PX) : mx_C S μ av h bc bs P PX := by
  intro X C D l hl
  have hcw : mx_cw μ = Cond.codeWith (mx_y μ) (mx_b μ) (mx_nl μ) (mx_rt μ) (mx_tb μ) := by simp only [mx_cw, htb, if_false]
  refine vx_ofWH (cc := mx_b μ) (maxL := mx_nl μ) (ret := mx_rt μ) (ws' := mx_T) (hh := mx_tb μ) hy (by rw [hcw]) ?_
  intro p e s m args below meth c s₁ B hml hv
  obtain ⟨rfl, hR, hK⟩ := hv
  have hts := atoms_spec (ws := mx_cw μ :: mx_T) B.pre
  have hI : mx_I S μ X C D p l ({ frames := mx_fr μ, cells := bc, slots := bs, locals := mx_lo μ } : Room) s m ((av.map (mx_v X)).toArray) meth c :=
    ⟨B.exec, B.bytes, hml, findClass_of_methodNamed B.named, fun w hw => hts w (List.mem_cons_of_mem _ hw), B.notSynchronized, B.returns, (name_of_methodNamed B.named B.method).1, vx_table (x := mx_y μ) B (hcw ▸ hts _ List.mem_cons_self), hl, hK, Nat.le_refl _, Nat.le_refl _⟩
  rw [lg_entry_eq]
  exact hbody X C D p l e _ s m _ below meth c s.heap [] 0 0 bc bs _ h.1 hI (mx_entry hav hn) hR va_S.rf (Nat.zero_add _) (Nat.zero_add _) (Nat.le_refl _) (Nat.le_refl _) (fun q => ⟨q, by omega⟩)
theorem mx_blind {X : mx_X} {C : mx_Cs} {D : va_G} {av : List Value} : FrameBlind (mx_Pc S X C D av h) := fun a U g mk q => ⟨q.1, q.2.1, q.2.2.same rfl⟩
theorem mx_pre {X : mx_X} {C : mx_Cs} {D : va_G} {av : List Value} {s : State} {H : Heap} {locs : List Loc} (hR : mx_R X C D h H) (hK : mx_K S X C D s s.heap) (hS : va_S (mx_A X) s.heap H locs) (U : State) (hU : U.heap = H) (hW : s.WarmedH U.vm) : mx_Pc S X C D av h (av.map (mx_v X)).toArray U :=
  ⟨rfl, by rw [hU]; exact hR, by rw [hU]; exact hK.go hW hS.1 hS.2.1⟩
/-- behind a call -/
theorem mx_call {X : mx_X} {C : mx_Cs} {D : va_G} {p : Program} {l : Launch} {e : Env} {R : Room} {s : State} {m : MethodId} {args : Array Value} {below : List Frame} {meth : Method} {c : Code} {H : Heap} {locs : List Loc} {cells slots mc ms bc1 bs1 : Nat} {lc : Array Slot} {f0 : Bool} {stk : List Value} {Pk : Option Value → mx_H → Prop} {PXk : String → mx_H → Prop} {a : Array Value}
    (hr : vx_Run p l e R s m args below meth c H locs cells slots bc1 bs1 (F0 m pc lc stk) (st.map (mx_v X)) (mx_Qc X C D h.1 bc1 Pk a) (mx_XC X C D PXk) (mx_A X)) (hI : mx_I S μ X C D p l R s m args meth c) (hL : mx_L X (mx_nl μ) lc ls) (hS : va_S (mx_A X) s.heap H locs) (h1 : cells + (bc1 + bc) = mc) (h2' : slots + (bs1 + bs) = ms) (h3 : mc ≤ R.cells) (h4 : ms ≤ R.slots) (h5 : h.1 = true → f0 = true ∧ s.heap.size + cells ≤ H.size)
    (kx : ∀ E h', PXk E h' → ∀ (ce : Cell) (q : Addr) (H1 : Heap) (locs1 : List Loc), mx_R X C D h' H1 → va_S (mx_A X) s.heap H1 locs1 → H1[q]? = some ce → ce.vm = .none → s.vm.findClass E = some ce.cls → vx_W p l e R s m args below meth c H1 locs1 (cells + bc1) (slots + bs1) (vx_MQ below (mx_Qc X C D f0 mc P) (mx_XC X C D PX) args s mc ms (mx_A X)) (F0 m pc lc (st.map (mx_v X))) q)
    (kk : ∀ v h', Pk v h' → mx_E S μ (pc + 3) ls (v.toList ++ st) h' bc bs P PX) :
    W p l e R s m args below meth c H locs cells slots (vx_MQ below (mx_Qc X C D f0 mc P) (mx_XC X C D PX) args s mc ms (mx_A X)) (F0 m pc lc stk) := by
  intro T hT X9
  rcases hr T hT X9 with ⟨v, st₀, t, T', L1, e0, X', hL1, e1, e2, ⟨⟨v', h', ev, hp, hR', hz'⟩, hF⟩, go⟩ | ⟨q, st₀, t, T', L1, E, ce, e0, X', hL1, e1, e2, ⟨⟨h', hpx, hR'⟩, hF⟩, hce, hcv, hcl, go⟩
  · have ev' : v = v'.map (mx_v X) := by cases ev; rfl
    subst ev'
    obtain ⟨k1, k2, k3⟩ := vx_keep e0 e1 hS (fun _ _ z => z) (fun _ z => z) hL1 hF
    have := kk v' h' hp X C D p l e R s m args below meth c T'.heap (locs ++ L1) (cells + bc1) (slots + bs1) mc ms lc f0 hI hL (by rw [e1]; exact hR') k3 (by omega) (by omega) h3 h4 (fun q => ⟨(h5 (hz' q).1).1, by have a1 := (h5 (hz' q).1).2; have a2 := (hz' q).2; rw [e0] at a2; rw [e1]; omega⟩) T' rfl X'
    obtain ⟨t2, a1, b1⟩ := this
    refine ⟨t2, go t2 ?_, b1⟩
    cases v' <;> exact a1
  · obtain ⟨k1, k2, k3⟩ := vx_keep e0 e1 hS (fun _ _ z => z) (fun _ z => z) hL1 hF
    obtain ⟨t2, a1, b1⟩ := kx E h' hpx ce q T'.heap (locs ++ L1) (by rw [e1]; exact hR') k3 (by rw [e1]; exact hce) hcv hcl T' rfl X'
    exact ⟨t2, go.trans a1, b1⟩
/-- not caught here -/
theorem mx_out {X : mx_X} {C : mx_Cs} {D : va_G} {p : Program} {l : Launch} {e : Env} {R : Room} {s : State} {m : MethodId} {args : Array Value} {below : List Frame} {meth : Method} {c : Code} {H1 : Heap} {locs1 : List Loc} {cells slots mc ms : Nat} {lc : Array Slot} {f0 : Bool} {rest : List Value} {E : String} {ce : Cell} {q : Addr} (hI : mx_I S μ X C D p l R s m args meth c) (htb : mx_tb μ = []) (hX : PX E h) (hR : mx_R X C D h H1) (hS : va_S (mx_A X) s.heap H1 locs1) (g1 : H1[q]? = some ce) (g2 : ce.vm = .none) (g3 : s.vm.findClass E = some ce.cls) (hc : cells ≤ mc) (hs : slots ≤ ms) :
    vx_W p l e R s m args below meth c H1 locs1 cells slots (vx_MQ below (mx_Qc X C D f0 mc P) (mx_XC X C D PX) args s mc ms (mx_A X)) (F0 m pc lc rest) q := by
  refine vx_out (fun x hx => ?_) hI.2.2.2.2.2.1 g1 g2 g3 (fun t ht _ => ⟨⟨h, hX, by rw [ht]; exact hR⟩, hS.F ht⟩) hS.2.2 hc hs
  rw [hI.2.2.2.2.2.2.2.2.1, htb] at hx
  cases hx
/-- what a call site has, of whatever kind -/
def mx_csOK (μ κ : mx_M) (n : Nat) : Prop := mx_cw κ ∈ mx_T ∧ Cond.initialized (mx_y κ).cls ∈ mx_T ∧ ((mx_y κ).cls ≠ "java/lang/invoke/MethodHandle" ∧ (mx_y κ).cls ≠ "java/lang/invoke/VarHandle" ∧ (parseMethodDescriptor (mx_y κ).desc).map (fun d => d.parameters.length) = some n) ∧ mx_fr κ + 1 ≤ mx_fr μ ∧ 8 + (mx_nl κ + 11) + mx_lo κ ≤ mx_lo μ
def mx_cvOK (μ κ : mx_M) (idx n : Nat) : Prop := mx_csOK μ κ n ∧ mx_tb κ = [] ∧ Cond.methodLink (mx_y μ).cls idx (mx_y κ) ∈ mx_T ∧ Cond.instanceMethod (mx_y κ) ∈ mx_T ∧ Cond.selects (mx_y κ).cls (mx_y κ) (mx_y κ) ∈ mx_T
def mx_ctOK (μ κ : mx_M) (idx n : Nat) : Prop := mx_csOK μ κ n ∧ mx_tb κ = [] ∧ Cond.methodLink (mx_y μ).cls idx (mx_y κ) ∈ mx_T ∧ Cond.static (mx_y κ) ∈ mx_T
theorem mx_gw {κ : mx_M} (h : mx_cw κ ∈ mx_T) : GoodIn mx_T (mx_cw κ :: mx_T) := fun w hw => (List.mem_cons.mp hw).elim (fun e => by rw [e]; exact mx_good _ h) (fun q => mx_good w q)
theorem mx_cat (X : mx_X) (st : List Value) : ((st.map (mx_v X)).map fun v => v.category) = st.map fun v => v.category := by
  rw [List.map_map]
  exact List.map_congr_left fun v _ => mx_v_cat X v
theorem ms_callV {idx n a ci : Nat} {r : vw_C} {As stk : List Value} {bc1 bs1 : Nat} {Pk : Option Value → mx_H → Prop} {PXk : String → mx_H → Prop} (hd : decode (mx_b μ) pc = .ok (.invokevirtual idx, 3)) (hok : mx_cvOK μ κ idx n) (hM : mx_C S κ (.ref a :: As) (f, sh, M, L, Rf) bc1 bs1 Pk PXk) (hci : vwCl[ci]? = some r) (hcn : r.1 = (mx_y κ).cls) (hs : sh[a]? = some (ci + 3, r.2.2)) (hst : stk = As.reverse ++ .ref a :: st) (hn : As.length = n) (hw : (st.map fun v => v.category).sum ≤ 8) (htb : mx_tb μ = [])
    (kx : ∀ E h', PXk E h' → PX E h') (kk : ∀ v h', Pk v h' → mx_E S μ (pc + 3) ls (v.toList ++ st) h' bc bs P PX) (ha : a < 1000 := by first | decide | omega) : mx_E S μ pc ls stk (f, sh, M, L, Rf) (bc1 + bc) (bs1 + bs) P PX := by
  intro X C D p l e R s m args below meth c H locs cells slots mc ms lc f0 hI hL hR hS h1 h2 h3 h4 h5
  obtain ⟨⟨c1, c2, c3, c4, c5⟩, htk, c6, c7, c8⟩ := hok
  have hts := hI.2.2.2.2.1
  have hfr := hI.2.2.2.2.2.2.2.2.2.2.2.1
  have hlo := hI.2.2.2.2.2.2.2.2.2.2.2.2
  have hv : mx_v X (.ref a) = .ref (X.1 + a) := by simp [mx_v, mx_ad, ha]
  have hcw : mx_cw κ = Cond.code (mx_y κ) (mx_b κ) (mx_nl κ) (mx_rt κ) := by simp only [mx_cw, htk, if_true]
  have hrec := va_recv hI.2.2.2.2.2.2.2.2.2.2.1.1 hR.1 hci (mx_w_at (C := C) (h := (f, sh, M, L, Rf)) hs)
  rw [hcn] at hrec
  refine mx_call (h := (f, sh, M, L, Rf)) (vx_runV (As := As.map (mx_v X)) (b := X.1 + a) (Ts := mx_T) (own := (mx_y μ).cls) (C := (mx_y κ).cls) (n := n) ⟨hI.1, hI.2.1, hI.2.2.1, hI.2.2.2.1, hts⟩ (hM X C D l hI.2.2.2.2.2.2.2.2.2.1) ⟨callB_of n hts (mx_gw c1) (by rw [hcw]) rfl rfl (hts _ c2) (hts _ c6) c3 ⟨Nat.le_trans c4 hfr, Nat.le_trans c5 hlo⟩, hts _ c7, hts _ c8⟩ ⟨mx_blind, hrec, fun U hU hW => ?_⟩ rfl (by rw [List.length_map]; exact hn) hL.1 ?_ ?_ hd ⟨by omega, by omega⟩) hI hL hS (by omega) (by omega) h3 h4 h5 ?_ kk
  · have := mx_pre (av := .ref a :: As) hR hI.2.2.2.2.2.2.2.2.2.2.1 hS U hU hW
    rwa [List.map_cons, hv] at this
  · rw [hst]
    simp [hv]
  · exact lv_room (by rw [mx_cat]; exact hw)
  · intro E h' hp ce q H1 locs1 q1 q2 q3 q4 q5
    exact mx_out hI htb (kx E h' hp) q1 q2 q3 q4 q5 (by omega) (by omega)
theorem ms_callS {idx n : Nat} {As stk : List Value} {bc1 bs1 : Nat} {Pk : Option Value → mx_H → Prop} {PXk : String → mx_H → Prop} (hd : decode (mx_b μ) pc = .ok (.invokestatic idx, 3)) (hok : mx_ctOK μ κ idx n) (hM : mx_C S κ As h bc1 bs1 Pk PXk) (hst : stk = As.reverse ++ st) (hn : As.length = n) (hw : (st.map fun v => v.category).sum ≤ 8) (htb : mx_tb μ = [])
    (kx : ∀ E h', PXk E h' → PX E h') (kk : ∀ v h', Pk v h' → mx_E S μ (pc + 3) ls (v.toList ++ st) h' bc bs P PX) : mx_E S μ pc ls stk h (bc1 + bc) (bs1 + bs) P PX := by
  intro X C D p l e R s m args below meth c H locs cells slots mc ms lc f0 hI hL hR hS h1 h2 h3 h4 h5
  obtain ⟨⟨c1, c2, c3, c4, c5⟩, htk, c6, c7⟩ := hok
  have hts := hI.2.2.2.2.1
  have hfr := hI.2.2.2.2.2.2.2.2.2.2.2.1
  have hlo := hI.2.2.2.2.2.2.2.2.2.2.2.2
  have hcw : mx_cw κ = Cond.code (mx_y κ) (mx_b κ) (mx_nl κ) (mx_rt κ) := by simp only [mx_cw, htk, if_true]
  refine mx_call (h := h) (vx_runS (As := As.map (mx_v X)) (Ts := mx_T) (own := (mx_y μ).cls) (n := n) ⟨hI.1, hI.2.1, hI.2.2.1, hI.2.2.2.1, hts⟩ (hM X C D l hI.2.2.2.2.2.2.2.2.2.1) ⟨callB_of n hts (mx_gw c1) (by rw [hcw]) rfl rfl (hts _ c2) (hts _ c6) c3 ⟨Nat.le_trans c4 hfr, Nat.le_trans c5 hlo⟩, hts _ c7⟩ ⟨mx_blind, fun U hU hW => mx_pre hR hI.2.2.2.2.2.2.2.2.2.2.1 hS U hU hW⟩ rfl (by rw [List.length_map]; exact hn) hL.1 ?_ ?_ hd ⟨by omega, by omega⟩) hI hL hS (by omega) (by omega) h3 h4 h5 ?_ kk
  · rw [hst]
    simp
  · exact lv_room (by rw [mx_cat]; exact hw)
  · intro E h' hp ce q H1 locs1 q1 q2 q3 q4 q5
    exact mx_out hI htb (kx E h' hp) q1 q2 q3 q4 q5 (by omega) (by omega)
end MXC
