theorem wq_422 : (Jvm.Cond.classLink "LampValleyLaw" (13 : Nat) "java/lang/IllegalArgumentException") ∈ mx_T := mx_in (List.mem_of_getElem? (i := 422) (by decide +kernel)) (by decide +kernel)
theorem wq_610 : (Jvm.Cond.classLink "LampValleyLaw" (18 : Nat) "java/util/NoSuchElementException") ∈ mx_T := mx_in (List.mem_of_getElem? (i := 610) (by decide +kernel)) (by decide +kernel)
theorem wq_429 : (Jvm.Cond.castable "java/lang/IllegalArgumentException" "java/lang/IllegalArgumentException") ∈ mx_Bd := List.mem_filter.mpr ⟨List.mem_of_getElem? (i := 429) (by decide +kernel), by decide +kernel⟩
theorem wq_617 : (Jvm.Cond.castable "java/util/NoSuchElementException" "java/util/NoSuchElementException") ∈ mx_Bd := List.mem_filter.mpr ⟨List.mem_of_getElem? (i := 617) (by decide +kernel), by decide +kernel⟩
section MXH
variable {S : mx_Sc} {μ κ : mx_M} {pc : Nat} {ls : List (Option Value)} {st : List Value} {h : mx_H} {bc bs : Nat} {P : Option Value → mx_H → Prop} {PX : String → mx_H → Prop}
variable {f : Bool} {sh : List (Nat × Nat)} {M : Nat → Int → Int} {L : Nat → Nat → Int64} {Rf : Nat → Nat → Option Nat}
/-- a call that throws nothing, in a method that may have a table -/
theorem ms_callVN {idx n a ci : Nat} {r : vw_C} {As stk : List Value} {Pk : Option Value → mx_H → Prop} (hd : decode (mx_b μ) pc = .ok (.invokevirtual idx, 3)) (hok : mx_cvOK μ κ idx n) (hM : mx_C S κ (.ref a :: As) (f, sh, M, L, Rf) 0 0 Pk (fun _ _ => False)) (hci : vwCl[ci]? = some r) (hcn : r.1 = (mx_y κ).cls) (hs : sh[a]? = some (ci + 3, r.2.2)) (hst : stk = As.reverse ++ .ref a :: st) (hn : As.length = n) (hw : (st.map fun v => v.category).sum ≤ 8)
    (kk : ∀ v h', Pk v h' → mx_E S μ (pc + 3) ls (v.toList ++ st) h' bc bs P PX) (ha : a < 1000 := by first | decide | omega) : mx_E S μ pc ls stk (f, sh, M, L, Rf) bc bs P PX := by
  intro X C D p l e R s m args below meth c H locs cells slots mc ms lc f0 hI hL hR hS h1 h2 h3 h4 h5
  obtain ⟨⟨c1, c2, c3, c4, c5⟩, htk, c6, c7, c8⟩ := hok
  have hts := hI.2.2.2.2.1
  have hfr := hI.2.2.2.2.2.2.2.2.2.2.2.1
  have hlo := hI.2.2.2.2.2.2.2.2.2.2.2.2
  have hv : mx_v X (.ref a) = .ref (X.1 + a) := by simp [mx_v, mx_ad, ha]
  have hcw : mx_cw κ = Cond.code (mx_y κ) (mx_b κ) (mx_nl κ) (mx_rt κ) := by simp only [mx_cw, htk, if_true]
  have hrec := va_recv hI.2.2.2.2.2.2.2.2.2.2.1.1 hR.1 hci (mx_w_at (C := C) (h := (f, sh, M, L, Rf)) hs)
  rw [hcn] at hrec
  refine mx_call (bc1 := 0) (bs1 := 0) (h := (f, sh, M, L, Rf)) (vx_runV (As := As.map (mx_v X)) (b := X.1 + a) (Ts := mx_T) (own := (mx_y μ).cls) (C := (mx_y κ).cls) (n := n) ⟨hI.1, hI.2.1, hI.2.2.1, hI.2.2.2.1, hts⟩ (hM X C D l hI.2.2.2.2.2.2.2.2.2.1) ⟨callB_of n hts (mx_gw c1) (by rw [hcw]) rfl rfl (hts _ c2) (hts _ c6) c3 ⟨Nat.le_trans c4 hfr, Nat.le_trans c5 hlo⟩, hts _ c7, hts _ c8⟩ ⟨mx_blind, hrec, fun U hU hW => ?_⟩ rfl (by rw [List.length_map]; exact hn) hL.1 ?_ ?_ hd ⟨by omega, by omega⟩) hI hL hS (by omega) (by omega) h3 h4 h5 ?_ kk
  · have := mx_pre (av := .ref a :: As) hR hI.2.2.2.2.2.2.2.2.2.2.1 hS U hU hW
    rwa [List.map_cons, hv] at this
  · rw [hst]
    simp [hv]
  · exact lv_room (by rw [mx_cat]; exact hw)
  · intro E h' hp
    exact hp.elim
/-- the row of a table that takes E at pc -/
def mx_ctch (μ : mx_M) (pc : Nat) (E : String) (hp : Nat) : Prop := ∃ (pre : List ExceptionTableEntry) (x : ExceptionTableEntry) (suf : List ExceptionTableEntry) (name : String), tableOf (mx_tb μ) = pre ++ x :: suf ∧ (∀ z ∈ pre, z.catchType ≠ 0 ∧ Cond.classLink (mx_y μ).cls z.catchType "java/util/NoSuchElementException" ∈ mx_T ∧ E = "java/lang/IllegalArgumentException") ∧ covers x pc = true ∧ x.catchType ≠ 0 ∧ x.handlerPc = hp ∧ Cond.classLink (mx_y μ).cls x.catchType name ∈ mx_T ∧ Cond.castable E name ∈ mx_Bd
/-- what stands there: the thing is put away, and a number goes back -/
def mx_hnd (μ : mx_M) (hp : Nat) (cd : Int) : Prop := (∃ k0 : Fin 4, decode (mx_b μ) hp = .ok (.astore_n k0, 1) ∧ (k0 : Nat) < mx_nl μ ∧ decode (mx_b μ) (hp + 1) = .ok (.iconst cd, 1) ∧ decode (mx_b μ) (hp + 1 + 1) = .ok (.ireturn, 1)) ∨ (∃ i : Nat, decode (mx_b μ) hp = .ok (.astore i, 2) ∧ i < mx_nl μ ∧ decode (mx_b μ) (hp + 2) = .ok (.iconst cd, 1) ∧ decode (mx_b μ) (hp + 2 + 1) = .ok (.ireturn, 1))
/-- a call that throws, and is caught here -/
theorem ms_callC {idx n a ci bc1 bs1 : Nat} {r : vw_C} {As stk : List Value} {PXk : String → mx_H → Prop} (hd : decode (mx_b μ) pc = .ok (.invokevirtual idx, 3)) (hok : mx_cvOK μ κ idx n) (hM : mx_C S κ (.ref a :: As) (f, sh, M, L, Rf) bc1 bs1 (fun _ _ => False) PXk) (hci : vwCl[ci]? = some r) (hcn : r.1 = (mx_y κ).cls) (hs : sh[a]? = some (ci + 3, r.2.2)) (hst : stk = As.reverse ++ .ref a :: st) (hn : As.length = n) (hw : (st.map fun v => v.category).sum ≤ 8) (hrt : mx_rt μ = some .int)
    (kx : ∀ E h', PXk E h' → ∃ (hp : Nat) (cd : Int), mx_ctch μ pc E hp ∧ mx_hnd μ hp cd ∧ h'.1 = false ∧ P (some (.int (iI cd))) h') (ha : a < 1000 := by first | decide | omega) : mx_E S μ pc ls stk (f, sh, M, L, Rf) (bc1 + bc) (bs1 + bs) P PX := by
  intro X C D p l e R s m args below meth c H locs cells slots mc ms lc f0 hI hL hR hS h1 h2 h3 h4 h5
  obtain ⟨⟨c1, c2, c3, c4, c5⟩, htk, c6, c7, c8⟩ := hok
  have hts := hI.2.2.2.2.1
  have hfr := hI.2.2.2.2.2.2.2.2.2.2.2.1
  have hlo := hI.2.2.2.2.2.2.2.2.2.2.2.2
  have hv : mx_v X (.ref a) = .ref (X.1 + a) := by simp [mx_v, mx_ad, ha]
  have hcw : mx_cw κ = Cond.code (mx_y κ) (mx_b κ) (mx_nl κ) (mx_rt κ) := by simp only [mx_cw, htk, if_true]
  have hrec := va_recv hI.2.2.2.2.2.2.2.2.2.2.1.1 hR.1 hci (mx_w_at (C := C) (h := (f, sh, M, L, Rf)) hs)
  rw [hcn] at hrec
  refine mx_call (st := st) (h := (f, sh, M, L, Rf)) (vx_runV (As := As.map (mx_v X)) (b := X.1 + a) (Ts := mx_T) (own := (mx_y μ).cls) (C := (mx_y κ).cls) (n := n) ⟨hI.1, hI.2.1, hI.2.2.1, hI.2.2.2.1, hts⟩ (hM X C D l hI.2.2.2.2.2.2.2.2.2.1) ⟨callB_of n hts (mx_gw c1) (by rw [hcw]) rfl rfl (hts _ c2) (hts _ c6) c3 ⟨Nat.le_trans c4 hfr, Nat.le_trans c5 hlo⟩, hts _ c7, hts _ c8⟩ ⟨mx_blind, hrec, fun U hU hW => ?_⟩ rfl (by rw [List.length_map]; exact hn) hL.1 ?_ ?_ hd ⟨by omega, by omega⟩) hI hL hS (by omega) (by omega) h3 h4 h5 ?_ (fun v h' z => z.elim)
  · have := mx_pre (av := .ref a :: As) hR hI.2.2.2.2.2.2.2.2.2.2.1 hS U hU hW
    rwa [List.map_cons, hv] at this
  · rw [hst]
    simp [hv]
  · exact lv_room (by rw [mx_cat]; exact hw)
  · intro E h' hp ce q H1 locs1 q1 q2 q3 q4 q5
    obtain ⟨hpc, cd, ⟨pre, x, suf, name, t1, t2, t3, t4, t5, t6, t7⟩, hh, hf9, hP9⟩ := kx E h' hp
    have fin : ∀ (lc2 : Array Slot) (pc2 : Nat), decode (mx_b μ) pc2 = .ok (.iconst cd, 1) → decode (mx_b μ) (pc2 + 1) = .ok (.ireturn, 1) → W p l e R s m args below meth c H1 locs1 (cells + bc1) (slots + bs1) (vx_MQ below (mx_Qc X C D f0 mc P) (mx_XC X C D PX) args s mc ms (mx_A X)) (F0 m pc2 lc2 []) := by
      intro lc2 pc2 d1 d2
      refine lv_iconst hI.1 hI.2.1 d1 rfl ?_
      refine vx_ret (W.widen (k := mc) (n := ms) (by omega) (by omega) ?_)
      exact W.iret hI.1 hI.2.1 (hI.2.2.2.2.2.2.1.trans hrt) (fun t ht _ => ⟨⟨some (.int (iI cd)), h', rfl, hP9, by rw [ht]; exact q1, fun q => by rw [hf9] at q; cases q⟩, q2.F ht⟩) q2.2.2 d2 hI.2.2.2.2.2.1
    refine vx_catch (own := (mx_y μ).cls) (name := name) hI.2.2.2.1 pre x suf (hI.2.2.2.2.2.2.2.2.1.trans t1) (fun z hz => Or.inr ?_) t3 t4 (hts _ t6) (va_Nw.use (mx_bok_tab (List.mem_filter.mp t7).2) (hI.2.2.2.2.2.2.2.2.2.2.1.2.1 _ t7)) q3 q4 q5 ?_
    · obtain ⟨u1, u2, u3⟩ := t2 z hz
      exact ⟨u1, _, hts _ u2, by rw [u3]; exact hI.2.2.2.2.2.2.2.2.2.2.1.2.2.2.2.2.2.2.2.2.2.2.2⟩
    · rw [t5]
      rcases hh with ⟨k0, e1, e2, e3, e4⟩ | ⟨i, e1, e2, e3, e4⟩
      · exact lv_astore_n hI.1 hI.2.1 e1 rfl hL.has e2 rfl (fun lc2 _ => fin lc2 _ e3 e4)
      · exact lv_astore hI.1 hI.2.1 e1 hL.has e2 rfl (fun lc2 _ => fin lc2 _ e3 e4)
/-- a call of a static method with a table, which lets nothing out -/
theorem ms_callSH {idx n bc1 bs1 : Nat} {As stk : List Value} {Pk : Option Value → mx_H → Prop} (hd : decode (mx_b μ) pc = .ok (.invokestatic idx, 3)) (hok : mx_csOK μ κ n ∧ Cond.methodLink (mx_y μ).cls idx (mx_y κ) ∈ mx_T ∧ Cond.static (mx_y κ) ∈ mx_T) (htk : mx_tb κ ≠ []) (hM : mx_C S κ As h bc1 bs1 Pk (fun _ _ => False)) (hst : stk = As.reverse ++ st) (hn : As.length = n) (hw : (st.map fun v => v.category).sum ≤ 8)
    (kk : ∀ v h', Pk v h' → mx_E S μ (pc + 3) ls (v.toList ++ st) h' bc bs P PX) : mx_E S μ pc ls stk h (bc1 + bc) (bs1 + bs) P PX := by
  intro X C D p l e R s m args below meth c H locs cells slots mc ms lc f0 hI hL hR hS h1 h2 h3 h4 h5
  obtain ⟨⟨c1, c2, c3, c4, c5⟩, c6, c7⟩ := hok
  have hts := hI.2.2.2.2.1
  have hfr := hI.2.2.2.2.2.2.2.2.2.2.2.1
  have hlo := hI.2.2.2.2.2.2.2.2.2.2.2.2
  have hcw : mx_cw κ = Cond.codeWith (mx_y κ) (mx_b κ) (mx_nl κ) (mx_rt κ) (mx_tb κ) := by simp only [mx_cw, htk, if_false]
  have hgw := mx_gw c1
  have hmem : Cond.codeWith (mx_y κ) (mx_b κ) (mx_nl κ) (mx_rt κ) (mx_tb κ) ∈ mx_cw κ :: mx_T := by rw [hcw]; exact List.mem_cons_self
  refine mx_call (h := h) (vx_runSX (As := As.map (mx_v X)) (Ts := mx_T) (own := (mx_y μ).cls) (n := n) (hh := mx_tb κ) ⟨hI.1, hI.2.1, hI.2.2.1, hI.2.2.2.1, hts⟩ (hM X C D l hI.2.2.2.2.2.2.2.2.2.1) ⟨⟨rfl, rfl, Nat.le_trans c4 hfr, Nat.le_trans c5 hlo, pay_in hts hgw, hmem⟩, hts _ (hgw _ hmem).1, hts _ c2, ⟨c3.1, c3.2.1⟩, (fun sig hsig => by have h9 := c3.2.2; rw [hsig] at h9; exact (Option.some.inj h9).symm), hts _ c6, hts _ c7⟩ ⟨mx_blind, fun U hU hW => mx_pre hR hI.2.2.2.2.2.2.2.2.2.2.1 hS U hU hW⟩ rfl (by rw [List.length_map]; exact hn) hL.1 ?_ ?_ hd ⟨by omega, by omega⟩) hI hL hS (by omega) (by omega) h3 h4 h5 ?_ kk
  · rw [hst]
    simp
  · exact lv_room (by rw [mx_cat]; exact hw)
  · intro E h' hp
    exact hp.elim
end MXH
