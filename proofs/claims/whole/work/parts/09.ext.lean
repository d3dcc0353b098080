section MXX
variable {S : mx_Sc} {μ κ : mx_M} {pc : Nat} {ls : List (Option Value)} {st : List Value} {h : mx_H} {bc bs : Nat} {P : Option Value → mx_H → Prop} {PX : String → mx_H → Prop}
variable {f : Bool} {sh : List (Nat × Nat)} {M : Nat → Int → Int} {L : Nat → Nat → Int64} {Rf : Nat → Nat → Option Nat}
/-- a contract without throws, as the kit's Met -/
theorem mx_met {X : mx_X} {C : mx_Cs} {D : va_G} {l : Launch} {av : List Value} (hM : mx_C S κ av h bc bs P (fun _ _ => False)) (hl : l.stackTraces = false) : Met l (mx_y κ) (mx_cw κ :: mx_T) ({ frames := mx_fr κ, cells := bc, slots := bs, locals := mx_lo κ } : Room) (mx_Pc S X C D av h) (mx_Qc X C D h.1 bc P) bc bs (mx_A X) := by
  intro p e g1 g2 g3 s m args below g4 g5 g6 g7
  obtain ⟨n, o, a1, a2, a3, a4⟩ := hM X C D l hl p e g1 g2 g3 s m args below g4 g5 g6 g7
  refine ⟨n, o, a1, a2, a3, ?_⟩
  rcases a4 with a4 | ⟨q, b1, E, ce, L1, ⟨⟨h', b2, -⟩, -⟩, -⟩
  · exact a4
  · exact b2.elim
theorem mx_run_of {p : Program} {l : Launch} {e : Env} {R : Room} {s : State} {m : MethodId} {args : Array Value} {below : List Frame} {meth : Method} {c : Code} {H : Heap} {locs : List Loc} {cells slots mc ms : Nat} {g : JFrame} {rest : List Value} {Qa : State → Outcome → State → Prop} {free : Addr → Prop} {XC : String → State → State → Prop} (hr : va_Run p l e R s m args below meth c H locs cells slots mc ms g rest Qa free) : vx_Run p l e R s m args below meth c H locs cells slots mc ms g rest Qa XC free := fun T hT X9 => Or.inl (hr T hT X9)
def mx_ciOK (μ κ : mx_M) (idx n : Nat) : Prop := mx_csOK μ κ n ∧ mx_tb κ = [] ∧ mx_rt κ = none ∧ (mx_y κ).name = "<init>" ∧ Cond.instanceMethod (mx_y κ) ∈ mx_T ∧ (Cond.methodLink (mx_y μ).cls idx (mx_y κ) ∈ mx_T ∨ ∃ host, Cond.methodLinkNest (mx_y μ).cls idx (mx_y κ) host ∈ mx_Bd)
/-- a constructor of ours -/
theorem ms_callI {idx n a : Nat} {As stk : List Value} {bc1 bs1 : Nat} {Pk : Option Value → mx_H → Prop} (hd : decode (mx_b μ) pc = .ok (.invokespecial idx, 3)) (hok : mx_ciOK μ κ idx n) (hM : mx_C S κ (.ref a :: As) h bc1 bs1 Pk (fun _ _ => False)) (hst : stk = As.reverse ++ .ref a :: st) (hn : As.length = n) (hw : (st.map fun v => v.category).sum ≤ 8)
    (kk : ∀ v h', Pk v h' → mx_E S μ (pc + 3) ls (v.toList ++ st) h' bc bs P PX) (ha : a < 1000 := by first | decide | omega) : mx_E S μ pc ls stk h (bc1 + bc) (bs1 + bs) P PX := by
  intro X C D p l e R s m args below meth c H locs cells slots mc ms lc f0 hI hL hR hS h1 h2 h3 h4 h5
  obtain ⟨⟨c1, c2, c3, c4, c5⟩, htk, c6, c7, c8, c9⟩ := hok
  have hts := hI.2.2.2.2.1
  have hfr := hI.2.2.2.2.2.2.2.2.2.2.2.1
  have hlo := hI.2.2.2.2.2.2.2.2.2.2.2.2
  have hv : mx_v X (.ref a) = .ref (X.1 + a) := by simp [mx_v, mx_ad, ha]
  have hcw : mx_cw κ = Cond.code (mx_y κ) (mx_b κ) (mx_nl κ) none := by simp only [mx_cw, htk, if_true, c6]
  have hpre : ∀ U : State, U.heap = H → s.WarmedH U.vm → mx_Pc S X C D (.ref a :: As) h (Value.ref (X.1 + a) :: As.map (mx_v X)).toArray U := fun U hU hW => by
    have := mx_pre (av := .ref a :: As) hR hI.2.2.2.2.2.2.2.2.2.2.1 hS U hU hW
    rwa [List.map_cons, hv] at this
  have hstk : stk.map (mx_v X) = (As.map (mx_v X)).reverse ++ Value.ref (X.1 + a) :: st.map (mx_v X) := by
    rw [hst]
    simp [hv]
  have hM2 := mx_met (X := X) (C := C) (D := D) (l := l) hM hI.2.2.2.2.2.2.2.2.2.1
  have key : va_Run p l e R s m args below meth c H locs cells slots bc1 bs1 (F0 m pc lc (stk.map (mx_v X))) (st.map (mx_v X)) (mx_Qc X C D h.1 bc1 Pk (Value.ref (X.1 + a) :: As.map (mx_v X)).toArray) (mx_A X) := by
    rcases c9 with c9 | ⟨host, c9⟩
    · exact va_runI (As := As.map (mx_v X)) (b := X.1 + a) (Ts := mx_T) (own := (mx_y μ).cls) (n := n) ⟨hI.1, hI.2.1, hI.2.2.1, hI.2.2.2.1, hts⟩ hM2 ⟨callB_of n hts (mx_gw c1) (by rw [hcw]) rfl rfl (hts _ c2) (hts _ c9) c3 ⟨Nat.le_trans c4 hfr, Nat.le_trans c5 hlo⟩, c7, hts _ c8⟩ ⟨mx_blind, hpre⟩ rfl (by rw [List.length_map]; exact hn) hL.1 hstk (lv_room (by rw [mx_cat]; exact hw)) hd ⟨by omega, by omega⟩
    · exact va_runIN (As := As.map (mx_v X)) (b := X.1 + a) (Ts := mx_T) (own := (mx_y μ).cls) (host := host) (n := n) ⟨hI.1, hI.2.1, hI.2.2.1, hI.2.2.2.1, hts⟩ hM2 ⟨va_cnB n hts (mx_gw c1) (by rw [hcw]) rfl rfl (hI.2.2.2.2.2.2.2.2.2.2.1.2.1 _ c9) (hts _ c2) c3 ⟨Nat.le_trans c4 hfr, Nat.le_trans c5 hlo⟩, c7, hts _ c8⟩ ⟨mx_blind, hpre⟩ rfl (by rw [List.length_map]; exact hn) hL.1 hstk (lv_room (by rw [mx_cat]; exact hw)) hd ⟨by omega, by omega⟩
  exact mx_call (h := h) (mx_run_of (XC := mx_XC X C D (fun _ _ => False)) key) hI hL hS (by omega) (by omega) h3 h4 h5 (fun E h' hp => hp.elim) kk
/-- Object's own -/
theorem ms_objInit {idx a : Nat} (hd : decode (mx_b μ) pc = .ok (.invokespecial idx, 3)) (hw : Cond.methodLink (mx_y μ).cls idx Lib.objectInit ∈ mx_T ∧ Cond.instanceMethod Lib.objectInit ∈ mx_T ∧ Cond.code Lib.objectInit ⟨#[0xb1]⟩ 1 none ∈ mx_T) (hf : 1 ≤ mx_fr μ) (hl : (st.map fun v => v.category).sum + 12 ≤ mx_lo μ) (kk : mx_E S μ (pc + 3) ls st h bc bs P PX) : mx_E S μ pc ls (.ref a :: st) h bc bs P PX := by
  intro X C D p l e R s m args below meth c H locs cells slots mc ms lc f0 hI hL hR hS h1 h2 h3 h4 h5
  have hts := hI.2.2.2.2.1
  have hfr := hI.2.2.2.2.2.2.2.2.2.2.2.1
  have hlo := hI.2.2.2.2.2.2.2.2.2.2.2.2
  refine W.objInit hI.1 hI.2.1 hI.2.2.2.1 (hts _ hw.1) (hts _ hw.2.1) (hts _ hw.2.2) rfl (hL.1.trans hI.2.2.1.symm) (a := mx_ad X a) (rest := st.map (mx_v X)) rfl hd (by omega) ?_ (kk X C D p l e R s m args below meth c H locs cells slots mc ms lc f0 hI hL hR hS h1 h2 h3 h4 h5)
  show 2 * 0 + _ + 12 ≤ R.locals
  rw [mx_cat]
  omega
theorem ms_ldc {idx : Nat} {v : Int32} (hd : decode (mx_b μ) pc = .ok (.ldc idx, 2)) (hw : Cond.constant (mx_y μ).cls idx v ∈ mx_T) (kk : mx_E S μ (pc + 2) ls (.int v :: st) h bc bs P PX) : mx_E S μ pc ls st h bc bs P PX := by
  intro X C D p l e R s m args below meth c H locs cells slots mc ms lc f0 hI hL hR hS h1 h2 h3 h4 h5
  exact lv_ldc hI.1 hI.2.1 hI.2.2.2.1 (hI.2.2.2.2.1 _ hw) hd (kk X C D p l e R s m args below meth c H locs cells slots mc ms lc f0 hI hL hR hS h1 h2 h3 h4 h5)
theorem ms_ldcw {idx : Nat} {v : Int32} (hd : decode (mx_b μ) pc = .ok (.ldc_w idx, 3)) (hw : Cond.constant (mx_y μ).cls idx v ∈ mx_T) (kk : mx_E S μ (pc + 3) ls (.int v :: st) h bc bs P PX) : mx_E S μ pc ls st h bc bs P PX := by
  intro X C D p l e R s m args below meth c H locs cells slots mc ms lc f0 hI hL hR hS h1 h2 h3 h4 h5
  exact lv_ldcw hI.1 hI.2.1 hI.2.2.2.1 (hI.2.2.2.2.1 _ hw) hd (kk X C D p l e R s m args below meth c H locs cells slots mc ms lc f0 hI hL hR hS h1 h2 h3 h4 h5)
theorem ms_ldcS {idx i : Nat} {tx : String} (hd : decode (mx_b μ) pc = .ok (.ldc idx, 2)) (hw : mx_st[i]? = some ((mx_y μ).cls, idx, tx)) (kk : mx_E S μ (pc + 2) ls (.ref (1001 + i) :: st) h bc bs P PX) : mx_E S μ pc ls st h bc bs P PX := by
  intro X C D p l e R s m args below meth c H locs cells slots mc ms lc f0 hI hL hR hS h1 h2 h3 h4 h5
  have h9 := (kk X C D p l e R s m args below meth c H locs cells slots mc ms lc f0 hI hL hR hS h1 h2 h3 h4 h5)
  rw [List.map_cons, show mx_v X (.ref (1001 + i)) = .ref (X.2.1 (1 + i)) by simp [mx_v, mx_ad, show ¬ (1001 + i < 1000) by omega, show 1001 + i - 1000 = 1 + i by omega]] at h9
  exact va_ldcS hI.1 hI.2.1 hI.2.2.2.1 (hI.2.2.2.2.2.2.2.2.2.2.1.2.2.2.2.2.2.1.2 i _ hw) hd h9
/-- a String constant goes into a row of Strings -/
theorem ms_aastS {a n j : Nat} {i : Int} (hd : decode (mx_b μ) pc = .ok (.aastore, 1)) (hs : sh[a]? = some (2, n)) (hj : j < 13) (kk : mx_E S μ (pc + 1) ls st (f, sh, M, L, va_up Rf a (va_up (Rf a) i.toNat (some (1001 + j)))) bc bs P PX) (hi0 : 0 ≤ i := by omega) (hi1 : i < n := by omega) (hn : n < 2147483648 := by first | decide | omega) (ha : a < 1000 := by first | decide | omega) : mx_E S μ pc ls (.ref (1001 + j) :: .int (iI i) :: .ref a :: st) (f, sh, M, L, Rf) bc bs P PX := by
  intro X C D p l e R s m args below meth c H locs cells slots mc ms lc f0 hI hL hR hS h1 h2 h3 h4 h5
  have hv : mx_v X (.ref a) = .ref (X.1 + a) := by simp [mx_v, mx_ad, ha]
  have hv2 : mx_ad X (1001 + j) = X.2.1 (1 + j) := by simp [mx_ad, show ¬ (1001 + j < 1000) by omega, show 1001 + j - 1000 = 1 + j by omega]
  have hv3 : mx_v X (.ref (1001 + j)) = .ref (X.2.1 (1 + j)) := by rw [← hv2]; rfl
  rw [List.map_cons, List.map_cons, List.map_cons, hv, hv3]
  obtain ⟨cellV, g1, g2, g3⟩ := vk_recv hI.2.2.2.2.2.2.2.2.2.2.1.2.2.2.2.2.2.1.1 hj hS
  have hany : va_Any "java/lang/String" s H (X.2.1 (1 + j)) := ⟨cellV, g1, g2, by obtain ⟨k9, z9, -⟩ := Vm.findClass_spec g3; exact ⟨k9, z9⟩, fun comp hc => by cases Option.some.inj (hc.symm.trans g3); exact va_asg _ _⟩
  refine va_astqM (H0 := H) hI.1 hI.2.1 hI.2.2.2.2.2.2.2.2.2.2.1.1 hR.1 (mx_w_D X C _) (mx_S_rf hS) a 2 (mx_w_at (C := C) (h := (f, sh, M, L, Rf)) hs) rfl hany (iI_in hi0 hi1 hn) hd (fun H1 locs1 q1 _ q3 => ?_)
  refine mx_st_tail kk hI hL hR hS h1 h2 h3 h4 h5 ?_ q3 rfl rfl
  have e0 := mx_w_set (X := X) (C := C) (h := (f, sh, M, L, Rf)) (h2 := (f, sh, M, L, va_up Rf a (va_up (Rf a) i.toNat (some (1001 + j))))) rfl hs (fun _ _ => rfl) (fun _ _ => rfl) (fun k hk => by show va_up Rf a _ k = Rf k; simp [va_up, hk])
  have e1 : mx_cell X C (f, sh, M, L, va_up Rf a (va_up (Rf a) i.toNat (some (1001 + j)))) a (2, n) = .inl (C.2.2, n, .inr (.inr (.inr (.inr (va_up (fun k => (Rf a k).map (mx_ad X)) (iI i).toNatClampNeg (some (X.2.1 (1 + j)))))))) := by
    rw [iI_clamp hi0 (by omega)]
    have e9 : (fun k => ((va_up Rf a (va_up (Rf a) i.toNat (some (1001 + j)))) a k).map (mx_ad X)) = va_up (fun k => (Rf a k).map (mx_ad X)) i.toNat (some (X.2.1 (1 + j))) := by
      funext k
      by_cases hk : k = i.toNat <;> simp [va_up, hk, hv2]
    simp only [mx_cell]
    rw [e9]
  rw [← e0, e1]
  exact q1
/-- the one static row -/
theorem ms_getDN {idx : Nat} (hd : decode (mx_b μ) pc = .ok (.getstatic idx, 3)) (hw : Cond.fieldLink (mx_y μ).cls idx "LampValley$Council" "DROP_NUMBERS" "[I" ∈ mx_T) (kk : mx_E S μ (pc + 3) ls (.ref 1014 :: st) h bc bs P PX) : mx_E S μ pc ls st h bc bs P PX := by
  intro X C D p l e R s m args below meth c H locs cells slots mc ms lc f0 hI hL hR hS h1 h2 h3 h4 h5
  exact va_gets (A := mx_A X) hI.1 hI.2.1 hI.2.2.2.2.2.2.2.2.2.2.1.2.2.2.2.1.1 hS hI.2.2.2.1 (hI.2.2.2.2.1 _ hw) (fun _ z => z) hd (kk X C D p l e R s m args below meth c H locs cells slots mc ms lc f0 hI hL hR hS h1 h2 h3 h4 h5)
theorem ms_ialdDN {i : Int} (hd : decode (mx_b μ) pc = .ok (.iaload, 1)) (kk : mx_E S μ (pc + 1) ls (.int (mx_dn i.toNat) :: st) h bc bs P PX) (hi0 : 0 ≤ i := by omega) (hi1 : i < 7 := by omega) : mx_E S μ pc ls (.int (iI i) :: .ref 1014 :: st) h bc bs P PX := by
  intro X C D p l e R s m args below meth c H locs cells slots mc ms lc f0 hI hL hR hS h1 h2 h3 h4 h5
  exact va_ti (A := mx_A X) hI.1 hI.2.1 hI.2.2.2.2.2.2.2.2.2.2.1.2.2.2.2.1.2 hS (iI_in hi0 (by omega) (by omega)) (congrArg (fun q => Value.int (mx_dn q)) (iI_clamp hi0 (by omega))) hd (kk X C D p l e R s m args below meth c H locs cells slots mc ms lc f0 hI hL hR hS h1 h2 h3 h4 h5)
/-- a copy of a stretch -/
def ic (f g : Int → Int) (sp dp n : Int) : Int → Int := fun k => if dp ≤ k ∧ k < dp + n then f (sp + (k - dp)) else g k
def mx_dz (i : Int) : Int := (mx_dn i.toNat).toInt
def mx_acOK (μ : mx_M) (idx : Nat) : Prop := Cond.methodLink (mx_y μ).cls idx arraycopyName ∈ mx_T ∧ Cond.native arraycopyName ∈ mx_T ∧ Cond.static arraycopyName ∈ mx_T ∧ Cond.initialized "java/lang/System" ∈ mx_T ∧ 1 ≤ mx_fr μ
theorem ms_acopy {idx a0 a n0 n1 : Nat} {sp dp n : Int} (hd : decode (mx_b μ) pc = .ok (.invokestatic idx, 3)) (hok : mx_acOK μ idx) (hs0 : sh[a0]? = some (0, n0)) (hs1 : sh[a]? = some (0, n1)) (hl : (st.map fun v => v.category).sum + (nativeFrameWords "java/lang/System" "arraycopy" 5 + 11) ≤ mx_lo μ)
    (kk : mx_E S μ (pc + 3) ls st (f, sh, va_up M a (ic (M a0) (M a) sp dp n), L, Rf) bc bs P PX) (g1 : 0 ≤ sp := by omega) (g2 : 0 ≤ dp := by omega) (g3 : 0 ≤ n := by omega) (g4 : sp + n ≤ n0 := by omega) (g5 : dp + n ≤ n1 := by omega) (hn0 : n0 < 2147483648 := by first | decide | omega) (hn1 : n1 < 2147483648 := by first | decide | omega) (ha0 : a0 < 1000 := by first | decide | omega) (ha : a < 1000 := by first | decide | omega) : mx_E S μ pc ls (.int (iI n) :: .int (iI dp) :: .ref a :: .int (iI sp) :: .ref a0 :: st) (f, sh, M, L, Rf) bc bs P PX := by
  intro X C D p l e R s m args below meth c H locs cells slots mc ms lc f0 hI hL hR hS h1 h2 h3 h4 h5
  have hts := hI.2.2.2.2.1
  have hfr := hI.2.2.2.2.2.2.2.2.2.2.2.1
  have hlo := hI.2.2.2.2.2.2.2.2.2.2.2.2
  obtain ⟨c1, c2, c3, c4, c5⟩ := hok
  have q9 : ∀ {z : Int}, 0 ≤ z → z < 2147483648 → ¬ iI z < 0 := fun {z} h0 h1 => by rw [Int32.lt_iff_toInt_lt, iI_toInt (by omega) (by omega)]; show ¬ z < 0; omega
  have hv : mx_v X (.ref a) = .ref (X.1 + a) := by simp [mx_v, mx_ad, ha]
  have hv0 : mx_v X (.ref a0) = .ref (X.1 + a0) := by simp [mx_v, mx_ad, ha0]
  rw [List.map_cons, List.map_cons, List.map_cons, List.map_cons, List.map_cons, hv, hv0]
  refine va_copyi (H0 := H) hI.1 hI.2.1 (hI.2.2.1.trans hL.1.symm) hI.2.2.2.1 (hts _ c1) (hts _ c2) (hts _ c3) (hts _ c4) hI.2.2.2.2.2.2.2.2.2.2.1.1 hR.1 (mx_w_D X C _) (mx_S_rf hS) a0 a 0 0 (mx_w_at (C := C) (h := (f, sh, M, L, Rf)) hs0) (mx_w_at (C := C) (h := (f, sh, M, L, Rf)) hs1) rfl rfl rfl (q9 g1 (by omega)) (q9 g2 (by omega)) (q9 g3 (by omega)) (by rw [iI_clamp g1 (by omega), iI_clamp g3 (by omega)]; omega) (by rw [iI_clamp g2 (by omega), iI_clamp g3 (by omega)]; omega) (fun _ _ => rfl) (by omega) (by rw [mx_cat]; omega) hd (fun H1 locs1 q1 _ q3 => ?_)
  refine mx_st_tail kk hI hL hR hS h1 h2 h3 h4 h5 ?_ q3 rfl rfl
  have e0 := mx_w_set (X := X) (C := C) (h := (f, sh, M, L, Rf)) (h2 := (f, sh, va_up M a (ic (M a0) (M a) sp dp n), L, Rf)) rfl hs1 (fun k hk => by show va_up M a _ k = M k; simp [va_up, hk]) (fun _ _ => rfl) (fun _ _ => rfl)
  have e1 : mx_cell X C (f, sh, va_up M a (ic (M a0) (M a) sp dp n), L, Rf) a (0, n1) = .inl (C.1, n1, .inl (va_cpy (fun j => iI (M a0 (j : Int))) (fun j => iI (M a (j : Int))) (iI sp).toNatClampNeg (iI dp).toNatClampNeg (iI n).toNatClampNeg)) := by
    rw [iI_clamp g1 (by omega), iI_clamp g2 (by omega), iI_clamp g3 (by omega)]
    have e9 : (fun j : Nat => iI (va_up M a (ic (M a0) (M a) sp dp n) a (j : Int))) = va_cpy (fun j => iI (M a0 (j : Int))) (fun j => iI (M a (j : Int))) sp.toNat dp.toNat n.toNat := by
      funext j
      by_cases hj : dp ≤ (j : Int) ∧ (j : Int) < dp + n
      · have hj2 : dp.toNat ≤ j ∧ j < dp.toNat + n.toNat := by omega
        have hj3 : sp + ((j : Int) - dp) = ((sp.toNat + (j - dp.toNat) : Nat) : Int) := by omega
        simp only [va_up, if_true, ic, va_cpy, if_pos hj, if_pos hj2, hj3]
      · have hj2 : ¬ (dp.toNat ≤ j ∧ j < dp.toNat + n.toNat) := by omega
        simp only [va_up, if_true, ic, va_cpy, if_neg hj, if_neg hj2]
    simp only [mx_cell]
    rw [e9]
  rw [← e0, e1]
  exact q1
theorem ms_mmax {idx : Nat} {x y : Int32} (hd : decode (mx_b μ) pc = .ok (.invokestatic idx, 3)) (hw : Cond.methodLink (mx_y μ).cls idx Lib.Math.max.name ∈ mx_T ∧ Cond.static Lib.Math.max.name ∈ mx_T ∧ Cond.initialized "java/lang/Math" ∈ mx_T ∧ Cond.code Lib.Math.max.name Lib.Math.max.code 2 (some .int) ∈ mx_T ∧ 1 ≤ mx_fr μ) (hl : (st.map fun v => v.category).sum + 13 ≤ mx_lo μ) (kk : mx_E S μ (pc + 3) ls (.int (if x < y then y else x) :: st) h bc bs P PX) : mx_E S μ pc ls (.int y :: .int x :: st) h bc bs P PX := by
  intro X C D p l e R s m args below meth c H locs cells slots mc ms lc f0 hI hL hR hS h1 h2 h3 h4 h5
  have hts := hI.2.2.2.2.1
  have hfr := hI.2.2.2.2.2.2.2.2.2.2.2.1
  have hlo := hI.2.2.2.2.2.2.2.2.2.2.2.2
  have := hw.2.2.2.2
  exact va_mmax hI.1 hI.2.1 (hI.2.2.1.trans hL.1.symm) hI.2.2.2.1 (hts _ hw.1) (hts _ hw.2.1) (hts _ hw.2.2.1) (hts _ hw.2.2.2.1) (by omega) (by rw [mx_cat]; omega) (by omega) (by omega) hd (kk X C D p l e R s m args below meth c H locs cells slots mc ms lc f0 hI hL hR hS h1 h2 h3 h4 h5)
theorem ms_mmin {idx : Nat} {x y : Int32} (hd : decode (mx_b μ) pc = .ok (.invokestatic idx, 3)) (hw : Cond.methodLink (mx_y μ).cls idx Lib.Math.min.name ∈ mx_T ∧ Cond.static Lib.Math.min.name ∈ mx_T ∧ Cond.initialized "java/lang/Math" ∈ mx_T ∧ Cond.code Lib.Math.min.name Lib.Math.min.code 2 (some .int) ∈ mx_T ∧ 1 ≤ mx_fr μ) (hl : (st.map fun v => v.category).sum + 13 ≤ mx_lo μ) (kk : mx_E S μ (pc + 3) ls (.int (if y < x then y else x) :: st) h bc bs P PX) : mx_E S μ pc ls (.int y :: .int x :: st) h bc bs P PX := by
  intro X C D p l e R s m args below meth c H locs cells slots mc ms lc f0 hI hL hR hS h1 h2 h3 h4 h5
  have hts := hI.2.2.2.2.1
  have hfr := hI.2.2.2.2.2.2.2.2.2.2.2.1
  have hlo := hI.2.2.2.2.2.2.2.2.2.2.2.2
  have := hw.2.2.2.2
  exact va_mmin hI.1 hI.2.1 (hI.2.2.1.trans hL.1.symm) hI.2.2.2.1 (hts _ hw.1) (hts _ hw.2.1) (hts _ hw.2.2.1) (hts _ hw.2.2.2.1) (by omega) (by rw [mx_cat]; omega) (by omega) (by omega) hd (kk X C D p l e R s m args below meth c H locs cells slots mc ms lc f0 hI hL hR hS h1 h2 h3 h4 h5)
theorem ms_mabs {idx : Nat} {x : Int32} (hd : decode (mx_b μ) pc = .ok (.invokestatic idx, 3)) (hw : Cond.methodLink (mx_y μ).cls idx Lib.Math.abs.name ∈ mx_T ∧ Cond.static Lib.Math.abs.name ∈ mx_T ∧ Cond.initialized "java/lang/Math" ∈ mx_T ∧ Cond.code Lib.Math.abs.name Lib.Math.abs.code 1 (some .int) ∈ mx_T ∧ 1 ≤ mx_fr μ) (hl : (st.map fun v => v.category).sum + 13 ≤ mx_lo μ) (kk : mx_E S μ (pc + 3) ls (.int (if 0 ≤ x then x else 0 - x) :: st) h bc bs P PX) : mx_E S μ pc ls (.int x :: st) h bc bs P PX := by
  intro X C D p l e R s m args below meth c H locs cells slots mc ms lc f0 hI hL hR hS h1 h2 h3 h4 h5
  have hts := hI.2.2.2.2.1
  have hfr := hI.2.2.2.2.2.2.2.2.2.2.2.1
  have hlo := hI.2.2.2.2.2.2.2.2.2.2.2.2
  have := hw.2.2.2.2
  exact va_mabs hI.1 hI.2.1 (hI.2.2.1.trans hL.1.symm) hI.2.2.2.1 (hts _ hw.1) (hts _ hw.2.1) (hts _ hw.2.2.1) (hts _ hw.2.2.2.1) (by omega) (by rw [mx_cat]; omega) (by omega) (by omega) hd (kk X C D p l e R s m args below meth c H locs cells slots mc ms lc f0 hI hL hR hS h1 h2 h3 h4 h5)
end MXX
