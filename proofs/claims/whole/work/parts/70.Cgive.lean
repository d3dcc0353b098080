theorem dn_z (i : Int) : mx_dn i.toNat = iI (mx_dz i) := (iI_ti _).symm
theorem dz_b {c : Int} (h : 0 ≤ c ∧ c < 7) : mx_dz c = -1 ∨ (1 ≤ mx_dz c ∧ mx_dz c ≤ 7 ∧ mx_dz c / 3 ≠ mx_dz c % 3) := fin_of (n := 7) (P := fun c => mx_dz c = -1 ∨ (1 ≤ mx_dz c ∧ mx_dz c ≤ 7 ∧ mx_dz c / 3 ≠ mx_dz c % 3)) (by decide +kernel) h.1 h.2
theorem give_ok {t : sp_T} (hT : sp_tok t) {v : Int → Int} (hv : sp_vok t v) {l i j : Int} (hl : 0 ≤ l ∧ l < t.1 1) (hi : 0 ≤ i ∧ i < 3) (hj : 0 ≤ j ∧ j < 3) (hij : i ≠ j) (hp : v (3 * l + i) ≠ 0) : sp_vok t (sp_give v l i j) := by
  have h6 := hT.2.1
  refine ⟨fun x x0 x1 => ?_, fun x x0 x1 => ?_⟩
  · have h1 := hv.1 x x0 x1
    by_cases e : x = l
    · subst e
      unfold sp_give iu
      rcases (show i = 0 ∨ i = 1 ∨ i = 2 by omega) with rfl | rfl | rfl <;> rcases (show j = 0 ∨ j = 1 ∨ j = 2 by omega) with rfl | rfl | rfl <;> first | exact absurd rfl hij | (simp at hp ⊢; omega)
    · have e2 : ∀ q, 0 ≤ q → q < 3 → sp_give v l i j (3 * x + q) = v (3 * x + q) := fun q q0 q1 => by
        unfold sp_give
        rw [iu_n _ _ (by omega), iu_n _ _ (by omega)]
      have e3 := e2 0 (by omega) (by omega)
      rw [Int.add_zero] at e3
      rw [e3, e2 1 (by omega) (by omega), e2 2 (by omega) (by omega)]
      exact h1
  · unfold sp_give
    rw [iu_n _ _ (by omega), iu_n _ _ (by omega), iu_n _ _ (by omega), iu_n _ _ (by omega)]
    exact hv.2 x x0 x1
/-- a row of drops, each to its own lamp; none: it can't be -/
def gvR (c : Nat → Int) (d : Nat → Int) (v : Int → Int) : Nat → Option (Int → Int)
  | 0 => some v
  | k + 1 => (gvR c d v k).bind fun w => if d k = -1 then some w else if w (3 * c k + d k / 3) ≠ 0 then some (sp_give w (c k) (d k / 3) (d k % 3)) else none
theorem gvR_no {c d : Nat → Int} {v : Int → Int} {k : Nat} (h : gvR c d v k = none) : ∀ m : Nat, gvR c d v (k + m) = none
  | 0 => h
  | m + 1 => by
    show (gvR c d v (k + m)).bind _ = none
    rw [gvR_no h m]
    rfl
/-- the choice of the j-th mother in a row -/
def chR (w : Int) (j : Nat) : Int := w / 7 ^ j % 7
set_option maxHeartbeats 4000000 in
set_option maxRecDepth 100000 in
theorem l_X0_gr {S : mx_Sc} {f : Bool} {M : Nat → Int → Int} {L : Nat → Nat → Int64} {Rf : Nat → Nat → Option Nat} (hR : mx_rf Rf) {t : sp_T} (hT : sp_tok t) {v : Int → Int} (hsc : scR t M 18 v) (hv : sp_vok t v) {m : Nat} (hm3 : m ≤ 3) {c : Nat → Int} (hm : M 25 3 = (m : Int)) (hch : ∀ j : Nat, j < m → M 26 (j : Int) = c j ∧ M 27 (j : Int) = 7 ^ j ∧ 0 ≤ c j ∧ c j < t.1 1) {w : Int} (hw : 0 ≤ w ∧ w < 343) : ∀ (kk : Nat) (k : Nat) (N : Nat → Int → Int) (u : Int → Int) (o4 : Option Value), k + kk = m → (∀ x, x ≠ 19 → N x = M x) → gvR c (fun j => mx_dz (chR w j)) v k = some u → scR t N 18 u → sp_vok t u → mx_E S mX0_giveRow 2 [some (.ref 25), some (.ref 18), some (.int (iI w)), some (.int (iI (k : Int))), o4] [] (f, mx_SH, N, L, Rf) 0 0 (fun v9 h9 => ∃ N b, h9 = (f, mx_SH, N, L, Rf) ∧ v9 = some (.int (iI (bI b))) ∧ (∀ x, x ≠ 19 → N x = M x) ∧ ((b = false ∧ gvR c (fun j => mx_dz (chR w j)) v m = none) ∨ (b = true ∧ ∃ u, gvR c (fun j => mx_dz (chR w j)) v m = some u ∧ scR t N 18 u ∧ sp_vok t u))) (fun _ _ => False) := by
  intro kk
  induction kk with
  | zero => 
    intro k N u o4 g1 q1 q2 q3 q4
    have eN : N 25 3 = (m : Int) := by rw [q1 25 (by decide)]; exact hm
    refine ms_iload_n dX0_giveRow_2 rfl ?_
    refine ms_aload_n dX0_giveRow_3 rfl ?_
    refine ms_getI (z := 3) dX0_giveRow_4 (fo_X0_45 rfl) (by first | rfl | assumption) rfl rfl ?_
    refine mi_icmp_ge (tgt := 57) dX0_giveRow_7 (by decide) (fun c_7 => ?_) (fun c_7 => ?_)
    · refine mi_iconst dX0_giveRow_57 ?_
      refine ms_retZ dX0_giveRow_58 rfl (by first | exact Or.inl rfl | exact Or.inr rfl) ⟨N, true, rfl, rfl, q1, Or.inr ⟨rfl, u, by rw [show m = k by omega]; exact q2, q3, q4⟩⟩ (by simp)
    · exact absurd c_7 (by omega)
  | succ kk ih => 
    intro k N u o4 g1 q1 q2 q3 q4
    have eN : N 25 3 = (m : Int) := by rw [q1 25 (by decide)]; exact hm
    have hck := hch k (by omega)
    have e26 : N 26 (k : Int) = c k := by rw [q1 26 (by decide)]; exact hck.1
    have e27 : N 27 (k : Int) = 7 ^ k := by rw [q1 27 (by decide)]; exact hck.2.1
    have h7 := p7_3 (m := k) (by omega)
    have hcb : 0 ≤ chR w k ∧ chR w k < 7 := by unfold chR; omega
    have hdz := dz_b hcb
    have hT6 := hT.2.1
    refine ms_iload_n dX0_giveRow_2 rfl ?_
    refine ms_aload_n dX0_giveRow_3 rfl ?_
    refine ms_getI (z := 3) dX0_giveRow_4 (fo_X0_45 rfl) (by first | rfl | assumption) rfl rfl ?_
    refine mi_icmp_ge (tgt := 57) dX0_giveRow_7 (by decide) (fun c_7 => ?_) (fun c_7 => ?_)
    · exact absurd c_7 (by omega)
    · refine ms_getDN dX0_giveRow_10 dn_X0_giveRow ?_
      refine ms_aload_n dX0_giveRow_13 rfl ?_
      refine ms_iload_n dX0_giveRow_14 rfl ?_
      refine ms_iload_n dX0_giveRow_15 rfl ?_
      refine ms_callV2 (ci := 0) (r := (RX0, TX0, 5)) dX0_giveRow_16 cv_X0_giveRow_X0_choiceOf (k_X0_choiceOf (M := N) hR (w := w) (j := (k : Int)) hw (by omega) (by rw [e27]; omega)) rfl rfl (by first | rfl | assumption) (Nat.le_of_ble_eq_true rfl) rfl (fun _ _ z => z.elim) (fun v9 h9 hp9 => ?_)
      obtain ⟨rfl, rfl⟩ := hp9
      rw [e27, show w / 7 ^ k % 7 = chR w k from rfl]
      refine ms_ialdDN dX0_giveRow_19 ?_
      rw [dn_z]
      refine ms_istore dX0_giveRow_20 (by decide) rfl ?_
      dsimp only [List.set, Nat.reduceAdd]
      refine ms_iload dX0_giveRow_22 rfl ?_
      refine mi_iconst dX0_giveRow_24 ?_
      refine mi_icmp_eq (tgt := 51) dX0_giveRow_25 (by decide) (fun c_25 => ?_) (fun c_25 => ?_)
      · refine mi_iinc dX0_giveRow_51 rfl (by decide) rfl ?_
        dsimp only [List.set, Nat.reduceAdd]
        refine ms_goto (tgt := 2) dX0_giveRow_54 (by decide) ?_
        have i9 := ih (k + 1) N u (some (.int (iI (mx_dz (chR w k))))) (by omega) q1 (by show (gvR c (fun j => mx_dz (chR w j)) v k).bind _ = _; rw [q2]; exact if_pos c_25) q3 q4
        rw [show ((k + 1 : Nat) : Int) = (k : Int) + 1 by omega] at i9
        exact i9
      · refine ms_aload_n dX0_giveRow_28 rfl ?_
        refine ms_aload_n dX0_giveRow_29 rfl ?_
        refine ms_getR dX0_giveRow_30 (fo_X0_11 rfl) (by first | rfl | assumption) rfl (by first | assumption | exact rf_25_0 hR ) ?_
        refine ms_iload_n dX0_giveRow_33 rfl ?_
        refine ms_iald dX0_giveRow_34 (by first | rfl | assumption) ?_
        refine ms_iload dX0_giveRow_35 rfl ?_
        refine mi_iconst dX0_giveRow_37 ?_
        refine mi_idiv dX0_giveRow_38 ?_
        refine ms_iload dX0_giveRow_39 rfl ?_
        refine mi_iconst dX0_giveRow_41 ?_
        refine mi_irem dX0_giveRow_42 ?_
        refine ms_callV3 (ci := 2) (r := (RX2, TX2, 6)) dX0_giveRow_43 cv_X0_giveRow_X2_pour (k_X2_pour (M := N) hR (a := 18) (by omega) hT q3 q4 (l := N 26 (k : Int)) (i := mx_dz (chR w k) / 3) (j := mx_dz (chR w k) % 3) (by rw [e26]; exact ⟨hck.2.2.1, hck.2.2.2⟩) (by omega) (by omega)) rfl rfl (by first | rfl | assumption) (Nat.le_of_ble_eq_true rfl) rfl (fun _ _ z => z.elim) (fun v9 h9 hp9 => ?_)
        obtain ⟨N2, rfl, rfl, z1, z2, z3, z4⟩ := hp9
        rw [e26] at z2 z4
        rw [e26]
        refine mi_if_neB (tgt := 51) dX0_giveRow_46 (by decide) (fun c_46 => ?_) (fun c_46 => ?_)
        · have hq : u (3 * c k + mx_dz (chR w k) / 3) ≠ 0 := of_decide_eq_true c_46
          rw [if_pos hq] at z2
          refine mi_iinc dX0_giveRow_51 rfl (by decide) rfl ?_
          dsimp only [List.set, Nat.reduceAdd]
          refine ms_goto (tgt := 2) dX0_giveRow_54 (by decide) ?_
          have i9 := ih (k + 1) N2 _ (some (.int (iI (mx_dz (chR w k))))) (by omega) (fun x hx => by rw [z1 x hx, q1 x hx]) (by show (gvR c (fun j => mx_dz (chR w j)) v k).bind _ = _; rw [q2]; exact (if_neg c_25).trans (if_pos hq)) z2 (give_ok hT q4 ⟨hck.2.2.1, hck.2.2.2⟩ (by omega) (by omega) (by omega) hq)
          rw [show ((k + 1 : Nat) : Int) = (k : Int) + 1 by omega] at i9
          exact i9
        · have hq : ¬ u (3 * c k + mx_dz (chR w k) / 3) ≠ 0 := of_decide_eq_false c_46
          refine mi_iconst dX0_giveRow_49 ?_
          refine ms_retZ dX0_giveRow_50 rfl (by first | exact Or.inl rfl | exact Or.inr rfl) ⟨N2, false, rfl, rfl, fun x hx => by rw [z1 x hx, q1 x hx], Or.inl ⟨rfl, by rw [show m = (k + 1) + kk by omega]; exact gvR_no (by show (gvR c (fun j => mx_dz (chR w j)) v k).bind _ = _; rw [q2]; exact (if_neg c_25).trans (if_neg hq)) kk⟩⟩ (by simp)

set_option maxHeartbeats 4000000 in
set_option maxRecDepth 100000 in
theorem k_X0_giveRow {S : mx_Sc} {f : Bool} {M : Nat → Int → Int} {L : Nat → Nat → Int64} {Rf : Nat → Nat → Option Nat} (hR : mx_rf Rf) {t : sp_T} (hT : sp_tok t) {v : Int → Int} (hsc : scR t M 18 v) (hv : sp_vok t v) {m : Nat} (hm3 : m ≤ 3) {c : Nat → Int} (hm : M 25 3 = (m : Int)) (hch : ∀ j : Nat, j < m → M 26 (j : Int) = c j ∧ M 27 (j : Int) = 7 ^ j ∧ 0 ≤ c j ∧ c j < t.1 1) {w : Int} (hw : 0 ≤ w ∧ w < 343) : mx_C S mX0_giveRow [.ref 25, .ref 18, .int (iI w)] (f, mx_SH, M, L, Rf) 0 0 (fun v9 h9 => ∃ N b, h9 = (f, mx_SH, N, L, Rf) ∧ v9 = some (.int (iI (bI b))) ∧ (∀ x, x ≠ 19 → N x = M x) ∧ ((b = false ∧ gvR c (fun j => mx_dz (chR w j)) v m = none) ∨ (b = true ∧ ∃ u, gvR c (fun j => mx_dz (chR w j)) v m = some u ∧ scR t N 18 u ∧ sp_vok t u))) (fun _ _ => False) := by
  refine mx_C_of (by decide) (by simp [Value.category]) (Nat.le_of_ble_eq_true rfl) rfl ?_
  show mx_E S mX0_giveRow 0 [some (.ref 25), some (.ref 18), some (.int (iI w)), none, none] [] (f, mx_SH, M, L, Rf) 0 0 _ _
  refine mi_iconst dX0_giveRow_0 ?_
  refine ms_istore_n dX0_giveRow_1 (by decide) rfl ?_
  dsimp only [List.set, Nat.reduceAdd]
  exact l_X0_gr hR hT hsc hv hm3 hm hch hw m 0 M v none (by omega) (fun _ _ => rfl) rfl hsc hv

