/-- when the j-th child marries by a row of drops; 1001: the row can't be -/
def vlR (t : sp_T) (lk : Int → Int) (n : Int) (v : Int → Int) (c : Nat → Int) (m : Nat) (w : Int) (j : Nat) : Int :=
  match gvR c (fun j => mx_dz (chR w j)) v m with
  | none => 1001
  | some u => wdV true lk (sp_run t lk false false n (t.1 5 - n).toNat u) (c j)
set_option maxHeartbeats 4000000 in
set_option maxRecDepth 100000 in
theorem l_X0_hO {S : mx_Sc} {f : Bool} {M : Nat → Int → Int} {L : Nat → Nat → Int64} {Rf : Nat → Nat → Option Nat} (hR : mx_rf Rf) {t : Nat} (ht : t = 29 ∨ t = 37) (hT : sp_tok (sp_tC M t)) (hwt : Rf 46 1 = some t) (hwl : Rf 46 2 = some (t + 3)) (hlk : sp_lok (sp_tC M t) (M (t + 3))) (hng : M 46 4 = bI false) (hst : M 46 3 = M t 2) {v : Int → Int} (hsc : scR (sp_tC M t) M 3 v) (hv : sp_vok (sp_tC M t) v) {n : Int} (hn : 0 ≤ n ∧ n ≤ 99) (hnn : M 3 3 = n) (hne : n ≤ M t 5) {m : Nat} (hm3 : m ≤ 3) {c : Nat → Int} (hm : M 25 3 = (m : Int)) (hrw : M 25 4 = 7 ^ m) {lm : Int} (hlm : 0 ≤ lm ∧ lm < 64) (hch : ∀ j : Nat, j < m → (M 26 (j : Int) = c j ∧ M 27 (j : Int) = 7 ^ j ∧ 0 ≤ c j ∧ c j < M t 1) ∧ ob lm (c j) = 1) : ∀ (kk : Nat) (w : Nat) (N : Nat → Int → Int) (o6 o7 o8 : Option Value), (w : Int) + kk = 7 ^ m → (∀ x, x ≠ 28 → x ≠ 18 → x ≠ 19 → x ≠ 20 → x ≠ 21 → x ≠ 47 → N x = M x) → (∀ (w2 j : Nat), w2 < w → j < m → N 28 ((w2 : Int) * 3 + (j : Int)) = vlR (sp_tC M t) (M (t + 3)) n v c m w2 j) → mx_E S mX0_hear 9 [some (.ref 25), some (.ref 46), some (.ref 3), some (.ref 18), some (.int (iI lm)), some (.int (iI (w : Int))), o6, o7, o8] [] (f, mx_SH, N, L, Rf) 0 0 (fun v9 h9 => ∃ N, h9 = (f, mx_SH, N, L, Rf) ∧ v9 = none ∧ (∀ x, x ≠ 28 → x ≠ 18 → x ≠ 19 → x ≠ 20 → x ≠ 21 → x ≠ 47 → N x = M x) ∧ ∀ (w j : Nat), (w : Int) < 7 ^ m → j < m → N 28 ((w : Int) * 3 + (j : Int)) = vlR (sp_tC M t) (M (t + 3)) n v c m w j) (fun _ _ => False) := by
  intro kk
  induction kk with
  | zero => 
    intro w N o6 o7 o8 g1 q1 q2
    have eT : sp_tC N t = sp_tC M t := tC_fr (fun y _ _ => q1 y (by omega) (by omega) (by omega) (by omega) (by omega) (by omega))
    have eN : ∀ k, N t k = M t k := fun k => by rw [q1 t (by omega) (by omega) (by omega) (by omega) (by omega) (by omega)]
    have hT1 : 0 ≤ M t 1 ∧ M t 1 ≤ 6 := hT.2.1
    have hT5 : 1 ≤ M t 5 ∧ M t 5 ≤ 99 := hT.2.2.2.2.2.1
    have e4 : N 25 4 = 7 ^ m := by rw [q1 25 (by omega) (by omega) (by omega) (by omega) (by omega) (by omega)]; exact hrw
    have h7 := p7_3 hm3
    have hs3 : scR (sp_tC M t) N 3 v := hsc.fr (q1 _ (by omega) (by omega) (by omega) (by omega) (by omega) (by omega)) (q1 _ (by omega) (by omega) (by omega) (by omega) (by omega) (by omega)) (q1 _ (by omega) (by omega) (by omega) (by omega) (by omega) (by omega)) (q1 _ (by omega) (by omega) (by omega) (by omega) (by omega) (by omega))
    refine ms_iload dX0_hear_9 rfl ?_
    refine ms_aload_n dX0_hear_11 rfl ?_
    refine ms_getI (z := 4) dX0_hear_12 (fo_X0_25 rfl) (by first | rfl | assumption) rfl rfl ?_
    refine mi_icmp_ge (tgt := 119) dX0_hear_15 (by decide) (fun c_15 => ?_) (fun c_15 => ?_)
    · refine ms_retV dX0_hear_119 rfl ⟨N, rfl, rfl, q1, fun w2 j h1 h2 => q2 w2 j (by omega) h2⟩ (by simp)
    · exact absurd c_15 (by omega)
  | succ kk ih => 
    intro w N o6 o7 o8 g1 q1 q2
    have eT : sp_tC N t = sp_tC M t := tC_fr (fun y _ _ => q1 y (by omega) (by omega) (by omega) (by omega) (by omega) (by omega))
    have eN : ∀ k, N t k = M t k := fun k => by rw [q1 t (by omega) (by omega) (by omega) (by omega) (by omega) (by omega)]
    have hT1 : 0 ≤ M t 1 ∧ M t 1 ≤ 6 := hT.2.1
    have hT5 : 1 ≤ M t 5 ∧ M t 5 ≤ 99 := hT.2.2.2.2.2.1
    have e4 : N 25 4 = 7 ^ m := by rw [q1 25 (by omega) (by omega) (by omega) (by omega) (by omega) (by omega)]; exact hrw
    have h7 := p7_3 hm3
    have hs3 : scR (sp_tC M t) N 3 v := hsc.fr (q1 _ (by omega) (by omega) (by omega) (by omega) (by omega) (by omega)) (q1 _ (by omega) (by omega) (by omega) (by omega) (by omega) (by omega)) (q1 _ (by omega) (by omega) (by omega) (by omega) (by omega) (by omega)) (q1 _ (by omega) (by omega) (by omega) (by omega) (by omega) (by omega))
    refine ms_iload dX0_hear_9 rfl ?_
    refine ms_aload_n dX0_hear_11 rfl ?_
    refine ms_getI (z := 4) dX0_hear_12 (fo_X0_25 rfl) (by first | rfl | assumption) rfl rfl ?_
    refine mi_icmp_ge (tgt := 119) dX0_hear_15 (by decide) (fun c_15 => ?_) (fun c_15 => ?_)
    · exact absurd c_15 (by omega)
    · refine ms_aload_n dX0_hear_18 rfl ?_
      refine ms_aload_n dX0_hear_19 rfl ?_
      refine ms_callV1 (ci := 2) (r := (RX2, TX2, 6)) dX0_hear_20 cv_X0_hear_X2_take (k_X2_take (M := N) (a := 18) (b := 3) hR (by omega) (by omega) (by decide)) rfl rfl (by first | rfl | assumption) (Nat.le_of_ble_eq_true rfl) rfl (fun _ _ z => z.elim) (fun v9 h9 hp9 => ?_)
      obtain ⟨N1, rfl, rfl, z1, z2, z3⟩ := hp9
      have f1 : ∀ x, x ≠ 28 → x ≠ 18 → x ≠ 19 → x ≠ 20 → x ≠ 21 → x ≠ 47 → N1 x = M x := fun x x0 x1 x2 x3 x4 x5 => by rw [z1 x x1 x2 x3 x4, q1 x x0 x1 x2 x3 x4 x5]
      have e18 : N1 18 3 = n := by rw [z2.2.2.1, q1 3 (by omega) (by omega) (by omega) (by omega) (by omega) (by omega)]; exact hnn
      have hs18 : scR (sp_tC M t) N1 18 v := z2.sc hT hs3
      refine ms_aload_n dX0_hear_23 rfl ?_
      refine ms_aload_n dX0_hear_24 rfl ?_
      refine ms_iload dX0_hear_25 rfl ?_
      refine ms_callV2 (ci := 0) (r := (RX0, TX0, 5)) dX0_hear_27 cv_X0_hear_X0_giveRow (k_X0_giveRow (M := N1) hR hT hs18 hv hm3 (c := c) (m := m) (by rw [f1 25 (by omega) (by omega) (by omega) (by omega) (by omega) (by omega)]; exact hm) (fun j hj => by rw [f1 26 (by omega) (by omega) (by omega) (by omega) (by omega) (by omega), f1 27 (by omega) (by omega) (by omega) (by omega) (by omega) (by omega)]; exact (hch j hj).1) (w := (w : Int)) (by omega)) rfl rfl (by first | rfl | assumption) (Nat.le_of_ble_eq_true rfl) rfl (fun _ _ z => z.elim) (fun v9 h9 hp9 => ?_)
      obtain ⟨N2, b, rfl, rfl, y1, y2⟩ := hp9
      have f2 : ∀ x, x ≠ 28 → x ≠ 18 → x ≠ 19 → x ≠ 20 → x ≠ 21 → x ≠ 47 → N2 x = M x := fun x x0 x1 x2 x3 x4 x5 => by rw [y1 x x2, f1 x x0 x1 x2 x3 x4 x5]
      refine ms_istore dX0_hear_30 (by decide) rfl ?_
      dsimp only [List.set, Nat.reduceAdd]
      refine ms_iload dX0_hear_32 rfl ?_
      refine mi_if_eqB (tgt := 44) dX0_hear_34 (by decide) (fun c_34 => ?_) (fun c_34 => ?_)
      · rw [c_34]
        have hno : gvR c (fun j => mx_dz (chR (w : Int) j)) v m = none := by
          rcases y2 with ⟨_, h⟩ | ⟨h, _⟩
          · exact h
          · rw [c_34] at h
            cases h
        have e28 : N2 28 = N 28 := by rw [y1 28 (by decide), z1 28 (by decide) (by decide) (by decide) (by decide)]
        refine mi_iconst dX0_hear_44 ?_
        refine ms_istore dX0_hear_45 (by decide) rfl ?_
        dsimp only [List.set, Nat.reduceAdd]
        have eT2 : sp_tC N2 t = sp_tC M t := tC_fr (fun y _ _ => f2 y (by omega) (by omega) (by omega) (by omega) (by omega) (by omega))
        have el2 : N2 (t + 3) = M (t + 3) := f2 (t + 3) (by omega) (by omega) (by omega) (by omega) (by omega) (by omega)
        have et2 : N2 t = M t := f2 t (by omega) (by omega) (by omega) (by omega) (by omega) (by omega)
        refine l_X0_hI (S := S) (f := f) (L := L) (M := N2) (P := (fun v9 h9 => ∃ N, h9 = (f, mx_SH, N, L, Rf) ∧ v9 = none ∧ (∀ x, x ≠ 28 → x ≠ 18 → x ≠ 19 → x ≠ 20 → x ≠ 21 → x ≠ 47 → N x = M x) ∧ ∀ (w j : Nat), (w : Int) < 7 ^ m → j < m → N 28 ((w : Int) * 3 + (j : Int)) = vlR (sp_tC M t) (M (t + 3)) n v c m w j)) (PX := fun _ _ => False) hR ht (by rw [eT2]; exact hT) hwl (by rw [eT2, el2]; exact hlk) hm3 (c := c) (by rw [f2 25 (by omega) (by omega) (by omega) (by omega) (by omega) (by omega)]; exact hm) (fun j hj => by rw [f2 26 (by omega) (by omega) (by omega) (by omega) (by omega) (by omega), et2]; exact ⟨(hch j hj).1.1, (hch j hj).1.2.2.1, (hch j hj).1.2.2.2⟩) (w := (w : Int)) (lm := lm) (by omega) (b := false) (u := v) (fun z => by cases z) m 0 N2 _ (by omega) (fun _ _ => rfl) ⟨fun j hj => by omega, fun y hy => rfl⟩ (fun N4 z7 o8 p1 p2 => ?_)
        refine mi_iinc dX0_hear_113 rfl (by decide) rfl ?_
        dsimp only [List.set, Nat.reduceAdd]
        refine ms_goto (tgt := 9) dX0_hear_116 (by decide) ?_
        rw [show (w : Int) + 1 = ((w + 1 : Nat) : Int) by omega]
        refine ih (w + 1) N4 _ _ _ (by omega) (fun x x0 x1 x2 x3 x4 x5 => by rw [p1 x x0, f2 x x0 x1 x2 x3 x4 x5]) (fun w2 j hw2 hj => ?_)
        by_cases e : w2 = w
        · subst e
          rw [p2.1 j hj, el2]
          unfold vlR
          rw [hno]
          rfl
        · rw [p2.2 _ (by omega), e28]
          exact q2 w2 j (by omega) hj
      · rw [c_34]
        obtain ⟨u, hu1, hu2, hu3⟩ : ∃ u, gvR c (fun j => mx_dz (chR (w : Int) j)) v m = some u ∧ scR (sp_tC M t) N2 18 u ∧ sp_vok (sp_tC M t) u := by
          rcases y2 with ⟨h, _⟩ | ⟨_, h⟩
          · rw [c_34] at h
            cases h
          · exact h
        have eTe : sp_tC N2 t = sp_tC M t := tC_fr (fun y _ _ => f2 y (by omega) (by omega) (by omega) (by omega) (by omega) (by omega))
        have ele : N2 (t + 3) = M (t + 3) := f2 (t + 3) (by omega) (by omega) (by omega) (by omega) (by omega) (by omega)
        have ete : ∀ k, N2 t k = M t k := fun k => by rw [f2 t (by omega) (by omega) (by omega) (by omega) (by omega) (by omega)]
        have e46e : N2 46 = M 46 := f2 46 (by omega) (by omega) (by omega) (by omega) (by omega) (by omega)
        refine ms_aload_n dX0_hear_37 rfl ?_
        refine ms_aload_n dX0_hear_38 rfl ?_
        refine ms_iload dX0_hear_39 rfl ?_
        refine ms_callV2 (ci := 5) (r := (RX5, TX5, 5)) dX0_hear_41 cv_X0_hear_X5_goToEaster (k_X5_goToEaster (M := N2) (a := 18) (v := u) (n := n) (hf := false) (ng := false) (wr := t + 3) (lm := lm) hR ht (by rw [eTe]; exact hT) (by omega) hwt (Or.inl rfl) hwl (by rw [eTe, ele]; exact hlk) (by rw [eTe]; exact hu2) (by rw [eTe]; exact hu3) (by omega) (by rw [y1 18 (by decide)]; exact e18) (by rw [e46e]; exact hng) (by rw [e46e, ete]; exact hst) hlm (by rw [ete]; exact hne)) rfl rfl (by first | rfl | assumption) (Nat.le_of_ble_eq_true rfl) rfl (fun _ _ z => z.elim) (fun v9 h9 hp9 => ?_)
        obtain ⟨N3, w3, rfl, rfl, s1, s2, s3, s4, s5⟩ := hp9
        rw [eTe] at s3 s4 s5
        rw [ele, ete] at s5
        have f3 : ∀ x, x ≠ 28 → x ≠ 18 → x ≠ 19 → x ≠ 20 → x ≠ 21 → x ≠ 47 → N3 x = M x := fun x x0 x1 x2 x3 x4 x5 => by rw [s1 x x5 x1 x2 x3 x4, f2 x x0 x1 x2 x3 x4 x5]
        have e28 : N3 28 = N 28 := by rw [s1 28 (by decide) (by decide) (by decide) (by decide) (by decide), y1 28 (by decide), z1 28 (by decide) (by decide) (by decide) (by decide)]
        refine mi_iconst dX0_hear_44 ?_
        refine ms_istore dX0_hear_45 (by decide) rfl ?_
        dsimp only [List.set, Nat.reduceAdd]
        have eT3 : sp_tC N3 t = sp_tC M t := tC_fr (fun y _ _ => f3 y (by omega) (by omega) (by omega) (by omega) (by omega) (by omega))
        have el3 : N3 (t + 3) = M (t + 3) := f3 (t + 3) (by omega) (by omega) (by omega) (by omega) (by omega) (by omega)
        have et3 : N3 t = M t := f3 t (by omega) (by omega) (by omega) (by omega) (by omega) (by omega)
        refine l_X0_hI (S := S) (f := f) (L := L) (M := N3) (P := (fun v9 h9 => ∃ N, h9 = (f, mx_SH, N, L, Rf) ∧ v9 = none ∧ (∀ x, x ≠ 28 → x ≠ 18 → x ≠ 19 → x ≠ 20 → x ≠ 21 → x ≠ 47 → N x = M x) ∧ ∀ (w j : Nat), (w : Int) < 7 ^ m → j < m → N 28 ((w : Int) * 3 + (j : Int)) = vlR (sp_tC M t) (M (t + 3)) n v c m w j)) (PX := fun _ _ => False) hR ht (by rw [eT3]; exact hT) hwl (by rw [eT3, el3]; exact hlk) hm3 (c := c) (by rw [f3 25 (by omega) (by omega) (by omega) (by omega) (by omega) (by omega)]; exact hm) (fun j hj => by rw [f3 26 (by omega) (by omega) (by omega) (by omega) (by omega) (by omega), et3]; exact ⟨(hch j hj).1.1, (hch j hj).1.2.2.1, (hch j hj).1.2.2.2⟩) (w := (w : Int)) (lm := lm) (by omega) (b := true) (u := w3) (fun _ => ⟨by rw [eT3]; exact s3, by rw [eT3]; exact s4⟩) m 0 N3 _ (by omega) (fun _ _ => rfl) ⟨fun j hj => by omega, fun y hy => rfl⟩ (fun N4 z7 o8 p1 p2 => ?_)
        refine mi_iinc dX0_hear_113 rfl (by decide) rfl ?_
        dsimp only [List.set, Nat.reduceAdd]
        refine ms_goto (tgt := 9) dX0_hear_116 (by decide) ?_
        rw [show (w : Int) + 1 = ((w + 1 : Nat) : Int) by omega]
        refine ih (w + 1) N4 _ _ _ (by omega) (fun x x0 x1 x2 x3 x4 x5 => by rw [p1 x x0, f3 x x0 x1 x2 x3 x4 x5]) (fun w2 j hw2 hj => ?_)
        by_cases e : w2 = w
        · subst e
          rw [p2.1 j hj, el3]
          unfold vlR
          rw [hu1]
          have h9 := s5 (c j) (hch j hj).1.2.2.1 (by have := (hch j hj).1.2.2.2; omega) (hch j hj).2
          show wdV true (M (t + 3)) w3 (c j) = wdV true (M (t + 3)) (sp_run (sp_tC M t) (M (t + 3)) false false n (M t 5 - n).toNat u) (c j)
          unfold wdV wdF
          rw [h9.1, h9.2]
        · rw [p2.2 _ (by omega), e28]
          exact q2 w2 j (by omega) hj

