theorem rlV.tape {M N : Nat → Int → Int} {Rf : Nat → Nat → Option Nat} {t : Nat} {b : Bool} {it : Int} (h : rlV M Rf t b it) (h12 : N 0 12 = M 0 12) (h13 : N 0 13 = M 0 13) (h1 : N 1 = M 1) (h62 : N 62 = M 62) (h15 : N 48 15 = M 48 15) (h24 : N 48 24 = M 48 24) (h64 : N 64 = M 64) : (0 ≤ N 48 15 ∧ N 48 15 ≤ 500) ∧ N 0 12 = N 48 15 ∧ (N 1 = N 62 ∧ ∀ y, 0 ≤ y → y < 500 → 0 ≤ N 62 y ∧ N 62 y ≤ 255) ∧ N 0 13 = N 48 24 ∧ nk N := by
  obtain ⟨c1, c2, c3, c4, c5, c6⟩ := h.2.2.1
  refine ⟨by rw [h15]; exact c1, by rw [h12, h15]; exact c2, by rw [h1, h62]; exact c3, by rw [h13, h24]; exact c4, ?_⟩
  unfold nk
  rw [h64]
  exact c5
theorem bI_inj {a b : Bool} (h : iI (bI a) = iI (bI b)) : a = b := by
  cases a <;> cases b <;> first | rfl | exact absurd h (by decide)
theorem bI_64 (a : Bool) : (if a = true then (1 : Int64) else 0) = (iI (bI a)).toInt64 := by cases a <;> decide
theorem fd_b (a b c d e j : Int) : 0 ≤ fd a b c d e j ∧ fd a b c d e j ≤ 255 := by
  unfold fd
  have h9 : ∀ x s, 0 ≤ by32 x s ∧ by32 x s ≤ 255 := fun x s => by have := by32_b x s; omega
  split
  · exact h9 _ _
  · split
    · exact h9 _ _
    · split
      · exact h9 _ _
      · split
        · exact h9 _ _
        · exact h9 _ _
/-- one call of the law that can't throw -/
def lcase0 (S : mx_Sc) (κ1 κ2 : mx_M) (ar : List Value) (iv : Bool) (M : Nat → Int → Int) (L : Nat → Nat → Int64) (Rf : Nat → Nat → Option Nat) (it : Int) : Prop :=
  ∃ (Pk : Option Value → mx_H → Prop), mx_C S κ1 (.ref 0 :: ar) (false, mx_SH, M, L, Rf) 0 0 Pk (fun _ _ => False) ∧ ∀ v h1, Pk v h1 → ∃ (N1 : Nat → Int → Int) (Rf1 : Nat → Nat → Option Nat), h1 = (false, mx_SH, N1, L, Rf1) ∧ mx_rf Rf1 ∧ (iv = true → ∃ y : Int, v = some (.int (iI y))) ∧ (iv = false → v = none) ∧
    ∃ Pm : Option Value → mx_H → Prop, mx_C S κ2 (.ref 48 :: ar) (false, mx_SH, N1, L, Rf1) 0 0 Pm (fun _ _ => False) ∧ ∀ v2 h2, Pm v2 h2 → ∃ (N2 : Nat → Int → Int) (t2 : Nat) (b2 : Bool), h2 = (false, mx_SH, N2, L, Rf1) ∧ v2 = v ∧ rlV N2 Rf1 t2 b2 (it + 1)
/-- drop answers by yes or no -/
def lcaseD (S : mx_Sc) (κ1 κ2 : mx_M) (ar : List Value) (M : Nat → Int → Int) (L : Nat → Nat → Int64) (Rf : Nat → Nat → Option Nat) (it : Int) : Prop :=
  ∃ (bc bs : Nat) (Pk : Option Value → mx_H → Prop), (bc ≤ 1 ∧ bs ≤ 6) ∧ mx_C S κ1 (.ref 0 :: (ar ++ [.ref 81])) (false, mx_SH, M, L, Rf) bc bs Pk (fun _ _ => False) ∧ ∀ v h1, Pk v h1 → ∃ (N1 : Nat → Int → Int) (L1 : Nat → Nat → Int64) (Rf1 : Nat → Nat → Option Nat) (k : Int), h1 = (false, mx_SH, N1, L1, Rf1) ∧ v = some (.int (iI k)) ∧ (0 ≤ k ∧ k ≤ 2) ∧ mx_rf Rf1 ∧
    ∃ Pm : Option Value → mx_H → Prop, mx_C S κ2 (.ref 48 :: ar) (false, mx_SH, N1, L1, Rf1) 0 0 Pm (fun _ _ => False) ∧ ∀ v2 h2, Pm v2 h2 → ∃ (N2 : Nat → Int → Int) (z : Bool) (t2 : Nat) (b2 : Bool), h2 = (false, mx_SH, N2, L1, Rf1) ∧ v2 = some (.int (iI (bI z))) ∧ N2 48 4 = k ∧ (k = 0 → L1 81 0 = if z = true then 1 else 0) ∧ rlV N2 Rf1 t2 b2 (it + 1)
set_option maxHeartbeats 1000000 in
theorem lc_nights {S : mx_Sc} {M : Nat → Int → Int} {L : Nat → Nat → Int64} {Rf : Nat → Nat → Option Nat} {t : Nat} {b : Bool} {it : Int} (h : rlV M Rf t b it) {u : Int} (hu32 : -2147483648 ≤ u ∧ u ≤ 2147483647) (hit : it ≤ 1000000) : lcase S mL_nights mX7_nights [.int (iI u)] M L Rf it := by
  obtain ⟨⟨ht, hR, hrs, hto, hsp⟩, ⟨hT, hE, hlkE, hlk, hoE, hto56, hoj1, hoj2⟩, ⟨htl, h12, htp, h13, hnk, hcs⟩, hst, h14, h41, him⟩ := id h
  obtain ⟨⟨hsc, hn3, hnb, hv, hwI⟩, ⟨hz, hnw, hJ, hJm⟩, ⟨hD, hW⟩, ⟨hO, hD2, hW2, hDW⟩, ⟨hWb, hW2b⟩, hSt⟩ := id hst
  have hTC : sp_tok (sp_tC M t) := hE.tok hT
  have eL : M t 1 = M 53 1 := hE.1 1 (by decide) (by decide)
  have e5 : M t 5 = M 53 5 := hE.1 5 (by decide) (by decide)
  have hvC : sp_vok (sp_tC M t) (M 63) := hE.vok hTC hv
  have hlkL : eqL (sp_tC M t) (M (t + 3)) (M 57) := fun l l0 l1 => hlkE l l0 (by rw [← eL]; exact l1)
  have hlkC : sp_lok (sp_tC M t) (M (t + 3)) := hE.lok hTC hlkL hlk
  have hT1 : 0 ≤ M 53 1 ∧ M 53 1 ≤ 6 := hT.2.1
  have hT5 : 1 ≤ M 53 5 ∧ M 53 5 ≤ 99 := hT.2.2.2.2.2.1
  have hn99 : 0 ≤ M 48 29 ∧ M 48 29 ≤ 99 := by have : 0 ≤ M 48 29 ∧ M 48 29 ≤ M 53 5 := hnb; omega
  have hne : M 48 29 ≤ M 53 5 := hnb.2
  have hzC : ∀ l, M t 1 ≤ l → l < 6 → sp_out (M 63) l = false := fun l a b => hz l (by show M 53 1 ≤ l; omega) b
  have hdkC : ∀ j, 0 ≤ j → j < M 48 29 → sp_vok (sp_tC M t) (bk_v (M 7) (M 63) j) := fun j j0 j1 => dk_ok hE hTC hvC (hD j j0 j1) (hD2 j j0 j1)
  have hDM : ∀ j, 0 ≤ j → j < M 48 29 → sp_vok (sp_tR M) (bkM (M 68) (M 70) j) := fun j j0 j1 => bkM_ok hT (hD2 j j0 j1)
  by_cases hc : 0 ≤ u ∧ u ≤ 99
  · refine ⟨0, 0, _, by decide, k_L_nights (k_X6_nights hR ht hTC hto hsc hvC hn99 hn3 hlkC hu32 hc) (fun v h9 hp => by rcases hp with ⟨_, rfl, rfl⟩ | ⟨_, N, M2, Rf2, rfl, rfl, _⟩ <;> exact ⟨_, _, _, _, rfl, rfl⟩), fun v h1 hp => ?_⟩
    obtain ⟨N, L2, Rf2, y, hp0, rfl, rfl⟩ := hp
    rcases hp0 with ⟨hlt, heq, hval⟩ | ⟨hle, N3, M2, Rf3, heq, hval, hRf, hRx, hM2, hni⟩
    · simp only [Prod.mk.injEq, true_and] at heq
      obtain ⟨hN, rfl, rfl⟩ := heq
      have hy := Value.int.inj (Option.some.inj hval)
      have eM' : ∀ x, x ≠ 9 → N x = M x := fun x hx => by rw [hN, up_n _ _ hx]
      have eM : ∀ x, 48 ≤ x → N x = M x := fun x hx => eM' x (by omega)
      have eT : sp_tR N = sp_tR M := by show (N 53, N 54, N 55, N 58, N 59, N 60) = _; rw [eM 53 (by decide), eM 54 (by decide), eM 55 (by decide), eM 58 (by decide), eM 59 (by decide), eM 60 (by decide)]
      have e48 := eM 48 (by decide)
      have e57 := eM 57 (by decide)
      have e61 := eM 61 (by decide)
      have e63 := eM 63 (by decide)
      have e53 := eM 53 (by decide)
      have hS2 := hSt 2 (by decide) (by decide)
      refine ⟨N, _, Rf2, 0, rfl, rfl, by decide, hR, _, k_X7_nights hR (by rw [eT]; exact hT) (by rw [eT, e63]; exact hv) (by rw [eT, e57]; exact hlk) hn99 (by rw [e48]) (by rw [e61]; omega) hu32 hc, fun v2 h2 hp9 => ?_⟩
      rcases hp9 with ⟨_, N2, rfl, rfl, hN4, hN48, hN2, hN61⟩ | ⟨hle, _⟩
      · have e2 : ∀ x, x ≠ 9 → x ≠ 48 → x ≠ 61 → N2 x = M x := fun x x1 x2 x3 => (hN2 x x2 x3).trans (eM' x x1)
        have e29 : ∀ k, k ≠ 4 → N2 48 k = M 48 k := fun k hk => by rw [hN48 k hk, e48]
        refine ⟨N2, -1, t, b, rfl, rfl, hN4, fun _ => by rw [up_s, up_s, hy], h.upd hR (fun _ _ => rfl) (fun x hx => e2 x (by omega) (by omega) (by omega)) (h.tape (by rw [e2 0 (by decide) (by decide) (by decide)]) (by rw [e2 0 (by decide) (by decide) (by decide)]) (e2 1 (by decide) (by decide) (by decide)) (e2 62 (by decide) (by decide) (by decide)) (e29 15 (by decide)) (e29 24 (by decide)) (e2 64 (by decide) (by decide) (by decide))) ?_ (h.main (fun x hx => e2 x (by omega) (by omega) (by omega)) (by rw [e2 0 (by decide) (by decide) (by decide)]) (e29 41 (by decide)) (e29 42 (by decide)))⟩
        rw [e2 7 (by decide) (by decide) (by decide), e2 8 (by decide) (by decide) (by decide), e2 63 (by decide) (by decide) (by decide), e2 68 (by decide) (by decide) (by decide), e2 69 (by decide) (by decide) (by decide), e2 70 (by decide) (by decide) (by decide), e29 29 (by decide), hN61, e61, hN2 9 (by decide) (by decide), hN, up_s]
        exact hst.ref (by decide) (e2 3 (by decide) (by decide) (by decide)) (e2 4 (by decide) (by decide) (by decide)) (e2 5 (by decide) (by decide) (by decide)) (e2 6 (by decide) (by decide) (by decide))
      · rw [e53] at hle
        omega
    · simp only [Prod.mk.injEq, true_and] at heq
      obtain ⟨rfl, rfl, rfl⟩ := heq
      have hy := Value.int.inj (Option.some.inj hval)
      obtain ⟨n1, n2, n3, n4, n5, n6, n7, n8⟩ := hni
      have ht9 : ∀ k, k < 8 → M2 (t + k) = M (t + k) := fun k hk => hM2 (t + k) (by omega)
      have eC2 : sp_tC M2 t = sp_tC M t := by show (M2 t, M2 (t + 1), M2 (t + 2), M2 (t + 5), M2 (t + 6), M2 (t + 7)) = _; rw [show M2 t = M t from ht9 0 (by decide), ht9 1 (by decide), ht9 2 (by decide), ht9 5 (by decide), ht9 6 (by decide), ht9 7 (by decide)]
      have et0 : M2 t = M t := ht9 0 (by decide)
      rw [eC2, ht9 3 (by decide), hE.run hTC hlkL] at n4
      rw [hM2 4 (by decide), et0, eL] at n3
      rw [hM2 7 (by decide)] at n6
      rw [hM2 8 (by decide)] at n7
      simp only [eC2, ht9 3 (by decide), hE.run hTC hlkL, et0, eL, hM2 4 (by decide)] at n8
      have eM' : ∀ x, x ≠ 46 → x ≠ 47 → x ≠ 3 → x ≠ 4 → x ≠ 5 → x ≠ 6 → x ≠ 7 → x ≠ 8 → N x = M x := fun x x1 x2 x3 x4 x5 x6 x7 x8 => (n1 x x2 x3 x4 x5 x6 x7 x8).trans (hM2 x x1)
      have eM : ∀ x, 48 ≤ x → N x = M x := fun x hx => eM' x (by omega) (by omega) (by omega) (by omega) (by omega) (by omega) (by omega) (by omega)
      have eT : sp_tR N = sp_tR M := by show (N 53, N 54, N 55, N 58, N 59, N 60) = _; rw [eM 53 (by decide), eM 54 (by decide), eM 55 (by decide), eM 58 (by decide), eM 59 (by decide), eM 60 (by decide)]
      have e48 := eM 48 (by decide)
      have e57 := eM 57 (by decide)
      have e61 := eM 61 (by decide)
      have e63 := eM 63 (by decide)
      have e53 := eM 53 (by decide)
      have hS2 := hSt 2 (by decide) (by decide)
      refine ⟨N, _, Rf2, 0, rfl, rfl, by decide, hRf, _, k_X7_nights hRf (by rw [eT]; exact hT) (by rw [eT, e63]; exact hv) (by rw [eT, e57]; exact hlk) hn99 (by rw [e48]) (by rw [e61]; omega) hu32 hc, fun v2 h2 hp9 => ?_⟩
      rcases hp9 with ⟨hgt, _⟩ | ⟨_, N2, M3, m, rfl, rfl, hcd, hnm⟩
      · rw [e53] at hgt
        omega
      · obtain ⟨m1, m2, m3, m4, m5, m6, m7, m8, m9, m10, m11, m12⟩ := hnm
        have eA : ∀ x, 48 < x → M3 x = M x := fun x hx => (hcd.1 x (by omega)).trans (eM x (by omega))
        have eT3 : sp_tR M3 = sp_tR M := by show (M3 53, M3 54, M3 55, M3 58, M3 59, M3 60) = _; rw [eA 53 (by decide), eA 54 (by decide), eA 55 (by decide), eA 58 (by decide), eA 59 (by decide), eA 60 (by decide)]
        rw [eT3, eA 57 (by decide), eA 63 (by decide)] at m4
        rw [eT3, eA 63 (by decide), m4] at m6
        rw [eA 68 (by decide)] at m8
        rw [eA 69 (by decide)] at m9
        rw [eA 70 (by decide)] at m10
        simp only [eT3, eA 57 (by decide), eA 63 (by decide)] at m11
        simp only [eT3, eA 57 (by decide), eA 63 (by decide), eA 53 (by decide)] at m12
        have eB : ∀ x, x < 48 → N2 x = N x := fun x hx => (m1 x (by omega) (by omega) (by omega) (by omega) (by omega) (by omega) (by omega)).trans (hcd.1 x (by omega))
        have eB2 : ∀ x, 48 < x → x ≠ 63 → x ≠ 65 → x ≠ 67 → x ≠ 68 → x ≠ 69 → x ≠ 70 → N2 x = M x := fun x x1 x2 x3 x4 x5 x6 x7 => (m1 x (by omega) x2 x3 x4 x5 x6 x7).trans (eA x x1)
        have e29 : ∀ k, k ≠ 4 → k ≠ 29 → N2 48 k = M 48 k := fun k k4 k29 => by rw [m2 k k29, hcd.2.2 k k4, e48]
        have eU : ((u.toNat : Nat) : Int) = u := by omega
        have hcn := n4.2.2.2.2
        rw [hE.cnt hTC, m6] at hcn
        have hcm := hsc.2.2.2.2
        rw [hE.cnt hTC] at hcm
        have hB : ∀ x, x < 46 → x ≠ 3 → x ≠ 4 → x ≠ 5 → x ≠ 6 → x ≠ 7 → x ≠ 8 → N2 x = M x := fun x x1 x2 x3 x4 x5 x6 x7 => (eB x (by omega)).trans (eM' x (by omega) (by omega) x2 x3 x4 x5 x6 x7)
        refine ⟨N2, m, t, b, rfl, rfl, by rw [m2 4 (by decide)]; exact hcd.2.1, fun _ => by rw [up_s, up_s, hy]; exact congrArg (fun x => (iI x).toInt64) (by omega), h.upd hRf hRx (fun x hx => ?_) (h.tape (by rw [hB 0 (by decide) (by decide) (by decide) (by decide) (by decide) (by decide) (by decide)]) (by rw [hB 0 (by decide) (by decide) (by decide) (by decide) (by decide) (by decide) (by decide)]) (hB 1 (by decide) (by decide) (by decide) (by decide) (by decide) (by decide) (by decide)) (eB2 62 (by decide) (by decide) (by decide) (by decide) (by decide) (by decide) (by decide)) (e29 15 (by decide) (by decide)) (e29 24 (by decide) (by decide)) (eB2 64 (by decide) (by decide) (by decide) (by decide) (by decide) (by decide) (by decide))) ?_ (h.main (fun x hx => ?_) (by rw [hB 0 (by decide) (by decide) (by decide) (by decide) (by decide) (by decide) (by decide)]) (e29 41 (by decide) (by decide)) (e29 42 (by decide) (by decide)))⟩
        · rcases hx with hx | hx
          · exact hB x (by omega) (by omega) (by omega) (by omega) (by omega) (by omega) (by omega)
          · exact eB2 x (by omega) (by omega) (by omega) (by omega) (by omega) (by omega) (by omega)
        · rw [hB 9 (by decide) (by decide) (by decide) (by decide) (by decide) (by decide) (by decide), eB2 61 (by decide) (by decide) (by decide) (by decide) (by decide) (by decide) (by decide), m3, eB 7 (by decide), eB 8 (by decide)]
          exact hst.run hT hE hlk (by show M 48 29 + ((u.toNat : Nat) : Int) ≤ M 53 5; omega) m4 (by rw [m4]; exact n4.fr (eB 3 (by decide)) (eB 4 (by decide)) (eB 5 (by decide)) (eB 6 (by decide))) (by rw [eB 3 (by decide)]; exact n2) (fun i hi => by rw [eB 4 (by decide)]; exact n3 i hi) n6 n7 n8 m8 m9 m10 m11 m12
        · rcases hx with hx | hx
          · exact hB x (by omega) (by omega) (by omega) (by omega) (by omega) (by omega) (by omega)
          · exact eB2 x (by omega) (by omega) (by omega) (by omega) (by omega) (by omega) (by omega)
  · refine ⟨1, 6, _, by decide, k_L_nights_x (k_X6_nights_x hR hu32 hc), fun v h1 hp => ?_⟩
    obtain ⟨rfl, rfl⟩ := hp
    refine ⟨M, L, Rf, 1, rfl, rfl, by decide, hR, _, k_X7_nights_x hR hu32 hc, fun v2 h2 hp2 => ?_⟩
    obtain ⟨N2, rfl, hN2, rfl⟩ := hp2
    exact ⟨N2, 0, t, b, rfl, rfl, hN2.2.1, fun z => absurd z (by decide), h.cd hN2⟩
set_option maxHeartbeats 1000000 in
theorem lc_undo {S : mx_Sc} {M : Nat → Int → Int} {L : Nat → Nat → Int64} {Rf : Nat → Nat → Option Nat} {t : Nat} {b : Bool} {it : Int} (h : rlV M Rf t b it) {k : Int} (hk32 : -2147483648 ≤ k ∧ k ≤ 2147483647) : lcase S mL_undo mX7_undo [.int (iI k)] M L Rf it := by
  obtain ⟨⟨ht, hR, hrs, hto, hsp⟩, ⟨hT, hE, hlkE, hlk, hoE, hto56, hoj1, hoj2⟩, ⟨htl, h12, htp, h13, hnk, hcs⟩, hst, h14, h41, him⟩ := id h
  obtain ⟨⟨hsc, hn3, hnb, hv, hwI⟩, ⟨hz, hnw, hJ, hJm⟩, ⟨hD, hW⟩, ⟨hO, hD2, hW2, hDW⟩, ⟨hWb, hW2b⟩, hSt⟩ := id hst
  have hTC : sp_tok (sp_tC M t) := hE.tok hT
  have eL : M t 1 = M 53 1 := hE.1 1 (by decide) (by decide)
  have e5 : M t 5 = M 53 5 := hE.1 5 (by decide) (by decide)
  have hvC : sp_vok (sp_tC M t) (M 63) := hE.vok hTC hv
  have hlkL : eqL (sp_tC M t) (M (t + 3)) (M 57) := fun l l0 l1 => hlkE l l0 (by rw [← eL]; exact l1)
  have hlkC : sp_lok (sp_tC M t) (M (t + 3)) := hE.lok hTC hlkL hlk
  have hT1 : 0 ≤ M 53 1 ∧ M 53 1 ≤ 6 := hT.2.1
  have hT5 : 1 ≤ M 53 5 ∧ M 53 5 ≤ 99 := hT.2.2.2.2.2.1
  have hn99 : 0 ≤ M 48 29 ∧ M 48 29 ≤ 99 := by have : 0 ≤ M 48 29 ∧ M 48 29 ≤ M 53 5 := hnb; omega
  have hne : M 48 29 ≤ M 53 5 := hnb.2
  have hzC : ∀ l, M t 1 ≤ l → l < 6 → sp_out (M 63) l = false := fun l a b => hz l (by show M 53 1 ≤ l; omega) b
  have hdkC : ∀ j, 0 ≤ j → j < M 48 29 → sp_vok (sp_tC M t) (bk_v (M 7) (M 63) j) := fun j j0 j1 => dk_ok hE hTC hvC (hD j j0 j1) (hD2 j j0 j1)
  have hDM : ∀ j, 0 ≤ j → j < M 48 29 → sp_vok (sp_tR M) (bkM (M 68) (M 70) j) := fun j j0 j1 => bkM_ok hT (hD2 j j0 j1)
  by_cases hc : 0 ≤ k
  · refine ⟨0, 0, _, by decide, k_L_undo (k_X6_undo hR ht hTC hto hsc hvC hn99 hn3 hzC hk32 hc) (fun v h9 hp => by obtain ⟨N, u, rfl, rfl, _⟩ := hp; exact ⟨_, _, _, _, rfl, rfl⟩), fun v h1 hp => ?_⟩
    obtain ⟨N, L2, Rf2, y, hp0, rfl, rfl⟩ := hp
    obtain ⟨N3, u, heq, hval, hu, hor⟩ := hp0
    simp only [Prod.mk.injEq, true_and] at heq
    obtain ⟨rfl, rfl, rfl⟩ := heq
    have hy := Value.int.inj (Option.some.inj hval)
    have eM' : ∀ x, x ≠ 3 → x ≠ 4 → x ≠ 5 → x ≠ 6 → N x = M x := fun x x1 x2 x3 x4 => by
      rcases hor with ⟨_, rfl⟩ | ⟨_, hf, _⟩
      · rfl
      · exact hf x x1 x2 x3 x4
    have eM : ∀ x, 48 ≤ x → N x = M x := fun x hx => eM' x (by omega) (by omega) (by omega) (by omega)
    have eT : sp_tR N = sp_tR M := by show (N 53, N 54, N 55, N 58, N 59, N 60) = _; rw [eM 53 (by decide), eM 54 (by decide), eM 55 (by decide), eM 58 (by decide), eM 59 (by decide), eM 60 (by decide)]
    have e48 := eM 48 (by decide)
    have e57 := eM 57 (by decide)
    have e61 := eM 61 (by decide)
    have e63 := eM 63 (by decide)
    have e53 := eM 53 (by decide)
    refine ⟨N, _, Rf2, 0, rfl, rfl, by decide, hR, _, k_X7_undo hR (by rw [eT]; exact hT) (by rw [eT, e63]; exact hv) hn99 (by rw [e48]) hk32 hc, fun v2 h2 hp9 => ?_⟩
    obtain ⟨N2, u2, rfl, rfl, hu2, hN4, hN48, hN29, hor2⟩ := hp9
    have huu : u2 = u := hu2.trans hu.symm
    subst huu
    have e29 : ∀ j, j ≠ 4 → j ≠ 29 → N2 48 j = M 48 j := fun j j4 j29 => by rw [hN48 j j4 j29, e48]
    refine ⟨N2, u2, t, b, rfl, rfl, hN4, fun _ => by rw [up_s, up_s, hy], ?_⟩
    rcases hor with ⟨u0, hNM⟩ | ⟨u0, hf, hs2, hn2, hj2⟩
    · rcases hor2 with ⟨_, hN2⟩ | ⟨u1, _⟩
      · have e2 : ∀ x, x ≠ 48 → N2 x = M x := fun x hx => by rw [hN2 x hx, hNM]
        refine h.mdl (fun x hx => e2 x (by intro z; subst z; cases hx)) (fun j j4 _ _ => ?_) (fun z l l0 l1 => by rw [e2 64 (by decide)]; exact z l l0 l1)
        by_cases j29 : j = 29
        · rw [j29, hN29, u0]; omega
        · exact e29 j j4 j29
      · omega
    · rcases hor2 with ⟨u1, _⟩ | ⟨_, hN2, h63⟩
      · omega
      · have e2 : ∀ x, x ≠ 48 → x ≠ 63 → x ≠ 3 → x ≠ 4 → x ≠ 5 → x ≠ 6 → N2 x = M x := fun x x1 x2 x3 x4 x5 x6 => (hN2 x x1 x2).trans (hf x x3 x4 x5 x6)
        have hun : u2 ≤ M 48 29 := by rw [hu]; split <;> omega
        refine h.upd hR (fun _ _ => rfl) (fun x hx => e2 x (by omega) (by omega) (by omega) (by omega) (by omega) (by omega)) (h.tape (by rw [e2 0 (by decide) (by decide) (by decide) (by decide) (by decide) (by decide)]) (by rw [e2 0 (by decide) (by decide) (by decide) (by decide) (by decide) (by decide)]) (e2 1 (by decide) (by decide) (by decide) (by decide) (by decide) (by decide)) (e2 62 (by decide) (by decide) (by decide) (by decide) (by decide) (by decide)) (e29 15 (by decide) (by decide)) (e29 24 (by decide) (by decide)) (e2 64 (by decide) (by decide) (by decide) (by decide) (by decide) (by decide))) ?_ (h.main (fun x hx => e2 x (by omega) (by omega) (by omega) (by omega) (by omega) (by omega)) (by rw [e2 0 (by decide) (by decide) (by decide) (by decide) (by decide) (by decide)]) (e29 41 (by decide) (by decide)) (e29 42 (by decide) (by decide)))
        rw [e2 7 (by decide) (by decide) (by decide) (by decide) (by decide) (by decide), e2 8 (by decide) (by decide) (by decide) (by decide) (by decide) (by decide), e2 9 (by decide) (by decide) (by decide) (by decide) (by decide) (by decide), e2 68 (by decide) (by decide) (by decide) (by decide) (by decide) (by decide), e2 69 (by decide) (by decide) (by decide) (by decide) (by decide) (by decide), e2 70 (by decide) (by decide) (by decide) (by decide) (by decide) (by decide), e2 61 (by decide) (by decide) (by decide) (by decide) (by decide) (by decide), hN29]
        rw [eM 69 (by decide), e63] at h63
        exact hst.back hT hE (m := M 48 29 - u2) (by omega) (hs2.fr (hN2 3 (by decide) (by decide)) (hN2 4 (by decide) (by decide)) (hN2 5 (by decide) (by decide)) (hN2 6 (by decide) (by decide))) (by rw [hN2 3 (by decide) (by decide)]; exact hn2) (fun i i0 i1 => by rw [hN2 4 (by decide) (by decide)]; exact hj2 i i0 i1) h63
  · refine ⟨1, 6, _, by decide, k_L_undo_x (k_X6_undo_x hR hk32 hc), fun v h1 hp => ?_⟩
    obtain ⟨rfl, rfl⟩ := hp
    refine ⟨M, L, Rf, 1, rfl, rfl, by decide, hR, _, k_X7_undo_x hR hk32 hc, fun v2 h2 hp2 => ?_⟩
    obtain ⟨N2, rfl, hN2, rfl⟩ := hp2
    exact ⟨N2, 0, t, b, rfl, rfl, hN2.2.1, fun z => absurd z (by decide), h.cd hN2⟩
set_option maxHeartbeats 1000000 in
theorem lc_drop {S : mx_Sc} {M : Nat → Int → Int} {L : Nat → Nat → Int64} {Rf : Nat → Nat → Option Nat} {t : Nat} {b : Bool} {it : Int} (h : rlV M Rf t b it) {l : Int} (hl32 : -2147483648 ≤ l ∧ l ≤ 2147483647) {i : Int} (hi32 : -2147483648 ≤ i ∧ i ≤ 2147483647) {j : Int} (hj32 : -2147483648 ≤ j ∧ j ≤ 2147483647) (hit : it ≤ 1000000) : lcaseD S mL_drop mX7_drop [.int (iI l), .int (iI i), .int (iI j)] M L Rf it := by
  obtain ⟨⟨ht, hR, hrs, hto, hsp⟩, ⟨hT, hE, hlkE, hlk, hoE, hto56, hoj1, hoj2⟩, ⟨htl, h12, htp, h13, hnk, hcs⟩, hst, h14, h41, him⟩ := id h
  obtain ⟨⟨hsc, hn3, hnb, hv, hwI⟩, ⟨hz, hnw, hJ, hJm⟩, ⟨hD, hW⟩, ⟨hO, hD2, hW2, hDW⟩, ⟨hWb, hW2b⟩, hSt⟩ := id hst
  have hTC : sp_tok (sp_tC M t) := hE.tok hT
  have eL : M t 1 = M 53 1 := hE.1 1 (by decide) (by decide)
  have e5 : M t 5 = M 53 5 := hE.1 5 (by decide) (by decide)
  have hvC : sp_vok (sp_tC M t) (M 63) := hE.vok hTC hv
  have hlkL : eqL (sp_tC M t) (M (t + 3)) (M 57) := fun l l0 l1 => hlkE l l0 (by rw [← eL]; exact l1)
  have hlkC : sp_lok (sp_tC M t) (M (t + 3)) := hE.lok hTC hlkL hlk
  have hT1 : 0 ≤ M 53 1 ∧ M 53 1 ≤ 6 := hT.2.1
  have hT5 : 1 ≤ M 53 5 ∧ M 53 5 ≤ 99 := hT.2.2.2.2.2.1
  have hn99 : 0 ≤ M 48 29 ∧ M 48 29 ≤ 99 := by have : 0 ≤ M 48 29 ∧ M 48 29 ≤ M 53 5 := hnb; omega
  have hne : M 48 29 ≤ M 53 5 := hnb.2
  have hzC : ∀ l, M t 1 ≤ l → l < 6 → sp_out (M 63) l = false := fun l a b => hz l (by show M 53 1 ≤ l; omega) b
  have hdkC : ∀ j, 0 ≤ j → j < M 48 29 → sp_vok (sp_tC M t) (bk_v (M 7) (M 63) j) := fun j j0 j1 => dk_ok hE hTC hvC (hD j j0 j1) (hD2 j j0 j1)
  have hDM : ∀ j, 0 ≤ j → j < M 48 29 → sp_vok (sp_tR M) (bkM (M 68) (M 70) j) := fun j j0 j1 => bkM_ok hT (hD2 j j0 j1)
  by_cases hc : (0 ≤ l ∧ l < M 53 1) ∧ (0 ≤ i ∧ i < 3) ∧ (0 ≤ j ∧ j < 3) ∧ i ≠ j
  · refine ⟨0, 0, _, by decide, k_L_drop (k_X6_drop hR ht hTC hto hsc hvC hn99 hn3 hl32 hi32 hj32 (by rw [eL]; exact hc)) (fun v h9 hp => by obtain ⟨N, rfl, rfl, _⟩ := hp; exact ⟨_, _, _, _, rfl, rfl⟩), fun v h1 hp => ?_⟩
    obtain ⟨N, L2, Rf2, y, hp0, rfl, rfl⟩ := hp
    obtain ⟨N3, heq, hval, hor⟩ := hp0
    simp only [Prod.mk.injEq, true_and] at heq
    obtain ⟨rfl, rfl, rfl⟩ := heq
    have hy := bI_inj (Value.int.inj (Option.some.inj hval))
    have eM' : ∀ x, x ≠ 4 → x ≠ 9 → N x = M x := fun x x1 x2 => by
      rcases hor with ⟨_, hf, _⟩ | ⟨_, rfl⟩
      · exact hf x x1
      · exact up_n _ _ x2
    have eM : ∀ x, 48 ≤ x → N x = M x := fun x hx => eM' x (by omega) (by omega)
    have eT : sp_tR N = sp_tR M := by show (N 53, N 54, N 55, N 58, N 59, N 60) = _; rw [eM 53 (by decide), eM 54 (by decide), eM 55 (by decide), eM 58 (by decide), eM 59 (by decide), eM 60 (by decide)]
    have e48 := eM 48 (by decide)
    have e57 := eM 57 (by decide)
    have e61 := eM 61 (by decide)
    have e63 := eM 63 (by decide)
    have e53 := eM 53 (by decide)
    have hS2 := hSt 1 (by decide) (by decide)
    refine ⟨N, _, Rf2, 0, rfl, rfl, by decide, hR, _, k_X7_drop hR (by rw [eT]; exact hT) (by rw [eT, e63]; exact hv) (by rw [e61]; omega) hl32 hi32 hj32 (by rw [e53]; exact hc), fun v2 h2 hp9 => ?_⟩
    obtain ⟨N2, rfl, hN4, hN48, rfl, hor2⟩ := hp9
    have e29 : ∀ j, j ≠ 4 → N2 48 j = M 48 j := fun j j4 => by rw [hN48 j j4, e48]
    refine ⟨N2, _, t, b, rfl, rfl, hN4, fun _ => by rw [up_s, up_s, hy, e63], ?_⟩
    rw [e63] at hor2
    rcases hor with ⟨hC, hf, hs2, hj2⟩ | ⟨hC, hNM⟩
    · rcases hor2 with ⟨_, hN2, h63⟩ | ⟨hC2, _⟩
      · have e2 : ∀ x, x ≠ 48 → x ≠ 63 → x ≠ 4 → N2 x = M x := fun x x1 x2 x3 => (hN2 x x1 x2).trans (hf x x3)
        refine h.upd hR (fun _ _ => rfl) (fun x hx => e2 x (by omega) (by omega) (by omega)) (h.tape (by rw [e2 0 (by decide) (by decide) (by decide)]) (by rw [e2 0 (by decide) (by decide) (by decide)]) (e2 1 (by decide) (by decide) (by decide)) (e2 62 (by decide) (by decide) (by decide)) (e29 15 (by decide)) (e29 24 (by decide)) (e2 64 (by decide) (by decide) (by decide))) ?_ (h.main (fun x hx => e2 x (by omega) (by omega) (by omega)) (by rw [e2 0 (by decide) (by decide) (by decide)]) (e29 41 (by decide)) (e29 42 (by decide)))
        rw [e2 7 (by decide) (by decide) (by decide), e2 8 (by decide) (by decide) (by decide), e2 9 (by decide) (by decide) (by decide), e2 68 (by decide) (by decide) (by decide), e2 69 (by decide) (by decide) (by decide), e2 70 (by decide) (by decide) (by decide), e2 61 (by decide) (by decide) (by decide), e29 29 (by decide), h63]
        exact hst.row hT hE (hs2.fr (hN2 3 (by decide) (by decide)) (hN2 4 (by decide) (by decide)) (hN2 5 (by decide) (by decide)) (hN2 6 (by decide) (by decide))) (by rw [e2 3 (by decide) (by decide) (by decide)]) (give_ok hT hv hc.1 hc.2.1 hc.2.2.1 hc.2.2.2 hC.2) (fun k k0 k1 => by unfold sp_give; rw [iu_n _ _ (by omega), iu_n _ _ (by omega)]) (fun k k0 k1 => by have k2 : 3 * M 53 1 ≤ k := k0; unfold sp_give; rw [iu_n _ _ (by omega), iu_n _ _ (by omega)]) (fun k k0 k1 => by rw [hN2 4 (by decide) (by decide)]; exact hj2 k (by rw [eL]; exact k0))
      · exact absurd hC hC2
    · rcases hor2 with ⟨hC2, _⟩ | ⟨_, hN2, h61⟩
      · exact absurd hC2 hC
      · have e2 : ∀ x, x ≠ 48 → x ≠ 61 → x ≠ 9 → N2 x = M x := fun x x1 x2 x3 => (hN2 x x1 x2).trans (by rw [hNM, up_n _ _ x3])
        refine h.upd hR (fun _ _ => rfl) (fun x hx => e2 x (by omega) (by omega) (by omega)) (h.tape (by rw [e2 0 (by decide) (by decide) (by decide)]) (by rw [e2 0 (by decide) (by decide) (by decide)]) (e2 1 (by decide) (by decide) (by decide)) (e2 62 (by decide) (by decide) (by decide)) (e29 15 (by decide)) (e29 24 (by decide)) (e2 64 (by decide) (by decide) (by decide))) ?_ (h.main (fun x hx => e2 x (by omega) (by omega) (by omega)) (by rw [e2 0 (by decide) (by decide) (by decide)]) (e29 41 (by decide)) (e29 42 (by decide)))
        rw [e2 7 (by decide) (by decide) (by decide), e2 8 (by decide) (by decide) (by decide), e2 68 (by decide) (by decide) (by decide), e2 69 (by decide) (by decide) (by decide), e2 70 (by decide) (by decide) (by decide), e2 63 (by decide) (by decide) (by decide), e29 29 (by decide), h61, e61, hN2 9 (by decide) (by decide), hNM, up_s]
        exact hst.ref (by decide) (e2 3 (by decide) (by decide) (by decide)) (e2 4 (by decide) (by decide) (by decide)) (e2 5 (by decide) (by decide) (by decide)) (e2 6 (by decide) (by decide) (by decide))
  · refine ⟨1, 6, _, by decide, k_L_drop_x (k_X6_drop_x hR ht hTC hto hl32 hi32 hj32 (by rw [eL]; exact hc)), fun v h1 hp => ?_⟩
    obtain ⟨rfl, rfl⟩ := hp
    refine ⟨M, L, Rf, 1, rfl, rfl, by decide, hR, _, k_X7_drop_x hR hT hl32 hi32 hj32 hc, fun v2 h2 hp2 => ?_⟩
    obtain ⟨N2, rfl, hN2, rfl⟩ := hp2
    exact ⟨N2, false, t, b, rfl, rfl, hN2.2.1, fun z => absurd z (by decide), h.cd hN2⟩
set_option maxHeartbeats 1000000 in
theorem lc_fault {S : mx_Sc} {M : Nat → Int → Int} {L : Nat → Nat → Int64} {Rf : Nat → Nat → Option Nat} {t : Nat} {b : Bool} {it : Int} (h : rlV M Rf t b it) : lcase0 S mX6_fault mX7_fault [] true M L Rf it := by
  obtain ⟨⟨ht, hR, hrs, hto, hsp⟩, ⟨hT, hE, hlkE, hlk, hoE, hto56, hoj1, hoj2⟩, ⟨htl, h12, htp, h13, hnk, hcs⟩, hst, h14, h41, him⟩ := id h
  obtain ⟨⟨hsc, hn3, hnb, hv, hwI⟩, ⟨hz, hnw, hJ, hJm⟩, ⟨hD, hW⟩, ⟨hO, hD2, hW2, hDW⟩, ⟨hWb, hW2b⟩, hSt⟩ := id hst
  have hTC : sp_tok (sp_tC M t) := hE.tok hT
  have eL : M t 1 = M 53 1 := hE.1 1 (by decide) (by decide)
  have e5 : M t 5 = M 53 5 := hE.1 5 (by decide) (by decide)
  have hvC : sp_vok (sp_tC M t) (M 63) := hE.vok hTC hv
  have hlkL : eqL (sp_tC M t) (M (t + 3)) (M 57) := fun l l0 l1 => hlkE l l0 (by rw [← eL]; exact l1)
  have hlkC : sp_lok (sp_tC M t) (M (t + 3)) := hE.lok hTC hlkL hlk
  have hT1 : 0 ≤ M 53 1 ∧ M 53 1 ≤ 6 := hT.2.1
  have hT5 : 1 ≤ M 53 5 ∧ M 53 5 ≤ 99 := hT.2.2.2.2.2.1
  have hn99 : 0 ≤ M 48 29 ∧ M 48 29 ≤ 99 := by have : 0 ≤ M 48 29 ∧ M 48 29 ≤ M 53 5 := hnb; omega
  have hne : M 48 29 ≤ M 53 5 := hnb.2
  have hzC : ∀ l, M t 1 ≤ l → l < 6 → sp_out (M 63) l = false := fun l a b => hz l (by show M 53 1 ≤ l; omega) b
  have hdkC : ∀ j, 0 ≤ j → j < M 48 29 → sp_vok (sp_tC M t) (bk_v (M 7) (M 63) j) := fun j j0 j1 => dk_ok hE hTC hvC (hD j j0 j1) (hD2 j j0 j1)
  have hDM : ∀ j, 0 ≤ j → j < M 48 29 → sp_vok (sp_tR M) (bkM (M 68) (M 70) j) := fun j j0 j1 => bkM_ok hT (hD2 j j0 j1)
  refine ⟨_, k_X6_fault hR, fun v h1 hp => ?_⟩
  obtain ⟨rfl, rfl⟩ := hp
  refine ⟨M, Rf, rfl, hR, fun _ => ⟨_, rfl⟩, fun z => absurd z (by decide), _, k_X7_fault hR, fun v2 h2 hp2 => ?_⟩
  obtain ⟨rfl, rfl⟩ := hp2
  refine ⟨_, t, b, rfl, by rw [h13], h.mdl (fun x hx => up_n _ _ (by intro z; subst z; cases hx)) (fun k k4 _ _ => by rw [up_s, iu_n _ _ k4]) (fun z l l0 l1 => by rw [up_n _ _ (show 64 ≠ 48 by decide)]; exact z l l0 l1)⟩
set_option maxHeartbeats 1000000 in
theorem lc_feed {S : mx_Sc} {M : Nat → Int → Int} {L : Nat → Nat → Int64} {Rf : Nat → Nat → Option Nat} {t : Nat} {b : Bool} {it : Int} (h : rlV M Rf t b it) {a1 a2 a3 a4 a5 : Int} : lcase0 S mX6_feed mX7_feed [.int (iI a1), .int (iI a2), .int (iI a3), .int (iI a4), .int (iI a5)] true M L Rf it := by
  obtain ⟨⟨ht, hR, hrs, hto, hsp⟩, ⟨hT, hE, hlkE, hlk, hoE, hto56, hoj1, hoj2⟩, ⟨htl, h12, htp, h13, hnk, hcs⟩, hst, h14, h41, him⟩ := id h
  obtain ⟨⟨hsc, hn3, hnb, hv, hwI⟩, ⟨hz, hnw, hJ, hJm⟩, ⟨hD, hW⟩, ⟨hO, hD2, hW2, hDW⟩, ⟨hWb, hW2b⟩, hSt⟩ := id hst
  have hTC : sp_tok (sp_tC M t) := hE.tok hT
  have eL : M t 1 = M 53 1 := hE.1 1 (by decide) (by decide)
  have e5 : M t 5 = M 53 5 := hE.1 5 (by decide) (by decide)
  have hvC : sp_vok (sp_tC M t) (M 63) := hE.vok hTC hv
  have hlkL : eqL (sp_tC M t) (M (t + 3)) (M 57) := fun l l0 l1 => hlkE l l0 (by rw [← eL]; exact l1)
  have hlkC : sp_lok (sp_tC M t) (M (t + 3)) := hE.lok hTC hlkL hlk
  have hT1 : 0 ≤ M 53 1 ∧ M 53 1 ≤ 6 := hT.2.1
  have hT5 : 1 ≤ M 53 5 ∧ M 53 5 ≤ 99 := hT.2.2.2.2.2.1
  have hn99 : 0 ≤ M 48 29 ∧ M 48 29 ≤ 99 := by have : 0 ≤ M 48 29 ∧ M 48 29 ≤ M 53 5 := hnb; omega
  have hne : M 48 29 ≤ M 53 5 := hnb.2
  have hzC : ∀ l, M t 1 ≤ l → l < 6 → sp_out (M 63) l = false := fun l a b => hz l (by show M 53 1 ≤ l; omega) b
  have hdkC : ∀ j, 0 ≤ j → j < M 48 29 → sp_vok (sp_tC M t) (bk_v (M 7) (M 63) j) := fun j j0 j1 => dk_ok hE hTC hvC (hD j j0 j1) (hD2 j j0 j1)
  have hDM : ∀ j, 0 ≤ j → j < M 48 29 → sp_vok (sp_tR M) (bkM (M 68) (M 70) j) := fun j j0 j1 => bkM_ok hT (hD2 j j0 j1)
  refine ⟨_, k_X6_feed hR htl h12, fun v h1 hp => ?_⟩
  rcases hp with ⟨hlt, rfl, rfl⟩ | ⟨hle, N, rfl, rfl, f1, f2, f3, f4⟩
  · refine ⟨M, Rf, rfl, hR, fun _ => ⟨_, rfl⟩, fun z => absurd z (by decide), _, k_X7_feed hR htl rfl, fun v2 h2 hp2 => ?_⟩
    rcases hp2 with ⟨_, N2, rfl, hN2, rfl⟩ | ⟨hgt, _⟩
    · exact ⟨N2, t, b, rfl, rfl, h.cd hN2⟩
    · omega
  · have e48 : N 48 = M 48 := f1 48 (by decide) (by decide)
    refine ⟨N, Rf, rfl, hR, fun _ => ⟨_, rfl⟩, fun z => absurd z (by decide), _, k_X7_feed (p := M 48 15) hR htl (by rw [e48]), fun v2 h2 hp2 => ?_⟩
    rcases hp2 with ⟨hgt, _⟩ | ⟨_, N2, rfl, rfl, g1, g2, g3, g4, g5⟩
    · omega
    · have e2 : ∀ x, x ≠ 0 → x ≠ 1 → x ≠ 48 → x ≠ 62 → N2 x = M x := fun x x1 x2 x3 x4 => (g1 x x3 x4).trans (f1 x x1 x2)
      have e29 : ∀ j, j ≠ 4 → j ≠ 15 → N2 48 j = M 48 j := fun j j4 j15 => by rw [g3 j j4 j15, e48]
      have e00 : ∀ j, j ≠ 12 → N2 0 j = M 0 j := fun j hj => by rw [g1 0 (by decide) (by decide), f2 j hj]
      refine ⟨N2, t, b, rfl, rfl, h.upd hR (fun _ _ => rfl) (fun x hx => e2 x (by omega) (by omega) (by omega) (by omega)) ⟨by rw [g4]; omega, by rw [g4, g1 0 (by decide) (by decide)]; exact f3, ⟨funext fun y => ?_, fun y y0 y1 => ?_⟩, by rw [e00 13 (by decide), e29 24 (by decide) (by decide)]; exact h13, fun l l0 l1 => by rw [e2 64 (by decide) (by decide) (by decide) (by decide)]; exact hnk l l0 l1⟩ ?_ (h.main (fun x hx => e2 x (by omega) (by omega) (by omega) (by omega)) (e00 14 (by decide)) (e29 41 (by decide) (by decide)) (e29 42 (by decide) (by decide)))⟩
      · rw [g5 y, g1 1 (by decide) (by decide), f4 y, f1 62 (by decide) (by decide), htp.1]
      · have h9 := htp.2 y y0 y1
        rw [g5 y, f1 62 (by decide) (by decide)]
        by_cases z : M 48 15 ≤ y ∧ y < M 48 15 + 20
        · rw [if_pos z]
          exact fd_b _ _ _ _ _ _
        · rw [if_neg z]
          exact h9
      · rw [e2 7 (by decide) (by decide) (by decide) (by decide), e2 8 (by decide) (by decide) (by decide) (by decide), e2 9 (by decide) (by decide) (by decide) (by decide), e2 61 (by decide) (by decide) (by decide) (by decide), e2 63 (by decide) (by decide) (by decide) (by decide), e2 68 (by decide) (by decide) (by decide) (by decide), e2 69 (by decide) (by decide) (by decide) (by decide), e2 70 (by decide) (by decide) (by decide) (by decide), e29 29 (by decide) (by decide)]
        exact hst.fr (e2 3 (by decide) (by decide) (by decide) (by decide)) (e2 4 (by decide) (by decide) (by decide) (by decide)) (e2 5 (by decide) (by decide) (by decide) (by decide)) (e2 6 (by decide) (by decide) (by decide) (by decide))
set_option maxHeartbeats 1000000 in
theorem lc_image {S : mx_Sc} {M : Nat → Int → Int} {L : Nat → Nat → Int64} {Rf : Nat → Nat → Option Nat} {t : Nat} {b : Bool} {it : Int} (h : rlV M Rf t b it) : lcase0 S mX6_image mX7_image [] false M L Rf it := by
  obtain ⟨⟨ht, hR, hrs, hto, hsp⟩, ⟨hT, hE, hlkE, hlk, hoE, hto56, hoj1, hoj2⟩, ⟨htl, h12, htp, h13, hnk, hcs⟩, hst, h14, h41, him⟩ := id h
  obtain ⟨⟨hsc, hn3, hnb, hv, hwI⟩, ⟨hz, hnw, hJ, hJm⟩, ⟨hD, hW⟩, ⟨hO, hD2, hW2, hDW⟩, ⟨hWb, hW2b⟩, hSt⟩ := id hst
  have hTC : sp_tok (sp_tC M t) := hE.tok hT
  have eL : M t 1 = M 53 1 := hE.1 1 (by decide) (by decide)
  have e5 : M t 5 = M 53 5 := hE.1 5 (by decide) (by decide)
  have hvC : sp_vok (sp_tC M t) (M 63) := hE.vok hTC hv
  have hlkL : eqL (sp_tC M t) (M (t + 3)) (M 57) := fun l l0 l1 => hlkE l l0 (by rw [← eL]; exact l1)
  have hlkC : sp_lok (sp_tC M t) (M (t + 3)) := hE.lok hTC hlkL hlk
  have hT1 : 0 ≤ M 53 1 ∧ M 53 1 ≤ 6 := hT.2.1
  have hT5 : 1 ≤ M 53 5 ∧ M 53 5 ≤ 99 := hT.2.2.2.2.2.1
  have hn99 : 0 ≤ M 48 29 ∧ M 48 29 ≤ 99 := by have : 0 ≤ M 48 29 ∧ M 48 29 ≤ M 53 5 := hnb; omega
  have hne : M 48 29 ≤ M 53 5 := hnb.2
  have hzC : ∀ l, M t 1 ≤ l → l < 6 → sp_out (M 63) l = false := fun l a b => hz l (by show M 53 1 ≤ l; omega) b
  have hdkC : ∀ j, 0 ≤ j → j < M 48 29 → sp_vok (sp_tC M t) (bk_v (M 7) (M 63) j) := fun j j0 j1 => dk_ok hE hTC hvC (hD j j0 j1) (hD2 j j0 j1)
  have hDM : ∀ j, 0 ≤ j → j < M 48 29 → sp_vok (sp_tR M) (bkM (M 68) (M 70) j) := fun j j0 j1 => bkM_ok hT (hD2 j j0 j1)
  refine ⟨_, k_X6_image hR, fun v h1 hp => ?_⟩
  obtain ⟨N, rfl, rfl, f1, f2, f3, f4, f5, f6, f7⟩ := hp
  refine ⟨N, Rf, rfl, hR, fun z => absurd z (by decide), fun _ => rfl, _, k_X7_image hR, fun v2 h2 hp2 => ?_⟩
  obtain ⟨N2, rfl, rfl, g1, g2, g3, g4, g5, g6, g7, g8, g9⟩ := hp2
  have eM : ∀ x, 17 < x → N x = M x := fun x hx => f1 x (by omega) (by omega)
  have e2 : ∀ x, x ≠ 0 → x ≠ 48 → (x < 11 ∨ (17 < x ∧ x < 76) ∨ 80 < x) → N2 x = M x := fun x x1 x2 x3 => (g1 x x2 (by omega)).trans (f1 x (by omega) x1)
  have e3 : ∀ x, x < 48 → N2 x = N x := fun x hx => g1 x (by omega) (by omega)
  have e29 : ∀ k, k ≠ 4 → k ≠ 41 → k ≠ 42 → N2 48 k = M 48 k := fun k k1 k2 k3 => by rw [g5 k k1 k2 k3, eM 48 (by decide)]
  have e00 : ∀ j, j ≠ 14 → N2 0 j = M 0 j := fun j hj => by rw [e3 0 (by decide), f2 j hj]
  rw [eM 63 (by decide)] at g6
  rw [eM 68 (by decide), eM 69 (by decide)] at g7
  rw [eM 70 (by decide)] at g8
  rw [eM 61 (by decide)] at g9
  refine ⟨N2, t, true, rfl, rfl, h.upd hR (fun _ _ => rfl) (fun x hx => e2 x (by omega) (by omega) (by omega)) (h.tape (e00 12 (by decide)) (e00 13 (by decide)) (e2 1 (by decide) (by decide) (by decide)) (e2 62 (by decide) (by decide) (by decide)) (e29 15 (by decide) (by decide) (by decide)) (e29 24 (by decide) (by decide) (by decide)) (e2 64 (by decide) (by decide) (by decide))) ?_ ⟨by rw [e3 0 (by decide), f3]; rfl, by rw [g3]; rfl, fun _ => ?_⟩⟩
  · rw [e2 7 (by decide) (by decide) (by decide), e2 8 (by decide) (by decide) (by decide), e2 9 (by decide) (by decide) (by decide), e2 61 (by decide) (by decide) (by decide), e2 63 (by decide) (by decide) (by decide), e2 68 (by decide) (by decide) (by decide), e2 69 (by decide) (by decide) (by decide), e2 70 (by decide) (by decide) (by decide), e29 29 (by decide) (by decide) (by decide)]
    exact hst.fr (e2 3 (by decide) (by decide) (by decide)) (e2 4 (by decide) (by decide) (by decide)) (e2 5 (by decide) (by decide) (by decide)) (e2 6 (by decide) (by decide) (by decide))
  · rw [g4, eM 48 (by decide), e3 15 (by decide), e3 16 (by decide), e3 17 (by decide)]
    have hs2 : scE M N2 3 11 := by
      unfold scE at f4 ⊢
      rw [e3 11 (by decide), e3 (11 + 1) (by decide), e3 (11 + 2) (by decide), e3 (11 + 3) (by decide)]
      exact f4
    exact hst.copy hT hE hs2 f5 f6 f7 g6 g7 g8 g9
set_option maxHeartbeats 1000000 in
theorem lc_restore {S : mx_Sc} {M : Nat → Int → Int} {L : Nat → Nat → Int64} {Rf : Nat → Nat → Option Nat} {t : Nat} {b : Bool} {it : Int} (h : rlV M Rf t b it) : lcase0 S mX6_restore mX7_restore [] true M L Rf it := by
  obtain ⟨⟨ht, hR, hrs, hto, hsp⟩, ⟨hT, hE, hlkE, hlk, hoE, hto56, hoj1, hoj2⟩, ⟨htl, h12, htp, h13, hnk, hcs⟩, hst, h14, h41, him⟩ := id h
  obtain ⟨⟨hsc, hn3, hnb, hv, hwI⟩, ⟨hz, hnw, hJ, hJm⟩, ⟨hD, hW⟩, ⟨hO, hD2, hW2, hDW⟩, ⟨hWb, hW2b⟩, hSt⟩ := id hst
  have hTC : sp_tok (sp_tC M t) := hE.tok hT
  have eL : M t 1 = M 53 1 := hE.1 1 (by decide) (by decide)
  have e5 : M t 5 = M 53 5 := hE.1 5 (by decide) (by decide)
  have hvC : sp_vok (sp_tC M t) (M 63) := hE.vok hTC hv
  have hlkL : eqL (sp_tC M t) (M (t + 3)) (M 57) := fun l l0 l1 => hlkE l l0 (by rw [← eL]; exact l1)
  have hlkC : sp_lok (sp_tC M t) (M (t + 3)) := hE.lok hTC hlkL hlk
  have hT1 : 0 ≤ M 53 1 ∧ M 53 1 ≤ 6 := hT.2.1
  have hT5 : 1 ≤ M 53 5 ∧ M 53 5 ≤ 99 := hT.2.2.2.2.2.1
  have hn99 : 0 ≤ M 48 29 ∧ M 48 29 ≤ 99 := by have : 0 ≤ M 48 29 ∧ M 48 29 ≤ M 53 5 := hnb; omega
  have hne : M 48 29 ≤ M 53 5 := hnb.2
  have hzC : ∀ l, M t 1 ≤ l → l < 6 → sp_out (M 63) l = false := fun l a b => hz l (by show M 53 1 ≤ l; omega) b
  have hdkC : ∀ j, 0 ≤ j → j < M 48 29 → sp_vok (sp_tC M t) (bk_v (M 7) (M 63) j) := fun j j0 j1 => dk_ok hE hTC hvC (hD j j0 j1) (hD2 j j0 j1)
  have hDM : ∀ j, 0 ≤ j → j < M 48 29 → sp_vok (sp_tR M) (bkM (M 68) (M 70) j) := fun j j0 j1 => bkM_ok hT (hD2 j j0 j1)
  refine ⟨_, k_X6_restore hR h14, fun v h1 hp => ?_⟩
  obtain ⟨N, rfl, rfl, hor⟩ := hp
  have e41 : N 48 = M 48 := by
    rcases hor with ⟨_, rfl⟩ | ⟨_, f1, _⟩
    · rfl
    · exact f1 48 (by decide)
  refine ⟨N, Rf, rfl, hR, fun _ => ⟨_, rfl⟩, fun z => absurd z (by decide), _, k_X7_restore (b := b) hR (by rw [e41]; exact h41), fun v2 h2 hp2 => ?_⟩
  obtain ⟨N2, rfl, rfl, hN4, hor2⟩ := hp2
  rcases hor with ⟨hb, rfl⟩ | ⟨hb, f1, f4, f5, f6, f7⟩
  · rcases hor2 with ⟨_, hN2⟩ | ⟨hb2, _⟩
    · exact ⟨N2, t, b, rfl, rfl, h.cd hN2⟩
    · rw [hb] at hb2; cases hb2
  · rcases hor2 with ⟨hb2, _⟩ | ⟨_, g1, g4, g5, g6, g7, g8, g9⟩
    · rw [hb] at hb2; cases hb2
    · have eM : ∀ x, 9 < x → N x = M x := fun x hx => f1 x (by omega)
      have e3 : ∀ x, x < 48 → N2 x = N x := fun x hx => g1 x (by omega) (by omega) (by omega) (by omega) (by omega) (by omega)
      have e2 : ∀ x, (x < 3 ∨ 9 < x) → x ≠ 48 → x ≠ 61 → x ≠ 63 → x ≠ 68 → x ≠ 69 → x ≠ 70 → N2 x = M x := fun x x0 x1 x2 x3 x4 x5 x6 => (g1 x x1 x2 x3 x4 x5 x6).trans (f1 x (by omega))
      have e29 : ∀ k, k ≠ 4 → k ≠ 29 → N2 48 k = M 48 k := fun k k1 k2 => by rw [g5 k k1 k2, e41]
      rw [eM 76 (by decide)] at g6
      rw [eM 77 (by decide), eM 78 (by decide)] at g7
      rw [eM 79 (by decide)] at g8
      rw [eM 80 (by decide)] at g9
      refine ⟨N2, t, b, rfl, rfl, h.upd hR (fun _ _ => rfl) (fun x hx => e2 x (by omega) (by omega) (by omega) (by omega) (by omega) (by omega) (by omega)) (h.tape (by rw [e2 0 (by decide) (by decide) (by decide) (by decide) (by decide) (by decide) (by decide)]) (by rw [e2 0 (by decide) (by decide) (by decide) (by decide) (by decide) (by decide) (by decide)]) (e2 1 (by decide) (by decide) (by decide) (by decide) (by decide) (by decide) (by decide)) (e2 62 (by decide) (by decide) (by decide) (by decide) (by decide) (by decide) (by decide)) (e29 15 (by decide) (by decide)) (e29 24 (by decide) (by decide)) (e2 64 (by decide) (by decide) (by decide) (by decide) (by decide) (by decide) (by decide))) ?_ (h.main (fun x hx => e2 x (by omega) (by omega) (by omega) (by omega) (by omega) (by omega) (by omega)) (by rw [e2 0 (by decide) (by decide) (by decide) (by decide) (by decide) (by decide) (by decide)]) (e29 41 (by decide) (by decide)) (e29 42 (by decide) (by decide)))⟩
      rw [g4, e41, e3 7 (by decide), e3 8 (by decide), e3 9 (by decide)]
      have hs2 : scE M N2 11 3 := by
        unfold scE at f4 ⊢
        rw [e3 3 (by decide), e3 (3 + 1) (by decide), e3 (3 + 2) (by decide), e3 (3 + 3) (by decide)]
        exact f4
      exact (him hb).copy hT hE hs2 f5 f6 f7 g6 g7 g8 g9
