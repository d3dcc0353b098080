theorem eqS.tr {a b c : sp_T} (h : eqS a b) (h2 : eqS c b) : eqS a c := by
  have e : ∀ k, 0 ≤ k → k < 7 → a.1 k = c.1 k := fun k k0 k1 => (h.1 k k0 k1).trans (h2.1 k k0 k1).symm
  refine ⟨e, fun l l0 l1 => ?_, fun f f0 f1 => ?_⟩
  · have x := h.2.1 l l0 l1
    have y := h2.2.1 l l0 (by rw [← e 1 (by decide) (by decide)]; exact l1)
    exact ⟨x.1.trans y.1.symm, x.2.trans y.2.symm⟩
  · have x := h.2.2 f f0 f1
    have y := h2.2.2 f f0 (by rw [← e 6 (by decide) (by decide)]; exact f1)
    exact ⟨x.1.trans y.1.symm, x.2.1.trans y.2.1.symm, x.2.2.trans y.2.2.symm⟩
theorem eqS.lokR {a b : sp_T} (h : eqS a b) {l1 l2 : Int → Int} (hl : ∀ l, 0 ≤ l → l < b.1 1 → l1 l = l2 l) (h2 : sp_lok b l2) : sp_lok a l1 := fun l l0 l9 => by
  have e : a.1 1 = b.1 1 := h.1 1 (by decide) (by decide)
  rw [e] at l9 ⊢
  rw [hl l l0 l9]
  exact h2 l l0 l9
/-- what a story looks at of the told -/
theorem stP.tr {tC tR tC' tR' : sp_T} (h1 : tC'.1 1 = tC.1 1) (h2 : ∀ k, 0 ≤ k → k < 7 → tR'.1 k = tR.1 k) {M : Nat → Int → Int} {a : Nat} {D W R v D2 W2 O R2 : Int → Int} {n it : Int} (h : stP tC tR M a D W R v D2 W2 O R2 n it) : stP tC' tR' M a D W R v D2 W2 O R2 n it := by
  have e0 := h2 0 (by decide) (by decide)
  have e1 := h2 1 (by decide) (by decide)
  have e5 := h2 5 (by decide) (by decide)
  unfold stP scR sp_vok sp_cnt at h ⊢
  rw [h1, e0, e1, e5]
  exact h
/-- a story's beginning -/
theorem stP.zero {tC tR : sp_T} (hT : sp_tok tR) (hE : eqS tC tR) {M : Nat → Int → Int} {a : Nat} {D W R v D2 W2 O R2 g : Int → Int} {it : Int} (h3 : M a 3 = 0) (h4 : M a 4 = 0) (h5 : M a 5 = 0) (hm : ∀ l, 0 ≤ l → l < 6 → M (a + 2) l = -1 ∧ M (a + 3) l = -1) (hv0 : ∀ i, 18 ≤ i → i < 30 → v i = -1) (hv1 : ∀ i, 0 ≤ i → i < 18 → v i = if i < 3 * tR.1 1 then g i else 0) (hg : toP (tR.1 1) (tR.1 0) g) (h1 : ∀ i, 0 ≤ i → i < 3 * tR.1 1 → M (a + 1) i = g i) (hb : ∀ i, 0 ≤ i → i < 18 → 0 ≤ M (a + 1) i ∧ M (a + 1) i < 32) (hW : ∀ i, 0 ≤ i → i < 18 → W i = M (a + 1) i) (hW2 : ∀ i, 0 ≤ i → i < 18 → W2 i = v i) (hWb : ∀ i, 18 ≤ i → i < 1800 → 0 ≤ W i ∧ W i < 32) (hW2b : ∀ i, 18 ≤ i → i < 1800 → -1000 ≤ W2 i ∧ W2 i ≤ 1000) (hR : ∀ i, 0 ≤ i → i < 3 → R i = R2 i ∧ 0 ≤ R2 i ∧ R2 i ≤ it) : stP tC tR M a D W R v D2 W2 O R2 0 it := by
  have hK := hT.2.1
  have h30 := hT.1
  have hT5 := hT.2.2.2.2.2.1
  have eC : tC.1 1 = tR.1 1 := hE.1 1 (by decide) (by decide)
  have ho : ∀ l, 0 ≤ l → l < 6 → sp_out v l = false := fun l l0 l1 => by
    unfold sp_out
    rw [hv0 _ (by omega) (by omega)]
    rfl
  have hvg : ∀ i, 0 ≤ i → i < 3 * tR.1 1 → v i = g i := fun i i0 i1 => by rw [hv1 i i0 (by omega), if_pos i1]
  have hvok : sp_vok tR v := by
    refine ⟨fun l l0 l1 => ?_, fun l l0 l1 => ?_⟩
    · rw [hvg _ (by omega) (by omega), hvg _ (by omega) (by omega), hvg _ (by omega) (by omega)]; exact hg l l0 l1
    · rw [hv0 _ (by omega) (by omega), hv0 _ (by omega) (by omega)]; decide
  have hvb : ∀ i, 0 ≤ i → i < 18 → -1000 ≤ v i ∧ v i ≤ 1000 := fun i i0 i1 => by
    by_cases z : i < 3 * tR.1 1
    · have := vok_b hT hvok i0 z; omega
    · rw [hv1 i i0 i1, if_neg z]; decide
  refine ⟨⟨⟨fun i i0 i1 => ?_, fun l l0 l1 => ?_, by rw [h4]; decide, fun l l0 l1 => ?_, ?_⟩, h3, ⟨Int.le_refl 0, by omega⟩, hvok, fun l l0 l1 => ?_⟩, ⟨fun l l0 l1 => ho l (by omega) l1, fun l l0 l1 => by rw [hv0 _ (by omega) (by omega)]; decide, hb, hvb⟩, ⟨fun j j0 j1 => by omega, fun j j0 j1 i i0 i1 => ?_⟩, ⟨fun j j0 j1 => by omega, fun j j0 j1 => by omega, fun j j0 j1 l l0 l1 => ?_, fun j j0 j1 => by omega⟩, ⟨fun i i0 i1 => ?_, fun i i0 i1 => ?_⟩, hR⟩
  · rw [eC] at i1
    rw [h1 i i0 i1, hvg i i0 i1]
  · rw [hv0 _ (by omega) (by omega), hv0 _ (by omega) (by omega)]
    exact hm l l0 l1
  · rw [h4, ho l l0 l1]
    unfold ob
    rw [Int.zero_ediv]
    rfl
  · rw [h5]
    have hc : ∀ K : Nat, K ≤ 6 → itN (fun l c => c + bI (sp_out v l)) K 0 = 0 := fun K => by
      induction K with
      | zero => intro _; rfl
      | succ K ih =>
        intro hK6
        simp only [itN]
        rw [ih (by omega), ho _ (by omega) (by omega)]
        rfl
    unfold sp_cnt
    rw [hc _ (by omega)]
    rfl
  · rw [hv0 _ (by omega) (by omega), hv0 _ (by omega) (by omega)]
  · have j2 : j = 0 := by omega
    subst j2
    rw [show (0 : Int) * 18 + i = i by omega, hW i i0 (by omega), hW2 i i0 (by omega), h1 i i0 i1, hvg i i0 i1]
  · have j2 : j = 0 := by omega
    subst j2
    show 0 ≤ W2 _ ∧ 0 ≤ W2 _ ∧ 0 ≤ W2 _ ∧ W2 _ + W2 _ + W2 _ = _
    rw [show (0 : Int) * 18 + 3 * l = 3 * l by omega, show (0 : Int) * 18 + (3 * l + 1) = 3 * l + 1 by omega, show (0 : Int) * 18 + (3 * l + 2) = 3 * l + 2 by omega, hW2 _ (by omega) (by omega), hW2 _ (by omega) (by omega), hW2 _ (by omega) (by omega)]
    exact hvok.1 l l0 l1
  · by_cases z : i < 18
    · rw [hW i i0 z]; exact hb i i0 z
    · exact hWb i (by omega) i1
  · by_cases z : i < 18
    · rw [hW2 i i0 z]; exact hvb i i0 z
    · exact hW2b i (by omega) i1
set_option maxHeartbeats 4000000 in
theorem lc_valley {S : mx_Sc} {M : Nat → Int → Int} {L : Nat → Nat → Int64} {Rf : Nat → Nat → Option Nat} {t : Nat} {b : Bool} {it : Int} (h : rlV M Rf t b it) {k : Int} (hk32 : -2147483648 ≤ k ∧ k ≤ 2147483647) (hit : it ≤ 1000000) : lcase S mL_valley mX7_valley [.int (iI k)] M L Rf it := by
  obtain ⟨⟨ht, hR, hrs, hto, hsp⟩, ⟨hT, hE, hlkE, hlk, hoE, hto56, hoj1, hoj2⟩, ⟨htl, h12, htp, h13, hnk, hcs⟩, hst, h14, h41, him⟩ := id h
  obtain ⟨⟨hsc, hn3, hnb, hv, hwI⟩, ⟨hz, hnw, hJ, hJm⟩, ⟨hD, hW⟩, ⟨hO, hD2, hW2, hDW⟩, ⟨hWb, hW2b⟩, hSt⟩ := id hst
  have hTC : sp_tok (sp_tC M t) := hE.tok hT
  have eL : M t 1 = M 53 1 := hE.1 1 (by decide) (by decide)
  have e5 : M t 5 = M 53 5 := hE.1 5 (by decide) (by decide)
  have hvC : sp_vok (sp_tC M t) (M 63) := hE.vok hTC hv
  have hlkL : eqL (sp_tC M t) (M (t + 3)) (M 57) := fun l l0 l1 => hlkE l l0 (by rw [← eL]; exact l1)
  have hlkC : sp_lok (sp_tC M t) (M (t + 3)) := hE.lok hTC hlkL hlk
  have hT1 : 0 ≤ M 53 1 ∧ M 53 1 ≤ 6 := hT.2.1
  have hT5 : 1 ≤ M 53 5 ∧ M 53 5 ≤ 99 := hT.2.2.2.2.2.1
  have hn99 : 0 ≤ M 48 29 ∧ M 48 29 ≤ 99 := by have : 0 ≤ M 48 29 ∧ M 48 29 ≤ M 53 5 := hnb; omega
  have hne : M 48 29 ≤ M 53 5 := hnb.2
  have hzC : ∀ l, M t 1 ≤ l → l < 6 → sp_out (M 63) l = false := fun l a b => hz l (by show M 53 1 ≤ l; omega) b
  have hdkC : ∀ j, 0 ≤ j → j < M 48 29 → sp_vok (sp_tC M t) (bk_v (M 7) (M 63) j) := fun j j0 j1 => dk_ok hE hTC hvC (hD j j0 j1) (hD2 j j0 j1)
  have hDM : ∀ j, 0 ≤ j → j < M 48 29 → sp_vok (sp_tR M) (bkM (M 68) (M 70) j) := fun j j0 j1 => bkM_ok hT (hD2 j j0 j1)
  have hS0 := hSt 0 (by decide) (by decide)
  by_cases hc : 0 ≤ k ∧ k ≤ M 48 15
  · have hs29 : 66 - t = 29 ∨ 66 - t = 37 := by omega
    refine ⟨0, 0, _, by decide, k_L_valley (k_X6_valley hR ht hs29 (by omega) hto hsp (by rw [htp.1]; exact htp.2) (by rw [h12]; exact htl) hoj2 (by omega) hk32 (by rw [h12]; exact hc)) (fun v h9 hp => by obtain ⟨N, Rf2, rfl, _, _, _, _, ⟨c, q, _, _, rfl, _⟩ | ⟨T, _, rfl, _⟩⟩ := hp <;> exact ⟨_, _, _, _, rfl, rfl⟩), fun v h1 hp => ?_⟩
    obtain ⟨N, L2, Rf2, y, hp0, rfl, rfl⟩ := hp
    obtain ⟨N3, Rf3, heq, hR2, hRx, hojN, hN12, hor⟩ := hp0
    simp only [Prod.mk.injEq, true_and] at heq
    obtain ⟨rfl, rfl, rfl⟩ := heq
    have eH : ∀ x, 45 < x → N x = M x := fun x hx => by
      rcases hor with ⟨c, q, _, _, _, hf, _⟩ | ⟨T, _, _, hf, _⟩
      · exact hf x (by omega) (by omega) (by omega) (by omega)
      · exact hf x (by omega) (by omega) (by omega) (by omega) (by omega) (by omega) (by omega) (by omega)
    have hrs2 : rfs Rf2 := by
      unfold rfs
      rw [hRx 49 (by decide) (by decide), hRx 50 (by decide) (by decide)]
      exact hrs
    have e1 : N 1 = M 1 := by
      rcases hor with ⟨c, q, _, _, _, hf, _⟩ | ⟨T, _, _, hf, _⟩
      · exact hf 1 (by omega) (by omega) (by omega) (by omega)
      · exact hf 1 (by omega) (by omega) (by omega) (by omega) (by omega) (by omega) (by omega) (by omega)
    refine ⟨N, _, Rf2, 0, rfl, rfl, by decide, hR2, _, k_X7_valley (k := k) hR2 hrs2 (by rw [eH 62 (by decide)]; exact htp.2) (by unfold mcs; rw [eH 51 (by decide), eH 52 (by decide)]; exact hcs) (by rw [eH 48 (by decide)]; exact htl) (by rw [eH 61 (by decide)]; omega) hk32 (by rw [eH 48 (by decide)]; exact hc), fun v2 h2 hp9 => ?_⟩
    obtain ⟨N2, rfl, hN4, hN15, hor2⟩ := hp9
    rw [eH 62 (by decide), eH 61 (by decide), eH 48 (by decide), ← htp.1] at hor2
    rcases hor with ⟨c, q, hpa, hcb, hval, f1, f13, f14, f9, fR0⟩ | ⟨T, hpa, hval, f1, f13, f14, fR10, fR11, ftq, ftd, f4, f5, f33, f34, f35, f8, f8b⟩
    · rcases hor2 with ⟨c2, q2, hpa2, hcb2, rfl, g1, g53, g54, g56, g58, g24, g48, g61⟩ | ⟨T2, hpa2, _⟩
      · rw [hpa] at hpa2
        cases hpa2
        have hy := Value.int.inj (Option.some.inj hval)
        refine ⟨N2, _, t, b, rfl, rfl, hN4, fun _ => by rw [up_s, up_s, hy], ?_⟩
        have e2 : ∀ x, x ≠ 45 → x ≠ 0 → x ≠ 9 → (x < 66 - t ∨ 66 - t + 8 ≤ x) → x ≠ 48 → x ≠ 61 → (x < 53 ∨ 60 < x) → N2 x = M x := fun x x1 x2 x3 x4 x5 x6 x7 => (g1 x x5 x6 x7).trans (f1 x x1 x2 x3 x4)
        rw [eH 53 (by decide)] at g53
        rw [eH 54 (by decide), eH 55 (by decide), eH 57 (by decide)] at g54
        rw [eH 56 (by decide)] at g56
        rw [eH 58 (by decide), eH 59 (by decide), eH 60 (by decide)] at g58
        have e0 : N2 0 = N 0 := g1 0 (by decide) (by decide) (by decide)
        have eC : sp_tC N2 t = sp_tC M t := by
          show (N2 t, N2 (t + 1), N2 (t + 2), N2 (t + 5), N2 (t + 6), N2 (t + 7)) = _
          rw [e2 t (by omega) (by omega) (by omega) (by omega) (by omega) (by omega) (by omega), e2 (t + 1) (by omega) (by omega) (by omega) (by omega) (by omega) (by omega) (by omega), e2 (t + 2) (by omega) (by omega) (by omega) (by omega) (by omega) (by omega) (by omega), e2 (t + 5) (by omega) (by omega) (by omega) (by omega) (by omega) (by omega) (by omega), e2 (t + 6) (by omega) (by omega) (by omega) (by omega) (by omega) (by omega) (by omega), e2 (t + 7) (by omega) (by omega) (by omega) (by omega) (by omega) (by omega) (by omega)]
        have hT6 : 0 ≤ M 53 6 ∧ M 53 6 ≤ 10 := hT.2.2.2.2.2.2.1
        have g531 : N2 53 1 = M 53 1 := g53 1 (by decide)
        have g536 : N2 53 6 = M 53 6 := g53 6 (by decide)
        have hER : eqS (sp_tR N2) (sp_tR M) := by
          refine ⟨fun k k0 k1 => g53 k k1, fun l l0 l1 => ?_, fun f f0 f1 => ?_⟩
          · have l2 : l < N2 53 1 := l1
            exact ⟨(g54 l (by omega)).1, (g54 l (by omega)).2.1⟩
          · have l2 : f < N2 53 6 := f1
            exact ⟨(g58 f (by omega)).1, (g58 f (by omega)).2.1, (g58 f (by omega)).2.2⟩
        have hT2 : sp_tok (sp_tR N2) := hER.tok hT
        refine ⟨⟨ht, hR2, hrs2, by rw [fR0]; exact hto, by rw [fR0]; exact hsp⟩, ⟨hT2, by rw [eC]; exact hE.tr hER, ?_, ?_, ?_, ?_, ?_, ?_⟩, ⟨by rw [hN15]; decide, by rw [e0, hN12, hN15], ?_, by rw [e0, f13, g24], ?_, ?_⟩, ?_, ?_⟩
        · intro l l0 l1
          rw [g531] at l1
          rw [e2 (t + 3) (by omega) (by omega) (by omega) (by omega) (by omega) (by omega) (by omega), (g54 l (by omega)).2.2]
          exact hlkE l l0 l1
        · exact hER.lokR (fun l l0 l1 => by have l2 : l < M 53 1 := l1; exact (g54 l (by omega)).2.2) hlk
        · intro i i0 i1
          rw [g531] at i1
          rw [e2 (t + 4) (by omega) (by omega) (by omega) (by omega) (by omega) (by omega) (by omega), g56 i (by omega)]
          exact hoE i i0 i1
        · intro l l0 l1
          rw [g531] at l1
          rw [g56 _ (by omega), g56 _ (by omega), g56 _ (by omega), g53 0 (by decide)]
          exact hto56 l l0 l1
        · unfold oj; rw [e2 (t + 4) (by omega) (by omega) (by omega) (by omega) (by omega) (by omega) (by omega)]; exact hoj1
        · unfold oj; rw [g1 (66 - t + 4) (by omega) (by omega) (by omega)]; exact hojN
        · rw [e2 1 (by omega) (by omega) (by omega) (by omega) (by omega) (by omega) (by omega), e2 62 (by omega) (by omega) (by omega) (by omega) (by omega) (by omega) (by omega)]; exact htp
        · unfold nk; rw [e2 64 (by omega) (by omega) (by omega) (by omega) (by omega) (by omega) (by omega)]; exact hnk
        · unfold mcs; rw [e2 51 (by omega) (by omega) (by omega) (by omega) (by omega) (by omega) (by omega), e2 52 (by omega) (by omega) (by omega) (by omega) (by omega) (by omega) (by omega)]; exact hcs
        · rw [eC, e2 7 (by omega) (by omega) (by omega) (by omega) (by omega) (by omega) (by omega), e2 8 (by omega) (by omega) (by omega) (by omega) (by omega) (by omega) (by omega), g1 9 (by decide) (by decide) (by decide), f9, g61, e2 63 (by omega) (by omega) (by omega) (by omega) (by omega) (by omega) (by omega), e2 68 (by omega) (by omega) (by omega) (by omega) (by omega) (by omega) (by omega), e2 69 (by omega) (by omega) (by omega) (by omega) (by omega) (by omega) (by omega), e2 70 (by omega) (by omega) (by omega) (by omega) (by omega) (by omega) (by omega), g48 29 (by decide)]
          exact stP.tr rfl (fun k k0 k1 => g53 k k1) (hst.ref (by decide) (e2 3 (by omega) (by omega) (by omega) (by omega) (by omega) (by omega) (by omega)) (e2 4 (by omega) (by omega) (by omega) (by omega) (by omega) (by omega) (by omega)) (e2 5 (by omega) (by omega) (by omega) (by omega) (by omega) (by omega) (by omega)) (e2 6 (by omega) (by omega) (by omega) (by omega) (by omega) (by omega) (by omega)))
        · rw [e0, f14, g48 41 (by decide), eC]
          refine ⟨h14, h41, fun hb => ?_⟩
          have h9 := h.main (fun x hx => e2 x (by omega) (by omega) (by omega) (by omega) (by omega) (by omega) (by omega)) (by rw [e0, f14]) (g48 41 (by decide)) (g48 42 (by decide))
          exact stP.tr rfl (fun k k0 k1 => g53 k k1) (h9.2.2 hb)
      · rw [hpa] at hpa2
        cases hpa2
    · rcases hor2 with ⟨c2, q2, hpa2, _⟩ | ⟨T2, hpa2, rfl, g1, g24, g29, g41, g0, g53, g54, g56, g58, g63, g69, g69b⟩
      · rw [hpa] at hpa2
        cases hpa2
      · rw [hpa] at hpa2
        cases hpa2
        have hy := Value.int.inj (Option.some.inj hval)
        refine ⟨N2, _, 66 - t, false, rfl, rfl, hN4, fun _ => by rw [up_s, up_s, hy], ?_⟩
        have e2 : ∀ x, x ≠ 45 → x ≠ 0 → x ≠ 3 → x ≠ 4 → x ≠ 5 → x ≠ 6 → x ≠ 8 → (x < 66 - t ∨ 66 - t + 8 ≤ x) → x ≠ 48 → x ≠ 63 → x ≠ 69 → (x < 53 ∨ 60 < x) → N2 x = M x := fun x x1 x2 x3 x4 x5 x6 x7 x8 x9 x10 x11 x12 => (g1 x x9 x10 x11 x12).trans (f1 x x1 x2 x3 x4 x5 x6 x7 x8)
        have eS : ∀ x, x < 48 → N2 x = N x := fun x hx => g1 x (by omega) (by omega) (by omega) (by omega)
        obtain ⟨q1, q2, q3, q4⟩ := ftq
        have hES : eqS (sp_tC N2 (66 - t)) (td_s T) := by
          have es : ∀ j, j < 8 → N2 (66 - t + j) = N (66 - t + j) := fun j hj => eS _ (by omega)
          have e1' : N2 (66 - t) 1 = T 0 1 := by rw [show N2 (66 - t) = N (66 - t) from es 0 (by decide)]; exact q1 1 (by decide) (by decide)
          have e6' : N2 (66 - t) 6 = T 0 6 := by rw [show N2 (66 - t) = N (66 - t) from es 0 (by decide)]; exact q1 6 (by decide) (by decide)
          refine ⟨fun k k0 k1 => ?_, fun l l0 l1 => ?_, fun f f0 f1 => ?_⟩
          · show N2 (66 - t) k = _
            rw [show N2 (66 - t) = N (66 - t) from es 0 (by decide)]; exact q1 k k0 k1
          · have l2 : l < N2 (66 - t) 1 := l1
            show N2 (66 - t + 1) l = _ ∧ N2 (66 - t + 2) l = _
            rw [es 1 (by decide), es 2 (by decide)]
            have := q2 l l0 (by omega)
            exact ⟨this.1, this.2.1⟩
          · have l2 : f < N2 (66 - t) 6 := f1
            show N2 (66 - t + 5) f = _ ∧ N2 (66 - t + 6) f = _ ∧ N2 (66 - t + 7) f = _
            rw [es 5 (by decide), es 6 (by decide), es 7 (by decide)]
            exact q4 f f0 (by omega)
        have g531 : N2 53 1 = T 0 1 := g53 1 (by decide) (by decide)
        have g536 : N2 53 6 = T 0 6 := g53 6 (by decide) (by decide)
        have hER : eqS (sp_tR N2) (td_s T) := by
          refine ⟨g53, fun l l0 l1 => ?_, fun f f0 f1 => ?_⟩
          · have l2 : l < N2 53 1 := l1
            exact ⟨(g54 l l0 (by omega)).1, (g54 l l0 (by omega)).2.1⟩
          · have l2 : f < N2 53 6 := f1
            exact g58 f f0 (by omega)
        obtain ⟨hTT, hTl, hTo⟩ := ftd
        have hT2 : sp_tok (sp_tR N2) := hER.tok hTT
        have hEE : eqS (sp_tC N2 (66 - t)) (sp_tR N2) := hES.tr hER
        have hTT1 : 0 ≤ T 0 1 ∧ T 0 1 ≤ 6 := hTT.2.1
        have hg : toP (N2 53 1) (N2 53 0) (T 4) := by rw [g531, g53 0 (by decide) (by decide)]; exact hTo
        have e0 : N2 0 = N 0 := eS 0 (by decide)
        refine ⟨⟨hs29, hR2, hrs2, fR10, by rw [fR11]; exact congrArg some (by omega)⟩, ⟨hT2, hEE, ?_, ?_, ?_, ?_, ?_, ?_⟩, ⟨by rw [hN15]; decide, by rw [e0, hN12, hN15], ?_, by rw [e0, f13, g24], ?_, ?_⟩, ?_, by rw [e0, f14]; rfl, by rw [g41]; rfl, fun z => absurd z (by decide)⟩
        · intro l l0 l1
          rw [g531] at l1
          rw [eS (66 - t + 3) (by omega), (g54 l l0 l1).2.2]
          exact (q2 l l0 l1).2.2
        · exact hER.lokR (fun l l0 l1 => (g54 l l0 l1).2.2) hTl
        · intro i i0 i1
          rw [g531] at i1
          rw [eS (66 - t + 4) (by omega), g56 i i0 i1]
          exact q3 i i0 i1
        · intro l l0 l1
          rw [g531] at l1
          rw [g56 _ (by omega) (by omega), g56 _ (by omega) (by omega), g56 _ (by omega) (by omega), g53 0 (by decide) (by decide)]
          exact hTo l l0 l1
        · unfold oj; rw [eS (66 - t + 4) (by omega)]; exact hojN
        · rw [show 66 - (66 - t) = t by omega]
          unfold oj; rw [e2 (t + 4) (by omega) (by omega) (by omega) (by omega) (by omega) (by omega) (by omega) (by omega) (by omega) (by omega) (by omega) (by omega)]; exact hoj1
        · rw [e2 1 (by omega) (by omega) (by omega) (by omega) (by omega) (by omega) (by omega) (by omega) (by omega) (by omega) (by omega) (by omega), e2 62 (by omega) (by omega) (by omega) (by omega) (by omega) (by omega) (by omega) (by omega) (by omega) (by omega) (by omega) (by omega)]; exact htp
        · unfold nk; rw [e2 64 (by omega) (by omega) (by omega) (by omega) (by omega) (by omega) (by omega) (by omega) (by omega) (by omega) (by omega) (by omega)]; exact hnk
        · unfold mcs; rw [e2 51 (by omega) (by omega) (by omega) (by omega) (by omega) (by omega) (by omega) (by omega) (by omega) (by omega) (by omega) (by omega), e2 52 (by omega) (by omega) (by omega) (by omega) (by omega) (by omega) (by omega) (by omega) (by omega) (by omega) (by omega) (by omega)]; exact hcs
        · rw [e2 9 (by omega) (by omega) (by omega) (by omega) (by omega) (by omega) (by omega) (by omega) (by omega) (by omega) (by omega) (by omega), e2 61 (by omega) (by omega) (by omega) (by omega) (by omega) (by omega) (by omega) (by omega) (by omega) (by omega) (by omega) (by omega), g29]
          refine stP.zero (g := T 4) hT2 hEE (by rw [eS 3 (by decide)]; exact f33) (by rw [eS 3 (by decide)]; exact f34) (by rw [eS 3 (by decide)]; exact f35) (fun l l0 l1 => by rw [eS 5 (by decide), eS 6 (by decide)]; exact f5 l l0 l1) (fun i i0 i1 => ?_) (fun i i0 i1 => ?_) hg (fun i i0 i1 => ?_) (fun i i0 i1 => ?_) (fun i i0 i1 => ?_) (fun i i0 i1 => g69 i i0 i1) (fun i i0 i1 => ?_) (fun i i0 i1 => ?_) (fun i i0 i1 => ?_)
          · rw [g63 i (by omega) i1]; unfold anv; rw [if_neg (by omega)]
          · rw [g63 i i0 (by omega)]; unfold anv; rw [if_pos (by omega)]
            show _ = if i < 3 * N2 53 1 then _ else _
            rw [g531]
          · have i2 : i < 3 * N2 53 1 := i1
            rw [g531] at i2
            show N2 4 i = _
            rw [eS 4 (by decide), f4 i i0 (by omega)]
            exact q3 i i0 i2
          · show 0 ≤ N2 4 i ∧ N2 4 i < 32
            rw [eS 4 (by decide), f4 i i0 i1]
            exact hojN i i0 i1
          · show N2 8 i = N2 4 i
            rw [eS 4 (by decide), eS 8 (by decide), f4 i i0 i1, f8 i i0 i1]
          · rw [eS 8 (by decide), f8b i i0]; exact hWb i (by omega) i1
          · rw [g69b i i0, eH 69 (by decide)]; exact hW2b i (by omega) i1
          · have := hSt i i0 i1; exact ⟨this.1, this.2.1, by omega⟩
  · refine ⟨1, 6, _, by decide, k_L_valley_x (k_X6_valley_x hR (by rw [h12]; exact htl) hk32 (by rw [h12]; exact hc)), fun v h1 hp => ?_⟩
    obtain ⟨rfl, rfl⟩ := hp
    refine ⟨M, L, Rf, 1, rfl, rfl, by decide, hR, _, k_X7_valley_x hR htl hk32 hc, fun v2 h2 hp2 => ?_⟩
    obtain ⟨N2, rfl, rfl, n1, n2, n3⟩ := hp2
    exact ⟨N2, 0, t, b, rfl, rfl, n2, fun z => absurd z (by decide), h.cd ⟨n1, n2, n3⟩⟩
