theorem eqS.tok {t s : sp_T} (h : eqS t s) (hs : sp_tok s) : sp_tok t := by
  obtain ⟨a0, a1, a2, a3, a4, a5, a6, a7, a8⟩ := hs
  have e := h.1
  refine ⟨by rw [e 0 (by decide) (by decide)]; exact a0, by rw [e 1 (by decide) (by decide)]; exact a1, by rw [e 2 (by decide) (by decide)]; exact a2, by rw [e 3 (by decide) (by decide)]; exact a3, by rw [e 4 (by decide) (by decide)]; exact a4, by rw [e 5 (by decide) (by decide)]; exact a5, by rw [e 6 (by decide) (by decide)]; exact a6, fun l l0 l1 => ?_, fun f f0 f1 => ?_⟩
  · have h9 := h.2.1 l l0 l1
    rw [h9.1, h9.2]
    exact a7 l l0 (by rw [← e 1 (by decide) (by decide)]; exact l1)
  · have h9 := h.2.2 f f0 f1
    rw [h9.1, h9.2.1, h9.2.2]
    exact a8 f f0 (by rw [← e 6 (by decide) (by decide)]; exact f1)
/-- one call of the law that may throw -/
def lcase (S : mx_Sc) (κ1 κ2 : mx_M) (ar : List Value) (M : Nat → Int → Int) (L : Nat → Nat → Int64) (Rf : Nat → Nat → Option Nat) (it : Int) : Prop :=
  ∃ (bc bs : Nat) (Pk : Option Value → mx_H → Prop), (bc ≤ 1 ∧ bs ≤ 6) ∧ mx_C S κ1 (.ref 0 :: (ar ++ [.ref 81])) (false, mx_SH, M, L, Rf) bc bs Pk (fun _ _ => False) ∧ ∀ v h1, Pk v h1 → ∃ (N1 : Nat → Int → Int) (L1 : Nat → Nat → Int64) (Rf1 : Nat → Nat → Option Nat) (k : Int), h1 = (false, mx_SH, N1, L1, Rf1) ∧ v = some (.int (iI k)) ∧ (0 ≤ k ∧ k ≤ 2) ∧ mx_rf Rf1 ∧
    ∃ Pm : Option Value → mx_H → Prop, mx_C S κ2 (.ref 48 :: ar) (false, mx_SH, N1, L1, Rf1) 0 0 Pm (fun _ _ => False) ∧ ∀ v2 h2, Pm v2 h2 → ∃ (N2 : Nat → Int → Int) (z : Int) (t2 : Nat) (b2 : Bool), h2 = (false, mx_SH, N2, L1, Rf1) ∧ v2 = some (.int (iI z)) ∧ N2 48 4 = k ∧ (k = 0 → L1 81 0 = (iI z).toInt64) ∧ rlV N2 Rf1 t2 b2 (it + 1)
theorem stP.it {tC tR : sp_T} {M : Nat → Int → Int} {a : Nat} {D W R v D2 W2 O R2 : Int → Int} {n it : Int} (h : stP tC tR M a D W R v D2 W2 O R2 n it) : stP tC tR M a D W R v D2 W2 O R2 n (it + 1) := by
  obtain ⟨a1, a2, a3, a4, a5, a6⟩ := h
  exact ⟨a1, a2, a3, a4, a5, fun i i0 i1 => by have := a6 i i0 i1; exact ⟨this.1, this.2.1, by omega⟩⟩
theorem rlV.it {M : Nat → Int → Int} {Rf : Nat → Nat → Option Nat} {t : Nat} {b : Bool} {it : Int} (h : rlV M Rf t b it) : rlV M Rf t b (it + 1) := by
  obtain ⟨a, b1, c, d, f1, f2, f3⟩ := h
  exact ⟨a, b1, c, d.it, f1, f2, fun z => (f3 z).it⟩
theorem nrI_c {t s : sp_T} (v : Int → Int) (p a : Int) : ∀ k : Nat, nrI t v p a k = nrI s v p a k
  | 0 => rfl
  | k + 1 => by simp only [nrI]; rw [nrI_c (t := t) (s := s) v p a k]
theorem nr_c {t s : sp_T} (h : eqS t s) (hT : sp_tok t) {v : Int → Int} {p : Int} : ∀ {k : Nat}, nrO t v p k = nrO s v p k
  | 0 => rfl
  | k + 1 => by
    simp only [nrO]
    rw [nr_c h hT (k := k), nrI_c (t := t) (s := s), h.1 1 (by decide) (by decide)]
set_option maxHeartbeats 4000000 in
theorem lc_far {S : mx_Sc} {M : Nat → Int → Int} {L : Nat → Nat → Int64} {Rf : Nat → Nat → Option Nat} {t : Nat} {b : Bool} {it : Int} (h : rlV M Rf t b it) {l : Int} (hl32 : -2147483648 ≤ l ∧ l ≤ 2147483647) {o : Int} (ho32 : -2147483648 ≤ o ∧ o ≤ 2147483647) : lcase S mL_far mX7_far [.int (iI l), .int (iI o)] M L Rf it := by
  obtain ⟨⟨ht, hR, hrs, hto, hsp⟩, ⟨hT, hE, hlkE, hlk, hoE, hto56, hoj1, hoj2⟩, ⟨htl, h12, htp, h13, hnk, hcs⟩, hst, h14, h41, him⟩ := id h
  obtain ⟨⟨hsc, hn3, hnb, hv, hwI⟩, ⟨hz, hnw, hJ, hJm⟩, ⟨hD, hW⟩, ⟨hO, hD2, hW2, hDW⟩, ⟨hWb, hW2b⟩, hSt⟩ := id hst
  have hTC : sp_tok (sp_tC M t) := hE.tok hT
  have eL : M t 1 = M 53 1 := hE.1 1 (by decide) (by decide)
  have e5 : M t 5 = M 53 5 := hE.1 5 (by decide) (by decide)
  have hvC : sp_vok (sp_tC M t) (M 63) := hE.vok hTC hv
  have hlkC : sp_lok (sp_tC M t) (M (t + 3)) := hE.lok hTC (fun l l0 l1 => hlkE l l0 (by rw [← eL]; exact l1)) hlk
  have hT1 : 0 ≤ M 53 1 ∧ M 53 1 ≤ 6 := hT.2.1
  have hT5 : 1 ≤ M 53 5 ∧ M 53 5 ≤ 99 := hT.2.2.2.2.2.1
  have hn99 : 0 ≤ M 48 29 ∧ M 48 29 ≤ 99 := by have : 0 ≤ M 48 29 ∧ M 48 29 ≤ M 53 5 := hnb; omega
  have hne : M 48 29 ≤ M 53 5 := hnb.2
  have hzC : ∀ l, M t 1 ≤ l → l < 6 → sp_out (M 63) l = false := fun l a b => hz l (by show M 53 1 ≤ l; omega) b
  by_cases hc : (0 ≤ l ∧ l < M 53 1) ∧ (0 ≤ o ∧ o < M 53 1)
  · refine ⟨0, 0, _, by decide, k_L_far (k_X6_far hR ht hTC hto hsc hvC hn99 hn3 hl32 ho32 (by rw [eL]; exact hc)) (fun v h9 hp => by obtain ⟨rfl, rfl⟩ := hp; exact ⟨_, _, _, _, rfl, rfl⟩), fun v h1 hp => ?_⟩
    obtain ⟨N, L2, Rf2, y, ⟨hp1, hp2⟩, rfl, rfl⟩ := hp
    cases hp1
    refine ⟨M, _, Rf, 0, rfl, rfl, by decide, hR, _, k_X7_far hR hT hv hl32 ho32 hc, fun v2 h2 hp9 => ?_⟩
    obtain ⟨N2, rfl, hN2, rfl⟩ := hp9
    refine ⟨N2, _, t, b, rfl, rfl, hN2.2.1, fun _ => ?_, (h.it.fr (fun x hx => hN2.1 x (by intro z; subst z; cases hx)) (hN2.2.2 15 (by decide)) (hN2.2.2 24 (by decide)) (hN2.2.2 29 (by decide)) (hN2.2.2 41 (by decide)) (hN2.2.2 42 (by decide)) (fun z l l0 l1 => by rw [hN2.1 64 (by decide)]; exact z l l0 l1) hR (fun _ _ => rfl))⟩
    rw [up_s, up_s, Value.int.inj (Option.some.inj hp2)]
    skip
  · refine ⟨1, 6, _, by decide, k_L_far_x (k_X6_far_x hR ht hTC hto hl32 ho32 (by rw [eL]; exact hc)), fun v h1 hp => ?_⟩
    obtain ⟨rfl, rfl⟩ := hp
    refine ⟨M, L, Rf, 1, rfl, rfl, by decide, hR, _, k_X7_far_x hR hT hl32 ho32 hc, fun v2 h2 hp2 => ?_⟩
    obtain ⟨N2, rfl, hN2, rfl⟩ := hp2
    exact ⟨N2, 0, t, b, rfl, rfl, hN2.2.1, fun z => absurd z (by decide), (h.it.fr (fun x hx => hN2.1 x (by intro z; subst z; cases hx)) (hN2.2.2 15 (by decide)) (hN2.2.2 24 (by decide)) (hN2.2.2 29 (by decide)) (hN2.2.2 41 (by decide)) (hN2.2.2 42 (by decide)) (fun z l l0 l1 => by rw [hN2.1 64 (by decide)]; exact z l l0 l1) hR (fun _ _ => rfl))⟩
set_option maxHeartbeats 4000000 in
theorem lc_near {S : mx_Sc} {M : Nat → Int → Int} {L : Nat → Nat → Int64} {Rf : Nat → Nat → Option Nat} {t : Nat} {b : Bool} {it : Int} (h : rlV M Rf t b it) {k : Int} (hk32 : -2147483648 ≤ k ∧ k ≤ 2147483647) : lcase S mL_near mX7_near [.int (iI k)] M L Rf it := by
  obtain ⟨⟨ht, hR, hrs, hto, hsp⟩, ⟨hT, hE, hlkE, hlk, hoE, hto56, hoj1, hoj2⟩, ⟨htl, h12, htp, h13, hnk, hcs⟩, hst, h14, h41, him⟩ := id h
  obtain ⟨⟨hsc, hn3, hnb, hv, hwI⟩, ⟨hz, hnw, hJ, hJm⟩, ⟨hD, hW⟩, ⟨hO, hD2, hW2, hDW⟩, ⟨hWb, hW2b⟩, hSt⟩ := id hst
  have hTC : sp_tok (sp_tC M t) := hE.tok hT
  have eL : M t 1 = M 53 1 := hE.1 1 (by decide) (by decide)
  have e5 : M t 5 = M 53 5 := hE.1 5 (by decide) (by decide)
  have hvC : sp_vok (sp_tC M t) (M 63) := hE.vok hTC hv
  have hlkC : sp_lok (sp_tC M t) (M (t + 3)) := hE.lok hTC (fun l l0 l1 => hlkE l l0 (by rw [← eL]; exact l1)) hlk
  have hT1 : 0 ≤ M 53 1 ∧ M 53 1 ≤ 6 := hT.2.1
  have hT5 : 1 ≤ M 53 5 ∧ M 53 5 ≤ 99 := hT.2.2.2.2.2.1
  have hn99 : 0 ≤ M 48 29 ∧ M 48 29 ≤ 99 := by have : 0 ≤ M 48 29 ∧ M 48 29 ≤ M 53 5 := hnb; omega
  have hne : M 48 29 ≤ M 53 5 := hnb.2
  have hzC : ∀ l, M t 1 ≤ l → l < 6 → sp_out (M 63) l = false := fun l a b => hz l (by show M 53 1 ≤ l; omega) b
  by_cases hc : 0 ≤ k ∧ k ≤ 30
  · refine ⟨0, 0, _, by decide, k_L_near (k_X6_near hR ht hTC hto hsc hvC hn99 hn3 hc hk32) (fun v h9 hp => by obtain ⟨rfl, rfl⟩ := hp; exact ⟨_, _, _, _, rfl, rfl⟩), fun v h1 hp => ?_⟩
    obtain ⟨N, L2, Rf2, y, ⟨hp1, hp2⟩, rfl, rfl⟩ := hp
    cases hp1
    refine ⟨M, _, Rf, 0, rfl, rfl, by decide, hR, _, k_X7_near hR hT hv hk32 hc, fun v2 h2 hp9 => ?_⟩
    obtain ⟨N2, rfl, hN2, rfl⟩ := hp9
    refine ⟨N2, _, t, b, rfl, rfl, hN2.2.1, fun _ => ?_, (h.it.fr (fun x hx => hN2.1 x (by intro z; subst z; cases hx)) (hN2.2.2 15 (by decide)) (hN2.2.2 24 (by decide)) (hN2.2.2 29 (by decide)) (hN2.2.2 41 (by decide)) (hN2.2.2 42 (by decide)) (fun z l l0 l1 => by rw [hN2.1 64 (by decide)]; exact z l l0 l1) hR (fun _ _ => rfl))⟩
    rw [up_s, up_s, Value.int.inj (Option.some.inj hp2)]
    rw [nr_c hE hTC, eL]
  · refine ⟨1, 6, _, by decide, k_L_near_x (k_X6_near_x hR hk32 hc), fun v h1 hp => ?_⟩
    obtain ⟨rfl, rfl⟩ := hp
    refine ⟨M, L, Rf, 1, rfl, rfl, by decide, hR, _, k_X7_near_x hR hk32 hc, fun v2 h2 hp2 => ?_⟩
    obtain ⟨N2, rfl, hN2, rfl⟩ := hp2
    exact ⟨N2, 0, t, b, rfl, rfl, hN2.2.1, fun z => absurd z (by decide), (h.it.fr (fun x hx => hN2.1 x (by intro z; subst z; cases hx)) (hN2.2.2 15 (by decide)) (hN2.2.2 24 (by decide)) (hN2.2.2 29 (by decide)) (hN2.2.2 41 (by decide)) (hN2.2.2 42 (by decide)) (fun z l l0 l1 => by rw [hN2.1 64 (by decide)]; exact z l l0 l1) hR (fun _ _ => rfl))⟩
