set_option maxHeartbeats 4000000 in
theorem lc_matches {S : mx_Sc} {M : Nat → Int → Int} {L : Nat → Nat → Int64} {Rf : Nat → Nat → Option Nat} {t : Nat} {b : Bool} {it : Int} (h : rlV M Rf t b it) {k : Int} (hk32 : -2147483648 ≤ k ∧ k ≤ 2147483647) : lcase S mL_matches mX7_matches [.int (iI k)] M L Rf it := by
  obtain ⟨⟨ht, hR, hrs, hto, hsp⟩, ⟨hT, hE, hlkE, hlk, hoE, hto56, hoj1, hoj2⟩, ⟨htl, h12, htp, h13, hnk, hcs⟩, hst, h14, h41, him⟩ := id h
  obtain ⟨⟨hsc, hn3, hnb, hv, hwI⟩, ⟨hz, hnw, hJ, hJm⟩, ⟨hD, hW⟩, ⟨hO, hD2, hW2, hDW⟩, ⟨hWb, hW2b⟩, hSt⟩ := id hst
  have hTC : sp_tok (sp_tC M t) := hE.tok hT
  have eL : M t 1 = M 53 1 := hE.1 1 (by decide) (by decide)
  have e5 : M t 5 = M 53 5 := hE.1 5 (by decide) (by decide)
  have hvC : sp_vok (sp_tC M t) (M 63) := hE.vok hTC hv
  have hlkL : eqL (sp_tC M t) (M (t + 3)) (M 57) := fun l l0 l1 => hlkE l l0 (by rw [← eL]; exact l1)
  have hlkC : sp_lok (sp_tC M t) (M (t + 3)) := hE.lok hTC hlkL hlk
  have hT1 : 0 ≤ M 53 1 ∧ M 53 1 ≤ 6 := hT.2.1
  have hT5 : 1 ≤ M 53 5 ∧ M 53 5 ≤ 99 := hT.2.2.2.2.2.1
  have hn99 : 0 ≤ M 48 29 ∧ M 48 29 ≤ 99 := by have : 0 ≤ M 48 29 ∧ M 48 29 ≤ M 53 5 := hnb; omega
  have hne : M 48 29 ≤ M 53 5 := hnb.2
  have hzC : ∀ l, M t 1 ≤ l → l < 6 → sp_out (M 63) l = false := fun l a b => hz l (by show M 53 1 ≤ l; omega) b
  have hdkC : ∀ j, 0 ≤ j → j < M 48 29 → sp_vok (sp_tC M t) (bk_v (M 7) (M 63) j) := fun j j0 j1 => dk_ok hE hTC hvC (hD j j0 j1) (hD2 j j0 j1)
  have hDM : ∀ j, 0 ≤ j → j < M 48 29 → sp_vok (sp_tR M) (bkM (M 68) (M 70) j) := fun j j0 j1 => bkM_ok hT (hD2 j j0 j1)
  by_cases hc : 0 ≤ k ∧ k ≤ 3
  · obtain ⟨hf, ng, rfl⟩ : ∃ hf ng : Bool, k = bI hf + 2 * bI ng := by
      rcases (show k = 0 ∨ k = 1 ∨ k = 2 ∨ k = 3 by omega) with rfl | rfl | rfl | rfl
      · exact ⟨false, false, rfl⟩
      · exact ⟨true, false, rfl⟩
      · exact ⟨false, true, rfl⟩
      · exact ⟨true, true, rfl⟩
    refine ⟨0, 0, _, by decide, k_L_matches (k_X6_matches hR ht hTC hto hsc hvC hn99 hn3 hlkC (by rw [e5]; exact hne) (hf := hf) (ng := ng)) (fun v h9 hp => by obtain ⟨N, Rf2, rfl, rfl, _⟩ := hp; exact ⟨_, _, _, _, rfl, rfl⟩), fun v h1 hp => ?_⟩
    obtain ⟨N, L2, Rf2, y, hp0, rfl, rfl⟩ := hp
    obtain ⟨N3, Rf3, heq, hval, hRf, hRx, hfr⟩ := hp0
    cases heq
    have hy := Value.int.inj (Option.some.inj hval)
    have eN : ∀ x, relB x = true → N x = M x := fun x hx => hfr x (by intro z; subst z; cases hx) (by intro z; subst z; cases hx) (by intro z; subst z; cases hx) (by intro z; subst z; cases hx) (by intro z; subst z; cases hx) (by intro z; subst z; cases hx)
    have e48 : N 48 = M 48 := hfr 48 (by decide) (by decide) (by decide) (by decide) (by decide) (by decide)
    have hh : rlV N Rf2 t b it := h.cls eN e48 (hfr 64 (by decide) (by decide) (by decide) (by decide) (by decide) (by decide)) hRf hRx
    have eT : sp_tR N = sp_tR M := by show (N 53, N 54, N 55, N 58, N 59, N 60) = _; rw [eN 53 rfl, eN 54 rfl, eN 55 rfl, eN 58 rfl, eN 59 rfl, eN 60 rfl]
    obtain ⟨⟨htn, hRn, hrsn, hton, hspn⟩, ⟨hTn, hEn, hlkEn, hlkn, hoEn, hto56n, hoj1n, hoj2n⟩, ⟨htln, h12n, htpn, h13n, hnkn, hcsn⟩, hstn, h14n, h41n, himn⟩ := id hh
    obtain ⟨⟨hscn, hn3n, hnbn, hvn, hwIn⟩, ⟨hzn, hnwn, hJn, hJmn⟩, ⟨hDn, hWn⟩, ⟨hOn, hD2n, hW2n, hDWn⟩, ⟨hWbn, hW2bn⟩, hStn⟩ := id hstn
    have hTCn : sp_tok (sp_tC N t) := hEn.tok hTn
    have eLn : N t 1 = N 53 1 := hEn.1 1 (by decide) (by decide)
    have e5n : N t 5 = N 53 5 := hEn.1 5 (by decide) (by decide)
    have hvCn : sp_vok (sp_tC N t) (N 63) := hEn.vok hTCn hvn
    have hlkLn : eqL (sp_tC N t) (N (t + 3)) (N 57) := fun l l0 l1 => hlkEn l l0 (by rw [← eLn]; exact l1)
    have hlkCn : sp_lok (sp_tC N t) (N (t + 3)) := hEn.lok hTCn hlkLn hlkn
    have hT1n : 0 ≤ N 53 1 ∧ N 53 1 ≤ 6 := hTn.2.1
    have hT5n : 1 ≤ N 53 5 ∧ N 53 5 ≤ 99 := hTn.2.2.2.2.2.1
    have hn99n : 0 ≤ N 48 29 ∧ N 48 29 ≤ 99 := by have : 0 ≤ N 48 29 ∧ N 48 29 ≤ N 53 5 := hnbn; omega
    have hnen : N 48 29 ≤ N 53 5 := hnbn.2
    have hzCn : ∀ l, N t 1 ≤ l → l < 6 → sp_out (N 63) l = false := fun l a b => hzn l (by show N 53 1 ≤ l; omega) b
    have hdkCn : ∀ j, 0 ≤ j → j < N 48 29 → sp_vok (sp_tC N t) (bk_v (N 7) (N 63) j) := fun j j0 j1 => dk_ok hEn hTCn hvCn (hDn j j0 j1) (hD2n j j0 j1)
    have hDMn : ∀ j, 0 ≤ j → j < N 48 29 → sp_vok (sp_tR N) (bkM (N 68) (N 70) j) := fun j j0 j1 => bkM_ok hTn (hD2n j j0 j1)
    refine ⟨N, _, Rf2, 0, rfl, rfl, by decide, hRf, _, k_X7_matches hRn hTn hvn hlkn hn99n rfl hnen (hf := hf) (ng := ng), fun v2 h2 hp9 => ?_⟩
    obtain ⟨N2, rfl, ⟨hN2, hN4, hN48, hNk⟩, u, hu, rfl⟩ := hp9
    refine ⟨N2, _, t, b, rfl, rfl, hN4, fun _ => ?_, hh.mdl (fun x hx => hN2 x (by intro z; subst z; cases hx) (by intro z; subst z; cases hx) (by intro z; subst z; cases hx) (by intro z; subst z; cases hx)) (fun k k4 _ _ => hN48 k k4) hNk⟩
    rw [up_s, up_s, hy]
    refine congrArg (fun x => (iI x).toInt64) ?_
    rw [(hu.run hTn hlkn hf ng (N 48 29) _).cnt hTn, hE.cnt hTC, hE.run hTC hlkL, e5, eT, e48, eN 57 rfl, eN 63 rfl, eN 53 rfl]
  · refine ⟨1, 6, _, by decide, k_L_matches_x (k_X6_matches_x hR hk32 hc), fun v h1 hp => ?_⟩
    obtain ⟨rfl, rfl⟩ := hp
    refine ⟨M, L, Rf, 1, rfl, rfl, by decide, hR, _, k_X7_matches_x hR hk32 hc, fun v2 h2 hp2 => ?_⟩
    obtain ⟨N2, rfl, hN2, rfl⟩ := hp2
    exact ⟨N2, 0, t, b, rfl, rfl, hN2.2.1, fun z => absurd z (by decide), h.cd hN2⟩
set_option maxHeartbeats 4000000 in
theorem lc_years {S : mx_Sc} {M : Nat → Int → Int} {L : Nat → Nat → Int64} {Rf : Nat → Nat → Option Nat} {t : Nat} {b : Bool} {it : Int} (h : rlV M Rf t b it) {l : Int} (hl32 : -2147483648 ≤ l ∧ l ≤ 2147483647) {s : Int} {u : Int} (hu32 : -2147483648 ≤ u ∧ u ≤ 2147483647) : lcase S mL_years mX7_years [.int (iI l), .int (iI s), .int (iI u)] M L Rf it := by
  obtain ⟨⟨ht, hR, hrs, hto, hsp⟩, ⟨hT, hE, hlkE, hlk, hoE, hto56, hoj1, hoj2⟩, ⟨htl, h12, htp, h13, hnk, hcs⟩, hst, h14, h41, him⟩ := id h
  obtain ⟨⟨hsc, hn3, hnb, hv, hwI⟩, ⟨hz, hnw, hJ, hJm⟩, ⟨hD, hW⟩, ⟨hO, hD2, hW2, hDW⟩, ⟨hWb, hW2b⟩, hSt⟩ := id hst
  have hTC : sp_tok (sp_tC M t) := hE.tok hT
  have eL : M t 1 = M 53 1 := hE.1 1 (by decide) (by decide)
  have e5 : M t 5 = M 53 5 := hE.1 5 (by decide) (by decide)
  have hvC : sp_vok (sp_tC M t) (M 63) := hE.vok hTC hv
  have hlkL : eqL (sp_tC M t) (M (t + 3)) (M 57) := fun l l0 l1 => hlkE l l0 (by rw [← eL]; exact l1)
  have hlkC : sp_lok (sp_tC M t) (M (t + 3)) := hE.lok hTC hlkL hlk
  have hT1 : 0 ≤ M 53 1 ∧ M 53 1 ≤ 6 := hT.2.1
  have hT5 : 1 ≤ M 53 5 ∧ M 53 5 ≤ 99 := hT.2.2.2.2.2.1
  have hn99 : 0 ≤ M 48 29 ∧ M 48 29 ≤ 99 := by have : 0 ≤ M 48 29 ∧ M 48 29 ≤ M 53 5 := hnb; omega
  have hne : M 48 29 ≤ M 53 5 := hnb.2
  have hzC : ∀ l, M t 1 ≤ l → l < 6 → sp_out (M 63) l = false := fun l a b => hz l (by show M 53 1 ≤ l; omega) b
  have hdkC : ∀ j, 0 ≤ j → j < M 48 29 → sp_vok (sp_tC M t) (bk_v (M 7) (M 63) j) := fun j j0 j1 => dk_ok hE hTC hvC (hD j j0 j1) (hD2 j j0 j1)
  have hDM : ∀ j, 0 ≤ j → j < M 48 29 → sp_vok (sp_tR M) (bkM (M 68) (M 70) j) := fun j j0 j1 => bkM_ok hT (hD2 j j0 j1)
  by_cases hl : 0 ≤ l ∧ l < M 53 1
  · by_cases hu : 0 ≤ u ∧ u ≤ 40
    · have hvc : sp_vok (sp_tC M t) (bgv (M (t + 4))) := by
        refine bgv_ok hTC (fun l l0 l1 => ?_)
        have e1 : l < M 53 1 := by rw [← eL]; exact l1
        have h9 := hto56 l l0 e1
        rw [hoE (3 * l) (by omega) (by omega), hoE (3 * l + 1) (by omega) (by omega), hoE (3 * l + 2) (by omega) (by omega), show (sp_tC M t).1 0 = M 53 0 from hE.1 0 (by decide) (by decide)]
        exact h9
      have hvr : sp_vok (sp_tR M) (bgv (fun i => if i < 3 * M 53 1 then M 56 i else 0)) := by
        refine bgv_ok hT (fun l l0 l1 => ?_)
        have e1 : l < M 53 1 := l1
        have h9 := hto56 l l0 e1
        rw [if_pos (by omega), if_pos (by omega), if_pos (by omega)]
        exact h9
      refine ⟨0, 0, _, by decide, k_L_years (k_X6_years hR ht hTC hto hl32 hu32 (s := s) (by rw [eL]; exact hl) hu hvc) (fun v h9 hp => by obtain ⟨N, Rf2, rfl, rfl, _⟩ := hp; exact ⟨_, _, _, _, rfl, rfl⟩), fun v h1 hp => ?_⟩
      obtain ⟨N, L2, Rf2, y, hp0, rfl, rfl⟩ := hp
      obtain ⟨N3, Rf3, heq, hval, hRf, hRx, hfr⟩ := hp0
      cases heq
      have hy := Value.int.inj (Option.some.inj hval)
      have eN : ∀ x, relB x = true → N x = M x := fun x hx => hfr x (by intro z; subst z; cases hx) (by intro z; subst z; cases hx) (by intro z; subst z; cases hx) (by intro z; subst z; cases hx) (by intro z; subst z; cases hx) (by intro z; subst z; cases hx) (by intro z; subst z; cases hx)
      have e48 : N 48 = M 48 := hfr 48 (by decide) (by decide) (by decide) (by decide) (by decide) (by decide) (by decide)
      have hh : rlV N Rf2 t b it := h.cls eN e48 (hfr 64 (by decide) (by decide) (by decide) (by decide) (by decide) (by decide) (by decide)) hRf hRx
      have eT : sp_tR N = sp_tR M := by show (N 53, N 54, N 55, N 58, N 59, N 60) = _; rw [eN 53 rfl, eN 54 rfl, eN 55 rfl, eN 58 rfl, eN 59 rfl, eN 60 rfl]
      obtain ⟨⟨htn, hRn, hrsn, hton, hspn⟩, ⟨hTn, hEn, hlkEn, hlkn, hoEn, hto56n, hoj1n, hoj2n⟩, ⟨htln, h12n, htpn, h13n, hnkn, hcsn⟩, hstn, h14n, h41n, himn⟩ := id hh
      obtain ⟨⟨hscn, hn3n, hnbn, hvn, hwIn⟩, ⟨hzn, hnwn, hJn, hJmn⟩, ⟨hDn, hWn⟩, ⟨hOn, hD2n, hW2n, hDWn⟩, ⟨hWbn, hW2bn⟩, hStn⟩ := id hstn
      have hTCn : sp_tok (sp_tC N t) := hEn.tok hTn
      have eLn : N t 1 = N 53 1 := hEn.1 1 (by decide) (by decide)
      have e5n : N t 5 = N 53 5 := hEn.1 5 (by decide) (by decide)
      have hvCn : sp_vok (sp_tC N t) (N 63) := hEn.vok hTCn hvn
      have hlkLn : eqL (sp_tC N t) (N (t + 3)) (N 57) := fun l l0 l1 => hlkEn l l0 (by rw [← eLn]; exact l1)
      have hlkCn : sp_lok (sp_tC N t) (N (t + 3)) := hEn.lok hTCn hlkLn hlkn
      have hT1n : 0 ≤ N 53 1 ∧ N 53 1 ≤ 6 := hTn.2.1
      have hT5n : 1 ≤ N 53 5 ∧ N 53 5 ≤ 99 := hTn.2.2.2.2.2.1
      have hn99n : 0 ≤ N 48 29 ∧ N 48 29 ≤ 99 := by have : 0 ≤ N 48 29 ∧ N 48 29 ≤ N 53 5 := hnbn; omega
      have hnen : N 48 29 ≤ N 53 5 := hnbn.2
      have hzCn : ∀ l, N t 1 ≤ l → l < 6 → sp_out (N 63) l = false := fun l a b => hzn l (by show N 53 1 ≤ l; omega) b
      have hdkCn : ∀ j, 0 ≤ j → j < N 48 29 → sp_vok (sp_tC N t) (bk_v (N 7) (N 63) j) := fun j j0 j1 => dk_ok hEn hTCn hvCn (hDn j j0 j1) (hD2n j j0 j1)
      have hDMn : ∀ j, 0 ≤ j → j < N 48 29 → sp_vok (sp_tR N) (bkM (N 68) (N 70) j) := fun j j0 j1 => bkM_ok hTn (hD2n j j0 j1)
      refine ⟨N, _, Rf2, 0, rfl, rfl, by decide, hRf, _, k_X7_years hRn hTn (by rw [eT, eN 53 rfl, eN 56 rfl]; exact hvr) (s := s) hl32 hu32 (by rw [eN 53 rfl]; exact hl) hu, fun v2 h2 hp9 => ?_⟩
      obtain ⟨N2, rfl, hN2, hN4, hN48, hNk, rfl⟩ := hp9
      refine ⟨N2, _, t, b, rfl, rfl, hN4, fun _ => ?_, hh.mdl (fun x hx => hN2 x (by intro z; subst z; cases hx) (by intro z; subst z; cases hx) (by intro z; subst z; cases hx) (by intro z; subst z; cases hx) (by intro z; subst z; cases hx)) (fun k k4 _ k40 => hN48 k k4 k40) hNk⟩
      rw [up_s, up_s, hy]
      refine congrArg (fun x => (iI x).toInt64) ?_
      rw [eT, eN 53 rfl, eN 56 rfl]
      exact yal_c hE hTC hT (fun i i0 i1 => by rw [if_pos (show i < 3 * M 53 1 by rw [← eL]; exact i1)]; exact hoE i i0 (by rw [← eL]; exact i1)) (by show 0 ≤ l ∧ l < M t 1; rw [eL]; exact hl) _
    · refine ⟨1, 6, _, by decide, k_L_years_y (k_X6_years_y hR ht hTC hto hl32 hu32 (by rw [eL]; exact hl) hu), fun v h1 hp => ?_⟩
      obtain ⟨rfl, rfl⟩ := hp
      refine ⟨M, L, Rf, 2, rfl, rfl, by decide, hR, _, k_X7_years_y hR hT hl32 hu32 hl hu, fun v2 h2 hp2 => ?_⟩
      obtain ⟨N2, rfl, hN2, rfl⟩ := hp2
      exact ⟨N2, 0, t, b, rfl, rfl, hN2.2.1, fun z => absurd z (by decide), h.cd hN2⟩
  · refine ⟨1, 6, _, by decide, k_L_years_x (k_X6_years_x hR ht hTC hto hl32 hu32 (by rw [eL]; exact hl)), fun v h1 hp => ?_⟩
    obtain ⟨rfl, rfl⟩ := hp
    refine ⟨M, L, Rf, 1, rfl, rfl, by decide, hR, _, k_X7_years_x hR hT hl32 hu32 hl, fun v2 h2 hp2 => ?_⟩
    obtain ⟨N2, rfl, hN2, rfl⟩ := hp2
    exact ⟨N2, 0, t, b, rfl, rfl, hN2.2.1, fun z => absurd z (by decide), h.cd hN2⟩
set_option maxHeartbeats 4000000 in
theorem lc_may {S : mx_Sc} {M : Nat → Int → Int} {L : Nat → Nat → Int64} {Rf : Nat → Nat → Option Nat} {t : Nat} {b : Bool} {it : Int} (h : rlV M Rf t b it) {l : Int} (hl32 : -2147483648 ≤ l ∧ l ≤ 2147483647) : lcase S mL_may mX7_may [.int (iI l)] M L Rf it := by
  obtain ⟨⟨ht, hR, hrs, hto, hsp⟩, ⟨hT, hE, hlkE, hlk, hoE, hto56, hoj1, hoj2⟩, ⟨htl, h12, htp, h13, hnk, hcs⟩, hst, h14, h41, him⟩ := id h
  obtain ⟨⟨hsc, hn3, hnb, hv, hwI⟩, ⟨hz, hnw, hJ, hJm⟩, ⟨hD, hW⟩, ⟨hO, hD2, hW2, hDW⟩, ⟨hWb, hW2b⟩, hSt⟩ := id hst
  have hTC : sp_tok (sp_tC M t) := hE.tok hT
  have eL : M t 1 = M 53 1 := hE.1 1 (by decide) (by decide)
  have e5 : M t 5 = M 53 5 := hE.1 5 (by decide) (by decide)
  have hvC : sp_vok (sp_tC M t) (M 63) := hE.vok hTC hv
  have hlkL : eqL (sp_tC M t) (M (t + 3)) (M 57) := fun l l0 l1 => hlkE l l0 (by rw [← eL]; exact l1)
  have hlkC : sp_lok (sp_tC M t) (M (t + 3)) := hE.lok hTC hlkL hlk
  have hT1 : 0 ≤ M 53 1 ∧ M 53 1 ≤ 6 := hT.2.1
  have hT5 : 1 ≤ M 53 5 ∧ M 53 5 ≤ 99 := hT.2.2.2.2.2.1
  have hn99 : 0 ≤ M 48 29 ∧ M 48 29 ≤ 99 := by have : 0 ≤ M 48 29 ∧ M 48 29 ≤ M 53 5 := hnb; omega
  have hne : M 48 29 ≤ M 53 5 := hnb.2
  have hzC : ∀ l, M t 1 ≤ l → l < 6 → sp_out (M 63) l = false := fun l a b => hz l (by show M 53 1 ≤ l; omega) b
  have hdkC : ∀ j, 0 ≤ j → j < M 48 29 → sp_vok (sp_tC M t) (bk_v (M 7) (M 63) j) := fun j j0 j1 => dk_ok hE hTC hvC (hD j j0 j1) (hD2 j j0 j1)
  have hDM : ∀ j, 0 ≤ j → j < M 48 29 → sp_vok (sp_tR M) (bkM (M 68) (M 70) j) := fun j j0 j1 => bkM_ok hT (hD2 j j0 j1)
  by_cases hc : 0 ≤ l ∧ l < M 53 1
  · have hl := hc
    refine ⟨0, 0, _, by decide, k_L_may (k_X6_may hR ht hTC hto hsc hvC hzC hn99 hn3 (by rw [eL]; exact hc) hdkC (fun i i0 i1 => by have := hWb i i0 i1; omega) hl32) (fun v h9 hp => by obtain ⟨N, r, Rf2, rfl, rfl, _⟩ := hp; exact ⟨_, _, _, _, rfl, rfl⟩), fun v h1 hp => ?_⟩
    obtain ⟨N, L2, Rf2, y, hp0, rfl, rfl⟩ := hp
    obtain ⟨N3, r, Rf3, heq, hval, hRf, hRx, _, _, hfr, _, _, hr1, hrb⟩ := hp0
    cases heq
    have hy := Value.int.inj (Option.some.inj hval)
    have eN : ∀ x, relB x = true → N x = M x := fun x hx => hfr x (by intro z; subst z; cases hx) (by intro z; subst z; cases hx) (by intro z; subst z; cases hx) (by intro z; subst z; cases hx) (by intro z; subst z; cases hx) (by intro z; subst z; cases hx) (by intro z; subst z; cases hx)
    have e48 : N 48 = M 48 := hfr 48 (by decide) (by decide) (by decide) (by decide) (by decide) (by decide) (by decide)
    have hh : rlV N Rf2 t b it := h.cls eN e48 (hfr 64 (by decide) (by decide) (by decide) (by decide) (by decide) (by decide) (by decide)) hRf hRx
    have eT : sp_tR N = sp_tR M := by show (N 53, N 54, N 55, N 58, N 59, N 60) = _; rw [eN 53 rfl, eN 54 rfl, eN 55 rfl, eN 58 rfl, eN 59 rfl, eN 60 rfl]
    obtain ⟨⟨htn, hRn, hrsn, hton, hspn⟩, ⟨hTn, hEn, hlkEn, hlkn, hoEn, hto56n, hoj1n, hoj2n⟩, ⟨htln, h12n, htpn, h13n, hnkn, hcsn⟩, hstn, h14n, h41n, himn⟩ := id hh
    obtain ⟨⟨hscn, hn3n, hnbn, hvn, hwIn⟩, ⟨hzn, hnwn, hJn, hJmn⟩, ⟨hDn, hWn⟩, ⟨hOn, hD2n, hW2n, hDWn⟩, ⟨hWbn, hW2bn⟩, hStn⟩ := id hstn
    have hTCn : sp_tok (sp_tC N t) := hEn.tok hTn
    have eLn : N t 1 = N 53 1 := hEn.1 1 (by decide) (by decide)
    have e5n : N t 5 = N 53 5 := hEn.1 5 (by decide) (by decide)
    have hvCn : sp_vok (sp_tC N t) (N 63) := hEn.vok hTCn hvn
    have hlkLn : eqL (sp_tC N t) (N (t + 3)) (N 57) := fun l l0 l1 => hlkEn l l0 (by rw [← eLn]; exact l1)
    have hlkCn : sp_lok (sp_tC N t) (N (t + 3)) := hEn.lok hTCn hlkLn hlkn
    have hT1n : 0 ≤ N 53 1 ∧ N 53 1 ≤ 6 := hTn.2.1
    have hT5n : 1 ≤ N 53 5 ∧ N 53 5 ≤ 99 := hTn.2.2.2.2.2.1
    have hn99n : 0 ≤ N 48 29 ∧ N 48 29 ≤ 99 := by have : 0 ≤ N 48 29 ∧ N 48 29 ≤ N 53 5 := hnbn; omega
    have hnen : N 48 29 ≤ N 53 5 := hnbn.2
    have hzCn : ∀ l, N t 1 ≤ l → l < 6 → sp_out (N 63) l = false := fun l a b => hzn l (by show N 53 1 ≤ l; omega) b
    have hdkCn : ∀ j, 0 ≤ j → j < N 48 29 → sp_vok (sp_tC N t) (bk_v (N 7) (N 63) j) := fun j j0 j1 => dk_ok hEn hTCn hvCn (hDn j j0 j1) (hD2n j j0 j1)
    have hDMn : ∀ j, 0 ≤ j → j < N 48 29 → sp_vok (sp_tR N) (bkM (N 68) (N 70) j) := fun j j0 j1 => bkM_ok hTn (hD2n j j0 j1)
    refine ⟨N, _, Rf2, 0, rfl, rfl, by decide, hRf, _, k_X7_may hRn hTn hn99n rfl (by rw [eN 53 rfl]; exact hc) (fun j j0 j1 => (hOn j j0 j1).1) hDMn hW2bn hnkn hl32, fun v2 h2 hp9 => ?_⟩
    obtain ⟨N2, r2, rfl, hN2, hN4, hN48, hNk, rfl, hr2, hrb2⟩ := hp9
    refine ⟨N2, _, t, b, rfl, rfl, hN4, fun _ => ?_, hh.mdl (fun x hx => hN2 x (by intro z; subst z; cases hx) (by intro z; subst z; cases hx) (by intro z; subst z; cases hx)) (fun k k4 _ _ => hN48 k k4) (fun _ => hNk)⟩
    rw [up_s, up_s, hy]
    refine congrArg (fun x => (iI x).toInt64) ?_
    refine ob7 hr1 hr2 (fun k k0 k1 => ?_)
    rw [hrb k k0 k1, hrb2 k k0 k1, eT, e48, eN 53 rfl, eN 68 rfl, eN 69 rfl, eN 70 rfl, eL]
    by_cases hk2 : k = 6 ∨ k < M 53 1
    · rw [bk_mfA hE hTC hT hl ⟨k0, k1⟩ hk2 hD hW hO hDW _ (by omega)]
    · rw [if_neg (fun z => hk2 z.2.1), if_neg (fun z => hk2 z.2.1)]
  · refine ⟨1, 6, _, by decide, k_L_may_x (k_X6_may_x hR ht hTC hto hl32 (by rw [eL]; exact hc)), fun v h1 hp => ?_⟩
    obtain ⟨rfl, rfl⟩ := hp
    refine ⟨M, L, Rf, 1, rfl, rfl, by decide, hR, _, k_X7_may_x hR hT hl32 hc, fun v2 h2 hp2 => ?_⟩
    obtain ⟨N2, rfl, hN2, rfl⟩ := hp2
    exact ⟨N2, 0, t, b, rfl, rfl, hN2.2.1, fun z => absurd z (by decide), h.cd hN2⟩
set_option maxHeartbeats 4000000 in
theorem lc_tells {S : mx_Sc} {M : Nat → Int → Int} {L : Nat → Nat → Int64} {Rf : Nat → Nat → Option Nat} {t : Nat} {b : Bool} {it : Int} (h : rlV M Rf t b it) {l : Int} (hl32 : -2147483648 ≤ l ∧ l ≤ 2147483647) {z2 : Int} (hz232 : -2147483648 ≤ z2 ∧ z2 ≤ 2147483647) : lcase S mL_tells mX7_tells [.int (iI l), .int (iI z2)] M L Rf it := by
  obtain ⟨⟨ht, hR, hrs, hto, hsp⟩, ⟨hT, hE, hlkE, hlk, hoE, hto56, hoj1, hoj2⟩, ⟨htl, h12, htp, h13, hnk, hcs⟩, hst, h14, h41, him⟩ := id h
  obtain ⟨⟨hsc, hn3, hnb, hv, hwI⟩, ⟨hz, hnw, hJ, hJm⟩, ⟨hD, hW⟩, ⟨hO, hD2, hW2, hDW⟩, ⟨hWb, hW2b⟩, hSt⟩ := id hst
  have hTC : sp_tok (sp_tC M t) := hE.tok hT
  have eL : M t 1 = M 53 1 := hE.1 1 (by decide) (by decide)
  have e5 : M t 5 = M 53 5 := hE.1 5 (by decide) (by decide)
  have hvC : sp_vok (sp_tC M t) (M 63) := hE.vok hTC hv
  have hlkL : eqL (sp_tC M t) (M (t + 3)) (M 57) := fun l l0 l1 => hlkE l l0 (by rw [← eL]; exact l1)
  have hlkC : sp_lok (sp_tC M t) (M (t + 3)) := hE.lok hTC hlkL hlk
  have hT1 : 0 ≤ M 53 1 ∧ M 53 1 ≤ 6 := hT.2.1
  have hT5 : 1 ≤ M 53 5 ∧ M 53 5 ≤ 99 := hT.2.2.2.2.2.1
  have hn99 : 0 ≤ M 48 29 ∧ M 48 29 ≤ 99 := by have : 0 ≤ M 48 29 ∧ M 48 29 ≤ M 53 5 := hnb; omega
  have hne : M 48 29 ≤ M 53 5 := hnb.2
  have hzC : ∀ l, M t 1 ≤ l → l < 6 → sp_out (M 63) l = false := fun l a b => hz l (by show M 53 1 ≤ l; omega) b
  have hdkC : ∀ j, 0 ≤ j → j < M 48 29 → sp_vok (sp_tC M t) (bk_v (M 7) (M 63) j) := fun j j0 j1 => dk_ok hE hTC hvC (hD j j0 j1) (hD2 j j0 j1)
  have hDM : ∀ j, 0 ≤ j → j < M 48 29 → sp_vok (sp_tR M) (bkM (M 68) (M 70) j) := fun j j0 j1 => bkM_ok hT (hD2 j j0 j1)
  by_cases hc : (0 ≤ l ∧ l < M 53 1) ∧ (0 ≤ z2 ∧ z2 < 2)
  · have hl := hc.1
    refine ⟨0, 0, _, by decide, k_L_tells (k_X6_tells hR ht hTC hto hsc hvC hzC hn99 hn3 (by rw [eL]; exact hc.1) hdkC (fun i i0 i1 => by have := hWb i i0 i1; omega) hlkC (by rw [e5]; exact hne) hl32 hz232 hc.2) (fun v h9 hp => by obtain ⟨N, Rf2, r, rfl, rfl, _⟩ := hp; exact ⟨_, _, _, _, rfl, rfl⟩), fun v h1 hp => ?_⟩
    obtain ⟨N, L2, Rf2, y, hp0, rfl, rfl⟩ := hp
    obtain ⟨N3, Rf3, r, heq, hval, hRf, hRx, hfr, hr1, hrb⟩ := hp0
    cases heq
    have hy := Value.int.inj (Option.some.inj hval)
    have eN : ∀ x, relB x = true → N x = M x := fun x hx => hfr x (by intro z; subst z; cases hx) (by intro z; subst z; cases hx) (by intro z; subst z; cases hx) (by intro z; subst z; cases hx) (by intro z; subst z; cases hx) (by intro z; subst z; cases hx) (by intro z; subst z; cases hx)
    have e48 : N 48 = M 48 := hfr 48 (by decide) (by decide) (by decide) (by decide) (by decide) (by decide) (by decide)
    have hh : rlV N Rf2 t b it := h.cls eN e48 (hfr 64 (by decide) (by decide) (by decide) (by decide) (by decide) (by decide) (by decide)) hRf hRx
    have eT : sp_tR N = sp_tR M := by show (N 53, N 54, N 55, N 58, N 59, N 60) = _; rw [eN 53 rfl, eN 54 rfl, eN 55 rfl, eN 58 rfl, eN 59 rfl, eN 60 rfl]
    obtain ⟨⟨htn, hRn, hrsn, hton, hspn⟩, ⟨hTn, hEn, hlkEn, hlkn, hoEn, hto56n, hoj1n, hoj2n⟩, ⟨htln, h12n, htpn, h13n, hnkn, hcsn⟩, hstn, h14n, h41n, himn⟩ := id hh
    obtain ⟨⟨hscn, hn3n, hnbn, hvn, hwIn⟩, ⟨hzn, hnwn, hJn, hJmn⟩, ⟨hDn, hWn⟩, ⟨hOn, hD2n, hW2n, hDWn⟩, ⟨hWbn, hW2bn⟩, hStn⟩ := id hstn
    have hTCn : sp_tok (sp_tC N t) := hEn.tok hTn
    have eLn : N t 1 = N 53 1 := hEn.1 1 (by decide) (by decide)
    have e5n : N t 5 = N 53 5 := hEn.1 5 (by decide) (by decide)
    have hvCn : sp_vok (sp_tC N t) (N 63) := hEn.vok hTCn hvn
    have hlkLn : eqL (sp_tC N t) (N (t + 3)) (N 57) := fun l l0 l1 => hlkEn l l0 (by rw [← eLn]; exact l1)
    have hlkCn : sp_lok (sp_tC N t) (N (t + 3)) := hEn.lok hTCn hlkLn hlkn
    have hT1n : 0 ≤ N 53 1 ∧ N 53 1 ≤ 6 := hTn.2.1
    have hT5n : 1 ≤ N 53 5 ∧ N 53 5 ≤ 99 := hTn.2.2.2.2.2.1
    have hn99n : 0 ≤ N 48 29 ∧ N 48 29 ≤ 99 := by have : 0 ≤ N 48 29 ∧ N 48 29 ≤ N 53 5 := hnbn; omega
    have hnen : N 48 29 ≤ N 53 5 := hnbn.2
    have hzCn : ∀ l, N t 1 ≤ l → l < 6 → sp_out (N 63) l = false := fun l a b => hzn l (by show N 53 1 ≤ l; omega) b
    have hdkCn : ∀ j, 0 ≤ j → j < N 48 29 → sp_vok (sp_tC N t) (bk_v (N 7) (N 63) j) := fun j j0 j1 => dk_ok hEn hTCn hvCn (hDn j j0 j1) (hD2n j j0 j1)
    have hDMn : ∀ j, 0 ≤ j → j < N 48 29 → sp_vok (sp_tR N) (bkM (N 68) (N 70) j) := fun j j0 j1 => bkM_ok hTn (hD2n j j0 j1)
    refine ⟨N, _, Rf2, 0, rfl, rfl, by decide, hRf, _, k_X7_tells hRn hTn hn99n rfl (by rw [eN 53 rfl]; exact hc.1) (fun j j0 j1 => (hOn j j0 j1).1) hDMn hW2bn hnkn hvn hlkn hnen hz232 hl32 hc.2, fun v2 h2 hp9 => ?_⟩
    obtain ⟨N2, r2, rfl, hN2, hN4, hN48, hNk, rfl, hr2, hrb2⟩ := hp9
    refine ⟨N2, _, t, b, rfl, rfl, hN4, fun _ => ?_, hh.mdl (fun x hx => hN2 x (by intro z; subst z; cases hx) (by intro z; subst z; cases hx) (by intro z; subst z; cases hx) (by intro z; subst z; cases hx) (by intro z; subst z; cases hx)) (fun k k4 _ _ => hN48 k k4) (fun _ => hNk)⟩
    rw [up_s, up_s, hy]
    refine congrArg (fun x => (iI x).toInt64) ?_
    have hrr : r = r2 := by
      refine ob7 hr1 hr2 (fun k k0 k1 => ?_)
      rw [hrb k k0 k1, hrb2 k k0 k1, eT, e48, eN 53 rfl, eN 68 rfl, eN 69 rfl, eN 70 rfl, eL]
      by_cases hk2 : k = 6 ∨ k < M 53 1
      · rw [bk_mfA hE hTC hT hl ⟨k0, k1⟩ hk2 hD hW hO hDW _ (by omega)]
      · rw [if_neg (fun z => hk2 z.2.1), if_neg (fun z => hk2 z.2.1)]
    subst hrr
    rw [eT, e48, eN 53 rfl, eN 57 rfl, eN 63 rfl, tl_sc hE hTC hlkL (M 63) (M 48 29) (by show 0 ≤ l ∧ l < M t 1; rw [eL]; exact hl) r, e5]
  · refine ⟨1, 6, _, by decide, k_L_tells_x (k_X6_tells_x hR ht hTC hto hl32 hz232 (by rw [eL]; exact hc)), fun v h1 hp => ?_⟩
    obtain ⟨rfl, rfl⟩ := hp
    refine ⟨M, L, Rf, 1, rfl, rfl, by decide, hR, _, k_X7_tells_x hR hT hl32 hz232 hc, fun v2 h2 hp2 => ?_⟩
    obtain ⟨N2, rfl, hN2, rfl⟩ := hp2
    exact ⟨N2, 0, t, b, rfl, rfl, hN2.2.1, fun z => absurd z (by decide), h.cd hN2⟩
set_option maxHeartbeats 4000000 in
theorem lc_end {S : mx_Sc} {M : Nat → Int → Int} {L : Nat → Nat → Int64} {Rf : Nat → Nat → Option Nat} {t : Nat} {b : Bool} {it : Int} (h : rlV M Rf t b it) {k : Int} (hk32 : -2147483648 ≤ k ∧ k ≤ 2147483647) : lcase S mL_end mX7_end [.int (iI k)] M L Rf it := by
  obtain ⟨⟨ht, hR, hrs, hto, hsp⟩, ⟨hT, hE, hlkE, hlk, hoE, hto56, hoj1, hoj2⟩, ⟨htl, h12, htp, h13, hnk, hcs⟩, hst, h14, h41, him⟩ := id h
  obtain ⟨⟨hsc, hn3, hnb, hv, hwI⟩, ⟨hz, hnw, hJ, hJm⟩, ⟨hD, hW⟩, ⟨hO, hD2, hW2, hDW⟩, ⟨hWb, hW2b⟩, hSt⟩ := id hst
  have hTC : sp_tok (sp_tC M t) := hE.tok hT
  have eL : M t 1 = M 53 1 := hE.1 1 (by decide) (by decide)
  have e5 : M t 5 = M 53 5 := hE.1 5 (by decide) (by decide)
  have hvC : sp_vok (sp_tC M t) (M 63) := hE.vok hTC hv
  have hlkL : eqL (sp_tC M t) (M (t + 3)) (M 57) := fun l l0 l1 => hlkE l l0 (by rw [← eL]; exact l1)
  have hlkC : sp_lok (sp_tC M t) (M (t + 3)) := hE.lok hTC hlkL hlk
  have hT1 : 0 ≤ M 53 1 ∧ M 53 1 ≤ 6 := hT.2.1
  have hT5 : 1 ≤ M 53 5 ∧ M 53 5 ≤ 99 := hT.2.2.2.2.2.1
  have hn99 : 0 ≤ M 48 29 ∧ M 48 29 ≤ 99 := by have : 0 ≤ M 48 29 ∧ M 48 29 ≤ M 53 5 := hnb; omega
  have hne : M 48 29 ≤ M 53 5 := hnb.2
  have hzC : ∀ l, M t 1 ≤ l → l < 6 → sp_out (M 63) l = false := fun l a b => hz l (by show M 53 1 ≤ l; omega) b
  have hdkC : ∀ j, 0 ≤ j → j < M 48 29 → sp_vok (sp_tC M t) (bk_v (M 7) (M 63) j) := fun j j0 j1 => dk_ok hE hTC hvC (hD j j0 j1) (hD2 j j0 j1)
  have hDM : ∀ j, 0 ≤ j → j < M 48 29 → sp_vok (sp_tR M) (bkM (M 68) (M 70) j) := fun j j0 j1 => bkM_ok hT (hD2 j j0 j1)
  by_cases hc : 0 ≤ k ∧ k < 2
  · refine ⟨0, 0, _, by decide, k_L_end (k_X6_end hR ht hTC hto hsc hvC hn99 hn3 hlkC hJ rfl hk32 hc) (fun v h9 hp => by obtain ⟨N, L3, Rf2, x, w, rfl, rfl, _⟩ := hp; exact ⟨_, _, _, _, rfl, rfl⟩), fun v h1 hp => ?_⟩
    obtain ⟨N, L2, Rf2, y, hp0, rfl, rfl⟩ := hp
    obtain ⟨N3, L3, Rf3, x, w, heq, hval, hRf, hRx, hLx, hfr, hsw, hfp⟩ := hp0
    cases heq
    have hy := Value.int.inj (Option.some.inj hval)
    have eN : ∀ x, relB x = true → N x = M x := fun x hx => hfr x (by intro z; subst z; cases hx) (by intro z; subst z; cases hx) (by intro z; subst z; cases hx) (by intro z; subst z; cases hx) (by intro z; subst z; cases hx) (by intro z; subst z; cases hx)
    have e48 : N 48 = M 48 := hfr 48 (by decide) (by decide) (by decide) (by decide) (by decide) (by decide)
    have hh : rlV N Rf2 t b it := h.cls eN e48 (hfr 64 (by decide) (by decide) (by decide) (by decide) (by decide) (by decide)) hRf hRx
    have eT : sp_tR N = sp_tR M := by show (N 53, N 54, N 55, N 58, N 59, N 60) = _; rw [eN 53 rfl, eN 54 rfl, eN 55 rfl, eN 58 rfl, eN 59 rfl, eN 60 rfl]
    obtain ⟨⟨htn, hRn, hrsn, hton, hspn⟩, ⟨hTn, hEn, hlkEn, hlkn, hoEn, hto56n, hoj1n, hoj2n⟩, ⟨htln, h12n, htpn, h13n, hnkn, hcsn⟩, hstn, h14n, h41n, himn⟩ := id hh
    obtain ⟨⟨hscn, hn3n, hnbn, hvn, hwIn⟩, ⟨hzn, hnwn, hJn, hJmn⟩, ⟨hDn, hWn⟩, ⟨hOn, hD2n, hW2n, hDWn⟩, ⟨hWbn, hW2bn⟩, hStn⟩ := id hstn
    have hTCn : sp_tok (sp_tC N t) := hEn.tok hTn
    have eLn : N t 1 = N 53 1 := hEn.1 1 (by decide) (by decide)
    have e5n : N t 5 = N 53 5 := hEn.1 5 (by decide) (by decide)
    have hvCn : sp_vok (sp_tC N t) (N 63) := hEn.vok hTCn hvn
    have hlkLn : eqL (sp_tC N t) (N (t + 3)) (N 57) := fun l l0 l1 => hlkEn l l0 (by rw [← eLn]; exact l1)
    have hlkCn : sp_lok (sp_tC N t) (N (t + 3)) := hEn.lok hTCn hlkLn hlkn
    have hT1n : 0 ≤ N 53 1 ∧ N 53 1 ≤ 6 := hTn.2.1
    have hT5n : 1 ≤ N 53 5 ∧ N 53 5 ≤ 99 := hTn.2.2.2.2.2.1
    have hn99n : 0 ≤ N 48 29 ∧ N 48 29 ≤ 99 := by have : 0 ≤ N 48 29 ∧ N 48 29 ≤ N 53 5 := hnbn; omega
    have hnen : N 48 29 ≤ N 53 5 := hnbn.2
    have hzCn : ∀ l, N t 1 ≤ l → l < 6 → sp_out (N 63) l = false := fun l a b => hzn l (by show N 53 1 ≤ l; omega) b
    have hdkCn : ∀ j, 0 ≤ j → j < N 48 29 → sp_vok (sp_tC N t) (bk_v (N 7) (N 63) j) := fun j j0 j1 => dk_ok hEn hTCn hvCn (hDn j j0 j1) (hD2n j j0 j1)
    have hDMn : ∀ j, 0 ≤ j → j < N 48 29 → sp_vok (sp_tR N) (bkM (N 68) (N 70) j) := fun j j0 j1 => bkM_ok hTn (hD2n j j0 j1)
    refine ⟨N, _, Rf2, 0, rfl, rfl, by decide, hRf, _, k_X7_end hRn hTn hvn hlkn hn99n rfl hJmn hk32 hc, fun v2 h2 hp9 => ?_⟩
    obtain ⟨N2, x2, w2, rfl, hN2, hN4, hN48, hNk, hfp2, rfl⟩ := hp9
    refine ⟨N2, _, t, b, rfl, rfl, hN4, fun _ => ?_, hh.mdl (fun x hx => hN2 x (by intro z; subst z; cases hx) (by intro z; subst z; cases hx) (by intro z; subst z; cases hx) (by intro z; subst z; cases hx) (by intro z; subst z; cases hx) (by intro z; subst z; cases hx)) (fun k k4 _ _ => hN48 k k4) (fun _ => hNk)⟩
    rw [up_s, up_s, hy]
    refine congrArg (fun x => (iI x).toInt64) ?_
    have hu := frP_u (frP_c hE hTC hlkL hfp) (by rw [eT, e48, eN 57 rfl, eN 63 rfl] at hfp2; exact hfp2)
    obtain ⟨rfl, hw⟩ := hu
    by_cases hx : x = -1 ∨ k = 0
    · rw [if_pos hx, if_pos hx]
    · rw [if_neg hx, if_neg hx, ← hw (fun z => hx (Or.inl z)), eL, eN 53 rfl]
      have hs9 := hsw.resolve_left (fun z => hx (Or.inl z))
      have h9 := ooN_b w (M 53 1).toNat (by omega)
      refine odf_x (by omega) hs9.2.2.1 h9.1 (fun l l0 l1 => ?_)
      rw [hs9.2.2.2.1 l l0 (by omega), h9.2 l l0 (by omega), if_pos l1]
  · refine ⟨1, 6, _, by decide, k_L_end_x (k_X6_end_x hR hk32 hc), fun v h1 hp => ?_⟩
    obtain ⟨rfl, rfl⟩ := hp
    refine ⟨M, L, Rf, 1, rfl, rfl, by decide, hR, _, k_X7_end_x hR hk32 hc, fun v2 h2 hp2 => ?_⟩
    obtain ⟨N2, rfl, hN2, rfl⟩ := hp2
    exact ⟨N2, 0, t, b, rfl, rfl, hN2.2.1, fun z => absurd z (by decide), h.cd hN2⟩
