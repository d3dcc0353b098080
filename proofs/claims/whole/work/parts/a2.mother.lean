theorem ltn_wed {t : sp_T} (hT : sp_tok t) {v : Int → Int} {n m : Int} (hm : n < m) (h : ∀ l, 0 ≤ l → l < 6 → v (24 + l) < m) : ∀ l, 0 ≤ l → l < 6 → sp_wed t n v (24 + l) < m := by
  have h1 := hT.2.1
  unfold sp_wed
  refine itN_p (R := fun v : Int → Int => ∀ l, 0 ≤ l → l < 6 → v (24 + l) < m) _ (fun i x hi hr => ?_) _ h
  unfold sp_wedA
  refine itN_p (R := fun v : Int → Int => ∀ l, 0 ≤ l → l < 6 → v (24 + l) < m) _ (fun j x hj hr => ?_) _ hr
  unfold sp_in
  split
  · exact hr
  · intro l l0 l1
    unfold sp_marry
    simp only [iu]
    rw [if_neg (show ¬ (24 + l = 18 + (j : Int)) by omega), if_neg (show ¬ (24 + l = 18 + (i : Int)) by omega)]
    split
    · exact hm
    · split
      · exact hm
      · exact hr l l0 l1
theorem run_ltn {t : sp_T} (hT : sp_tok t) {v lk : Int → Int} {n : Int} (h : ∀ l, 0 ≤ l → l < 6 → v (24 + l) < n) (hf ng : Bool) : ∀ (k : Nat) (l : Int), 0 ≤ l → l < 6 → sp_run t lk hf ng n k v (24 + l) < n + k
  | 0, l, l0, l1 => by have := h l l0 l1; show v (24 + l) < n + ((0 : Nat) : Int); omega
  | k + 1, l, l0, l1 => by
    simp only [sp_run]
    unfold sp_night
    refine ltn_wed hT (by omega) (fun l l0 l1 => ?_) l l0 l1
    have h1 := hT.2.1
    have h9 := run_ltn hT h hf ng (lk := lk) k l l0 l1
    unfold sp_mv
    rw [if_neg (by omega)]
    omega
theorem wdV_l {lk lk2 u : Int → Int} {l : Int} (h : lk l = lk2 l) : wdV true lk u l = wdV true lk2 u l := by unfold wdV wdF; rw [h]
theorem wv_k {lk u : Int → Int} {l : Int} (hw : u (24 + l) ≤ 1000) : wdV true lk u l ≤ 1000 := by
  unfold wdV wdF
  rw [if_pos rfl]
  by_cases z : lk l ≠ -1 ∧ u (18 + l) = lk l
  · rw [if_pos z]
    split <;> omega
  · rw [if_neg z, if_pos rfl]
    omega
theorem mm_st {G g : Int → Int} {c : Nat} {x y : Int} (hs : mmS g c = (mx_dz x, G (x * 3)) ∧ G (x * 3) ≤ 1000) (he : g c = G (y * 3)) (hd : mx_dz y = (c : Int) - 1) : mmS g (c + 1) = (mx_dz (if G (y * 3) < G (x * 3) then y else x), G ((if G (y * 3) < G (x * 3) then y else x) * 3)) ∧ G ((if G (y * 3) < G (x * 3) then y else x) * 3) ≤ 1000 := by
  have h9 := hs.2
  simp only [mmS]
  rw [hs.1, he]
  dsimp only
  by_cases z : G (y * 3) < G (x * 3)
  · rw [if_pos z, if_pos z, hd]
    exact ⟨rfl, by omega⟩
  · rw [if_neg z, if_neg z]
    exact ⟨rfl, h9⟩
theorem mm_sk {G g : Int → Int} {c : Nat} {x : Int} (hs : mmS g c = (mx_dz x, G (x * 3)) ∧ G (x * 3) ≤ 1000) (he : g c = 1001) : mmS g (c + 1) = (mx_dz x, G (x * 3)) ∧ G (x * 3) ≤ 1000 := by
  have h9 := hs.2
  simp only [mmS]
  rw [he, if_neg (by rw [hs.1]; dsimp only; omega)]
  exact hs
theorem bst_mm {G g : Int → Int} (h : ∀ w, 0 ≤ w → w < 7 → G (w * 3) = g (mx_dz w + 1)) (h0 : g 0 ≤ 1000) (h1 : g 1 = 1001) (h5 : g 5 = 1001) : mmS g 9 = (mx_dz (bst G 6), G (bst G 6 * 3)) := by
  have d0 : mx_dz 0 = -1 := by decide +kernel
  have d1 : mx_dz 1 = 1 := by decide +kernel
  have d2 : mx_dz 2 = 2 := by decide +kernel
  have d3 : mx_dz 3 = 3 := by decide +kernel
  have d4 : mx_dz 4 = 5 := by decide +kernel
  have d5 : mx_dz 5 = 6 := by decide +kernel
  have d6 : mx_dz 6 = 7 := by decide +kernel
  have g0 := h 0 (by decide) (by decide)
  have g1 := h 1 (by decide) (by decide)
  have g2 := h 2 (by decide) (by decide)
  have g3 := h 3 (by decide) (by decide)
  have g4 := h 4 (by decide) (by decide)
  have g5 := h 5 (by decide) (by decide)
  have g6 := h 6 (by decide) (by decide)
  rw [d0] at g0
  rw [d1] at g1
  rw [d2] at g2
  rw [d3] at g3
  rw [d4] at g4
  rw [d5] at g5
  rw [d6] at g6
  have s0 : mmS g 1 = (mx_dz (bst G 0), G (bst G 0 * 3)) ∧ G (bst G 0 * 3) ≤ 1000 := by
    have e : G (bst G 0 * 3) = g 0 := g0
    refine ⟨?_, by rw [e]; exact h0⟩
    rw [e, show mx_dz (bst G 0) = -1 from d0]
    simp only [mmS]
    show (if g 0 < 1000 then (((0 : Nat) : Int) - 1, g 0) else (-1, 1000)) = _
    split
    · rfl
    · rw [show g 0 = 1000 by omega]
  have s1 := mm_st (y := ((1 : Nat) : Int)) (mm_sk s0 h1) g1.symm d1
  have s2 := mm_st (y := ((2 : Nat) : Int)) s1 g2.symm d2
  have s3 := mm_st (y := ((3 : Nat) : Int)) s2 g3.symm d3
  have s4 := mm_st (y := ((4 : Nat) : Int)) (mm_sk s3 h5) g4.symm d4
  have s5 := mm_st (y := ((5 : Nat) : Int)) s4 g5.symm d5
  have s6 := mm_st (y := ((6 : Nat) : Int)) s5 g6.symm d6
  exact s6.1
theorem vl_mv {t s : sp_T} (h : eqS t s) (hT : sp_tok t) {lk lk2 : Int → Int} (hl : eqL t lk lk2) {n : Int} {v : Int → Int} (hv : sp_vok t v) {l : Int} (hl2 : 0 ≤ l ∧ l < t.1 1) {w : Int} (hw : 0 ≤ w ∧ w < 7) : vlR t lk n v (fun _ => l) 1 w 0 = mvM s lk2 n v l (mx_dz w + 1) := by
  have hd := dz_b hw
  have ec : chR w 0 = w := by unfold chR; rw [Int.pow_zero, Int.ediv_one]; omega
  unfold vlR mvM
  simp only [gvR, Option.bind, ec]
  by_cases e : mx_dz w = -1
  · rw [if_pos e, e]
    have hg : cgB v l (-1 + 1) = true := decide_eq_true (Or.inl rfl)
    rw [if_pos hg]
    dsimp only
    rw [h.run hT hl, h.1 5 (by decide) (by decide)]
    exact wdV_l (hl l hl2.1 hl2.2)
  · have hd2 := hd.resolve_left e
    have hp : 0 ≤ v (3 * l + mx_dz w / 3) := by
      have h9 := hv.1 l hl2.1 hl2.2
      rcases (show mx_dz w / 3 = 0 ∨ mx_dz w / 3 = 1 ∨ mx_dz w / 3 = 2 by omega) with z | z | z
      · rw [z, show 3 * l + 0 = 3 * l by omega]; exact h9.1
      · rw [z]; exact h9.2.1
      · rw [z]; exact h9.2.2.1
    rw [if_neg e]
    by_cases z : v (3 * l + mx_dz w / 3) = 0
    · rw [if_neg (fun q => q z)]
      have hg : cgB v l (mx_dz w + 1) = false := by
        unfold cgB
        refine decide_eq_false (fun q => ?_)
        rw [show mx_dz w + 1 - 1 = mx_dz w by omega, z] at q
        omega
      rw [if_neg (by rw [hg]; decide)]
    · rw [if_pos z]
      have hg : cgB v l (mx_dz w + 1) = true := by
        unfold cgB
        refine decide_eq_true (Or.inr ?_)
        rw [show mx_dz w + 1 - 1 = mx_dz w by omega]
        exact ⟨hd2.2.2, by omega⟩
      rw [if_pos hg]
      dsimp only
      rw [h.run hT hl, h.1 5 (by decide) (by decide)]
      unfold mvU
      rw [if_neg (by omega), show mx_dz w + 1 - 1 = mx_dz w by omega]
      exact wdV_l (hl l hl2.1 hl2.2)
set_option maxHeartbeats 1000000 in
theorem lc_mother {S : mx_Sc} {M : Nat → Int → Int} {L : Nat → Nat → Int64} {Rf : Nat → Nat → Option Nat} {t : Nat} {b : Bool} {it : Int} (h : rlV M Rf t b it) {l : Int} (hl32 : -2147483648 ≤ l ∧ l ≤ 2147483647) {k : Int} (hk32 : -2147483648 ≤ k ∧ k ≤ 2147483647) : lcase S mL_mother mX7_mother [.int (iI l), .int (iI k)] M L Rf it := by
  obtain ⟨⟨ht, hR, hrs, hto, hsp⟩, ⟨hT, hE, hlkE, hlk, hoE, hto56, hoj1, hoj2⟩, ⟨htl, h12, htp, h13, hnk, hcs⟩, hst, h14, h41, him⟩ := id h
  obtain ⟨⟨hsc, hn3, hnb, hv, hwI⟩, ⟨hz, hnw, hJ, hJm⟩, ⟨hD, hW⟩, ⟨hO, hD2, hW2, hDW⟩, ⟨hWb, hW2b⟩, hSt⟩ := id hst
  have hTC : sp_tok (sp_tC M t) := hE.tok hT
  have eL : M t 1 = M 53 1 := hE.1 1 (by decide) (by decide)
  have e5 : M t 5 = M 53 5 := hE.1 5 (by decide) (by decide)
  have hvC : sp_vok (sp_tC M t) (M 63) := hE.vok hTC hv
  have hlkL : eqL (sp_tC M t) (M (t + 3)) (M 57) := fun l l0 l1 => hlkE l l0 (by rw [← eL]; exact l1)
  have hlkC : sp_lok (sp_tC M t) (M (t + 3)) := hE.lok hTC hlkL hlk
  have hT1 : 0 ≤ M 53 1 ∧ M 53 1 ≤ 6 := hT.2.1
  have hT5 : 1 ≤ M 53 5 ∧ M 53 5 ≤ 99 := hT.2.2.2.2.2.1
  have hn99 : 0 ≤ M 48 29 ∧ M 48 29 ≤ 99 := by have : 0 ≤ M 48 29 ∧ M 48 29 ≤ M 53 5 := hnb; omega
  have hne : M 48 29 ≤ M 53 5 := hnb.2
  have hzC : ∀ l, M t 1 ≤ l → l < 6 → sp_out (M 63) l = false := fun l a b => hz l (by show M 53 1 ≤ l; omega) b
  have hdkC : ∀ j, 0 ≤ j → j < M 48 29 → sp_vok (sp_tC M t) (bk_v (M 7) (M 63) j) := fun j j0 j1 => dk_ok hE hTC hvC (hD j j0 j1) (hD2 j j0 j1)
  have hDM : ∀ j, 0 ≤ j → j < M 48 29 → sp_vok (sp_tR M) (bkM (M 68) (M 70) j) := fun j j0 j1 => bkM_ok hT (hD2 j j0 j1)
  by_cases hc : (0 ≤ l ∧ l < M 53 1) ∧ (0 ≤ k ∧ k < 2)
  · refine ⟨0, 0, _, by decide, k_L_mother (k_X6_mother hR ht hTC hto hsc hvC hn99 hn3 hlkC (by rw [e5]; exact hne) hl32 hk32 (by rw [eL]; exact hc.1) hc.2) (fun v h9 hp => by rcases hp with ⟨_, rfl, rfl⟩ | ⟨_, N, Rf2, rfl, _, _, _, _, rfl⟩ <;> exact ⟨_, _, _, _, rfl, rfl⟩), fun v h1 hp => ?_⟩
    obtain ⟨N, L2, Rf2, y, hp0, rfl, rfl⟩ := hp
    rcases hp0 with ⟨ho, heq, hval⟩ | ⟨ho, N3, Rf3, heq, hRf, hRx, hfr, h28, hval⟩
    · cases heq
      have hy := Value.int.inj (Option.some.inj hval)
      refine ⟨M, _, Rf, 0, rfl, rfl, by decide, hR, _, k_X7_mother hR hT hv hlk hn99 rfl hne hwI hl32 hk32 hc.1 hc.2, fun v2 h2 hp9 => ?_⟩
      obtain ⟨N2, rfl, ⟨hN2, hN4, hN48, hNk⟩, rfl⟩ := hp9
      refine ⟨N2, _, t, b, rfl, rfl, hN4, fun _ => ?_, h.mdl (fun x hx => hN2 x (by intro z; subst z; cases hx) (by intro z; subst z; cases hx) (by intro z; subst z; cases hx) (by intro z; subst z; cases hx)) (fun k k4 _ _ => hN48 k k4) hNk⟩
      rw [up_s, up_s, hy, if_pos ho]
    · cases heq
      have hy := Value.int.inj (Option.some.inj hval)
      have eN : ∀ x, relB x = true → N x = M x := fun x hx => hfr x (by intro z; subst z; cases hx) (by intro z; subst z; cases hx) (by intro z; subst z; cases hx) (by intro z; subst z; cases hx) (by intro z; subst z; cases hx) (by intro z; subst z; cases hx) (by intro z; subst z; cases hx) (by intro z; subst z; cases hx) (by intro z; subst z; cases hx) (by intro z; subst z; cases hx)
      have e48 : N 48 = M 48 := hfr 48 (by decide) (by decide) (by decide) (by decide) (by decide) (by decide) (by decide) (by decide) (by decide) (by decide)
      have hh : rlV N Rf2 t b it := h.cls eN e48 (hfr 64 (by decide) (by decide) (by decide) (by decide) (by decide) (by decide) (by decide) (by decide) (by decide) (by decide)) hRf hRx
      have eT : sp_tR N = sp_tR M := by show (N 53, N 54, N 55, N 58, N 59, N 60) = _; rw [eN 53 rfl, eN 54 rfl, eN 55 rfl, eN 58 rfl, eN 59 rfl, eN 60 rfl]
      obtain ⟨⟨htn, hRn, hrsn, hton, hspn⟩, ⟨hTn, hEn, hlkEn, hlkn, hoEn, hto56n, hoj1n, hoj2n⟩, ⟨htln, h12n, htpn, h13n, hnkn, hcsn⟩, hstn, h14n, h41n, himn⟩ := id hh
      obtain ⟨⟨hscn, hn3n, hnbn, hvn, hwIn⟩, ⟨hzn, hnwn, hJn, hJmn⟩, ⟨hDn, hWn⟩, ⟨hOn, hD2n, hW2n, hDWn⟩, ⟨hWbn, hW2bn⟩, hStn⟩ := id hstn
      have hTCn : sp_tok (sp_tC N t) := hEn.tok hTn
      have eLn : N t 1 = N 53 1 := hEn.1 1 (by decide) (by decide)
      have e5n : N t 5 = N 53 5 := hEn.1 5 (by decide) (by decide)
      have hvCn : sp_vok (sp_tC N t) (N 63) := hEn.vok hTCn hvn
      have hlkLn : eqL (sp_tC N t) (N (t + 3)) (N 57) := fun l l0 l1 => hlkEn l l0 (by rw [← eLn]; exact l1)
      have hlkCn : sp_lok (sp_tC N t) (N (t + 3)) := hEn.lok hTCn hlkLn hlkn
      have hT1n : 0 ≤ N 53 1 ∧ N 53 1 ≤ 6 := hTn.2.1
      have hT5n : 1 ≤ N 53 5 ∧ N 53 5 ≤ 99 := hTn.2.2.2.2.2.1
      have hn99n : 0 ≤ N 48 29 ∧ N 48 29 ≤ 99 := by have : 0 ≤ N 48 29 ∧ N 48 29 ≤ N 53 5 := hnbn; omega
      have hnen : N 48 29 ≤ N 53 5 := hnbn.2
      have hzCn : ∀ l, N t 1 ≤ l → l < 6 → sp_out (N 63) l = false := fun l a b => hzn l (by show N 53 1 ≤ l; omega) b
      have hdkCn : ∀ j, 0 ≤ j → j < N 48 29 → sp_vok (sp_tC N t) (bk_v (N 7) (N 63) j) := fun j j0 j1 => dk_ok hEn hTCn hvCn (hDn j j0 j1) (hD2n j j0 j1)
      have hDMn : ∀ j, 0 ≤ j → j < N 48 29 → sp_vok (sp_tR N) (bkM (N 68) (N 70) j) := fun j j0 j1 => bkM_ok hTn (hD2n j j0 j1)
      refine ⟨N, _, Rf2, 0, rfl, rfl, by decide, hRf, _, k_X7_mother hRn hTn hvn hlkn hn99n rfl hnen hwIn hl32 hk32 (by rw [eN 53 rfl]; exact hc.1) hc.2, fun v2 h2 hp9 => ?_⟩
      obtain ⟨N2, rfl, ⟨hN2, hN4, hN48, hNk⟩, rfl⟩ := hp9
      refine ⟨N2, _, t, b, rfl, rfl, hN4, fun _ => ?_, hh.mdl (fun x hx => hN2 x (by intro z; subst z; cases hx) (by intro z; subst z; cases hx) (by intro z; subst z; cases hx) (by intro z; subst z; cases hx)) (fun k k4 _ _ => hN48 k k4) hNk⟩
      rw [up_s, up_s, hy]
      refine congrArg (fun x => (iI x).toInt64) ?_
      have hlC : 0 ≤ l ∧ l < (sp_tC M t).1 1 := by show 0 ≤ l ∧ l < M t 1; rw [eL]; exact hc.1
      have hm := bst_mm (G := N 28) (g := mvM (sp_tR M) (M 57) (M 48 29) (M 63) l) (fun w w0 w1 => (h28 w w0 w1).trans (vl_mv hE hTC hlkL hvC hlC ⟨w0, w1⟩)) (by
        unfold mvM
        rw [if_pos (show cgB (M 63) l 0 = true from decide_eq_true (Or.inl rfl))]
        have h9 := run_ltn hT hnw false false (lk := M 57) ((sp_tR M).1 5 - M 48 29).toNat l hc.1.1 (by omega)
        refine wv_k ?_
        show sp_run (sp_tR M) (M 57) false false (M 48 29) ((sp_tR M).1 5 - M 48 29).toNat (M 63) (24 + l) ≤ 1000
        have h8 : ((((sp_tR M).1 5 - M 48 29).toNat : Nat) : Int) ≤ 99 := by show (((M 53 5 - M 48 29).toNat : Nat) : Int) ≤ 99; omega
        omega) (by
        unfold mvM
        rw [if_neg]
        rw [show cgB (M 63) l 1 = false from decide_eq_false (by omega)]
        decide) (by
        unfold mvM
        rw [if_neg]
        rw [show cgB (M 63) l 5 = false from decide_eq_false (by omega)]
        decide)
      rw [eT, e48, eN 57 rfl, eN 63 rfl, hm, if_neg (show ¬ (sp_out (M 63) l = true) by rw [ho]; decide)]
  · refine ⟨1, 6, _, by decide, k_L_mother_x (k_X6_mother_x hR ht hTC hto hl32 hk32 (by rw [eL]; exact hc)), fun v h1 hp => ?_⟩
    obtain ⟨rfl, rfl⟩ := hp
    refine ⟨M, L, Rf, 1, rfl, rfl, by decide, hR, _, k_X7_mother_x hR hT hl32 hk32 hc, fun v2 h2 hp2 => ?_⟩
    obtain ⟨N2, rfl, hN2, rfl⟩ := hp2
    exact ⟨N2, 0, t, b, rfl, rfl, hN2.2.1, fun z => absurd z (by decide), h.cd hN2⟩
