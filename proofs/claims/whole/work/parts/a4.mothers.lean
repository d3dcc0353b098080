set_option maxHeartbeats 1000000 in
theorem lc_mothers {S : mx_Sc} {M : Nat → Int → Int} {L : Nat → Nat → Int64} {Rf : Nat → Nat → Option Nat} {t : Nat} {b : Bool} {it : Int} (h : rlV M Rf t b it) {x : Int} (hx32 : -2147483648 ≤ x ∧ x ≤ 2147483647) {k : Int} (hk32 : -2147483648 ≤ k ∧ k ≤ 2147483647) : lcase S mL_mothers mX7_mothers [.int (iI x), .int (iI k)] M L Rf it := by
  obtain ⟨⟨ht, hR, hrs, hto, hsp⟩, ⟨hT, hE, hlkE, hlk, hoE, hto56, hoj1, hoj2⟩, ⟨htl, h12, htp, h13, hnk, hcs⟩, hst, h14, h41, him⟩ := id h
  obtain ⟨⟨hsc, hn3, hnb, hv, hwI⟩, ⟨hz, hnw, hJ, hJm⟩, ⟨hD, hW⟩, ⟨hO, hD2, hW2, hDW⟩, ⟨hWb, hW2b⟩, hSt⟩ := id hst
  have hTC : sp_tok (sp_tC M t) := hE.tok hT
  have eL : M t 1 = M 53 1 := hE.1 1 (by decide) (by decide)
  have e5 : M t 5 = M 53 5 := hE.1 5 (by decide) (by decide)
  have hvC : sp_vok (sp_tC M t) (M 63) := hE.vok hTC hv
  have hlkL : eqL (sp_tC M t) (M (t + 3)) (M 57) := fun l l0 l1 => hlkE l l0 (by rw [← eL]; exact l1)
  have hlkC : sp_lok (sp_tC M t) (M (t + 3)) := hE.lok hTC hlkL hlk
  have hT1 : 0 ≤ M 53 1 ∧ M 53 1 ≤ 6 := hT.2.1
  have hT5 : 1 ≤ M 53 5 ∧ M 53 5 ≤ 99 := hT.2.2.2.2.2.1
  have hn99 : 0 ≤ M 48 29 ∧ M 48 29 ≤ 99 := by have : 0 ≤ M 48 29 ∧ M 48 29 ≤ M 53 5 := hnb; omega
  have hne : M 48 29 ≤ M 53 5 := hnb.2
  have hzC : ∀ l, M t 1 ≤ l → l < 6 → sp_out (M 63) l = false := fun l a b => hz l (by show M 53 1 ≤ l; omega) b
  have hdkC : ∀ j, 0 ≤ j → j < M 48 29 → sp_vok (sp_tC M t) (bk_v (M 7) (M 63) j) := fun j j0 j1 => dk_ok hE hTC hvC (hD j j0 j1) (hD2 j j0 j1)
  have hDM : ∀ j, 0 ≤ j → j < M 48 29 → sp_vok (sp_tR M) (bkM (M 68) (M 70) j) := fun j j0 j1 => bkM_ok hT (hD2 j j0 j1)
  by_cases hk : 0 ≤ k ∧ k < 2
  · by_cases hch : chP (M 53 1) (M 63) x
    · refine ⟨0, 0, _, by decide, k_L_mothers (k_X6_mothers hR ht hTC hto hsc hvC hn99 hn3 hlkC (by rw [e5]; exact hne) hx32 hk32 hk (by rw [eL]; exact hch)) (fun v h9 hp => by obtain ⟨N, Rf2, y, rfl, _, _, _, _, rfl, _⟩ := hp; exact ⟨_, _, _, _, rfl, rfl⟩), fun v h1 hp => ?_⟩
      obtain ⟨N, L2, Rf2, y, hp0, rfl, rfl⟩ := hp
      obtain ⟨N3, Rf3, y1, heq, hRf, hRx, hfr, h28, hval, hy1⟩ := hp0
      cases heq
      have hy := Value.int.inj (Option.some.inj hval)
      have eN : ∀ x, relB x = true → N x = M x := fun x hx => hfr x (by intro z; subst z; cases hx) (by intro z; subst z; cases hx) (by intro z; subst z; cases hx) (by intro z; subst z; cases hx) (by intro z; subst z; cases hx) (by intro z; subst z; cases hx) (by intro z; subst z; cases hx) (by intro z; subst z; cases hx) (by intro z; subst z; cases hx) (by intro z; subst z; cases hx)
      have e48 : N 48 = M 48 := hfr 48 (by decide) (by decide) (by decide) (by decide) (by decide) (by decide) (by decide) (by decide) (by decide) (by decide)
      have hh : rlV N Rf2 t b it := h.cls eN e48 (hfr 64 (by decide) (by decide) (by decide) (by decide) (by decide) (by decide) (by decide) (by decide) (by decide) (by decide)) hRf hRx
      have eT : sp_tR N = sp_tR M := by show (N 53, N 54, N 55, N 58, N 59, N 60) = _; rw [eN 53 rfl, eN 54 rfl, eN 55 rfl, eN 58 rfl, eN 59 rfl, eN 60 rfl]
      obtain ⟨⟨htn, hRn, hrsn, hton, hspn⟩, ⟨hTn, hEn, hlkEn, hlkn, hoEn, hto56n, hoj1n, hoj2n⟩, ⟨htln, h12n, htpn, h13n, hnkn, hcsn⟩, hstn, h14n, h41n, himn⟩ := id hh
      obtain ⟨⟨hscn, hn3n, hnbn, hvn, hwIn⟩, ⟨hzn, hnwn, hJn, hJmn⟩, ⟨hDn, hWn⟩, ⟨hOn, hD2n, hW2n, hDWn⟩, ⟨hWbn, hW2bn⟩, hStn⟩ := id hstn
      have hTCn : sp_tok (sp_tC N t) := hEn.tok hTn
      have eLn : N t 1 = N 53 1 := hEn.1 1 (by decide) (by decide)
      have e5n : N t 5 = N 53 5 := hEn.1 5 (by decide) (by decide)
      have hvCn : sp_vok (sp_tC N t) (N 63) := hEn.vok hTCn hvn
      have hlkLn : eqL (sp_tC N t) (N (t + 3)) (N 57) := fun l l0 l1 => hlkEn l l0 (by rw [← eLn]; exact l1)
      have hlkCn : sp_lok (sp_tC N t) (N (t + 3)) := hEn.lok hTCn hlkLn hlkn
      have hT1n : 0 ≤ N 53 1 ∧ N 53 1 ≤ 6 := hTn.2.1
      have hT5n : 1 ≤ N 53 5 ∧ N 53 5 ≤ 99 := hTn.2.2.2.2.2.1
      have hn99n : 0 ≤ N 48 29 ∧ N 48 29 ≤ 99 := by have : 0 ≤ N 48 29 ∧ N 48 29 ≤ N 53 5 := hnbn; omega
      have hnen : N 48 29 ≤ N 53 5 := hnbn.2
      have hzCn : ∀ l, N t 1 ≤ l → l < 6 → sp_out (N 63) l = false := fun l a b => hzn l (by show N 53 1 ≤ l; omega) b
      have hdkCn : ∀ j, 0 ≤ j → j < N 48 29 → sp_vok (sp_tC N t) (bk_v (N 7) (N 63) j) := fun j j0 j1 => dk_ok hEn hTCn hvCn (hDn j j0 j1) (hD2n j j0 j1)
      have hDMn : ∀ j, 0 ≤ j → j < N 48 29 → sp_vok (sp_tR N) (bkM (N 68) (N 70) j) := fun j j0 j1 => bkM_ok hTn (hD2n j j0 j1)
      refine ⟨N, _, Rf2, 0, rfl, rfl, by decide, hRf, _, k_X7_mothers hRn hTn hvn hlkn hn99n rfl hnen hwIn hnkn hx32 hk32 hk (by rw [eN 53 rfl, eN 63 rfl]; exact hch), fun v2 h2 hp9 => ?_⟩
      obtain ⟨N2, y2, rfl, hN2, hN4, hN48, hNk, rfl, hy2⟩ := hp9
      refine ⟨N2, _, t, b, rfl, rfl, hN4, fun _ => ?_, hh.mdl (fun x hx => hN2 x (by intro z; subst z; cases hx) (by intro z; subst z; cases hx) (by intro z; subst z; cases hx) (by intro z; subst z; cases hx) (by intro z; subst z; cases hx) (by intro z; subst z; cases hx)) (fun k k4 k38 _ => hN48 k k4 k38) (fun _ => hNk)⟩
      rw [up_s, up_s, hy]
      refine congrArg (fun x => (iI x).toInt64) ?_
      have h64 : 0 ≤ x ∧ x < 64 := by
        have h1 := hch.1
        have h2 : (2 : Int) ^ (M 53 1).toNat ≤ 64 := by
          rcases (show (M 53 1).toNat = 0 ∨ (M 53 1).toNat = 1 ∨ (M 53 1).toNat = 2 ∨ (M 53 1).toNat = 3 ∨ (M 53 1).toNat = 4 ∨ (M 53 1).toNat = 5 ∨ (M 53 1).toNat = 6 by omega) with z | z | z | z | z | z | z <;> rw [z] <;> decide
        omega
      have hA := asc_e h64
      have hm3 : (bl x).length ≤ 3 := hch.2.2
      have hcj : ∀ j, j < (bl x).length → 0 ≤ (bl x).getD j 0 ∧ (bl x).getD j 0 < M 53 1 := fun j hj => by
        have h9 := bl_at hj
        refine ⟨h9.2.1, ?_⟩
        apply Classical.byContradiction
        intro z
        have h8 : ob x ((bl x).getD j 0) = 0 := by
          unfold ob
          have h7 : x / 2 ^ ((bl x).getD j 0).toNat = 0 := by
            refine Int.ediv_eq_zero_of_lt h64.1 ?_
            have h6 := hch.1.2
            have h5 : (2 : Int) ^ (M 53 1).toNat ≤ 2 ^ ((bl x).getD j 0).toNat := by
              have := Nat.pow_le_pow_right (n := 2) (by decide) (show (M 53 1).toNat ≤ ((bl x).getD j 0).toNat by omega)
              exact_mod_cast this
            omega
          rw [h7]; rfl
        rw [h8] at h9
        exact absurd h9.1 (by decide)
      have hdc : ∀ i j, i < j → j < (bl x).length → (bl x).getD i 0 ≠ (bl x).getD j 0 := fun i j hi hj => hA.2.2.1 ⟨i, by omega⟩ ⟨j, by omega⟩ hi hj
      rw [eT, e48, eN 57 rfl, eN 63 rfl] at hy2
      have hb : ∀ w, 0 ≤ w → w < 7 ^ (bl x).length → rsB (N 28) (bl x).length w = (irB (M 63) (fun j => (bl x).getD j 0) (bl x).length (ph w) && rqB (M 63) (fun j => (bl x).getD j 0) (bl x).length (vmR (sp_tR M) (M 57) (M 48 29) (M 63) (fun j => (bl x).getD j 0) (bl x).length) (ph w)) := fun w w0 w1 => rs_b (rs_rq hm3 (fun w w0 w1 j hj => by
          have h9 := h28 w.toNat j (by omega) hj
          rw [show ((w.toNat : Nat) : Int) = w by omega] at h9
          rw [h9]
          exact vl_vm hE hTC hlkL hvC hm3 (fun j hj => by have := hcj j hj; show 0 ≤ (bl x).getD j 0 ∧ (bl x).getD j 0 < M t 1; omega) hdc ⟨w0, w1⟩ hj) (fun w w0 w1 hi j hj => by
          have h8 := hcj j hj
          have h9 := run_ltn hT (v := gvM (M 63) (fun j => (bl x).getD j 0) w (bl x).length) (n := M 48 29) (fun l l0 l1 => by rw [gvM_24 ⟨l0, l1⟩ _ (fun i hi => by have := hcj i hi; omega)]; exact hnw l l0 l1) false false (lk := M 57) ((sp_tR M).1 5 - M 48 29).toNat ((bl x).getD j 0) h8.1 (by omega)
          have h7 : ((((sp_tR M).1 5 - M 48 29).toNat : Nat) : Int) ≤ 99 := by show (((M 53 5 - M 48 29).toNat : Nat) : Int) ≤ 99; omega
          have h6 : sp_run (sp_tR M) (M 57) false false (M 48 29) ((sp_tR M).1 5 - M 48 29).toNat (gvM (M 63) (fun j => (bl x).getD j 0) w (bl x).length) (24 + (bl x).getD j 0) ≤ 1000 := by omega
          exact wv_k h6) ⟨w0, w1⟩)
      rcases hy1 with ⟨k0, rfl⟩ | ⟨k1, hf1⟩
      · rcases hy2 with ⟨_, rfl⟩ | ⟨k1, _⟩
        · exact (rs_all hm3 hb).symm
        · omega
      · rcases hy2 with ⟨k0, _⟩ | ⟨_, fr, hq, rfl⟩
        · omega
        · exact rs_fst hm3 hb hf1 hq
    · refine ⟨1, 6, _, by decide, k_L_mothers_y (k_X6_mothers_y hR ht hTC hto hsc hx32 hk32 hk (by rw [eL]; exact hch)), fun v h1 hp => ?_⟩
      obtain ⟨rfl, rfl⟩ := hp
      refine ⟨M, L, Rf, 2, rfl, rfl, by decide, hR, _, k_X7_mothers_y hR hT hv hx32 hk32 hk hch, fun v2 h2 hp2 => ?_⟩
      obtain ⟨N2, rfl, rfl, hN2, hN4, hN48⟩ := hp2
      exact ⟨N2, 0, t, b, rfl, rfl, hN4, fun z => absurd z (by decide), h.mdl (fun y hx => hN2 y (by intro z; subst z; cases hx) (by intro z; subst z; cases hx)) (fun k k4 k38 _ => hN48 k k4 k38) (fun z l l0 l1 => by rw [hN2 64 (by decide) (by decide)]; exact z l l0 l1)⟩
  · refine ⟨1, 6, _, by decide, k_L_mothers_x (k_X6_mothers_x hR ht hTC hto hx32 hk32 hk), fun v h1 hp => ?_⟩
    obtain ⟨rfl, rfl⟩ := hp
    refine ⟨M, L, Rf, 1, rfl, rfl, by decide, hR, _, k_X7_mothers_x hR hx32 hk32 hk, fun v2 h2 hp2 => ?_⟩
    obtain ⟨N2, rfl, hN2, rfl⟩ := hp2
    exact ⟨N2, 0, t, b, rfl, rfl, hN2.2.1, fun z => absurd z (by decide), h.cd hN2⟩
