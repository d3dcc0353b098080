set_option maxHeartbeats 1000000 in
theorem lz_nights {S : mx_Sc} {M : Nat → Int → Int} {L : Nat → Nat → Int64} {Rf : Nat → Nat → Option Nat} {t : Nat} {b : Bool} {it : Int} (h : rlZ M Rf t b it) {u : Int} (hu32 : -2147483648 ≤ u ∧ u ≤ 2147483647) (hit : it ≤ 1000000) : lcA S mL_nights mX7_nights [.int (iI u)] M L Rf it := by
  obtain ⟨⟨ht, hR, hrs, hto, hsp⟩, ⟨hT, hE, hK, hoj1, hoj2⟩, ⟨htl, h12, htp, h13, hnk, hcs⟩, hst, h14, h41, him⟩ := id h
  obtain ⟨⟨hsc, hn3, hnb⟩, ⟨hJ, hJm, hv2⟩, ⟨hWb, hW2b⟩, hSt⟩ := id hst
  have hTC : sp_tok (sp_tC M t) := hE.tok hT
  have eL : M t 1 = M 53 1 := hE.1 1 (by decide) (by decide)
  have eK : (sp_tC M t).1 1 = 0 := eL.trans hK
  have e5 : M t 5 = M 53 5 := hE.1 5 (by decide) (by decide)
  have hv : sp_vok (sp_tR M) (M 63) := vok0 hK hv2
  have hvC : sp_vok (sp_tC M t) (fun _ => -1) := vok0 eK (fun _ _ _ => by decide)
  have hlk : sp_lok (sp_tR M) (M 57) := lok0 hK _
  have hlkC : sp_lok (sp_tC M t) (M (t + 3)) := lok0 eK _
  have hT5 : 1 ≤ M 53 5 ∧ M 53 5 ≤ 99 := hT.2.2.2.2.2.1
  have hn99 : 0 ≤ M 48 29 ∧ M 48 29 ≤ 99 := by omega
  have hne : M 48 29 ≤ M 53 5 := hnb.2
  by_cases hc : 0 ≤ u ∧ u ≤ 99
  · refine ⟨0, 0, _, by decide, k_L_nights (k_X6_nights hR ht hTC hto hsc hvC hn99 hn3 hlkC hu32 hc) (fun v h9 hp => by rcases hp with ⟨_, rfl, rfl⟩ | ⟨_, N, M2, Rf2, rfl, rfl, _⟩ <;> exact ⟨_, _, _, _, rfl, rfl⟩), fun v h1 hp => ?_⟩
    obtain ⟨N, L2, Rf2, y, hp0, rfl, rfl⟩ := hp
    rcases hp0 with ⟨hlt, heq, hval⟩ | ⟨hle, N3, M2, Rf3, heq, hval, hRf, hRx, hM2, hni⟩
    · simp only [Prod.mk.injEq, true_and] at heq
      obtain ⟨hN, rfl, rfl⟩ := heq
      have hy := Value.int.inj (Option.some.inj hval)
      have eM' : ∀ x, x ≠ 9 → N x = M x := fun x hx => by rw [hN, up_n _ _ hx]
      have eM : ∀ x, 48 ≤ x → N x = M x := fun x hx => eM' x (by omega)
      have eT : sp_tR N = sp_tR M := by show (N 53, N 54, N 55, N 58, N 59, N 60) = _; rw [eM 53 (by decide), eM 54 (by decide), eM 55 (by decide), eM 58 (by decide), eM 59 (by decide), eM 60 (by decide)]
      have e48 := eM 48 (by decide)
      have e57 := eM 57 (by decide)
      have e61 := eM 61 (by decide)
      have e63 := eM 63 (by decide)
      have e53 := eM 53 (by decide)
      have hS2 := hSt 2 (by decide) (by decide)
      refine ⟨N, _, Rf2, 0, rfl, rfl, by decide, hR, _, k_X7_nights hR (by rw [eT]; exact hT) (by rw [eT, e63]; exact hv) (by rw [eT, e57]; exact hlk) hn99 (by rw [e48]) (by rw [e61]; omega) hu32 hc, fun v2 h2 hp9 => ?_⟩
      rcases hp9 with ⟨_, N2, rfl, rfl, hN4, hN48, hN2, hN61⟩ | ⟨hle, _⟩
      · have e2 : ∀ x, x ≠ 9 → x ≠ 48 → x ≠ 61 → N2 x = M x := fun x x1 x2 x3 => (hN2 x x2 x3).trans (eM' x x1)
        have e29 : ∀ k, k ≠ 4 → N2 48 k = M 48 k := fun k hk => by rw [hN48 k hk, e48]
        refine ⟨N2, -1, rfl, rfl, hN4, fun _ => by rw [up_s, up_s, hy], t, b, Or.inr (h.upd hR (fun _ _ => rfl) (fun x hx => e2 x (by omega) (by omega) (by omega)) (h.tape (by rw [e2 0 (by decide) (by decide) (by decide)]) (by rw [e2 0 (by decide) (by decide) (by decide)]) (e2 1 (by decide) (by decide) (by decide)) (e2 62 (by decide) (by decide) (by decide)) (e29 15 (by decide)) (e29 24 (by decide)) (fun z l l0 l1 => by rw [e2 64 (by decide) (by decide) (by decide)]; exact z l l0 l1)) ?_ (h.main (fun x hx => e2 x (by omega) (by omega) (by omega)) (by rw [e2 0 (by decide) (by decide) (by decide)]) (e29 41 (by decide)) (e29 42 (by decide))))⟩
        rw [e2 8 (by decide) (by decide) (by decide), e2 63 (by decide) (by decide) (by decide), e2 69 (by decide) (by decide) (by decide), e29 29 (by decide), hN61, e61, hN2 9 (by decide) (by decide), hN, up_s]
        exact hst.ref (by decide) (e2 3 (by decide) (by decide) (by decide)) (e2 4 (by decide) (by decide) (by decide)) (e2 5 (by decide) (by decide) (by decide)) (e2 6 (by decide) (by decide) (by decide))
      · rw [e53] at hle
        omega
    · simp only [Prod.mk.injEq, true_and] at heq
      obtain ⟨rfl, rfl, rfl⟩ := heq
      have hy := Value.int.inj (Option.some.inj hval)
      obtain ⟨n1, n2, n3, n4, n5, n6, n7, n8⟩ := hni
      have ht9 : ∀ k, k < 8 → M2 (t + k) = M (t + k) := fun k hk => hM2 (t + k) (by omega)
      have eC2 : sp_tC M2 t = sp_tC M t := by show (M2 t, M2 (t + 1), M2 (t + 2), M2 (t + 5), M2 (t + 6), M2 (t + 7)) = _; rw [show M2 t = M t from ht9 0 (by decide), ht9 1 (by decide), ht9 2 (by decide), ht9 5 (by decide), ht9 6 (by decide), ht9 7 (by decide)]
      have et0 : M2 t = M t := ht9 0 (by decide)
      rw [eC2, run0 eK] at n4
      rw [hM2 4 (by decide), et0, eL, hK] at n3
      rw [hM2 7 (by decide)] at n6
      rw [hM2 8 (by decide)] at n7
      have n8b : ∀ (m : Nat) (q : Int), m < u.toNat → 0 ≤ q → q < 18 → N 8 ((M 48 29 + m + 1) * 18 + q) = M 4 q := fun m q hm q0 q1 => by
        have h9 := (n8 m q hm q0 q1).2
        rw [et0, eL, hK, if_neg (by omega), hM2 4 (by decide)] at h9
        exact h9
      have eM' : ∀ x, x ≠ 46 → x ≠ 47 → x ≠ 3 → x ≠ 4 → x ≠ 5 → x ≠ 6 → x ≠ 7 → x ≠ 8 → N x = M x := fun x x1 x2 x3 x4 x5 x6 x7 x8 => (n1 x x2 x3 x4 x5 x6 x7 x8).trans (hM2 x x1)
      have eM : ∀ x, 48 ≤ x → N x = M x := fun x hx => eM' x (by omega) (by omega) (by omega) (by omega) (by omega) (by omega) (by omega) (by omega)
      have eT : sp_tR N = sp_tR M := by show (N 53, N 54, N 55, N 58, N 59, N 60) = _; rw [eM 53 (by decide), eM 54 (by decide), eM 55 (by decide), eM 58 (by decide), eM 59 (by decide), eM 60 (by decide)]
      have e48 := eM 48 (by decide)
      have e57 := eM 57 (by decide)
      have e61 := eM 61 (by decide)
      have e63 := eM 63 (by decide)
      have e53 := eM 53 (by decide)
      have hS2 := hSt 2 (by decide) (by decide)
      refine ⟨N, _, Rf2, 0, rfl, rfl, by decide, hRf, _, k_X7_nights hRf (by rw [eT]; exact hT) (by rw [eT, e63]; exact hv) (by rw [eT, e57]; exact hlk) hn99 (by rw [e48]) (by rw [e61]; omega) hu32 hc, fun v2 h2 hp9 => ?_⟩
      rcases hp9 with ⟨hgt, _⟩ | ⟨_, N2, M3, m, rfl, rfl, hcd, hnm⟩
      · rw [e53] at hgt
        omega
      · obtain ⟨m1, m2, m3, m4, m5, m6, m7, m8, m9, m10, m11, m12⟩ := hnm
        have eA : ∀ x, 48 < x → M3 x = M x := fun x hx => (hcd.1 x (by omega)).trans (eM x (by omega))
        have eT3 : sp_tR M3 = sp_tR M := by show (M3 53, M3 54, M3 55, M3 58, M3 59, M3 60) = _; rw [eA 53 (by decide), eA 54 (by decide), eA 55 (by decide), eA 58 (by decide), eA 59 (by decide), eA 60 (by decide)]
        rw [eT3, eA 63 (by decide), run0 hK] at m4
        rw [eT3, cnt0 (t := sp_tR M) hK, cnt0 (t := sp_tR M) hK] at m6
        rw [eA 69 (by decide)] at m9
        have m11b : ∀ (j : Nat) (q : Int), j < u.toNat → 0 ≤ q → q < 18 → N2 69 ((M 48 29 + j + 1) * 18 + q) = M 63 q := fun j q hj q0 q1 => by
          have h9 := (m11 j q hj q0 q1).2
          rw [eT3, run0 (t := sp_tR M) hK, eA 63 (by decide)] at h9
          exact h9
        have eB : ∀ x, x < 48 → N2 x = N x := fun x hx => (m1 x (by omega) (by omega) (by omega) (by omega) (by omega) (by omega) (by omega)).trans (hcd.1 x (by omega))
        have eB2 : ∀ x, 48 < x → x ≠ 63 → x ≠ 65 → x ≠ 67 → x ≠ 68 → x ≠ 69 → x ≠ 70 → N2 x = M x := fun x x1 x2 x3 x4 x5 x6 x7 => (m1 x (by omega) x2 x3 x4 x5 x6 x7).trans (eA x x1)
        have e29 : ∀ k, k ≠ 4 → k ≠ 29 → N2 48 k = M 48 k := fun k k4 k29 => by rw [m2 k k29, hcd.2.2 k k4, e48]
        have eU : ((u.toNat : Nat) : Int) = u := by omega
        have hcn := n4.2.2.2.2
        rw [cnt0 eK] at hcn
        have hcm := hsc.2.2.2.2
        rw [cnt0 eK] at hcm
        have hB : ∀ x, x < 46 → x ≠ 3 → x ≠ 4 → x ≠ 5 → x ≠ 6 → x ≠ 7 → x ≠ 8 → N2 x = M x := fun x x1 x2 x3 x4 x5 x6 x7 => (eB x (by omega)).trans (eM' x (by omega) (by omega) x2 x3 x4 x5 x6 x7)
        refine ⟨N2, m, rfl, rfl, by rw [m2 4 (by decide)]; exact hcd.2.1, fun _ => by rw [up_s, up_s, hy]; exact congrArg (fun x => (iI x).toInt64) (by omega), t, b, Or.inr (h.upd hRf hRx (fun x hx => ?_) (h.tape (by rw [hB 0 (by decide) (by decide) (by decide) (by decide) (by decide) (by decide) (by decide)]) (by rw [hB 0 (by decide) (by decide) (by decide) (by decide) (by decide) (by decide) (by decide)]) (hB 1 (by decide) (by decide) (by decide) (by decide) (by decide) (by decide) (by decide)) (eB2 62 (by decide) (by decide) (by decide) (by decide) (by decide) (by decide) (by decide)) (e29 15 (by decide) (by decide)) (e29 24 (by decide) (by decide)) (fun z l l0 l1 => by rw [eB2 64 (by decide) (by decide) (by decide) (by decide) (by decide) (by decide) (by decide)]; exact z l l0 l1)) ?_ (h.main (fun x hx => ?_) (by rw [hB 0 (by decide) (by decide) (by decide) (by decide) (by decide) (by decide) (by decide)]) (e29 41 (by decide) (by decide)) (e29 42 (by decide) (by decide))))⟩
        · rcases hx with hx | hx
          · exact hB x (by omega) (by omega) (by omega) (by omega) (by omega) (by omega) (by omega)
          · exact eB2 x (by omega) (by omega) (by omega) (by omega) (by omega) (by omega) (by omega)
        · rw [hB 9 (by decide) (by decide) (by decide) (by decide) (by decide) (by decide) (by decide), eB2 61 (by decide) (by decide) (by decide) (by decide) (by decide) (by decide) (by decide), m3, eB 8 (by decide)]
          refine ⟨⟨n4.fr (eB 3 (by decide)) (eB 4 (by decide)) (eB 5 (by decide)) (eB 6 (by decide)), by rw [eB 3 (by decide)]; exact n2, by omega⟩, ⟨fun i i0 i1 => ?_, by rw [m4]; exact hJm, by rw [m4]; exact hv2⟩, ⟨fun i i0 i1 => ?_, fun i i0 i1 => ?_⟩, fun i i0 i1 => by have := hSt i i0 i1; exact ⟨this.1, this.2.1, by omega⟩⟩
          · show 0 ≤ N2 4 i ∧ N2 4 i < 32
            rw [eB 4 (by decide), n3 i (by omega)]; exact hJ i i0 i1
          · by_cases z : i < (M 48 29 + 1) * 18 ∨ (M 48 29 + u.toNat + 1) * 18 ≤ i
            · rw [n7 i z]; exact hWb i i0 i1
            · obtain ⟨m, q, hm, q0, q1, rfl⟩ : ∃ (m : Nat) (q : Int), m < u.toNat ∧ 0 ≤ q ∧ q < 18 ∧ i = (M 48 29 + m + 1) * 18 + q := ⟨(i / 18 - M 48 29 - 1).toNat, i % 18, by omega, by omega, by omega, by omega⟩
              rw [n8b m q hm q0 q1]; exact hJ q q0 q1
          · by_cases z : i < (M 48 29 + 1) * 18 ∨ (M 48 29 + u.toNat + 1) * 18 ≤ i
            · rw [m9 i z]; exact hW2b i i0 i1
            · obtain ⟨m, q, hm, q0, q1, rfl⟩ : ∃ (m : Nat) (q : Int), m < u.toNat ∧ 0 ≤ q ∧ q < 18 ∧ i = (M 48 29 + m + 1) * 18 + q := ⟨(i / 18 - M 48 29 - 1).toNat, i % 18, by omega, by omega, by omega, by omega⟩
              rw [m11b m q hm q0 q1]; exact hJm q q0 q1
        · rcases hx with hx | hx
          · exact hB x (by omega) (by omega) (by omega) (by omega) (by omega) (by omega) (by omega)
          · exact eB2 x (by omega) (by omega) (by omega) (by omega) (by omega) (by omega) (by omega)
  · refine ⟨1, 6, _, by decide, k_L_nights_x (k_X6_nights_x hR hu32 hc), fun v h1 hp => ?_⟩
    obtain ⟨rfl, rfl⟩ := hp
    refine ⟨M, L, Rf, 1, rfl, rfl, by decide, hR, _, k_X7_nights_x hR hu32 hc, fun v2 h2 hp2 => ?_⟩
    obtain ⟨N2, rfl, hN2, rfl⟩ := hp2
    exact ⟨N2, 0, rfl, rfl, hN2.2.1, fun z => absurd z (by decide), t, b, Or.inr (h.cd hN2)⟩
set_option maxHeartbeats 1000000 in
theorem lz_undo {S : mx_Sc} {M : Nat → Int → Int} {L : Nat → Nat → Int64} {Rf : Nat → Nat → Option Nat} {t : Nat} {b : Bool} {it : Int} (h : rlZ M Rf t b it) {k : Int} (hk32 : -2147483648 ≤ k ∧ k ≤ 2147483647) : lcA S mL_undo mX7_undo [.int (iI k)] M L Rf it := by
  obtain ⟨⟨ht, hR, hrs, hto, hsp⟩, ⟨hT, hE, hK, hoj1, hoj2⟩, ⟨htl, h12, htp, h13, hnk, hcs⟩, hst, h14, h41, him⟩ := id h
  obtain ⟨⟨hsc, hn3, hnb⟩, ⟨hJ, hJm, hv2⟩, ⟨hWb, hW2b⟩, hSt⟩ := id hst
  have hTC : sp_tok (sp_tC M t) := hE.tok hT
  have eL : M t 1 = M 53 1 := hE.1 1 (by decide) (by decide)
  have eK : (sp_tC M t).1 1 = 0 := eL.trans hK
  have e5 : M t 5 = M 53 5 := hE.1 5 (by decide) (by decide)
  have hv : sp_vok (sp_tR M) (M 63) := vok0 hK hv2
  have hvC : sp_vok (sp_tC M t) (fun _ => -1) := vok0 eK (fun _ _ _ => by decide)
  have hlk : sp_lok (sp_tR M) (M 57) := lok0 hK _
  have hlkC : sp_lok (sp_tC M t) (M (t + 3)) := lok0 eK _
  have hT5 : 1 ≤ M 53 5 ∧ M 53 5 ≤ 99 := hT.2.2.2.2.2.1
  have hn99 : 0 ≤ M 48 29 ∧ M 48 29 ≤ 99 := by omega
  have hne : M 48 29 ≤ M 53 5 := hnb.2
  by_cases hc : 0 ≤ k
  · refine ⟨0, 0, _, by decide, k_L_undo (k_X6_undo hR ht hTC hto hsc hvC hn99 hn3 (fun l _ _ => rfl) hk32 hc) (fun v h9 hp => by obtain ⟨N, u, rfl, rfl, _⟩ := hp; exact ⟨_, _, _, _, rfl, rfl⟩), fun v h1 hp => ?_⟩
    obtain ⟨N, L2, Rf2, y, hp0, rfl, rfl⟩ := hp
    obtain ⟨N3, u, heq, hval, hu, hor⟩ := hp0
    simp only [Prod.mk.injEq, true_and] at heq
    obtain ⟨rfl, rfl, rfl⟩ := heq
    have hy := Value.int.inj (Option.some.inj hval)
    have eM' : ∀ x, x ≠ 3 → x ≠ 4 → x ≠ 5 → x ≠ 6 → N x = M x := fun x x1 x2 x3 x4 => by
      rcases hor with ⟨_, rfl⟩ | ⟨_, hf, _⟩
      · rfl
      · exact hf x x1 x2 x3 x4
    have eM : ∀ x, 48 ≤ x → N x = M x := fun x hx => eM' x (by omega) (by omega) (by omega) (by omega)
    have eT : sp_tR N = sp_tR M := by show (N 53, N 54, N 55, N 58, N 59, N 60) = _; rw [eM 53 (by decide), eM 54 (by decide), eM 55 (by decide), eM 58 (by decide), eM 59 (by decide), eM 60 (by decide)]
    have e48 := eM 48 (by decide)
    have e57 := eM 57 (by decide)
    have e61 := eM 61 (by decide)
    have e63 := eM 63 (by decide)
    have e53 := eM 53 (by decide)
    refine ⟨N, _, Rf2, 0, rfl, rfl, by decide, hR, _, k_X7_undo hR (by rw [eT]; exact hT) (by rw [eT, e63]; exact hv) hn99 (by rw [e48]) hk32 hc, fun v2 h2 hp9 => ?_⟩
    obtain ⟨N2, u2, rfl, rfl, hu2, hN4, hN48, hN29, hor2⟩ := hp9
    have huu : u2 = u := hu2.trans hu.symm
    subst huu
    have e29 : ∀ j, j ≠ 4 → j ≠ 29 → N2 48 j = M 48 j := fun j j4 j29 => by rw [hN48 j j4 j29, e48]
    refine ⟨N2, u2, rfl, rfl, hN4, fun _ => by rw [up_s, up_s, hy], t, b, Or.inr ?_⟩
    rcases hor with ⟨u0, hNM⟩ | ⟨u0, hf, hs2, hn2, hj2⟩
    · rcases hor2 with ⟨_, hN2⟩ | ⟨u1, _⟩
      · have e2 : ∀ x, x ≠ 48 → N2 x = M x := fun x hx => by rw [hN2 x hx, hNM]
        refine h.mdl (fun x hx => e2 x (by intro z; subst z; cases hx)) (fun j j4 _ _ => ?_) (fun z l l0 l1 => by rw [e2 64 (by decide)]; exact z l l0 l1)
        by_cases j29 : j = 29
        · rw [j29, hN29, u0]; omega
        · exact e29 j j4 j29
      · omega
    · rcases hor2 with ⟨u1, _⟩ | ⟨_, hN2, h63⟩
      · omega
      · have e2 : ∀ x, x ≠ 48 → x ≠ 63 → x ≠ 3 → x ≠ 4 → x ≠ 5 → x ≠ 6 → N2 x = M x := fun x x1 x2 x3 x4 x5 x6 => (hN2 x x1 x2).trans (hf x x3 x4 x5 x6)
        have hun : u2 ≤ M 48 29 := by rw [hu]; split <;> omega
        refine h.upd hR (fun _ _ => rfl) (fun x hx => e2 x (by omega) (by omega) (by omega) (by omega) (by omega) (by omega)) (h.tape (by rw [e2 0 (by decide) (by decide) (by decide) (by decide) (by decide) (by decide)]) (by rw [e2 0 (by decide) (by decide) (by decide) (by decide) (by decide) (by decide)]) (e2 1 (by decide) (by decide) (by decide) (by decide) (by decide) (by decide)) (e2 62 (by decide) (by decide) (by decide) (by decide) (by decide) (by decide)) (e29 15 (by decide) (by decide)) (e29 24 (by decide) (by decide)) (fun z l l0 l1 => by rw [e2 64 (by decide) (by decide) (by decide) (by decide) (by decide) (by decide)]; exact z l l0 l1)) ?_ (h.main (fun x hx => e2 x (by omega) (by omega) (by omega) (by omega) (by omega) (by omega)) (by rw [e2 0 (by decide) (by decide) (by decide) (by decide) (by decide) (by decide)]) (e29 41 (by decide) (by decide)) (e29 42 (by decide) (by decide)))
        rw [e2 8 (by decide) (by decide) (by decide) (by decide) (by decide) (by decide), e2 9 (by decide) (by decide) (by decide) (by decide) (by decide) (by decide), e2 69 (by decide) (by decide) (by decide) (by decide) (by decide) (by decide), e2 61 (by decide) (by decide) (by decide) (by decide) (by decide) (by decide), hN29]
        rw [eM 69 (by decide), e63] at h63
        have hs3 : scR (sp_tC M t) N 3 (fun _ => -1) := by
          refine hs2.q hTC ⟨fun i i0 i1 => by omega, fun i i0 i1 => ?_⟩
          unfold sp_oil sp_part
          rw [if_neg (by omega)]
          split
          · rfl
          · split <;> rfl
        refine ⟨⟨hs3.fr (hN2 3 (by decide) (by decide)) (hN2 4 (by decide) (by decide)) (hN2 5 (by decide) (by decide)) (hN2 6 (by decide) (by decide)), by rw [hN2 3 (by decide) (by decide)]; exact hn2, by omega⟩, ⟨fun i i0 i1 => ?_, fun i i0 i1 => ?_, fun i i0 i1 => ?_⟩, ⟨hWb, hW2b⟩, fun i i0 i1 => by have := hSt i i0 i1; exact ⟨this.1, this.2.1, by omega⟩⟩
        · show 0 ≤ N2 4 i ∧ N2 4 i < 32
          rw [hN2 4 (by decide) (by decide), hj2 i i0 i1]; exact hWb _ (by omega) (by omega)
        · rw [h63 i i0 (by omega)]
          unfold sp_oil
          rw [if_pos ⟨i0, i1⟩]
          exact hW2b _ (by omega) (by omega)
        · rw [h63 i (by omega) i1]
          unfold sp_oil sp_part
          rw [if_neg (by omega)]
          have h9 := hv2 i i0 i1
          split
          · decide
          · split
            · decide
            · exact h9
  · refine ⟨1, 6, _, by decide, k_L_undo_x (k_X6_undo_x hR hk32 hc), fun v h1 hp => ?_⟩
    obtain ⟨rfl, rfl⟩ := hp
    refine ⟨M, L, Rf, 1, rfl, rfl, by decide, hR, _, k_X7_undo_x hR hk32 hc, fun v2 h2 hp2 => ?_⟩
    obtain ⟨N2, rfl, hN2, rfl⟩ := hp2
    exact ⟨N2, 0, rfl, rfl, hN2.2.1, fun z => absurd z (by decide), t, b, Or.inr (h.cd hN2)⟩
set_option maxHeartbeats 1000000 in
theorem lz_valley {S : mx_Sc} {M : Nat → Int → Int} {L : Nat → Nat → Int64} {Rf : Nat → Nat → Option Nat} {t : Nat} {b : Bool} {it : Int} (h : rlZ M Rf t b it) {k : Int} (hk32 : -2147483648 ≤ k ∧ k ≤ 2147483647) (hit : it ≤ 1000000) : lcA S mL_valley mX7_valley [.int (iI k)] M L Rf it := by
  obtain ⟨⟨ht, hR, hrs, hto, hsp⟩, ⟨hT, hE, hK, hoj1, hoj2⟩, ⟨htl, h12, htp, h13, hnk, hcs⟩, hst, h14, h41, him⟩ := id h
  obtain ⟨⟨hsc, hn3, hnb⟩, ⟨hJ, hJm, hv2⟩, ⟨hWb, hW2b⟩, hSt⟩ := id hst
  have hTC : sp_tok (sp_tC M t) := hE.tok hT
  have eL : M t 1 = M 53 1 := hE.1 1 (by decide) (by decide)
  have eK : (sp_tC M t).1 1 = 0 := eL.trans hK
  have e5 : M t 5 = M 53 5 := hE.1 5 (by decide) (by decide)
  have hv : sp_vok (sp_tR M) (M 63) := vok0 hK hv2
  have hvC : sp_vok (sp_tC M t) (fun _ => -1) := vok0 eK (fun _ _ _ => by decide)
  have hlk : sp_lok (sp_tR M) (M 57) := lok0 hK _
  have hlkC : sp_lok (sp_tC M t) (M (t + 3)) := lok0 eK _
  have hT5 : 1 ≤ M 53 5 ∧ M 53 5 ≤ 99 := hT.2.2.2.2.2.1
  have hn99 : 0 ≤ M 48 29 ∧ M 48 29 ≤ 99 := by omega
  have hne : M 48 29 ≤ M 53 5 := hnb.2
  have hS0 := hSt 0 (by decide) (by decide)
  by_cases hc : 0 ≤ k ∧ k ≤ M 48 15
  · have hs29 : 66 - t = 29 ∨ 66 - t = 37 := by omega
    refine ⟨0, 0, _, by decide, k_L_valley (k_X6_valley hR ht hs29 (by omega) hto hsp (by rw [htp.1]; exact htp.2) (by rw [h12]; exact htl) hoj2 (by omega) hk32 (by rw [h12]; exact hc)) (fun v h9 hp => by obtain ⟨N, Rf2, rfl, _, _, _, _, ⟨c, q, _, _, rfl, _⟩ | ⟨T, _, rfl, _⟩⟩ := hp <;> exact ⟨_, _, _, _, rfl, rfl⟩), fun v h1 hp => ?_⟩
    obtain ⟨N, L2, Rf2, y, hp0, rfl, rfl⟩ := hp
    obtain ⟨N3, Rf3, heq, hR2, hRx, hojN, hN12, hor⟩ := hp0
    simp only [Prod.mk.injEq, true_and] at heq
    obtain ⟨rfl, rfl, rfl⟩ := heq
    have eH : ∀ x, 45 < x → N x = M x := fun x hx => by
      rcases hor with ⟨c, q, _, _, _, hf, _⟩ | ⟨T, _, _, hf, _⟩
      · exact hf x (by omega) (by omega) (by omega) (by omega)
      · exact hf x (by omega) (by omega) (by omega) (by omega) (by omega) (by omega) (by omega) (by omega)
    have hrs2 : rfs Rf2 := by
      unfold rfs
      rw [hRx 49 (by decide) (by decide), hRx 50 (by decide) (by decide)]
      exact hrs
    have e1 : N 1 = M 1 := by
      rcases hor with ⟨c, q, _, _, _, hf, _⟩ | ⟨T, _, _, hf, _⟩
      · exact hf 1 (by omega) (by omega) (by omega) (by omega)
      · exact hf 1 (by omega) (by omega) (by omega) (by omega) (by omega) (by omega) (by omega) (by omega)
    refine ⟨N, _, Rf2, 0, rfl, rfl, by decide, hR2, _, k_X7_valley (k := k) hR2 hrs2 (by rw [eH 62 (by decide)]; exact htp.2) (by unfold mcs; rw [eH 51 (by decide), eH 52 (by decide)]; exact hcs) (by rw [eH 48 (by decide)]; exact htl) (by rw [eH 61 (by decide)]; omega) hk32 (by rw [eH 48 (by decide)]; exact hc), fun v2 h2 hp9 => ?_⟩
    obtain ⟨N2, rfl, hN4, hN15, hor2⟩ := hp9
    rw [eH 62 (by decide), eH 61 (by decide), eH 48 (by decide), ← htp.1] at hor2
    rcases hor with ⟨c, q, hpa, hcb, hval, f1, f13, f14, f9, fR0⟩ | ⟨T, hpa, hval, f1, f13, f14, fR10, fR11, ftq, ftd, f4, f5, f33, f34, f35, f8, f8b⟩
    · rcases hor2 with ⟨c2, q2, hpa2, hcb2, rfl, g1, g53, g54, g56, g58, g24, g48, g61⟩ | ⟨T2, hpa2, _⟩
      · rw [hpa] at hpa2
        cases hpa2
        have hy := Value.int.inj (Option.some.inj hval)
        refine ⟨N2, _, rfl, rfl, hN4, fun _ => by rw [up_s, up_s, hy], t, b, Or.inr ?_⟩
        have e2 : ∀ x, x ≠ 45 → x ≠ 0 → x ≠ 9 → (x < 66 - t ∨ 66 - t + 8 ≤ x) → x ≠ 48 → x ≠ 61 → (x < 53 ∨ 60 < x) → N2 x = M x := fun x x1 x2 x3 x4 x5 x6 x7 => (g1 x x5 x6 x7).trans (f1 x x1 x2 x3 x4)
        rw [eH 53 (by decide)] at g53
        rw [eH 54 (by decide), eH 55 (by decide), eH 57 (by decide)] at g54
        rw [eH 56 (by decide)] at g56
        rw [eH 58 (by decide), eH 59 (by decide), eH 60 (by decide)] at g58
        have e0 : N2 0 = N 0 := g1 0 (by decide) (by decide) (by decide)
        have eC : sp_tC N2 t = sp_tC M t := by
          show (N2 t, N2 (t + 1), N2 (t + 2), N2 (t + 5), N2 (t + 6), N2 (t + 7)) = _
          rw [e2 t (by omega) (by omega) (by omega) (by omega) (by omega) (by omega) (by omega), e2 (t + 1) (by omega) (by omega) (by omega) (by omega) (by omega) (by omega) (by omega), e2 (t + 2) (by omega) (by omega) (by omega) (by omega) (by omega) (by omega) (by omega), e2 (t + 5) (by omega) (by omega) (by omega) (by omega) (by omega) (by omega) (by omega), e2 (t + 6) (by omega) (by omega) (by omega) (by omega) (by omega) (by omega) (by omega), e2 (t + 7) (by omega) (by omega) (by omega) (by omega) (by omega) (by omega) (by omega)]
        have hT6 : 0 ≤ M 53 6 ∧ M 53 6 ≤ 10 := hT.2.2.2.2.2.2.1
        have g531 : N2 53 1 = M 53 1 := g53 1 (by decide)
        have g536 : N2 53 6 = M 53 6 := g53 6 (by decide)
        have hER : eqS (sp_tR N2) (sp_tR M) := by
          refine ⟨fun k k0 k1 => g53 k k1, fun l l0 l1 => ?_, fun f f0 f1 => ?_⟩
          · have l2 : l < N2 53 1 := l1
            exact ⟨(g54 l (by omega)).1, (g54 l (by omega)).2.1⟩
          · have l2 : f < N2 53 6 := f1
            exact ⟨(g58 f (by omega)).1, (g58 f (by omega)).2.1, (g58 f (by omega)).2.2⟩
        have hT2 : sp_tok (sp_tR N2) := hER.tok hT
        have g535 : N2 53 5 = M 53 5 := g53 5 (by decide)
        refine ⟨⟨ht, hR2, hrs2, by rw [fR0]; exact hto, by rw [fR0]; exact hsp⟩, ⟨hT2, by rw [eC]; exact hE.tr hER, by rw [g531]; exact hK, ?_, ?_⟩, ⟨by rw [hN15]; decide, by rw [e0, hN12, hN15], ?_, by rw [e0, f13, g24], ?_, ?_⟩, ?_, ?_⟩
        · unfold oj; rw [e2 (t + 4) (by omega) (by omega) (by omega) (by omega) (by omega) (by omega) (by omega)]; exact hoj1
        · unfold oj; rw [g1 (66 - t + 4) (by omega) (by omega) (by omega)]; exact hojN
        · rw [e2 1 (by omega) (by omega) (by omega) (by omega) (by omega) (by omega) (by omega), e2 62 (by omega) (by omega) (by omega) (by omega) (by omega) (by omega) (by omega)]; exact htp
        · unfold nk; rw [e2 64 (by omega) (by omega) (by omega) (by omega) (by omega) (by omega) (by omega)]; exact hnk
        · unfold mcs; rw [e2 51 (by omega) (by omega) (by omega) (by omega) (by omega) (by omega) (by omega), e2 52 (by omega) (by omega) (by omega) (by omega) (by omega) (by omega) (by omega)]; exact hcs
        · rw [eC, e2 8 (by omega) (by omega) (by omega) (by omega) (by omega) (by omega) (by omega), g1 9 (by decide) (by decide) (by decide), f9, g61, e2 63 (by omega) (by omega) (by omega) (by omega) (by omega) (by omega) (by omega), e2 69 (by omega) (by omega) (by omega) (by omega) (by omega) (by omega) (by omega), g48 29 (by decide), g535]
          exact hst.ref (by decide) (e2 3 (by omega) (by omega) (by omega) (by omega) (by omega) (by omega) (by omega)) (e2 4 (by omega) (by omega) (by omega) (by omega) (by omega) (by omega) (by omega)) (e2 5 (by omega) (by omega) (by omega) (by omega) (by omega) (by omega) (by omega)) (e2 6 (by omega) (by omega) (by omega) (by omega) (by omega) (by omega) (by omega))
        · rw [e0, f14, g48 41 (by decide), eC, g535]
          refine ⟨h14, h41, fun hb => ?_⟩
          have h9 := h.main (fun x hx => e2 x (by omega) (by omega) (by omega) (by omega) (by omega) (by omega) (by omega)) (by rw [e0, f14]) (g48 41 (by decide)) (g48 42 (by decide))
          exact h9.2.2 hb
      · rw [hpa] at hpa2
        cases hpa2
    · rcases hor2 with ⟨c2, q2, hpa2, _⟩ | ⟨T2, hpa2, rfl, g1, g24, g29, g41, g0, g53, g54, g56, g58, g63, g69, g69b⟩
      · rw [hpa] at hpa2
        cases hpa2
      · rw [hpa] at hpa2
        cases hpa2
        have hy := Value.int.inj (Option.some.inj hval)
        refine ⟨N2, _, rfl, rfl, hN4, fun _ => by rw [up_s, up_s, hy], 66 - t, false, Or.inl ?_⟩
        have e2 : ∀ x, x ≠ 45 → x ≠ 0 → x ≠ 3 → x ≠ 4 → x ≠ 5 → x ≠ 6 → x ≠ 8 → (x < 66 - t ∨ 66 - t + 8 ≤ x) → x ≠ 48 → x ≠ 63 → x ≠ 69 → (x < 53 ∨ 60 < x) → N2 x = M x := fun x x1 x2 x3 x4 x5 x6 x7 x8 x9 x10 x11 x12 => (g1 x x9 x10 x11 x12).trans (f1 x x1 x2 x3 x4 x5 x6 x7 x8)
        have eS : ∀ x, x < 48 → N2 x = N x := fun x hx => g1 x (by omega) (by omega) (by omega) (by omega)
        obtain ⟨q1, q2, q3, q4⟩ := ftq
        have hES : eqS (sp_tC N2 (66 - t)) (td_s T) := by
          have es : ∀ j, j < 8 → N2 (66 - t + j) = N (66 - t + j) := fun j hj => eS _ (by omega)
          have e1' : N2 (66 - t) 1 = T 0 1 := by rw [show N2 (66 - t) = N (66 - t) from es 0 (by decide)]; exact q1 1 (by decide) (by decide)
          have e6' : N2 (66 - t) 6 = T 0 6 := by rw [show N2 (66 - t) = N (66 - t) from es 0 (by decide)]; exact q1 6 (by decide) (by decide)
          refine ⟨fun k k0 k1 => ?_, fun l l0 l1 => ?_, fun f f0 f1 => ?_⟩
          · show N2 (66 - t) k = _
            rw [show N2 (66 - t) = N (66 - t) from es 0 (by decide)]; exact q1 k k0 k1
          · have l2 : l < N2 (66 - t) 1 := l1
            show N2 (66 - t + 1) l = _ ∧ N2 (66 - t + 2) l = _
            rw [es 1 (by decide), es 2 (by decide)]
            have := q2 l l0 (by omega)
            exact ⟨this.1, this.2.1⟩
          · have l2 : f < N2 (66 - t) 6 := f1
            show N2 (66 - t + 5) f = _ ∧ N2 (66 - t + 6) f = _ ∧ N2 (66 - t + 7) f = _
            rw [es 5 (by decide), es 6 (by decide), es 7 (by decide)]
            exact q4 f f0 (by omega)
        have g531 : N2 53 1 = T 0 1 := g53 1 (by decide) (by decide)
        have g536 : N2 53 6 = T 0 6 := g53 6 (by decide) (by decide)
        have hER : eqS (sp_tR N2) (td_s T) := by
          refine ⟨g53, fun l l0 l1 => ?_, fun f f0 f1 => ?_⟩
          · have l2 : l < N2 53 1 := l1
            exact ⟨(g54 l l0 (by omega)).1, (g54 l l0 (by omega)).2.1⟩
          · have l2 : f < N2 53 6 := f1
            exact g58 f f0 (by omega)
        obtain ⟨hTT, hTl, hTo⟩ := ftd
        have hT2 : sp_tok (sp_tR N2) := hER.tok hTT
        have hEE : eqS (sp_tC N2 (66 - t)) (sp_tR N2) := hES.tr hER
        have hTT1 : 0 ≤ T 0 1 ∧ T 0 1 ≤ 6 := hTT.2.1
        have hg : toP (N2 53 1) (N2 53 0) (T 4) := by rw [g531, g53 0 (by decide) (by decide)]; exact hTo
        have e0 : N2 0 = N 0 := eS 0 (by decide)
        refine ⟨⟨hs29, hR2, hrs2, fR10, by rw [fR11]; exact congrArg some (by omega)⟩, ⟨hT2, hEE, ?_, ?_, ?_, ?_, ?_, ?_⟩, ⟨by rw [hN15]; decide, by rw [e0, hN12, hN15], ?_, by rw [e0, f13, g24], ?_, ?_⟩, ?_, by rw [e0, f14]; rfl, by rw [g41]; rfl, fun z => absurd z (by decide)⟩
        · intro l l0 l1
          rw [g531] at l1
          rw [eS (66 - t + 3) (by omega), (g54 l l0 l1).2.2]
          exact (q2 l l0 l1).2.2
        · exact hER.lokR (fun l l0 l1 => (g54 l l0 l1).2.2) hTl
        · intro i i0 i1
          rw [g531] at i1
          rw [eS (66 - t + 4) (by omega), g56 i i0 i1]
          exact q3 i i0 i1
        · intro l l0 l1
          rw [g531] at l1
          rw [g56 _ (by omega) (by omega), g56 _ (by omega) (by omega), g56 _ (by omega) (by omega), g53 0 (by decide) (by decide)]
          exact hTo l l0 l1
        · unfold oj; rw [eS (66 - t + 4) (by omega)]; exact hojN
        · rw [show 66 - (66 - t) = t by omega]
          unfold oj; rw [e2 (t + 4) (by omega) (by omega) (by omega) (by omega) (by omega) (by omega) (by omega) (by omega) (by omega) (by omega) (by omega) (by omega)]; exact hoj1
        · rw [e2 1 (by omega) (by omega) (by omega) (by omega) (by omega) (by omega) (by omega) (by omega) (by omega) (by omega) (by omega) (by omega), e2 62 (by omega) (by omega) (by omega) (by omega) (by omega) (by omega) (by omega) (by omega) (by omega) (by omega) (by omega) (by omega)]; exact htp
        · unfold nk; rw [e2 64 (by omega) (by omega) (by omega) (by omega) (by omega) (by omega) (by omega) (by omega) (by omega) (by omega) (by omega) (by omega)]; exact hnk
        · unfold mcs; rw [e2 51 (by omega) (by omega) (by omega) (by omega) (by omega) (by omega) (by omega) (by omega) (by omega) (by omega) (by omega) (by omega), e2 52 (by omega) (by omega) (by omega) (by omega) (by omega) (by omega) (by omega) (by omega) (by omega) (by omega) (by omega) (by omega)]; exact hcs
        · rw [e2 9 (by omega) (by omega) (by omega) (by omega) (by omega) (by omega) (by omega) (by omega) (by omega) (by omega) (by omega) (by omega), e2 61 (by omega) (by omega) (by omega) (by omega) (by omega) (by omega) (by omega) (by omega) (by omega) (by omega) (by omega) (by omega), g29]
          refine stP.zero (g := T 4) hT2 hEE (by rw [eS 3 (by decide)]; exact f33) (by rw [eS 3 (by decide)]; exact f34) (by rw [eS 3 (by decide)]; exact f35) (fun l l0 l1 => by rw [eS 5 (by decide), eS 6 (by decide)]; exact f5 l l0 l1) (fun i i0 i1 => ?_) (fun i i0 i1 => ?_) hg (fun i i0 i1 => ?_) (fun i i0 i1 => ?_) (fun i i0 i1 => ?_) (fun i i0 i1 => g69 i i0 i1) (fun i i0 i1 => ?_) (fun i i0 i1 => ?_) (fun i i0 i1 => ?_)
          · rw [g63 i (by omega) i1]; unfold anv; rw [if_neg (by omega)]
          · rw [g63 i i0 (by omega)]; unfold anv; rw [if_pos (by omega)]
            show _ = if i < 3 * N2 53 1 then _ else _
            rw [g531]
          · have i2 : i < 3 * N2 53 1 := i1
            rw [g531] at i2
            show N2 4 i = _
            rw [eS 4 (by decide), f4 i i0 (by omega)]
            exact q3 i i0 i2
          · show 0 ≤ N2 4 i ∧ N2 4 i < 32
            rw [eS 4 (by decide), f4 i i0 i1]
            exact hojN i i0 i1
          · show N2 8 i = N2 4 i
            rw [eS 4 (by decide), eS 8 (by decide), f4 i i0 i1, f8 i i0 i1]
          · rw [eS 8 (by decide), f8b i i0]; exact hWb i (by omega) i1
          · rw [g69b i i0, eH 69 (by decide)]; exact hW2b i (by omega) i1
          · have := hSt i i0 i1; exact ⟨this.1, this.2.1, by omega⟩
  · refine ⟨1, 6, _, by decide, k_L_valley_x (k_X6_valley_x hR (by rw [h12]; exact htl) hk32 (by rw [h12]; exact hc)), fun v h1 hp => ?_⟩
    obtain ⟨rfl, rfl⟩ := hp
    refine ⟨M, L, Rf, 1, rfl, rfl, by decide, hR, _, k_X7_valley_x hR htl hk32 hc, fun v2 h2 hp2 => ?_⟩
    obtain ⟨N2, rfl, rfl, n1, n2, n3⟩ := hp2
    exact ⟨N2, 0, rfl, rfl, n2, fun z => absurd z (by decide), t, b, Or.inr (h.cd ⟨n1, n2, n3⟩)⟩
