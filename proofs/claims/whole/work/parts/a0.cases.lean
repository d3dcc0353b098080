theorem dk_ok {t s : sp_T} (h : eqS t s) (hT : sp_tok t) {v D D2 : Int → Int} (hv : sp_vok t v) {j : Int} (hD : ∀ i, 0 ≤ i → i < 3 * s.1 1 → D (j * 18 + i) = D2 (j * 18 + i)) (hD2 : toP (s.1 1) (s.1 0) (fun i => D2 (j * 18 + i))) : sp_vok t (bk_v D v j) := by
  have e1 : t.1 1 = s.1 1 := h.1 1 (by decide) (by decide)
  refine part_ok hv hT (fun l l0 l1 => ?_)
  have h9 := hD2 l l0 (by omega)
  rw [hD (3 * l) (by omega) (by omega), hD (3 * l + 1) (by omega) (by omega), hD (3 * l + 2) (by omega) (by omega), h.1 0 (by decide) (by decide)]
  exact h9
theorem rlV.cls {M N : Nat → Int → Int} {Rf Rf2 : Nat → Nat → Option Nat} {t : Nat} {b : Bool} {it : Int} (h : rlV M Rf t b it) (hx : ∀ x, relB x = true → N x = M x) (h48 : N 48 = M 48) (h64 : N 64 = M 64) (hR : mx_rf Rf2) (hRx : ∀ y, y ≠ 46 → Rf2 y = Rf y) : rlV N Rf2 t b it :=
  h.fr hx (by rw [h48]) (by rw [h48]) (by rw [h48]) (by rw [h48]) (by rw [h48]) (fun z l l0 l1 => by rw [h64]; exact z l l0 l1) hR hRx
theorem rlV.mdl {M N : Nat → Int → Int} {Rf : Nat → Nat → Option Nat} {t : Nat} {b : Bool} {it : Int} (h : rlV M Rf t b it) (hx : ∀ x, relB x = true → N x = M x) (h48 : ∀ k, k ≠ 4 → k ≠ 38 → k ≠ 40 → N 48 k = M 48 k) (hn : nk M → nk N) : rlV N Rf t b (it + 1) :=
  h.it.fr hx (h48 15 (by decide) (by decide) (by decide)) (h48 24 (by decide) (by decide) (by decide)) (h48 29 (by decide) (by decide) (by decide)) (h48 41 (by decide) (by decide) (by decide)) (h48 42 (by decide) (by decide) (by decide)) hn h.1.2.1 (fun _ _ => rfl)
theorem rlV.cd {M N : Nat → Int → Int} {Rf : Nat → Nat → Option Nat} {t : Nat} {b : Bool} {it c : Int} (h : rlV M Rf t b it) (hc : cdP M N c) : rlV N Rf t b (it + 1) :=
  h.mdl (fun x hx => hc.1 x (by intro z; subst z; cases hx)) (fun k k4 _ _ => hc.2.2 k k4) (fun z l l0 l1 => by rw [hc.1 64 (by decide)]; exact z l l0 l1)
set_option maxHeartbeats 4000000 in
theorem lc_count {S : mx_Sc} {M : Nat → Int → Int} {L : Nat → Nat → Int64} {Rf : Nat → Nat → Option Nat} {t : Nat} {b : Bool} {it : Int} (h : rlV M Rf t b it) {k : Int} (hk32 : -2147483648 ≤ k ∧ k ≤ 2147483647) : lcase S mL_count mX7_count [.int (iI k)] M L Rf it := by
  obtain ⟨⟨ht, hR, hrs, hto, hsp⟩, ⟨hT, hE, hlkE, hlk, hoE, hto56, hoj1, hoj2⟩, ⟨htl, h12, htp, h13, hnk, hcs⟩, hst, h14, h41, him⟩ := id h
  obtain ⟨⟨hsc, hn3, hnb, hv, hwI⟩, ⟨hz, hnw, hJ, hJm⟩, ⟨hD, hW⟩, ⟨hO, hD2, hW2, hDW⟩, ⟨hWb, hW2b⟩, hSt⟩ := id hst
  have hTC : sp_tok (sp_tC M t) := hE.tok hT
  have eL : M t 1 = M 53 1 := hE.1 1 (by decide) (by decide)
  have e5 : M t 5 = M 53 5 := hE.1 5 (by decide) (by decide)
  have hvC : sp_vok (sp_tC M t) (M 63) := hE.vok hTC hv
  have hlkL : eqL (sp_tC M t) (M (t + 3)) (M 57) := fun l l0 l1 => hlkE l l0 (by rw [← eL]; exact l1)
  have hlkC : sp_lok (sp_tC M t) (M (t + 3)) := hE.lok hTC hlkL hlk
  have hT1 : 0 ≤ M 53 1 ∧ M 53 1 ≤ 6 := hT.2.1
  have hT5 : 1 ≤ M 53 5 ∧ M 53 5 ≤ 99 := hT.2.2.2.2.2.1
  have hn99 : 0 ≤ M 48 29 ∧ M 48 29 ≤ 99 := by have : 0 ≤ M 48 29 ∧ M 48 29 ≤ M 53 5 := hnb; omega
  have hne : M 48 29 ≤ M 53 5 := hnb.2
  have hzC : ∀ l, M t 1 ≤ l → l < 6 → sp_out (M 63) l = false := fun l a b => hz l (by show M 53 1 ≤ l; omega) b
  have hdkC : ∀ j, 0 ≤ j → j < M 48 29 → sp_vok (sp_tC M t) (bk_v (M 7) (M 63) j) := fun j j0 j1 => dk_ok hE hTC hvC (hD j j0 j1) (hD2 j j0 j1)
  have hDM : ∀ j, 0 ≤ j → j < M 48 29 → sp_vok (sp_tR M) (bkM (M 68) (M 70) j) := fun j j0 j1 => bkM_ok hT (hD2 j j0 j1)
  by_cases hc : 0 ≤ k ∧ k ≤ 12
  · refine ⟨0, 0, _, by decide, k_L_count (k_X6_count hR ht hTC hto hk32 hc) (fun v h9 hp => by obtain ⟨rfl, rfl⟩ := hp; exact ⟨_, _, _, _, rfl, rfl⟩), fun v h1 hp => ?_⟩
    obtain ⟨N, L2, Rf2, y, ⟨hp1, hp2⟩, rfl, rfl⟩ := hp
    cases hp1
    refine ⟨M, _, Rf, 0, rfl, rfl, by decide, hR, _, k_X7_count hR hT hv hk32 hc, fun v2 h2 hp9 => ?_⟩
    obtain ⟨N2, rfl, hN2, rfl⟩ := hp9
    refine ⟨N2, _, t, b, rfl, rfl, hN2.2.1, fun _ => ?_, h.cd hN2⟩
    rw [up_s, up_s, Value.int.inj (Option.some.inj hp2)]
    rcases (show k = 0 ∨ k = 1 ∨ k = 2 ∨ k = 3 ∨ k = 4 ∨ k = 5 ∨ k = 6 ∨ k = 7 ∨ k = 8 ∨ k = 9 ∨ k = 10 ∨ k = 11 ∨ k = 12 by omega) with rfl | rfl | rfl | rfl | rfl | rfl | rfl | rfl | rfl | rfl | rfl | rfl | rfl
    · refine congrArg (fun x => (iI x).toInt64) (show M t 0 = M 53 0 from (hE.1 0 (by decide) (by decide)))
    · refine congrArg (fun x => (iI x).toInt64) (show M t 1 = M 53 1 from (hE.1 1 (by decide) (by decide)))
    · refine congrArg (fun x => (iI x).toInt64) (show M t 2 = M 53 2 from (hE.1 2 (by decide) (by decide)))
    · refine congrArg (fun x => (iI x).toInt64) (show M t 3 = M 53 3 from (hE.1 3 (by decide) (by decide)))
    · refine congrArg (fun x => (iI x).toInt64) (show M t 4 = M 53 4 from (hE.1 4 (by decide) (by decide)))
    · refine congrArg (fun x => (iI x).toInt64) (show M t 5 = M 53 5 from (hE.1 5 (by decide) (by decide)))
    · refine congrArg (fun x => (iI x).toInt64) (show M t 6 = M 53 6 from (hE.1 6 (by decide) (by decide)))
    · refine congrArg (fun x => (iI x).toInt64) (show M 3 3 = M 48 29 from hn3)
    · refine congrArg (fun x => (iI x).toInt64) (show M 3 5 = sp_cnt (sp_tR M) (M 63) / 2 from (by rw [hsc.2.2.2.2, hE.cnt hTC]))
    · refine congrArg (fun x => (iI x).toInt64) (show M 0 12 = M 48 15 from h12)
    · refine congrArg (fun x => (iI x).toInt64) (show M 9 0 = M 61 0 from (hSt 0 (by decide) (by decide)).1)
    · refine congrArg (fun x => (iI x).toInt64) (show M 9 1 = M 61 1 from (hSt 1 (by decide) (by decide)).1)
    · refine congrArg (fun x => (iI x).toInt64) (show M 9 2 = M 61 2 from (hSt 2 (by decide) (by decide)).1)
  · refine ⟨1, 6, _, by decide, k_L_count_x (k_X6_count_x hR hk32 hc), fun v h1 hp => ?_⟩
    obtain ⟨rfl, rfl⟩ := hp
    refine ⟨M, L, Rf, 1, rfl, rfl, by decide, hR, _, k_X7_count_x hR hk32 hc, fun v2 h2 hp2 => ?_⟩
    obtain ⟨N2, rfl, hN2, rfl⟩ := hp2
    exact ⟨N2, 0, t, b, rfl, rfl, hN2.2.1, fun z => absurd z (by decide), h.cd hN2⟩
set_option maxHeartbeats 4000000 in
theorem lc_lamp {S : mx_Sc} {M : Nat → Int → Int} {L : Nat → Nat → Int64} {Rf : Nat → Nat → Option Nat} {t : Nat} {b : Bool} {it : Int} (h : rlV M Rf t b it) {l : Int} (hl32 : -2147483648 ≤ l ∧ l ≤ 2147483647) {k : Int} (hk32 : -2147483648 ≤ k ∧ k ≤ 2147483647) : lcase S mL_lamp mX7_lamp [.int (iI l), .int (iI k)] M L Rf it := by
  obtain ⟨⟨ht, hR, hrs, hto, hsp⟩, ⟨hT, hE, hlkE, hlk, hoE, hto56, hoj1, hoj2⟩, ⟨htl, h12, htp, h13, hnk, hcs⟩, hst, h14, h41, him⟩ := id h
  obtain ⟨⟨hsc, hn3, hnb, hv, hwI⟩, ⟨hz, hnw, hJ, hJm⟩, ⟨hD, hW⟩, ⟨hO, hD2, hW2, hDW⟩, ⟨hWb, hW2b⟩, hSt⟩ := id hst
  have hTC : sp_tok (sp_tC M t) := hE.tok hT
  have eL : M t 1 = M 53 1 := hE.1 1 (by decide) (by decide)
  have e5 : M t 5 = M 53 5 := hE.1 5 (by decide) (by decide)
  have hvC : sp_vok (sp_tC M t) (M 63) := hE.vok hTC hv
  have hlkL : eqL (sp_tC M t) (M (t + 3)) (M 57) := fun l l0 l1 => hlkE l l0 (by rw [← eL]; exact l1)
  have hlkC : sp_lok (sp_tC M t) (M (t + 3)) := hE.lok hTC hlkL hlk
  have hT1 : 0 ≤ M 53 1 ∧ M 53 1 ≤ 6 := hT.2.1
  have hT5 : 1 ≤ M 53 5 ∧ M 53 5 ≤ 99 := hT.2.2.2.2.2.1
  have hn99 : 0 ≤ M 48 29 ∧ M 48 29 ≤ 99 := by have : 0 ≤ M 48 29 ∧ M 48 29 ≤ M 53 5 := hnb; omega
  have hne : M 48 29 ≤ M 53 5 := hnb.2
  have hzC : ∀ l, M t 1 ≤ l → l < 6 → sp_out (M 63) l = false := fun l a b => hz l (by show M 53 1 ≤ l; omega) b
  have hdkC : ∀ j, 0 ≤ j → j < M 48 29 → sp_vok (sp_tC M t) (bk_v (M 7) (M 63) j) := fun j j0 j1 => dk_ok hE hTC hvC (hD j j0 j1) (hD2 j j0 j1)
  have hDM : ∀ j, 0 ≤ j → j < M 48 29 → sp_vok (sp_tR M) (bkM (M 68) (M 70) j) := fun j j0 j1 => bkM_ok hT (hD2 j j0 j1)
  by_cases hc : (0 ≤ l ∧ l < M 53 1) ∧ (0 ≤ k ∧ k ≤ 7)
  · refine ⟨0, 0, _, by decide, k_L_lamp (k_X6_lamp hR ht hTC hto hsc hvC hn99 hn3 hl32 hk32 (by rw [eL]; exact hc)) (fun v h9 hp => by obtain ⟨rfl, rfl⟩ := hp; exact ⟨_, _, _, _, rfl, rfl⟩), fun v h1 hp => ?_⟩
    obtain ⟨N, L2, Rf2, y, ⟨hp1, hp2⟩, rfl, rfl⟩ := hp
    cases hp1
    refine ⟨M, _, Rf, 0, rfl, rfl, by decide, hR, _, k_X7_lamp hR hT hl32 hk32 hc, fun v2 h2 hp9 => ?_⟩
    obtain ⟨N2, rfl, hN2, rfl⟩ := hp9
    refine ⟨N2, _, t, b, rfl, rfl, hN2.2.1, fun _ => ?_, h.cd hN2⟩
    rw [up_s, up_s, Value.int.inj (Option.some.inj hp2)]
    rcases (show k = 0 ∨ k = 1 ∨ k = 2 ∨ k = 3 ∨ k = 4 ∨ k = 5 ∨ k = 6 ∨ k = 7 by omega) with rfl | rfl | rfl | rfl | rfl | rfl | rfl | rfl
    · exact congrArg (fun x => (iI x).toInt64) (show M (t + 1) l = M 54 l from (hE.2.1 l hc.1.1 (by show l < M t 1; rw [eL]; exact hc.1.2)).1)
    · exact congrArg (fun x => (iI x).toInt64) (show M (t + 2) l = M 55 l from (hE.2.1 l hc.1.1 (by show l < M t 1; rw [eL]; exact hc.1.2)).2)
    · exact congrArg (fun x => (iI x).toInt64) (show M 63 (3 * l) = M 63 (3 * l) from rfl)
    · exact congrArg (fun x => (iI x).toInt64) (show M 63 (3 * l + 1) = M 63 (3 * l + 1) from rfl)
    · exact congrArg (fun x => (iI x).toInt64) (show M 63 (3 * l + 2) = M 63 (3 * l + 2) from rfl)
    · exact congrArg (fun x => (iI x).toInt64) (show M (t + 3) l = M 57 l from hlkE l hc.1.1 hc.1.2)
    · exact congrArg (fun x => (iI x).toInt64) (show M 63 (18 + l) = M 63 (18 + l) from rfl)
    · exact congrArg (fun x => (iI x).toInt64) (show M 63 (24 + l) = M 63 (24 + l) from rfl)
  · refine ⟨1, 6, _, by decide, k_L_lamp_x (k_X6_lamp_x hR ht hTC hto hl32 hk32 (by rw [eL]; exact hc)), fun v h1 hp => ?_⟩
    obtain ⟨rfl, rfl⟩ := hp
    refine ⟨M, L, Rf, 1, rfl, rfl, by decide, hR, _, k_X7_lamp_x hR hT hl32 hk32 hc, fun v2 h2 hp2 => ?_⟩
    obtain ⟨N2, rfl, hN2, rfl⟩ := hp2
    exact ⟨N2, 0, t, b, rfl, rfl, hN2.2.1, fun z => absurd z (by decide), h.cd hN2⟩
set_option maxHeartbeats 4000000 in
theorem lc_book {S : mx_Sc} {M : Nat → Int → Int} {L : Nat → Nat → Int64} {Rf : Nat → Nat → Option Nat} {t : Nat} {b : Bool} {it : Int} (h : rlV M Rf t b it) {k : Int} (hk32 : -2147483648 ≤ k ∧ k ≤ 2147483647) {l : Int} (hl32 : -2147483648 ≤ l ∧ l ≤ 2147483647) {o : Int} (ho32 : -2147483648 ≤ o ∧ o ≤ 2147483647) : lcase S mL_book mX7_book [.int (iI k), .int (iI l), .int (iI o)] M L Rf it := by
  obtain ⟨⟨ht, hR, hrs, hto, hsp⟩, ⟨hT, hE, hlkE, hlk, hoE, hto56, hoj1, hoj2⟩, ⟨htl, h12, htp, h13, hnk, hcs⟩, hst, h14, h41, him⟩ := id h
  obtain ⟨⟨hsc, hn3, hnb, hv, hwI⟩, ⟨hz, hnw, hJ, hJm⟩, ⟨hD, hW⟩, ⟨hO, hD2, hW2, hDW⟩, ⟨hWb, hW2b⟩, hSt⟩ := id hst
  have hTC : sp_tok (sp_tC M t) := hE.tok hT
  have eL : M t 1 = M 53 1 := hE.1 1 (by decide) (by decide)
  have e5 : M t 5 = M 53 5 := hE.1 5 (by decide) (by decide)
  have hvC : sp_vok (sp_tC M t) (M 63) := hE.vok hTC hv
  have hlkL : eqL (sp_tC M t) (M (t + 3)) (M 57) := fun l l0 l1 => hlkE l l0 (by rw [← eL]; exact l1)
  have hlkC : sp_lok (sp_tC M t) (M (t + 3)) := hE.lok hTC hlkL hlk
  have hT1 : 0 ≤ M 53 1 ∧ M 53 1 ≤ 6 := hT.2.1
  have hT5 : 1 ≤ M 53 5 ∧ M 53 5 ≤ 99 := hT.2.2.2.2.2.1
  have hn99 : 0 ≤ M 48 29 ∧ M 48 29 ≤ 99 := by have : 0 ≤ M 48 29 ∧ M 48 29 ≤ M 53 5 := hnb; omega
  have hne : M 48 29 ≤ M 53 5 := hnb.2
  have hzC : ∀ l, M t 1 ≤ l → l < 6 → sp_out (M 63) l = false := fun l a b => hz l (by show M 53 1 ≤ l; omega) b
  have hdkC : ∀ j, 0 ≤ j → j < M 48 29 → sp_vok (sp_tC M t) (bk_v (M 7) (M 63) j) := fun j j0 j1 => dk_ok hE hTC hvC (hD j j0 j1) (hD2 j j0 j1)
  have hDM : ∀ j, 0 ≤ j → j < M 48 29 → sp_vok (sp_tR M) (bkM (M 68) (M 70) j) := fun j j0 j1 => bkM_ok hT (hD2 j j0 j1)
  by_cases hc : (0 ≤ l ∧ l < M 53 1) ∧ (0 ≤ o ∧ o < 3) ∧ (0 ≤ k ∧ k ≤ M 48 29)
  · refine ⟨0, 0, _, by decide, k_L_book (k_X6_book hR ht hTC hto hn99 hn3 hk32 hl32 ho32 (by rw [eL]; exact hc)) (fun v h9 hp => by obtain ⟨rfl, rfl⟩ := hp; exact ⟨_, _, _, _, rfl, rfl⟩), fun v h1 hp => ?_⟩
    obtain ⟨N, L2, Rf2, y, ⟨hp1, hp2⟩, rfl, rfl⟩ := hp
    cases hp1
    refine ⟨M, _, Rf, 0, rfl, rfl, by decide, hR, _, k_X7_book hR hT hn99 rfl hk32 hl32 ho32 hc, fun v2 h2 hp9 => ?_⟩
    obtain ⟨N2, rfl, hN2, rfl⟩ := hp9
    refine ⟨N2, _, t, b, rfl, rfl, hN2.2.1, fun _ => ?_, h.cd hN2⟩
    rw [up_s, up_s, Value.int.inj (Option.some.inj hp2)]
    have h9 := hW k hc.2.2.1 hc.2.2.2 (l * 3 + o) (by omega) (by show l * 3 + o < 3 * M 53 1; omega)
    rw [show k * 18 + l * 3 + o = k * 18 + (l * 3 + o) by omega, h9, show k * 18 + (l * 3 + o) = 18 * k + 3 * l + o by omega]
  · refine ⟨1, 6, _, by decide, k_L_book_x (k_X6_book_x hR ht hTC hto hn99 hn3 hk32 hl32 ho32 (by rw [eL]; exact hc)), fun v h1 hp => ?_⟩
    obtain ⟨rfl, rfl⟩ := hp
    refine ⟨M, L, Rf, 1, rfl, rfl, by decide, hR, _, k_X7_book_x hR hT hn99 rfl hk32 hl32 ho32 hc, fun v2 h2 hp2 => ?_⟩
    obtain ⟨N2, rfl, hN2, rfl⟩ := hp2
    exact ⟨N2, 0, t, b, rfl, rfl, hN2.2.1, fun z => absurd z (by decide), h.cd hN2⟩
