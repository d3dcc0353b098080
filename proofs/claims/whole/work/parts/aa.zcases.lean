set_option maxHeartbeats 1000000 in
theorem lz_lamp {S : mx_Sc} {M : Nat → Int → Int} {L : Nat → Nat → Int64} {Rf : Nat → Nat → Option Nat} {t : Nat} {b : Bool} {it : Int} (h : rlZ M Rf t b it) {l : Int} (hl32 : -2147483648 ≤ l ∧ l ≤ 2147483647) {k : Int} (hk32 : -2147483648 ≤ k ∧ k ≤ 2147483647) : lcA S mL_lamp mX7_lamp [.int (iI l), .int (iI k)] M L Rf it := by
  obtain ⟨⟨ht, hR, hrs, hto, hsp⟩, ⟨hT, hE, hK, hoj1, hoj2⟩, ⟨htl, h12, htp, h13, hnk, hcs⟩, hst, h14, h41, him⟩ := id h
  obtain ⟨⟨hsc, hn3, hnb⟩, ⟨hJ, hJm, hv2⟩, ⟨hWb, hW2b⟩, hSt⟩ := id hst
  have hTC : sp_tok (sp_tC M t) := hE.tok hT
  have eL : M t 1 = M 53 1 := hE.1 1 (by decide) (by decide)
  have eK : (sp_tC M t).1 1 = 0 := eL.trans hK
  have e5 : M t 5 = M 53 5 := hE.1 5 (by decide) (by decide)
  have hv : sp_vok (sp_tR M) (M 63) := vok0 hK hv2
  have hvC : sp_vok (sp_tC M t) (fun _ => -1) := vok0 eK (fun _ _ _ => by decide)
  have hlk : sp_lok (sp_tR M) (M 57) := lok0 hK _
  have hlkC : sp_lok (sp_tC M t) (M (t + 3)) := lok0 eK _
  have hT5 : 1 ≤ M 53 5 ∧ M 53 5 ≤ 99 := hT.2.2.2.2.2.1
  have hn99 : 0 ≤ M 48 29 ∧ M 48 29 ≤ 99 := by omega
  have hne : M 48 29 ≤ M 53 5 := hnb.2
  have hc : ¬ ((0 ≤ l ∧ l < M 53 1) ∧ (0 ≤ k ∧ k ≤ 7)) := by omega
  refine ⟨1, 6, _, by decide, k_L_lamp_x (k_X6_lamp_x hR ht hTC hto hl32 hk32 (by rw [eL]; exact hc)), fun v h1 hp => ?_⟩
  obtain ⟨rfl, rfl⟩ := hp
  refine ⟨M, L, Rf, 1, rfl, rfl, by decide, hR, _, k_X7_lamp_x hR hT hl32 hk32 hc, fun v2 h2 hp2 => ?_⟩
  obtain ⟨N2, rfl, hN2, rfl⟩ := hp2
  exact ⟨N2, 0, rfl, rfl, hN2.2.1, fun z => absurd z (by decide), t, b, Or.inr (h.cd hN2)⟩
set_option maxHeartbeats 1000000 in
theorem lz_far {S : mx_Sc} {M : Nat → Int → Int} {L : Nat → Nat → Int64} {Rf : Nat → Nat → Option Nat} {t : Nat} {b : Bool} {it : Int} (h : rlZ M Rf t b it) {l : Int} (hl32 : -2147483648 ≤ l ∧ l ≤ 2147483647) {o : Int} (ho32 : -2147483648 ≤ o ∧ o ≤ 2147483647) : lcA S mL_far mX7_far [.int (iI l), .int (iI o)] M L Rf it := by
  obtain ⟨⟨ht, hR, hrs, hto, hsp⟩, ⟨hT, hE, hK, hoj1, hoj2⟩, ⟨htl, h12, htp, h13, hnk, hcs⟩, hst, h14, h41, him⟩ := id h
  obtain ⟨⟨hsc, hn3, hnb⟩, ⟨hJ, hJm, hv2⟩, ⟨hWb, hW2b⟩, hSt⟩ := id hst
  have hTC : sp_tok (sp_tC M t) := hE.tok hT
  have eL : M t 1 = M 53 1 := hE.1 1 (by decide) (by decide)
  have eK : (sp_tC M t).1 1 = 0 := eL.trans hK
  have e5 : M t 5 = M 53 5 := hE.1 5 (by decide) (by decide)
  have hv : sp_vok (sp_tR M) (M 63) := vok0 hK hv2
  have hvC : sp_vok (sp_tC M t) (fun _ => -1) := vok0 eK (fun _ _ _ => by decide)
  have hlk : sp_lok (sp_tR M) (M 57) := lok0 hK _
  have hlkC : sp_lok (sp_tC M t) (M (t + 3)) := lok0 eK _
  have hT5 : 1 ≤ M 53 5 ∧ M 53 5 ≤ 99 := hT.2.2.2.2.2.1
  have hn99 : 0 ≤ M 48 29 ∧ M 48 29 ≤ 99 := by omega
  have hne : M 48 29 ≤ M 53 5 := hnb.2
  have hc : ¬ ((0 ≤ l ∧ l < M 53 1) ∧ (0 ≤ o ∧ o < M 53 1)) := by omega
  refine ⟨1, 6, _, by decide, k_L_far_x (k_X6_far_x hR ht hTC hto hl32 ho32 (by rw [eL]; exact hc)), fun v h1 hp => ?_⟩
  obtain ⟨rfl, rfl⟩ := hp
  refine ⟨M, L, Rf, 1, rfl, rfl, by decide, hR, _, k_X7_far_x hR hT hl32 ho32 hc, fun v2 h2 hp2 => ?_⟩
  obtain ⟨N2, rfl, hN2, rfl⟩ := hp2
  exact ⟨N2, 0, rfl, rfl, hN2.2.1, fun z => absurd z (by decide), t, b, Or.inr (h.cd hN2)⟩
set_option maxHeartbeats 1000000 in
theorem lz_book {S : mx_Sc} {M : Nat → Int → Int} {L : Nat → Nat → Int64} {Rf : Nat → Nat → Option Nat} {t : Nat} {b : Bool} {it : Int} (h : rlZ M Rf t b it) {k : Int} (hk32 : -2147483648 ≤ k ∧ k ≤ 2147483647) {l : Int} (hl32 : -2147483648 ≤ l ∧ l ≤ 2147483647) {o : Int} (ho32 : -2147483648 ≤ o ∧ o ≤ 2147483647) : lcA S mL_book mX7_book [.int (iI k), .int (iI l), .int (iI o)] M L Rf it := by
  obtain ⟨⟨ht, hR, hrs, hto, hsp⟩, ⟨hT, hE, hK, hoj1, hoj2⟩, ⟨htl, h12, htp, h13, hnk, hcs⟩, hst, h14, h41, him⟩ := id h
  obtain ⟨⟨hsc, hn3, hnb⟩, ⟨hJ, hJm, hv2⟩, ⟨hWb, hW2b⟩, hSt⟩ := id hst
  have hTC : sp_tok (sp_tC M t) := hE.tok hT
  have eL : M t 1 = M 53 1 := hE.1 1 (by decide) (by decide)
  have eK : (sp_tC M t).1 1 = 0 := eL.trans hK
  have e5 : M t 5 = M 53 5 := hE.1 5 (by decide) (by decide)
  have hv : sp_vok (sp_tR M) (M 63) := vok0 hK hv2
  have hvC : sp_vok (sp_tC M t) (fun _ => -1) := vok0 eK (fun _ _ _ => by decide)
  have hlk : sp_lok (sp_tR M) (M 57) := lok0 hK _
  have hlkC : sp_lok (sp_tC M t) (M (t + 3)) := lok0 eK _
  have hT5 : 1 ≤ M 53 5 ∧ M 53 5 ≤ 99 := hT.2.2.2.2.2.1
  have hn99 : 0 ≤ M 48 29 ∧ M 48 29 ≤ 99 := by omega
  have hne : M 48 29 ≤ M 53 5 := hnb.2
  have hc : ¬ ((0 ≤ l ∧ l < M 53 1) ∧ (0 ≤ o ∧ o < 3) ∧ (0 ≤ k ∧ k ≤ M 48 29)) := by omega
  refine ⟨1, 6, _, by decide, k_L_book_x (k_X6_book_x hR ht hTC hto hn99 hn3 hk32 hl32 ho32 (by rw [eL]; exact hc)), fun v h1 hp => ?_⟩
  obtain ⟨rfl, rfl⟩ := hp
  refine ⟨M, L, Rf, 1, rfl, rfl, by decide, hR, _, k_X7_book_x hR hT hn99 rfl hk32 hl32 ho32 hc, fun v2 h2 hp2 => ?_⟩
  obtain ⟨N2, rfl, hN2, rfl⟩ := hp2
  exact ⟨N2, 0, rfl, rfl, hN2.2.1, fun z => absurd z (by decide), t, b, Or.inr (h.cd hN2)⟩
set_option maxHeartbeats 1000000 in
theorem lz_drop {S : mx_Sc} {M : Nat → Int → Int} {L : Nat → Nat → Int64} {Rf : Nat → Nat → Option Nat} {t : Nat} {b : Bool} {it : Int} (h : rlZ M Rf t b it) {l : Int} (hl32 : -2147483648 ≤ l ∧ l ≤ 2147483647) {i : Int} (hi32 : -2147483648 ≤ i ∧ i ≤ 2147483647) {j : Int} (hj32 : -2147483648 ≤ j ∧ j ≤ 2147483647) : lcAD S mL_drop mX7_drop [.int (iI l), .int (iI i), .int (iI j)] M L Rf it := by
  obtain ⟨⟨ht, hR, hrs, hto, hsp⟩, ⟨hT, hE, hK, hoj1, hoj2⟩, ⟨htl, h12, htp, h13, hnk, hcs⟩, hst, h14, h41, him⟩ := id h
  obtain ⟨⟨hsc, hn3, hnb⟩, ⟨hJ, hJm, hv2⟩, ⟨hWb, hW2b⟩, hSt⟩ := id hst
  have hTC : sp_tok (sp_tC M t) := hE.tok hT
  have eL : M t 1 = M 53 1 := hE.1 1 (by decide) (by decide)
  have eK : (sp_tC M t).1 1 = 0 := eL.trans hK
  have e5 : M t 5 = M 53 5 := hE.1 5 (by decide) (by decide)
  have hv : sp_vok (sp_tR M) (M 63) := vok0 hK hv2
  have hvC : sp_vok (sp_tC M t) (fun _ => -1) := vok0 eK (fun _ _ _ => by decide)
  have hlk : sp_lok (sp_tR M) (M 57) := lok0 hK _
  have hlkC : sp_lok (sp_tC M t) (M (t + 3)) := lok0 eK _
  have hT5 : 1 ≤ M 53 5 ∧ M 53 5 ≤ 99 := hT.2.2.2.2.2.1
  have hn99 : 0 ≤ M 48 29 ∧ M 48 29 ≤ 99 := by omega
  have hne : M 48 29 ≤ M 53 5 := hnb.2
  have hc : ¬ ((0 ≤ l ∧ l < M 53 1) ∧ (0 ≤ i ∧ i < 3) ∧ (0 ≤ j ∧ j < 3) ∧ i ≠ j) := by omega
  refine ⟨1, 6, _, by decide, k_L_drop_x (k_X6_drop_x hR ht hTC hto hl32 hi32 hj32 (by rw [eL]; exact hc)), fun v h1 hp => ?_⟩
  obtain ⟨rfl, rfl⟩ := hp
  refine ⟨M, L, Rf, 1, rfl, rfl, by decide, hR, _, k_X7_drop_x hR hT hl32 hi32 hj32 hc, fun v2 h2 hp2 => ?_⟩
  obtain ⟨N2, rfl, hN2, rfl⟩ := hp2
  exact ⟨N2, false, rfl, rfl, hN2.2.1, fun z => absurd z (by decide), t, b, Or.inr (h.cd hN2)⟩
set_option maxHeartbeats 1000000 in
theorem lz_mother {S : mx_Sc} {M : Nat → Int → Int} {L : Nat → Nat → Int64} {Rf : Nat → Nat → Option Nat} {t : Nat} {b : Bool} {it : Int} (h : rlZ M Rf t b it) {l : Int} (hl32 : -2147483648 ≤ l ∧ l ≤ 2147483647) {k : Int} (hk32 : -2147483648 ≤ k ∧ k ≤ 2147483647) : lcA S mL_mother mX7_mother [.int (iI l), .int (iI k)] M L Rf it := by
  obtain ⟨⟨ht, hR, hrs, hto, hsp⟩, ⟨hT, hE, hK, hoj1, hoj2⟩, ⟨htl, h12, htp, h13, hnk, hcs⟩, hst, h14, h41, him⟩ := id h
  obtain ⟨⟨hsc, hn3, hnb⟩, ⟨hJ, hJm, hv2⟩, ⟨hWb, hW2b⟩, hSt⟩ := id hst
  have hTC : sp_tok (sp_tC M t) := hE.tok hT
  have eL : M t 1 = M 53 1 := hE.1 1 (by decide) (by decide)
  have eK : (sp_tC M t).1 1 = 0 := eL.trans hK
  have e5 : M t 5 = M 53 5 := hE.1 5 (by decide) (by decide)
  have hv : sp_vok (sp_tR M) (M 63) := vok0 hK hv2
  have hvC : sp_vok (sp_tC M t) (fun _ => -1) := vok0 eK (fun _ _ _ => by decide)
  have hlk : sp_lok (sp_tR M) (M 57) := lok0 hK _
  have hlkC : sp_lok (sp_tC M t) (M (t + 3)) := lok0 eK _
  have hT5 : 1 ≤ M 53 5 ∧ M 53 5 ≤ 99 := hT.2.2.2.2.2.1
  have hn99 : 0 ≤ M 48 29 ∧ M 48 29 ≤ 99 := by omega
  have hne : M 48 29 ≤ M 53 5 := hnb.2
  have hc : ¬ ((0 ≤ l ∧ l < M 53 1) ∧ (0 ≤ k ∧ k < 2)) := by omega
  refine ⟨1, 6, _, by decide, k_L_mother_x (k_X6_mother_x hR ht hTC hto hl32 hk32 (by rw [eL]; exact hc)), fun v h1 hp => ?_⟩
  obtain ⟨rfl, rfl⟩ := hp
  refine ⟨M, L, Rf, 1, rfl, rfl, by decide, hR, _, k_X7_mother_x hR hT hl32 hk32 hc, fun v2 h2 hp2 => ?_⟩
  obtain ⟨N2, rfl, hN2, rfl⟩ := hp2
  exact ⟨N2, 0, rfl, rfl, hN2.2.1, fun z => absurd z (by decide), t, b, Or.inr (h.cd hN2)⟩
set_option maxHeartbeats 1000000 in
theorem lz_may {S : mx_Sc} {M : Nat → Int → Int} {L : Nat → Nat → Int64} {Rf : Nat → Nat → Option Nat} {t : Nat} {b : Bool} {it : Int} (h : rlZ M Rf t b it) {l : Int} (hl32 : -2147483648 ≤ l ∧ l ≤ 2147483647) : lcA S mL_may mX7_may [.int (iI l)] M L Rf it := by
  obtain ⟨⟨ht, hR, hrs, hto, hsp⟩, ⟨hT, hE, hK, hoj1, hoj2⟩, ⟨htl, h12, htp, h13, hnk, hcs⟩, hst, h14, h41, him⟩ := id h
  obtain ⟨⟨hsc, hn3, hnb⟩, ⟨hJ, hJm, hv2⟩, ⟨hWb, hW2b⟩, hSt⟩ := id hst
  have hTC : sp_tok (sp_tC M t) := hE.tok hT
  have eL : M t 1 = M 53 1 := hE.1 1 (by decide) (by decide)
  have eK : (sp_tC M t).1 1 = 0 := eL.trans hK
  have e5 : M t 5 = M 53 5 := hE.1 5 (by decide) (by decide)
  have hv : sp_vok (sp_tR M) (M 63) := vok0 hK hv2
  have hvC : sp_vok (sp_tC M t) (fun _ => -1) := vok0 eK (fun _ _ _ => by decide)
  have hlk : sp_lok (sp_tR M) (M 57) := lok0 hK _
  have hlkC : sp_lok (sp_tC M t) (M (t + 3)) := lok0 eK _
  have hT5 : 1 ≤ M 53 5 ∧ M 53 5 ≤ 99 := hT.2.2.2.2.2.1
  have hn99 : 0 ≤ M 48 29 ∧ M 48 29 ≤ 99 := by omega
  have hne : M 48 29 ≤ M 53 5 := hnb.2
  have hc : ¬ (0 ≤ l ∧ l < M 53 1) := by omega
  refine ⟨1, 6, _, by decide, k_L_may_x (k_X6_may_x hR ht hTC hto hl32 (by rw [eL]; exact hc)), fun v h1 hp => ?_⟩
  obtain ⟨rfl, rfl⟩ := hp
  refine ⟨M, L, Rf, 1, rfl, rfl, by decide, hR, _, k_X7_may_x hR hT hl32 hc, fun v2 h2 hp2 => ?_⟩
  obtain ⟨N2, rfl, hN2, rfl⟩ := hp2
  exact ⟨N2, 0, rfl, rfl, hN2.2.1, fun z => absurd z (by decide), t, b, Or.inr (h.cd hN2)⟩
set_option maxHeartbeats 1000000 in
theorem lz_tells {S : mx_Sc} {M : Nat → Int → Int} {L : Nat → Nat → Int64} {Rf : Nat → Nat → Option Nat} {t : Nat} {b : Bool} {it : Int} (h : rlZ M Rf t b it) {l : Int} (hl32 : -2147483648 ≤ l ∧ l ≤ 2147483647) {z2 : Int} (hz232 : -2147483648 ≤ z2 ∧ z2 ≤ 2147483647) : lcA S mL_tells mX7_tells [.int (iI l), .int (iI z2)] M L Rf it := by
  obtain ⟨⟨ht, hR, hrs, hto, hsp⟩, ⟨hT, hE, hK, hoj1, hoj2⟩, ⟨htl, h12, htp, h13, hnk, hcs⟩, hst, h14, h41, him⟩ := id h
  obtain ⟨⟨hsc, hn3, hnb⟩, ⟨hJ, hJm, hv2⟩, ⟨hWb, hW2b⟩, hSt⟩ := id hst
  have hTC : sp_tok (sp_tC M t) := hE.tok hT
  have eL : M t 1 = M 53 1 := hE.1 1 (by decide) (by decide)
  have eK : (sp_tC M t).1 1 = 0 := eL.trans hK
  have e5 : M t 5 = M 53 5 := hE.1 5 (by decide) (by decide)
  have hv : sp_vok (sp_tR M) (M 63) := vok0 hK hv2
  have hvC : sp_vok (sp_tC M t) (fun _ => -1) := vok0 eK (fun _ _ _ => by decide)
  have hlk : sp_lok (sp_tR M) (M 57) := lok0 hK _
  have hlkC : sp_lok (sp_tC M t) (M (t + 3)) := lok0 eK _
  have hT5 : 1 ≤ M 53 5 ∧ M 53 5 ≤ 99 := hT.2.2.2.2.2.1
  have hn99 : 0 ≤ M 48 29 ∧ M 48 29 ≤ 99 := by omega
  have hne : M 48 29 ≤ M 53 5 := hnb.2
  have hc : ¬ ((0 ≤ l ∧ l < M 53 1) ∧ (0 ≤ z2 ∧ z2 < 2)) := by omega
  refine ⟨1, 6, _, by decide, k_L_tells_x (k_X6_tells_x hR ht hTC hto hl32 hz232 (by rw [eL]; exact hc)), fun v h1 hp => ?_⟩
  obtain ⟨rfl, rfl⟩ := hp
  refine ⟨M, L, Rf, 1, rfl, rfl, by decide, hR, _, k_X7_tells_x hR hT hl32 hz232 hc, fun v2 h2 hp2 => ?_⟩
  obtain ⟨N2, rfl, hN2, rfl⟩ := hp2
  exact ⟨N2, 0, rfl, rfl, hN2.2.1, fun z => absurd z (by decide), t, b, Or.inr (h.cd hN2)⟩
set_option maxHeartbeats 1000000 in
theorem lz_years {S : mx_Sc} {M : Nat → Int → Int} {L : Nat → Nat → Int64} {Rf : Nat → Nat → Option Nat} {t : Nat} {b : Bool} {it : Int} (h : rlZ M Rf t b it) {l : Int} (hl32 : -2147483648 ≤ l ∧ l ≤ 2147483647) {s : Int} {u : Int} (hu32 : -2147483648 ≤ u ∧ u ≤ 2147483647) : lcA S mL_years mX7_years [.int (iI l), .int (iI s), .int (iI u)] M L Rf it := by
  obtain ⟨⟨ht, hR, hrs, hto, hsp⟩, ⟨hT, hE, hK, hoj1, hoj2⟩, ⟨htl, h12, htp, h13, hnk, hcs⟩, hst, h14, h41, him⟩ := id h
  obtain ⟨⟨hsc, hn3, hnb⟩, ⟨hJ, hJm, hv2⟩, ⟨hWb, hW2b⟩, hSt⟩ := id hst
  have hTC : sp_tok (sp_tC M t) := hE.tok hT
  have eL : M t 1 = M 53 1 := hE.1 1 (by decide) (by decide)
  have eK : (sp_tC M t).1 1 = 0 := eL.trans hK
  have e5 : M t 5 = M 53 5 := hE.1 5 (by decide) (by decide)
  have hv : sp_vok (sp_tR M) (M 63) := vok0 hK hv2
  have hvC : sp_vok (sp_tC M t) (fun _ => -1) := vok0 eK (fun _ _ _ => by decide)
  have hlk : sp_lok (sp_tR M) (M 57) := lok0 hK _
  have hlkC : sp_lok (sp_tC M t) (M (t + 3)) := lok0 eK _
  have hT5 : 1 ≤ M 53 5 ∧ M 53 5 ≤ 99 := hT.2.2.2.2.2.1
  have hn99 : 0 ≤ M 48 29 ∧ M 48 29 ≤ 99 := by omega
  have hne : M 48 29 ≤ M 53 5 := hnb.2
  have hl : ¬ (0 ≤ l ∧ l < M 53 1) := by omega
  refine ⟨1, 6, _, by decide, k_L_years_x (k_X6_years_x hR ht hTC hto hl32 hu32 (by rw [eL]; exact hl)), fun v h1 hp => ?_⟩
  obtain ⟨rfl, rfl⟩ := hp
  refine ⟨M, L, Rf, 1, rfl, rfl, by decide, hR, _, k_X7_years_x hR hT hl32 hu32 hl, fun v2 h2 hp2 => ?_⟩
  obtain ⟨N2, rfl, hN2, rfl⟩ := hp2
  exact ⟨N2, 0, rfl, rfl, hN2.2.1, fun z => absurd z (by decide), t, b, Or.inr (h.cd hN2)⟩
set_option maxHeartbeats 1000000 in
theorem lz_mothers {S : mx_Sc} {M : Nat → Int → Int} {L : Nat → Nat → Int64} {Rf : Nat → Nat → Option Nat} {t : Nat} {b : Bool} {it : Int} (h : rlZ M Rf t b it) {x : Int} (hx32 : -2147483648 ≤ x ∧ x ≤ 2147483647) {k : Int} (hk32 : -2147483648 ≤ k ∧ k ≤ 2147483647) : lcA S mL_mothers mX7_mothers [.int (iI x), .int (iI k)] M L Rf it := by
  obtain ⟨⟨ht, hR, hrs, hto, hsp⟩, ⟨hT, hE, hK, hoj1, hoj2⟩, ⟨htl, h12, htp, h13, hnk, hcs⟩, hst, h14, h41, him⟩ := id h
  obtain ⟨⟨hsc, hn3, hnb⟩, ⟨hJ, hJm, hv2⟩, ⟨hWb, hW2b⟩, hSt⟩ := id hst
  have hTC : sp_tok (sp_tC M t) := hE.tok hT
  have eL : M t 1 = M 53 1 := hE.1 1 (by decide) (by decide)
  have eK : (sp_tC M t).1 1 = 0 := eL.trans hK
  have e5 : M t 5 = M 53 5 := hE.1 5 (by decide) (by decide)
  have hv : sp_vok (sp_tR M) (M 63) := vok0 hK hv2
  have hvC : sp_vok (sp_tC M t) (fun _ => -1) := vok0 eK (fun _ _ _ => by decide)
  have hlk : sp_lok (sp_tR M) (M 57) := lok0 hK _
  have hlkC : sp_lok (sp_tC M t) (M (t + 3)) := lok0 eK _
  have hT5 : 1 ≤ M 53 5 ∧ M 53 5 ≤ 99 := hT.2.2.2.2.2.1
  have hn99 : 0 ≤ M 48 29 ∧ M 48 29 ≤ 99 := by omega
  have hne : M 48 29 ≤ M 53 5 := hnb.2
  have hch0 : ∀ v : Int → Int, ¬ chP 0 v x := fun v z => by
    have h1 := z.1
    rw [show (2 : Int) ^ (0 : Int).toNat = 1 from rfl] at h1
    omega
  by_cases hk : 0 ≤ k ∧ k < 2
  · refine ⟨1, 6, _, by decide, k_L_mothers_y (k_X6_mothers_y hR ht hTC hto hsc hx32 hk32 hk (by rw [eL, hK]; exact hch0 _)), fun v h1 hp => ?_⟩
    obtain ⟨rfl, rfl⟩ := hp
    refine ⟨M, L, Rf, 2, rfl, rfl, by decide, hR, _, k_X7_mothers_y hR hT hv hx32 hk32 hk (by rw [hK]; exact hch0 _), fun v2 h2 hp2 => ?_⟩
    obtain ⟨N2, rfl, rfl, hN2, hN4, hN48⟩ := hp2
    exact ⟨N2, 0, rfl, rfl, hN4, fun z => absurd z (by decide), t, b, Or.inr (h.mdl (fun y hx => hN2 y (by intro z; subst z; cases hx) (by intro z; subst z; cases hx)) (fun k k4 k38 _ => hN48 k k4 k38) (fun z l l0 l1 => by rw [hN2 64 (by decide) (by decide)]; exact z l l0 l1))⟩
  · refine ⟨1, 6, _, by decide, k_L_mothers_x (k_X6_mothers_x hR ht hTC hto hx32 hk32 hk), fun v h1 hp => ?_⟩
    obtain ⟨rfl, rfl⟩ := hp
    refine ⟨M, L, Rf, 1, rfl, rfl, by decide, hR, _, k_X7_mothers_x hR hx32 hk32 hk, fun v2 h2 hp2 => ?_⟩
    obtain ⟨N2, rfl, hN2, rfl⟩ := hp2
    exact ⟨N2, 0, rfl, rfl, hN2.2.1, fun z => absurd z (by decide), t, b, Or.inr (h.cd hN2)⟩
set_option maxHeartbeats 1000000 in
theorem lz_count {S : mx_Sc} {M : Nat → Int → Int} {L : Nat → Nat → Int64} {Rf : Nat → Nat → Option Nat} {t : Nat} {b : Bool} {it : Int} (h : rlZ M Rf t b it) {k : Int} (hk32 : -2147483648 ≤ k ∧ k ≤ 2147483647) : lcA S mL_count mX7_count [.int (iI k)] M L Rf it := by
  obtain ⟨⟨ht, hR, hrs, hto, hsp⟩, ⟨hT, hE, hK, hoj1, hoj2⟩, ⟨htl, h12, htp, h13, hnk, hcs⟩, hst, h14, h41, him⟩ := id h
  obtain ⟨⟨hsc, hn3, hnb⟩, ⟨hJ, hJm, hv2⟩, ⟨hWb, hW2b⟩, hSt⟩ := id hst
  have hTC : sp_tok (sp_tC M t) := hE.tok hT
  have eL : M t 1 = M 53 1 := hE.1 1 (by decide) (by decide)
  have eK : (sp_tC M t).1 1 = 0 := eL.trans hK
  have e5 : M t 5 = M 53 5 := hE.1 5 (by decide) (by decide)
  have hv : sp_vok (sp_tR M) (M 63) := vok0 hK hv2
  have hvC : sp_vok (sp_tC M t) (fun _ => -1) := vok0 eK (fun _ _ _ => by decide)
  have hlk : sp_lok (sp_tR M) (M 57) := lok0 hK _
  have hlkC : sp_lok (sp_tC M t) (M (t + 3)) := lok0 eK _
  have hT5 : 1 ≤ M 53 5 ∧ M 53 5 ≤ 99 := hT.2.2.2.2.2.1
  have hn99 : 0 ≤ M 48 29 ∧ M 48 29 ≤ 99 := by omega
  have hne : M 48 29 ≤ M 53 5 := hnb.2
  by_cases hc : 0 ≤ k ∧ k ≤ 12
  · refine ⟨0, 0, _, by decide, k_L_count (k_X6_count hR ht hTC hto hk32 hc) (fun v h9 hp => by obtain ⟨rfl, rfl⟩ := hp; exact ⟨_, _, _, _, rfl, rfl⟩), fun v h1 hp => ?_⟩
    obtain ⟨N, L2, Rf2, y, ⟨hp1, hp2⟩, rfl, rfl⟩ := hp
    cases hp1
    refine ⟨M, _, Rf, 0, rfl, rfl, by decide, hR, _, k_X7_count hR hT hv hk32 hc, fun v2 h2 hp9 => ?_⟩
    obtain ⟨N2, rfl, hN2, rfl⟩ := hp9
    refine ⟨N2, _, rfl, rfl, hN2.2.1, fun _ => ?_, t, b, Or.inr (h.cd hN2)⟩
    rw [up_s, up_s, Value.int.inj (Option.some.inj hp2)]
    rcases (show k = 0 ∨ k = 1 ∨ k = 2 ∨ k = 3 ∨ k = 4 ∨ k = 5 ∨ k = 6 ∨ k = 7 ∨ k = 8 ∨ k = 9 ∨ k = 10 ∨ k = 11 ∨ k = 12 by omega) with rfl | rfl | rfl | rfl | rfl | rfl | rfl | rfl | rfl | rfl | rfl | rfl | rfl
    · refine congrArg (fun x => (iI x).toInt64) (show M t 0 = M 53 0 from (hE.1 0 (by decide) (by decide)))
    · refine congrArg (fun x => (iI x).toInt64) (show M t 1 = M 53 1 from (hE.1 1 (by decide) (by decide)))
    · refine congrArg (fun x => (iI x).toInt64) (show M t 2 = M 53 2 from (hE.1 2 (by decide) (by decide)))
    · refine congrArg (fun x => (iI x).toInt64) (show M t 3 = M 53 3 from (hE.1 3 (by decide) (by decide)))
    · refine congrArg (fun x => (iI x).toInt64) (show M t 4 = M 53 4 from (hE.1 4 (by decide) (by decide)))
    · refine congrArg (fun x => (iI x).toInt64) (show M t 5 = M 53 5 from (hE.1 5 (by decide) (by decide)))
    · refine congrArg (fun x => (iI x).toInt64) (show M t 6 = M 53 6 from (hE.1 6 (by decide) (by decide)))
    · refine congrArg (fun x => (iI x).toInt64) (show M 3 3 = M 48 29 from hn3)
    · refine congrArg (fun x => (iI x).toInt64) (show M 3 5 = sp_cnt (sp_tR M) (M 63) / 2 from (by rw [hsc.2.2.2.2, cnt0 eK, cnt0 (t := sp_tR M) hK]))
    · refine congrArg (fun x => (iI x).toInt64) (show M 0 12 = M 48 15 from h12)
    · refine congrArg (fun x => (iI x).toInt64) (show M 9 0 = M 61 0 from (hSt 0 (by decide) (by decide)).1)
    · refine congrArg (fun x => (iI x).toInt64) (show M 9 1 = M 61 1 from (hSt 1 (by decide) (by decide)).1)
    · refine congrArg (fun x => (iI x).toInt64) (show M 9 2 = M 61 2 from (hSt 2 (by decide) (by decide)).1)
  · refine ⟨1, 6, _, by decide, k_L_count_x (k_X6_count_x hR hk32 hc), fun v h1 hp => ?_⟩
    obtain ⟨rfl, rfl⟩ := hp
    refine ⟨M, L, Rf, 1, rfl, rfl, by decide, hR, _, k_X7_count_x hR hk32 hc, fun v2 h2 hp2 => ?_⟩
    obtain ⟨N2, rfl, hN2, rfl⟩ := hp2
    exact ⟨N2, 0, rfl, rfl, hN2.2.1, fun z => absurd z (by decide), t, b, Or.inr (h.cd hN2)⟩
set_option maxHeartbeats 1000000 in
theorem lz_near {S : mx_Sc} {M : Nat → Int → Int} {L : Nat → Nat → Int64} {Rf : Nat → Nat → Option Nat} {t : Nat} {b : Bool} {it : Int} (h : rlZ M Rf t b it) {k : Int} (hk32 : -2147483648 ≤ k ∧ k ≤ 2147483647) : lcA S mL_near mX7_near [.int (iI k)] M L Rf it := by
  obtain ⟨⟨ht, hR, hrs, hto, hsp⟩, ⟨hT, hE, hK, hoj1, hoj2⟩, ⟨htl, h12, htp, h13, hnk, hcs⟩, hst, h14, h41, him⟩ := id h
  obtain ⟨⟨hsc, hn3, hnb⟩, ⟨hJ, hJm, hv2⟩, ⟨hWb, hW2b⟩, hSt⟩ := id hst
  have hTC : sp_tok (sp_tC M t) := hE.tok hT
  have eL : M t 1 = M 53 1 := hE.1 1 (by decide) (by decide)
  have eK : (sp_tC M t).1 1 = 0 := eL.trans hK
  have e5 : M t 5 = M 53 5 := hE.1 5 (by decide) (by decide)
  have hv : sp_vok (sp_tR M) (M 63) := vok0 hK hv2
  have hvC : sp_vok (sp_tC M t) (fun _ => -1) := vok0 eK (fun _ _ _ => by decide)
  have hlk : sp_lok (sp_tR M) (M 57) := lok0 hK _
  have hlkC : sp_lok (sp_tC M t) (M (t + 3)) := lok0 eK _
  have hT5 : 1 ≤ M 53 5 ∧ M 53 5 ≤ 99 := hT.2.2.2.2.2.1
  have hn99 : 0 ≤ M 48 29 ∧ M 48 29 ≤ 99 := by omega
  have hne : M 48 29 ≤ M 53 5 := hnb.2
  by_cases hc : 0 ≤ k ∧ k ≤ 30
  · refine ⟨0, 0, _, by decide, k_L_near (k_X6_near hR ht hTC hto hsc hvC hn99 hn3 hc hk32) (fun v h9 hp => by obtain ⟨rfl, rfl⟩ := hp; exact ⟨_, _, _, _, rfl, rfl⟩), fun v h1 hp => ?_⟩
    obtain ⟨N, L2, Rf2, y, ⟨hp1, hp2⟩, rfl, rfl⟩ := hp
    cases hp1
    refine ⟨M, _, Rf, 0, rfl, rfl, by decide, hR, _, k_X7_near hR hT hv hk32 hc, fun v2 h2 hp9 => ?_⟩
    obtain ⟨N2, rfl, hN2, rfl⟩ := hp9
    refine ⟨N2, _, rfl, rfl, hN2.2.1, fun _ => ?_, t, b, Or.inr (h.cd hN2)⟩
    rw [up_s, up_s, Value.int.inj (Option.some.inj hp2)]
    rw [eL, hK]
    rfl
  · refine ⟨1, 6, _, by decide, k_L_near_x (k_X6_near_x hR hk32 hc), fun v h1 hp => ?_⟩
    obtain ⟨rfl, rfl⟩ := hp
    refine ⟨M, L, Rf, 1, rfl, rfl, by decide, hR, _, k_X7_near_x hR hk32 hc, fun v2 h2 hp2 => ?_⟩
    obtain ⟨N2, rfl, hN2, rfl⟩ := hp2
    exact ⟨N2, 0, rfl, rfl, hN2.2.1, fun z => absurd z (by decide), t, b, Or.inr (h.cd hN2)⟩
set_option maxHeartbeats 1000000 in
theorem lz_matches {S : mx_Sc} {M : Nat → Int → Int} {L : Nat → Nat → Int64} {Rf : Nat → Nat → Option Nat} {t : Nat} {b : Bool} {it : Int} (h : rlZ M Rf t b it) {k : Int} (hk32 : -2147483648 ≤ k ∧ k ≤ 2147483647) : lcA S mL_matches mX7_matches [.int (iI k)] M L Rf it := by
  obtain ⟨⟨ht, hR, hrs, hto, hsp⟩, ⟨hT, hE, hK, hoj1, hoj2⟩, ⟨htl, h12, htp, h13, hnk, hcs⟩, hst, h14, h41, him⟩ := id h
  obtain ⟨⟨hsc, hn3, hnb⟩, ⟨hJ, hJm, hv2⟩, ⟨hWb, hW2b⟩, hSt⟩ := id hst
  have hTC : sp_tok (sp_tC M t) := hE.tok hT
  have eL : M t 1 = M 53 1 := hE.1 1 (by decide) (by decide)
  have eK : (sp_tC M t).1 1 = 0 := eL.trans hK
  have e5 : M t 5 = M 53 5 := hE.1 5 (by decide) (by decide)
  have hv : sp_vok (sp_tR M) (M 63) := vok0 hK hv2
  have hvC : sp_vok (sp_tC M t) (fun _ => -1) := vok0 eK (fun _ _ _ => by decide)
  have hlk : sp_lok (sp_tR M) (M 57) := lok0 hK _
  have hlkC : sp_lok (sp_tC M t) (M (t + 3)) := lok0 eK _
  have hT5 : 1 ≤ M 53 5 ∧ M 53 5 ≤ 99 := hT.2.2.2.2.2.1
  have hn99 : 0 ≤ M 48 29 ∧ M 48 29 ≤ 99 := by omega
  have hne : M 48 29 ≤ M 53 5 := hnb.2
  by_cases hc : 0 ≤ k ∧ k ≤ 3
  · obtain ⟨hf, ng, rfl⟩ : ∃ hf ng : Bool, k = bI hf + 2 * bI ng := by
      rcases (show k = 0 ∨ k = 1 ∨ k = 2 ∨ k = 3 by omega) with rfl | rfl | rfl | rfl
      · exact ⟨false, false, rfl⟩
      · exact ⟨true, false, rfl⟩
      · exact ⟨false, true, rfl⟩
      · exact ⟨true, true, rfl⟩
    refine ⟨0, 0, _, by decide, k_L_matches (k_X6_matches hR ht hTC hto hsc hvC hn99 hn3 hlkC (by rw [e5]; exact hne) (hf := hf) (ng := ng)) (fun v h9 hp => by obtain ⟨N, Rf2, rfl, rfl, _⟩ := hp; exact ⟨_, _, _, _, rfl, rfl⟩), fun v h1 hp => ?_⟩
    obtain ⟨N, L2, Rf2, y, hp0, rfl, rfl⟩ := hp
    obtain ⟨N3, Rf3, heq, hval, hRf, hRx, hfr⟩ := hp0
    cases heq
    have hy := Value.int.inj (Option.some.inj hval)
    have eN : ∀ x, relB x = true → N x = M x := fun x hx => hfr x (by intro z; subst z; cases hx) (by intro z; subst z; cases hx) (by intro z; subst z; cases hx) (by intro z; subst z; cases hx) (by intro z; subst z; cases hx) (by intro z; subst z; cases hx)
    have e48 : N 48 = M 48 := hfr 48 (by decide) (by decide) (by decide) (by decide) (by decide) (by decide)
    have e64 : N 64 = M 64 := hfr 64 (by decide) (by decide) (by decide) (by decide) (by decide) (by decide)
    have eT : sp_tR N = sp_tR M := by show (N 53, N 54, N 55, N 58, N 59, N 60) = _; rw [eN 53 rfl, eN 54 rfl, eN 55 rfl, eN 58 rfl, eN 59 rfl, eN 60 rfl]
    refine ⟨N, _, Rf2, 0, rfl, rfl, by decide, hRf, _, k_X7_matches hRf (by rw [eT]; exact hT) (by rw [eT, eN 63 rfl]; exact hv) (by rw [eT, eN 57 rfl]; exact hlk) hn99 (by rw [e48]) (by rw [eN 53 rfl]; exact hne) (hf := hf) (ng := ng), fun v2 h2 hp9 => ?_⟩
    obtain ⟨N2, rfl, ⟨hN2, hN4, hN48, hNk⟩, u, hu, rfl⟩ := hp9
    refine ⟨N2, _, rfl, rfl, hN4, fun _ => ?_, t, b, Or.inr (h.all (fun x hx => (hN2 x (by intro z; subst z; cases hx) (by intro z; subst z; cases hx) (by intro z; subst z; cases hx) (by intro z; subst z; cases hx)).trans (eN x hx)) (fun k k4 k38 k40 => (hN48 k k4).trans (by rw [e48])) (fun z => hNk (fun l l0 l1 => by rw [e64]; exact z l l0 l1)) hRf hRx)⟩
    rw [up_s, up_s, hy]
    refine congrArg (fun x => (iI x).toInt64) ?_
    rw [cnt0 eK, eT, cnt0 (t := sp_tR M) hK]
  · refine ⟨1, 6, _, by decide, k_L_matches_x (k_X6_matches_x hR hk32 hc), fun v h1 hp => ?_⟩
    obtain ⟨rfl, rfl⟩ := hp
    refine ⟨M, L, Rf, 1, rfl, rfl, by decide, hR, _, k_X7_matches_x hR hk32 hc, fun v2 h2 hp2 => ?_⟩
    obtain ⟨N2, rfl, hN2, rfl⟩ := hp2
    exact ⟨N2, 0, rfl, rfl, hN2.2.1, fun z => absurd z (by decide), t, b, Or.inr (h.cd hN2)⟩
set_option maxHeartbeats 1000000 in
theorem lz_end {S : mx_Sc} {M : Nat → Int → Int} {L : Nat → Nat → Int64} {Rf : Nat → Nat → Option Nat} {t : Nat} {b : Bool} {it : Int} (h : rlZ M Rf t b it) {k : Int} (hk32 : -2147483648 ≤ k ∧ k ≤ 2147483647) : lcA S mL_end mX7_end [.int (iI k)] M L Rf it := by
  obtain ⟨⟨ht, hR, hrs, hto, hsp⟩, ⟨hT, hE, hK, hoj1, hoj2⟩, ⟨htl, h12, htp, h13, hnk, hcs⟩, hst, h14, h41, him⟩ := id h
  obtain ⟨⟨hsc, hn3, hnb⟩, ⟨hJ, hJm, hv2⟩, ⟨hWb, hW2b⟩, hSt⟩ := id hst
  have hTC : sp_tok (sp_tC M t) := hE.tok hT
  have eL : M t 1 = M 53 1 := hE.1 1 (by decide) (by decide)
  have eK : (sp_tC M t).1 1 = 0 := eL.trans hK
  have e5 : M t 5 = M 53 5 := hE.1 5 (by decide) (by decide)
  have hv : sp_vok (sp_tR M) (M 63) := vok0 hK hv2
  have hvC : sp_vok (sp_tC M t) (fun _ => -1) := vok0 eK (fun _ _ _ => by decide)
  have hlk : sp_lok (sp_tR M) (M 57) := lok0 hK _
  have hlkC : sp_lok (sp_tC M t) (M (t + 3)) := lok0 eK _
  have hT5 : 1 ≤ M 53 5 ∧ M 53 5 ≤ 99 := hT.2.2.2.2.2.1
  have hn99 : 0 ≤ M 48 29 ∧ M 48 29 ≤ 99 := by omega
  have hne : M 48 29 ≤ M 53 5 := hnb.2
  by_cases hc : 0 ≤ k ∧ k < 2
  · refine ⟨0, 0, _, by decide, k_L_end (k_X6_end hR ht hTC hto hsc hvC hn99 hn3 hlkC hJ rfl hk32 hc) (fun v h9 hp => by obtain ⟨N, L3, Rf2, x, w, rfl, rfl, _⟩ := hp; exact ⟨_, _, _, _, rfl, rfl⟩), fun v h1 hp => ?_⟩
    obtain ⟨N, L2, Rf2, y, hp0, rfl, rfl⟩ := hp
    obtain ⟨N3, L3, Rf3, x, w, heq, hval, hRf, hRx, hLx, hfr, hsw, hfp⟩ := hp0
    cases heq
    have hy := Value.int.inj (Option.some.inj hval)
    have eN : ∀ x, relB x = true → N x = M x := fun x hx => hfr x (by intro z; subst z; cases hx) (by intro z; subst z; cases hx) (by intro z; subst z; cases hx) (by intro z; subst z; cases hx) (by intro z; subst z; cases hx) (by intro z; subst z; cases hx)
    have e48 : N 48 = M 48 := hfr 48 (by decide) (by decide) (by decide) (by decide) (by decide) (by decide)
    have e64 : N 64 = M 64 := hfr 64 (by decide) (by decide) (by decide) (by decide) (by decide) (by decide)
    have eT : sp_tR N = sp_tR M := by show (N 53, N 54, N 55, N 58, N 59, N 60) = _; rw [eN 53 rfl, eN 54 rfl, eN 55 rfl, eN 58 rfl, eN 59 rfl, eN 60 rfl]
    refine ⟨N, _, Rf2, 0, rfl, rfl, by decide, hRf, _, k_X7_end hRf (by rw [eT]; exact hT) (by rw [eT, eN 63 rfl]; exact hv) (by rw [eT, eN 57 rfl]; exact hlk) hn99 (by rw [e48]) (by rw [eN 63 rfl]; exact hJm) hk32 hc, fun v2 h2 hp9 => ?_⟩
    obtain ⟨N2, x2, w2, rfl, hN2, hN4, hN48, hNk, hfp2, rfl⟩ := hp9
    refine ⟨N2, _, rfl, rfl, hN4, fun _ => ?_, t, b, Or.inr (h.all (fun x hx => (hN2 x (by intro z; subst z; cases hx) (by intro z; subst z; cases hx) (by intro z; subst z; cases hx) (by intro z; subst z; cases hx) (by intro z; subst z; cases hx) (by intro z; subst z; cases hx)).trans (eN x hx)) (fun k k4 k38 k40 => (hN48 k k4).trans (by rw [e48])) (fun z => hNk) hRf hRx)⟩
    rw [up_s, up_s, hy]
    refine congrArg (fun x => (iI x).toInt64) ?_
    have hx1 := fr0 eK hfp
    have hx2 := fr0 (t := sp_tR N) (by rw [eT]; exact hK) hfp2
    subst hx1
    subst hx2
    by_cases hk0 : (2 : Int) = -1 ∨ k = 0
    · rw [if_pos hk0, if_pos hk0]
    · rw [if_neg hk0, if_neg hk0, eL, eN 53 rfl, hK, show (2 : Int) ^ (0 : Int).toNat - 1 = 0 from rfl, odf00, odf00]
  · refine ⟨1, 6, _, by decide, k_L_end_x (k_X6_end_x hR hk32 hc), fun v h1 hp => ?_⟩
    obtain ⟨rfl, rfl⟩ := hp
    refine ⟨M, L, Rf, 1, rfl, rfl, by decide, hR, _, k_X7_end_x hR hk32 hc, fun v2 h2 hp2 => ?_⟩
    obtain ⟨N2, rfl, hN2, rfl⟩ := hp2
    exact ⟨N2, 0, rfl, rfl, hN2.2.1, fun z => absurd z (by decide), t, b, Or.inr (h.cd hN2)⟩
set_option maxHeartbeats 1000000 in
theorem lz_fault {S : mx_Sc} {M : Nat → Int → Int} {L : Nat → Nat → Int64} {Rf : Nat → Nat → Option Nat} {t : Nat} {b : Bool} {it : Int} (h : rlZ M Rf t b it) : lcA0 S mX6_fault mX7_fault [] true M L Rf it := by
  obtain ⟨⟨ht, hR, hrs, hto, hsp⟩, ⟨hT, hE, hK, hoj1, hoj2⟩, ⟨htl, h12, htp, h13, hnk, hcs⟩, hst, h14, h41, him⟩ := id h
  obtain ⟨⟨hsc, hn3, hnb⟩, ⟨hJ, hJm, hv2⟩, ⟨hWb, hW2b⟩, hSt⟩ := id hst
  have hTC : sp_tok (sp_tC M t) := hE.tok hT
  have eL : M t 1 = M 53 1 := hE.1 1 (by decide) (by decide)
  have eK : (sp_tC M t).1 1 = 0 := eL.trans hK
  have e5 : M t 5 = M 53 5 := hE.1 5 (by decide) (by decide)
  have hv : sp_vok (sp_tR M) (M 63) := vok0 hK hv2
  have hvC : sp_vok (sp_tC M t) (fun _ => -1) := vok0 eK (fun _ _ _ => by decide)
  have hlk : sp_lok (sp_tR M) (M 57) := lok0 hK _
  have hlkC : sp_lok (sp_tC M t) (M (t + 3)) := lok0 eK _
  have hT5 : 1 ≤ M 53 5 ∧ M 53 5 ≤ 99 := hT.2.2.2.2.2.1
  have hn99 : 0 ≤ M 48 29 ∧ M 48 29 ≤ 99 := by omega
  have hne : M 48 29 ≤ M 53 5 := hnb.2
  refine ⟨_, k_X6_fault hR, fun v h1 hp => ?_⟩
  obtain ⟨rfl, rfl⟩ := hp
  refine ⟨M, Rf, rfl, hR, fun _ => ⟨_, rfl⟩, fun z => absurd z (by decide), _, k_X7_fault hR, fun v2 h2 hp2 => ?_⟩
  obtain ⟨rfl, rfl⟩ := hp2
  refine ⟨_, rfl, by rw [h13], t, b, Or.inr (h.mdl (fun x hx => up_n _ _ (by intro z; subst z; cases hx)) (fun k k4 _ _ => by rw [up_s, iu_n _ _ k4]) (fun z l l0 l1 => by rw [up_n _ _ (show 64 ≠ 48 by decide)]; exact z l l0 l1))⟩
set_option maxHeartbeats 1000000 in
theorem lz_feed {S : mx_Sc} {M : Nat → Int → Int} {L : Nat → Nat → Int64} {Rf : Nat → Nat → Option Nat} {t : Nat} {b : Bool} {it : Int} (h : rlZ M Rf t b it) {a1 a2 a3 a4 a5 : Int} : lcA0 S mX6_feed mX7_feed [.int (iI a1), .int (iI a2), .int (iI a3), .int (iI a4), .int (iI a5)] true M L Rf it := by
  obtain ⟨⟨ht, hR, hrs, hto, hsp⟩, ⟨hT, hE, hK, hoj1, hoj2⟩, ⟨htl, h12, htp, h13, hnk, hcs⟩, hst, h14, h41, him⟩ := id h
  obtain ⟨⟨hsc, hn3, hnb⟩, ⟨hJ, hJm, hv2⟩, ⟨hWb, hW2b⟩, hSt⟩ := id hst
  have hTC : sp_tok (sp_tC M t) := hE.tok hT
  have eL : M t 1 = M 53 1 := hE.1 1 (by decide) (by decide)
  have eK : (sp_tC M t).1 1 = 0 := eL.trans hK
  have e5 : M t 5 = M 53 5 := hE.1 5 (by decide) (by decide)
  have hv : sp_vok (sp_tR M) (M 63) := vok0 hK hv2
  have hvC : sp_vok (sp_tC M t) (fun _ => -1) := vok0 eK (fun _ _ _ => by decide)
  have hlk : sp_lok (sp_tR M) (M 57) := lok0 hK _
  have hlkC : sp_lok (sp_tC M t) (M (t + 3)) := lok0 eK _
  have hT5 : 1 ≤ M 53 5 ∧ M 53 5 ≤ 99 := hT.2.2.2.2.2.1
  have hn99 : 0 ≤ M 48 29 ∧ M 48 29 ≤ 99 := by omega
  have hne : M 48 29 ≤ M 53 5 := hnb.2
  refine ⟨_, k_X6_feed hR htl h12, fun v h1 hp => ?_⟩
  rcases hp with ⟨hlt, rfl, rfl⟩ | ⟨hle, N, rfl, rfl, f1, f2, f3, f4⟩
  · refine ⟨M, Rf, rfl, hR, fun _ => ⟨_, rfl⟩, fun z => absurd z (by decide), _, k_X7_feed hR htl rfl, fun v2 h2 hp2 => ?_⟩
    rcases hp2 with ⟨_, N2, rfl, hN2, rfl⟩ | ⟨hgt, _⟩
    · exact ⟨N2, rfl, rfl, t, b, Or.inr (h.cd hN2)⟩
    · omega
  · have e48 : N 48 = M 48 := f1 48 (by decide) (by decide)
    refine ⟨N, Rf, rfl, hR, fun _ => ⟨_, rfl⟩, fun z => absurd z (by decide), _, k_X7_feed (p := M 48 15) hR htl (by rw [e48]), fun v2 h2 hp2 => ?_⟩
    rcases hp2 with ⟨hgt, _⟩ | ⟨_, N2, rfl, rfl, g1, g2, g3, g4, g5⟩
    · omega
    · have e2 : ∀ x, x ≠ 0 → x ≠ 1 → x ≠ 48 → x ≠ 62 → N2 x = M x := fun x x1 x2 x3 x4 => (g1 x x3 x4).trans (f1 x x1 x2)
      have e29 : ∀ j, j ≠ 4 → j ≠ 15 → N2 48 j = M 48 j := fun j j4 j15 => by rw [g3 j j4 j15, e48]
      have e00 : ∀ j, j ≠ 12 → N2 0 j = M 0 j := fun j hj => by rw [g1 0 (by decide) (by decide), f2 j hj]
      refine ⟨N2, rfl, rfl, t, b, Or.inr (h.upd hR (fun _ _ => rfl) (fun x hx => e2 x (by omega) (by omega) (by omega) (by omega)) ⟨by rw [g4]; omega, by rw [g4, g1 0 (by decide) (by decide)]; exact f3, ⟨funext fun y => ?_, fun y y0 y1 => ?_⟩, by rw [e00 13 (by decide), e29 24 (by decide) (by decide)]; exact h13, fun l l0 l1 => by rw [e2 64 (by decide) (by decide) (by decide) (by decide)]; exact hnk l l0 l1⟩ ?_ (h.main (fun x hx => e2 x (by omega) (by omega) (by omega) (by omega)) (e00 14 (by decide)) (e29 41 (by decide) (by decide)) (e29 42 (by decide) (by decide))))⟩
      · rw [g5 y, g1 1 (by decide) (by decide), f4 y, f1 62 (by decide) (by decide), htp.1]
      · have h9 := htp.2 y y0 y1
        rw [g5 y, f1 62 (by decide) (by decide)]
        by_cases z : M 48 15 ≤ y ∧ y < M 48 15 + 20
        · rw [if_pos z]
          exact fd_b _ _ _ _ _ _
        · rw [if_neg z]
          exact h9
      · rw [e2 8 (by decide) (by decide) (by decide) (by decide), e2 9 (by decide) (by decide) (by decide) (by decide), e2 61 (by decide) (by decide) (by decide) (by decide), e2 63 (by decide) (by decide) (by decide) (by decide), e2 69 (by decide) (by decide) (by decide) (by decide), e29 29 (by decide) (by decide)]
        exact hst.fr (e2 3 (by decide) (by decide) (by decide) (by decide)) (e2 4 (by decide) (by decide) (by decide) (by decide)) (e2 5 (by decide) (by decide) (by decide) (by decide)) (e2 6 (by decide) (by decide) (by decide) (by decide))
set_option maxHeartbeats 1000000 in
theorem lz_image {S : mx_Sc} {M : Nat → Int → Int} {L : Nat → Nat → Int64} {Rf : Nat → Nat → Option Nat} {t : Nat} {b : Bool} {it : Int} (h : rlZ M Rf t b it) : lcA0 S mX6_image mX7_image [] false M L Rf it := by
  obtain ⟨⟨ht, hR, hrs, hto, hsp⟩, ⟨hT, hE, hK, hoj1, hoj2⟩, ⟨htl, h12, htp, h13, hnk, hcs⟩, hst, h14, h41, him⟩ := id h
  obtain ⟨⟨hsc, hn3, hnb⟩, ⟨hJ, hJm, hv2⟩, ⟨hWb, hW2b⟩, hSt⟩ := id hst
  have hTC : sp_tok (sp_tC M t) := hE.tok hT
  have eL : M t 1 = M 53 1 := hE.1 1 (by decide) (by decide)
  have eK : (sp_tC M t).1 1 = 0 := eL.trans hK
  have e5 : M t 5 = M 53 5 := hE.1 5 (by decide) (by decide)
  have hv : sp_vok (sp_tR M) (M 63) := vok0 hK hv2
  have hvC : sp_vok (sp_tC M t) (fun _ => -1) := vok0 eK (fun _ _ _ => by decide)
  have hlk : sp_lok (sp_tR M) (M 57) := lok0 hK _
  have hlkC : sp_lok (sp_tC M t) (M (t + 3)) := lok0 eK _
  have hT5 : 1 ≤ M 53 5 ∧ M 53 5 ≤ 99 := hT.2.2.2.2.2.1
  have hn99 : 0 ≤ M 48 29 ∧ M 48 29 ≤ 99 := by omega
  have hne : M 48 29 ≤ M 53 5 := hnb.2
  refine ⟨_, k_X6_image hR, fun v h1 hp => ?_⟩
  obtain ⟨N, rfl, rfl, f1, f2, f3, f4, f5, f6, f7⟩ := hp
  refine ⟨N, Rf, rfl, hR, fun z => absurd z (by decide), fun _ => rfl, _, k_X7_image hR, fun v2 h2 hp2 => ?_⟩
  obtain ⟨N2, rfl, rfl, g1, g2, g3, g4, g5, g6, g7, g8, g9⟩ := hp2
  have eM : ∀ x, 17 < x → N x = M x := fun x hx => f1 x (by omega) (by omega)
  have e2 : ∀ x, x ≠ 0 → x ≠ 48 → (x < 11 ∨ (17 < x ∧ x < 76) ∨ 80 < x) → N2 x = M x := fun x x1 x2 x3 => (g1 x x2 (by omega)).trans (f1 x (by omega) x1)
  have e3 : ∀ x, x < 48 → N2 x = N x := fun x hx => g1 x (by omega) (by omega)
  have e29 : ∀ k, k ≠ 4 → k ≠ 41 → k ≠ 42 → N2 48 k = M 48 k := fun k k1 k2 k3 => by rw [g5 k k1 k2 k3, eM 48 (by decide)]
  have e00 : ∀ j, j ≠ 14 → N2 0 j = M 0 j := fun j hj => by rw [e3 0 (by decide), f2 j hj]
  rw [eM 63 (by decide)] at g6
  rw [eM 68 (by decide), eM 69 (by decide)] at g7
  rw [eM 61 (by decide)] at g9
  refine ⟨N2, rfl, rfl, t, true, Or.inr (h.upd hR (fun _ _ => rfl) (fun x hx => e2 x (by omega) (by omega) (by omega)) (h.tape (e00 12 (by decide)) (e00 13 (by decide)) (e2 1 (by decide) (by decide) (by decide)) (e2 62 (by decide) (by decide) (by decide)) (e29 15 (by decide) (by decide) (by decide)) (e29 24 (by decide) (by decide) (by decide)) (fun z l l0 l1 => by rw [e2 64 (by decide) (by decide) (by decide)]; exact z l l0 l1)) ?_ ⟨by rw [e3 0 (by decide), f3]; rfl, by rw [g3]; rfl, fun _ => ?_⟩)⟩
  · rw [e2 8 (by decide) (by decide) (by decide), e2 9 (by decide) (by decide) (by decide), e2 61 (by decide) (by decide) (by decide), e2 63 (by decide) (by decide) (by decide), e2 69 (by decide) (by decide) (by decide), e29 29 (by decide) (by decide) (by decide)]
    exact hst.fr (e2 3 (by decide) (by decide) (by decide)) (e2 4 (by decide) (by decide) (by decide)) (e2 5 (by decide) (by decide) (by decide)) (e2 6 (by decide) (by decide) (by decide))
  · rw [g4, eM 48 (by decide), e3 16 (by decide), e3 17 (by decide)]
    have hs2 : scE M N2 3 11 := by
      unfold scE at f4 ⊢
      rw [e3 11 (by decide), e3 (11 + 1) (by decide), e3 (11 + 2) (by decide), e3 (11 + 3) (by decide)]
      exact f4
    exact hst.copy eK hs2 f6 f7 g6 (fun i i0 i1 => (g7 i i0 i1).2) g9
set_option maxHeartbeats 1000000 in
theorem lz_restore {S : mx_Sc} {M : Nat → Int → Int} {L : Nat → Nat → Int64} {Rf : Nat → Nat → Option Nat} {t : Nat} {b : Bool} {it : Int} (h : rlZ M Rf t b it) : lcA0 S mX6_restore mX7_restore [] true M L Rf it := by
  obtain ⟨⟨ht, hR, hrs, hto, hsp⟩, ⟨hT, hE, hK, hoj1, hoj2⟩, ⟨htl, h12, htp, h13, hnk, hcs⟩, hst, h14, h41, him⟩ := id h
  obtain ⟨⟨hsc, hn3, hnb⟩, ⟨hJ, hJm, hv2⟩, ⟨hWb, hW2b⟩, hSt⟩ := id hst
  have hTC : sp_tok (sp_tC M t) := hE.tok hT
  have eL : M t 1 = M 53 1 := hE.1 1 (by decide) (by decide)
  have eK : (sp_tC M t).1 1 = 0 := eL.trans hK
  have e5 : M t 5 = M 53 5 := hE.1 5 (by decide) (by decide)
  have hv : sp_vok (sp_tR M) (M 63) := vok0 hK hv2
  have hvC : sp_vok (sp_tC M t) (fun _ => -1) := vok0 eK (fun _ _ _ => by decide)
  have hlk : sp_lok (sp_tR M) (M 57) := lok0 hK _
  have hlkC : sp_lok (sp_tC M t) (M (t + 3)) := lok0 eK _
  have hT5 : 1 ≤ M 53 5 ∧ M 53 5 ≤ 99 := hT.2.2.2.2.2.1
  have hn99 : 0 ≤ M 48 29 ∧ M 48 29 ≤ 99 := by omega
  have hne : M 48 29 ≤ M 53 5 := hnb.2
  refine ⟨_, k_X6_restore hR h14, fun v h1 hp => ?_⟩
  obtain ⟨N, rfl, rfl, hor⟩ := hp
  have e41 : N 48 = M 48 := by
    rcases hor with ⟨_, rfl⟩ | ⟨_, f1, _⟩
    · rfl
    · exact f1 48 (by decide)
  refine ⟨N, Rf, rfl, hR, fun _ => ⟨_, rfl⟩, fun z => absurd z (by decide), _, k_X7_restore (b := b) hR (by rw [e41]; exact h41), fun v2 h2 hp2 => ?_⟩
  obtain ⟨N2, rfl, rfl, hN4, hor2⟩ := hp2
  rcases hor with ⟨hb, rfl⟩ | ⟨hb, f1, f4, f5, f6, f7⟩
  · rcases hor2 with ⟨_, hN2⟩ | ⟨hb2, _⟩
    · exact ⟨N2, rfl, rfl, t, b, Or.inr (h.cd hN2)⟩
    · rw [hb] at hb2; cases hb2
  · rcases hor2 with ⟨hb2, _⟩ | ⟨_, g1, g4, g5, g6, g7, g8, g9⟩
    · rw [hb] at hb2; cases hb2
    · have eM : ∀ x, 9 < x → N x = M x := fun x hx => f1 x (by omega)
      have e3 : ∀ x, x < 48 → N2 x = N x := fun x hx => g1 x (by omega) (by omega) (by omega) (by omega) (by omega) (by omega)
      have e2 : ∀ x, (x < 3 ∨ 9 < x) → x ≠ 48 → x ≠ 61 → x ≠ 63 → x ≠ 68 → x ≠ 69 → x ≠ 70 → N2 x = M x := fun x x0 x1 x2 x3 x4 x5 x6 => (g1 x x1 x2 x3 x4 x5 x6).trans (f1 x (by omega))
      have e29 : ∀ k, k ≠ 4 → k ≠ 29 → N2 48 k = M 48 k := fun k k1 k2 => by rw [g5 k k1 k2, e41]
      rw [eM 76 (by decide)] at g6
      rw [eM 77 (by decide), eM 78 (by decide)] at g7
      rw [eM 80 (by decide)] at g9
      refine ⟨N2, rfl, rfl, t, b, Or.inr (h.upd hR (fun _ _ => rfl) (fun x hx => e2 x (by omega) (by omega) (by omega) (by omega) (by omega) (by omega) (by omega)) (h.tape (by rw [e2 0 (by decide) (by decide) (by decide) (by decide) (by decide) (by decide) (by decide)]) (by rw [e2 0 (by decide) (by decide) (by decide) (by decide) (by decide) (by decide) (by decide)]) (e2 1 (by decide) (by decide) (by decide) (by decide) (by decide) (by decide) (by decide)) (e2 62 (by decide) (by decide) (by decide) (by decide) (by decide) (by decide) (by decide)) (e29 15 (by decide) (by decide)) (e29 24 (by decide) (by decide)) (fun z l l0 l1 => by rw [e2 64 (by decide) (by decide) (by decide) (by decide) (by decide) (by decide) (by decide)]; exact z l l0 l1)) ?_ (h.main (fun x hx => e2 x (by omega) (by omega) (by omega) (by omega) (by omega) (by omega) (by omega)) (by rw [e2 0 (by decide) (by decide) (by decide) (by decide) (by decide) (by decide) (by decide)]) (e29 41 (by decide) (by decide)) (e29 42 (by decide) (by decide))))⟩
      rw [g4, e41, e3 8 (by decide), e3 9 (by decide)]
      have hs2 : scE M N2 11 3 := by
        unfold scE at f4 ⊢
        rw [e3 3 (by decide), e3 (3 + 1) (by decide), e3 (3 + 2) (by decide), e3 (3 + 3) (by decide)]
        exact f4
      exact (him hb).copy eK hs2 f6 f7 g6 (fun i i0 i1 => (g7 i i0 i1).2) g9
