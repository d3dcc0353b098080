/-- some nights more -/
theorem stP.run {tC tR : sp_T} (hT : sp_tok tR) (hE : eqS tC tR) {lk : Int → Int} (hlk : sp_lok tR lk) {M N : Nat → Int → Int} {a : Nat} {D W R v D2 W2 O R2 D' W' D2' W2' O' v' : Int → Int} {n it : Int} (h : stP tC tR M a D W R v D2 W2 O R2 n it) {u : Nat} (hu : n + u ≤ tR.1 5) (hv' : v' = sp_run tR lk false false n u v) (hs : scR tC N a v') (h3 : N a 3 = n + u) (hJ : ∀ i, 3 * tR.1 1 ≤ i → N (a + 1) i = M (a + 1) i)
    (hD1 : ∀ j, (j < n * 18 ∨ (n + u) * 18 ≤ j) → D' j = D j) (hW1 : ∀ j, (j < (n + 1) * 18 ∨ (n + u + 1) * 18 ≤ j) → W' j = W j)
    (hDW1 : ∀ (m : Nat) (q : Int), m < u → 0 ≤ q → q < 18 → D' ((n + m) * 18 + q) = (if q < 3 * tR.1 1 then sp_run tR lk false false n m v q else M (a + 1) q) ∧ W' ((n + m + 1) * 18 + q) = (if q < 3 * tR.1 1 then sp_run tR lk false false n (m + 1) v q else M (a + 1) q))
    (hD3 : ∀ j, (j < n * 18 ∨ (n + u) * 18 ≤ j) → D2' j = D2 j) (hW3 : ∀ j, (j < (n + 1) * 18 ∨ (n + u + 1) * 18 ≤ j) → W2' j = W2 j) (hO3 : ∀ j, (j < n ∨ n + u ≤ j) → O' j = O j)
    (hDW3 : ∀ (j : Nat) (q : Int), j < u → 0 ≤ q → q < 18 → D2' ((n + j) * 18 + q) = sp_run tR lk false false n j v q ∧ W2' ((n + j + 1) * 18 + q) = sp_run tR lk false false n (j + 1) v q) (hO4 : ∀ j : Nat, j < u → O' (n + j) = ooN (sp_run tR lk false false n j v) (tR.1 1).toNat) : stP tC tR N a D' W' R v' D2' W2' O' R2 (n + u) (it + 1) := by
  have hTC := hE.tok hT
  have h1 := hT.2.1
  have h5 := hT.2.2.2.2.2.1
  obtain ⟨⟨a1, a2, a3, a4, a5⟩, ⟨b1, b2, b3, b4⟩, ⟨c1, c2⟩, ⟨d1, d2, d3, d4⟩, ⟨e1, e2⟩, f⟩ := h.it
  have e1' : tC.1 1 = tR.1 1 := hE.1 1 (by decide) (by decide)
  have hvm : ∀ m : Nat, m ≤ u → sp_vok tR (sp_run tR lk false false n m v) := fun m hm => run_vok hT hlk false false a3.1 a4 m (by omega)
  have hsp : ∀ j, n ≤ j → j < n + u → ∃ m : Nat, m < u ∧ j = n + m := fun j j0 j1 => ⟨(j - n).toNat, by omega, by omega⟩
  have hsp2 : ∀ j, n < j → j ≤ n + u → ∃ m : Nat, m < u ∧ j = n + m + 1 := fun j j0 j1 => ⟨(j - n - 1).toNat, by omega, by omega⟩
  have hbd : ∀ (m : Nat) (q : Int), m ≤ u → 0 ≤ q → q < 18 → -1000 ≤ sp_run tR lk false false n m v q ∧ sp_run tR lk false false n m v q ≤ 1000 := fun m q hm q0 q1 => by
    by_cases z : q < 3 * tR.1 1
    · have := vok_b hT (hvm m hm) q0 z; omega
    · rw [run_jk hT (by omega) q1]; exact b4 q q0 q1
  have hp0 : ∀ j, j < n → ∀ l, 0 ≤ l → l < 6 → sp_out (sp_part v' j) l = sp_out (sp_part v j) l := fun j hj l l0 l1 => by rw [hv']; exact run_part0 hT hj ⟨l0, l1⟩ u
  have hp1 : ∀ m : Nat, m < u → ∀ l, 0 ≤ l → l < 6 → sp_out (sp_part v' (n + m)) l = sp_out (sp_run tR lk false false n m v) l := fun m hm l l0 l1 => by
    have h9 := run_part hT (lk := lk) (hf := false) (ng := false) b2 (l := l) ⟨l0, l1⟩ m (u - m)
    rw [show m + (u - m) = u by omega] at h9
    rw [hv']; exact h9
  have hhi : ∀ (m : Nat) (l : Int), tR.1 1 ≤ l → l < 6 → sp_out (sp_run tR lk false false n m v) l = false := fun m l l0 l1 => by
    have h9 := b1 l l0 l1
    unfold sp_out at h9 ⊢
    rw [run_hi hT ⟨l0, l1⟩ m]; exact h9
  refine ⟨⟨hs, h3, ⟨by omega, hu⟩, by rw [hv']; exact hvm u (Nat.le_refl u), by rw [hv']; exact a5.run hT false false a3.1 u⟩, ⟨fun l l0 l1 => by rw [hv']; exact hhi u l l0 l1, fun l l0 l1 => by rw [hv']; exact run_ltn hT b2 false false u l l0 l1, fun i i0 i1 => ?_, fun i i0 i1 => by rw [hv']; exact hbd u i (Nat.le_refl u) i0 i1⟩, ⟨fun j j0 j1 i i0 i1 => ?_, fun j j0 j1 i i0 i1 => ?_⟩, ⟨fun j j0 j1 => ?_, fun j j0 j1 l l0 l1 => ?_, fun j j0 j1 l l0 l1 => ?_, fun j j0 j1 l l0 l1 hx q q0 q1 => ?_⟩, ⟨fun i i0 i1 => ?_, fun i i0 i1 => ?_⟩, f⟩
  · by_cases z : i < 3 * tR.1 1
    · rw [hs.1 i i0 (by omega)]; exact vok_b hT (by rw [hv']; exact hvm u (Nat.le_refl u)) i0 z
    · rw [hJ i (by omega)]; exact b3 i i0 i1
  · by_cases z : j < n
    · rw [hD1 _ (Or.inl (by omega)), hD3 _ (Or.inl (by omega))]; exact c1 j j0 z i i0 i1
    · obtain ⟨m, hm, rfl⟩ := hsp j (by omega) j1
      rw [(hDW1 m i hm i0 (by omega)).1, (hDW3 m i hm i0 (by omega)).1, if_pos i1]
  · by_cases z : j ≤ n
    · rw [hW1 _ (Or.inl (by omega)), hW3 _ (Or.inl (by omega))]; exact c2 j j0 z i i0 i1
    · obtain ⟨m, hm, rfl⟩ := hsp2 j (by omega) j1
      rw [(hDW1 m i hm i0 (by omega)).2, (hDW3 m i hm i0 (by omega)).2, if_pos i1]
  · by_cases z : j < n
    · rw [hO3 j (Or.inl z)]
      exact ⟨(d1 j j0 z).1, fun l l0 l1 => by rw [hp0 j z l l0 l1]; exact (d1 j j0 z).2 l l0 l1⟩
    · obtain ⟨m, hm, rfl⟩ := hsp j (by omega) j1
      have h9 := ooN_b (sp_run tR lk false false n m v) (tR.1 1).toNat (by omega)
      rw [hO4 m hm]
      refine ⟨h9.1, fun l l0 l1 => ?_⟩
      rw [h9.2 l l0 l1, hp1 m hm l l0 l1]
      by_cases y : l < ((tR.1 1).toNat : Int)
      · rw [if_pos y]
      · rw [if_neg y, hhi m l (by omega) l1]; rfl
  · show 0 ≤ D2' _ ∧ 0 ≤ D2' _ ∧ 0 ≤ D2' _ ∧ D2' _ + D2' _ + D2' _ = _
    by_cases z : j < n
    · rw [hD3 _ (Or.inl (by omega)), hD3 _ (Or.inl (by omega)), hD3 _ (Or.inl (by omega))]; exact d2 j j0 z l l0 l1
    · obtain ⟨m, hm, rfl⟩ := hsp j (by omega) j1
      rw [(hDW3 m _ hm (by omega) (by omega)).1, (hDW3 m _ hm (by omega) (by omega)).1, (hDW3 m _ hm (by omega) (by omega)).1]
      exact (hvm m (by omega)).1 l l0 l1
  · show 0 ≤ W2' _ ∧ 0 ≤ W2' _ ∧ 0 ≤ W2' _ ∧ W2' _ + W2' _ + W2' _ = _
    by_cases z : j ≤ n
    · rw [hW3 _ (Or.inl (by omega)), hW3 _ (Or.inl (by omega)), hW3 _ (Or.inl (by omega))]; exact d3 j j0 z l l0 l1
    · obtain ⟨m, hm, rfl⟩ := hsp2 j (by omega) j1
      rw [(hDW3 m _ hm (by omega) (by omega)).2, (hDW3 m _ hm (by omega) (by omega)).2, (hDW3 m _ hm (by omega) (by omega)).2]
      exact (hvm (m + 1) (by omega)).1 l l0 l1
  · by_cases z : j < n
    · rw [hD3 _ (Or.inl (by omega)), hW3 _ (Or.inl (by omega))]
      exact d4 j j0 z l l0 l1 (by rw [← hp0 j z l l0 (by omega)]; exact hx) q q0 q1
    · obtain ⟨m, hm, rfl⟩ := hsp j (by omega) j1
      rw [hp1 m hm l l0 (by omega)] at hx
      rw [show (n + (m : Int)) * 18 + 3 * l + q = (n + m) * 18 + (3 * l + q) by omega, show (n + (m : Int) + 1) * 18 + 3 * l + q = (n + m + 1) * 18 + (3 * l + q) by omega, (hDW3 m _ hm (by omega) (by omega)).1, (hDW3 m _ hm (by omega) (by omega)).2]
      exact (out_oil hT ⟨l0, by omega⟩ ⟨q0, q1⟩ hx).symm
  · by_cases z : i < (n + 1) * 18 ∨ (n + u + 1) * 18 ≤ i
    · rw [hW1 i z]; exact e1 i i0 i1
    · obtain ⟨m, q, hm, q0, q1, rfl⟩ : ∃ (m : Nat) (q : Int), m < u ∧ 0 ≤ q ∧ q < 18 ∧ i = (n + m + 1) * 18 + q := ⟨(i / 18 - n - 1).toNat, i % 18, by omega, by omega, by omega, by omega⟩
      rw [(hDW1 m q hm q0 q1).2]
      split
      · rename_i y
        exact vok_b hT (hvm (m + 1) (by omega)) q0 y
      · exact b3 q q0 q1
  · by_cases z : i < (n + 1) * 18 ∨ (n + u + 1) * 18 ≤ i
    · rw [hW3 i z]; exact e2 i i0 i1
    · obtain ⟨m, q, hm, q0, q1, rfl⟩ : ∃ (m : Nat) (q : Int), m < u ∧ 0 ≤ q ∧ q < 18 ∧ i = (n + m + 1) * 18 + q := ⟨(i / 18 - n - 1).toNat, i % 18, by omega, by omega, by omega, by omega⟩
      rw [(hDW3 m q hm q0 q1).2]
      exact hbd (m + 1) q (by omega) q0 q1
/-- the relation anew -/
theorem rlV.upd {M N : Nat → Int → Int} {Rf Rf2 : Nat → Nat → Option Nat} {t : Nat} {b b2 : Bool} {it it2 : Int} (h : rlV M Rf t b it) (hR : mx_rf Rf2) (hRx : ∀ y, y ≠ 46 → Rf2 y = Rf y) (hx : ∀ x, ((29 ≤ x ∧ x ≤ 44) ∨ (51 ≤ x ∧ x ≤ 60)) → N x = M x) (ha : (0 ≤ N 48 15 ∧ N 48 15 ≤ 500) ∧ N 0 12 = N 48 15 ∧ (N 1 = N 62 ∧ ∀ y, 0 ≤ y → y < 500 → 0 ≤ N 62 y ∧ N 62 y ≤ 255) ∧ N 0 13 = N 48 24 ∧ nk N) (hm : stP (sp_tC M t) (sp_tR M) N 3 (N 7) (N 8) (N 9) (N 63) (N 68) (N 69) (N 70) (N 61) (N 48 29) it2) (hi : N 0 14 = bI b2 ∧ N 48 41 = bI b2 ∧ (b2 = true → stP (sp_tC M t) (sp_tR M) N 11 (N 15) (N 16) (N 17) (N 76) (N 77) (N 78) (N 79) (N 80) (N 48 42) it2)) : rlV N Rf2 t b2 it2 := by
  obtain ⟨⟨ht, a1, a2, a3, a4⟩, ⟨b1, b2', b3, b4, b5, b6, b7, b8⟩, ⟨c1, c2, c3, c4, c5, c6⟩, d, f⟩ := h
  obtain ⟨g1, g2, g3, g4, g5⟩ := ha
  have eR : sp_tR N = sp_tR M := by show (N 53, N 54, N 55, N 58, N 59, N 60) = _; rw [hx 53 (by decide), hx 54 (by decide), hx 55 (by decide), hx 58 (by decide), hx 59 (by decide), hx 60 (by decide)]
  have e53 := hx 53 (by decide)
  have e56 := hx 56 (by decide)
  have e57 := hx 57 (by decide)
  have ek : ∀ k, k < 8 → N (t + k) = M (t + k) := fun k hk => hx (t + k) (by omega)
  have ek2 : ∀ k, k < 8 → N (66 - t + k) = M (66 - t + k) := fun k hk => hx (66 - t + k) (by omega)
  have eC : sp_tC N t = sp_tC M t := by show (N t, N (t + 1), N (t + 2), N (t + 5), N (t + 6), N (t + 7)) = _; rw [show N t = M t from ek 0 (by decide), ek 1 (by decide), ek 2 (by decide), ek 5 (by decide), ek 6 (by decide), ek 7 (by decide)]
  refine ⟨⟨ht, hR, ?_, by rw [hRx 0 (by decide)]; exact a3, by rw [hRx 0 (by decide)]; exact a4⟩, ⟨by rw [eR]; exact b1, by rw [eR, eC]; exact b2', by rw [e53, e57, ek 3 (by decide)]; exact b3, by rw [eR, e57]; exact b4, by rw [e53, e56, ek 4 (by decide)]; exact b5, by rw [e53, e56]; exact b6, ?_, ?_⟩, ⟨g1, g2, g3, g4, g5, ?_⟩, by rw [eR, eC]; exact hm, hi.1, hi.2.1, by rw [eR, eC]; exact hi.2.2⟩
  · unfold rfs
    rw [hRx 49 (by decide), hRx 50 (by decide)]
    exact a2
  · unfold oj; rw [ek 4 (by decide)]; exact b7
  · unfold oj; rw [ek2 4 (by decide)]; exact b8
  · unfold mcs; rw [hx 51 (by decide), hx 52 (by decide)]; exact c6
theorem rlV.main {M N : Nat → Int → Int} {Rf : Nat → Nat → Option Nat} {t : Nat} {b : Bool} {it : Int} (h : rlV M Rf t b it) (h9 : ∀ x, ((11 ≤ x ∧ x ≤ 17) ∨ (76 ≤ x ∧ x ≤ 80)) → N x = M x) (h0 : N 0 14 = M 0 14) (h41 : N 48 41 = M 48 41) (h42 : N 48 42 = M 48 42) : N 0 14 = bI b ∧ N 48 41 = bI b ∧ (b = true → stP (sp_tC M t) (sp_tR M) N 11 (N 15) (N 16) (N 17) (N 76) (N 77) (N 78) (N 79) (N 80) (N 48 42) (it + 1)) := by
  refine ⟨h0.trans h.2.2.2.2.1, h41.trans h.2.2.2.2.2.1, fun hb => ?_⟩
  rw [h9 15 (by decide), h9 16 (by decide), h9 17 (by decide), h9 76 (by decide), h9 77 (by decide), h9 78 (by decide), h9 79 (by decide), h9 80 (by decide), h42]
  exact (h.2.2.2.2.2.2 hb).fr (h9 11 (by decide)) (h9 12 (by decide)) (h9 13 (by decide)) (h9 14 (by decide))
/-- a refusal more -/
theorem stP.ref {tC tR : sp_T} {M N : Nat → Int → Int} {a : Nat} {D W R v D2 W2 O R2 : Int → Int} {n it k : Int} (h : stP tC tR M a D W R v D2 W2 O R2 n it) (hk : 0 ≤ k ∧ k < 3) (h0 : N a = M a) (h1 : N (a + 1) = M (a + 1)) (h2 : N (a + 2) = M (a + 2)) (h3 : N (a + 3) = M (a + 3)) : stP tC tR N a D W (iu R k (R k + 1)) v D2 W2 O (iu R2 k (R2 k + 1)) n (it + 1) := by
  obtain ⟨a', b', c, d, e, f⟩ := h.fr h0 h1 h2 h3
  have f0 := h.2.2.2.2.2
  refine ⟨a', b', c, d, e, fun i i0 i1 => ?_⟩
  by_cases z : i = k
  · rw [z, iu_s, iu_s]
    have := f0 k hk.1 hk.2
    omega
  · rw [iu_n _ _ z, iu_n _ _ z]
    exact f i i0 i1
