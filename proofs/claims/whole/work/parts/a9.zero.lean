/-! ahead of the first told valley there is no lamp: what the reference keeps of mates then is never looked at -/
theorem run0 {t : sp_T} (hK : t.1 1 = 0) (lk : Int → Int) (hf ng : Bool) (n : Int) : ∀ (k : Nat) (v : Int → Int), sp_run t lk hf ng n k v = v
  | 0, _ => rfl
  | k + 1, v => by
    simp only [sp_run]
    rw [run0 hK lk hf ng n k v]
    unfold sp_night sp_wed
    rw [show (t.1 1).toNat = 0 by omega]
    simp only [itN]
    funext i
    unfold sp_mv
    rw [if_neg (by omega)]
theorem cnt0 {t : sp_T} (hK : t.1 1 = 0) (v : Int → Int) : sp_cnt t v = 0 := by
  unfold sp_cnt
  rw [show (t.1 1).toNat = 0 by omega]
  rfl
theorem vok0 {t : sp_T} (hK : t.1 1 = 0) {v : Int → Int} (hv : ∀ i, 18 ≤ i → i < 30 → -1 ≤ v i ∧ v i ≤ 0) : sp_vok t v :=
  ⟨fun l l0 l1 => by omega, fun l l0 l1 => by have h1 := hv (18 + l) (by omega) (by omega); have h2 := hv (24 + l) (by omega) (by omega); omega⟩
theorem lok0 {t : sp_T} (hK : t.1 1 = 0) (lk : Int → Int) : sp_lok t lk := fun l l0 l1 => by omega
theorem sm0 {t : sp_T} (hK : t.1 1 = 0) (lk : Int → Int) (n : Int) (v : Int → Int) (a b : Int) : smP t lk n v a b := ⟨fun l l0 l1 => by omega, fun i i0 i1 => by omega⟩
theorem fr0 {t : sp_T} (hK : t.1 1 = 0) {lk : Int → Int} {n : Int} {v : Int → Int} {x : Int} {w : Int → Int} (h : frP t lk n v x w) : x = 2 := by
  rcases h with ⟨d, b, d1, d2, b0, b1, he, hs, hno, hr, hx, hw⟩ | ⟨hr, hx⟩
  · by_cases z : d - b = 2
    · omega
    · exact absurd (sm0 hK lk n v (d - 2) d) (hno (d - 2) (by omega) (by omega) (by omega))
  · exact absurd (sm0 hK lk n v 0 2) (hr 2 0 (by decide) (by decide) (by decide) (by decide) (by decide))
theorem odf00 (b : Int) : odf 0 b = 0 := by
  unfold odf
  rw [show (0 : Int).toNat = 0 from rfl, Nat.zero_and]
  rfl
/-- one story in both while there is no lamp -/
def stZ (tC : sp_T) (M : Nat → Int → Int) (a : Nat) (W R v W2 R2 : Int → Int) (n it e : Int) : Prop :=
  (scR tC M a (fun _ => -1) ∧ M a 3 = n ∧ (0 ≤ n ∧ n ≤ e)) ∧
  ((∀ i, 0 ≤ i → i < 18 → 0 ≤ M (a + 1) i ∧ M (a + 1) i < 32) ∧ (∀ i, 0 ≤ i → i < 18 → -1000 ≤ v i ∧ v i ≤ 1000) ∧ (∀ i, 18 ≤ i → i < 30 → -1 ≤ v i ∧ v i ≤ 0)) ∧
  ((∀ i, 0 ≤ i → i < 1800 → 0 ≤ W i ∧ W i < 32) ∧ (∀ i, 0 ≤ i → i < 1800 → -1000 ≤ W2 i ∧ W2 i ≤ 1000)) ∧
  (∀ i, 0 ≤ i → i < 3 → R i = R2 i ∧ 0 ≤ R2 i ∧ R2 i ≤ it)
/-- the class and the reference hold a valley with no lamp -/
def rlZ (M : Nat → Int → Int) (Rf : Nat → Nat → Option Nat) (t : Nat) (b : Bool) (it : Int) : Prop :=
  ((t = 29 ∨ t = 37) ∧ mx_rf Rf ∧ rfs Rf ∧ Rf 0 10 = some t ∧ Rf 0 11 = some (66 - t)) ∧
  (sp_tok (sp_tR M) ∧ eqS (sp_tC M t) (sp_tR M) ∧ M 53 1 = 0 ∧ oj M t ∧ oj M (66 - t)) ∧
  ((0 ≤ M 48 15 ∧ M 48 15 ≤ 500) ∧ M 0 12 = M 48 15 ∧ (M 1 = M 62 ∧ ∀ y, 0 ≤ y → y < 500 → 0 ≤ M 62 y ∧ M 62 y ≤ 255) ∧ M 0 13 = M 48 24 ∧ nk M ∧ mcs M) ∧
  stZ (sp_tC M t) M 3 (M 8) (M 9) (M 63) (M 69) (M 61) (M 48 29) it (M 53 5) ∧
  (M 0 14 = bI b ∧ M 48 41 = bI b ∧ (b = true → stZ (sp_tC M t) M 11 (M 16) (M 17) (M 76) (M 78) (M 80) (M 48 42) it (M 53 5)))
theorem stZ.fr {tC : sp_T} {M N : Nat → Int → Int} {a : Nat} {W R v W2 R2 : Int → Int} {n it e : Int} (h : stZ tC M a W R v W2 R2 n it e) (h0 : N a = M a) (h1 : N (a + 1) = M (a + 1)) (h2 : N (a + 2) = M (a + 2)) (h3 : N (a + 3) = M (a + 3)) : stZ tC N a W R v W2 R2 n (it + 1) e := by
  obtain ⟨⟨a1, a2, a3⟩, ⟨b1, b2, b3⟩, c, d⟩ := h
  exact ⟨⟨a1.fr h0 h1 h2 h3, by rw [h0]; exact a2, a3⟩, ⟨by rw [h1]; exact b1, b2, b3⟩, c, fun i i0 i1 => by have := d i i0 i1; exact ⟨this.1, this.2.1, by omega⟩⟩
theorem stZ.ref {tC : sp_T} {M N : Nat → Int → Int} {a : Nat} {W R v W2 R2 : Int → Int} {n it e k : Int} (h : stZ tC M a W R v W2 R2 n it e) (hk : 0 ≤ k ∧ k < 3) (h0 : N a = M a) (h1 : N (a + 1) = M (a + 1)) (h2 : N (a + 2) = M (a + 2)) (h3 : N (a + 3) = M (a + 3)) : stZ tC N a W (iu R k (R k + 1)) v W2 (iu R2 k (R2 k + 1)) n (it + 1) e := by
  obtain ⟨a', b', c, f⟩ := h.fr h0 h1 h2 h3
  have f0 := h.2.2.2
  refine ⟨a', b', c, fun i i0 i1 => ?_⟩
  by_cases z : i = k
  · rw [z, iu_s, iu_s]
    have := f0 k hk.1 hk.2
    omega
  · rw [iu_n _ _ z, iu_n _ _ z]
    exact f i i0 i1
theorem stZ.tr {tC tC' : sp_T} (h1 : tC'.1 1 = tC.1 1) {M : Nat → Int → Int} {a : Nat} {W R v W2 R2 : Int → Int} {n it e e' : Int} (he : e' = e) (h : stZ tC M a W R v W2 R2 n it e) : stZ tC' M a W R v W2 R2 n it e' := by
  unfold stZ scR sp_cnt at h ⊢
  rw [h1, he]
  exact h
/-- a story put in the place of another -/
theorem stZ.copy {tC : sp_T} {M N : Nat → Int → Int} {a b : Nat} {W R v W2 R2 W' R' v' W2' R2' : Int → Int} {n it e : Int} (h : stZ tC M b W R v W2 R2 n it e) (hK : tC.1 1 = 0) (hs : scE M N b a) (hW : ∀ i, 0 ≤ i → i < 1800 → W' i = W i) (hR : ∀ i, 0 ≤ i → i < 3 → R' i = R i) (hv : ∀ i, 0 ≤ i → i < 30 → v' i = v i) (hW2 : ∀ i, 0 ≤ i → i < 1800 → W2' i = W2 i) (hR2 : ∀ i, 0 ≤ i → i < 3 → R2' i = R2 i) : stZ tC N a W' R' v' W2' R2' n (it + 1) e := by
  obtain ⟨⟨⟨s1, s2, s3, s4, s5⟩, a2, a3⟩, ⟨b1, b2, b3⟩, ⟨c1, c2⟩, d⟩ := h
  obtain ⟨x1, x2, x3, x4, x5⟩ := hs
  refine ⟨⟨⟨fun i i0 i1 => by omega, fun l l0 l1 => ?_, by rw [x4]; exact s3, by rw [x4]; exact s4, by rw [x5]; exact s5⟩, by rw [x3]; exact a2, a3⟩, ⟨fun i i0 i1 => by rw [x1 i i0 i1]; exact b1 i i0 i1, fun i i0 i1 => by rw [hv i i0 (by omega)]; exact b2 i i0 i1, fun i i0 i1 => by rw [hv i (by omega) i1]; exact b3 i i0 i1⟩, ⟨fun i i0 i1 => by rw [hW i i0 i1]; exact c1 i i0 i1, fun i i0 i1 => by rw [hW2 i i0 i1]; exact c2 i i0 i1⟩, fun i i0 i1 => ?_⟩
  · rw [(x2 l l0 l1).1, (x2 l l0 l1).2]; exact s2 l l0 l1
  · rw [hR i i0 i1, hR2 i i0 i1]
    have := d i i0 i1
    exact ⟨this.1, this.2.1, by omega⟩
theorem rlZ.upd {M N : Nat → Int → Int} {Rf Rf2 : Nat → Nat → Option Nat} {t : Nat} {b b2 : Bool} {it it2 : Int} (h : rlZ M Rf t b it) (hR : mx_rf Rf2) (hRx : ∀ y, y ≠ 46 → Rf2 y = Rf y) (hx : ∀ x, ((29 ≤ x ∧ x ≤ 44) ∨ (51 ≤ x ∧ x ≤ 60)) → N x = M x) (ha : (0 ≤ N 48 15 ∧ N 48 15 ≤ 500) ∧ N 0 12 = N 48 15 ∧ (N 1 = N 62 ∧ ∀ y, 0 ≤ y → y < 500 → 0 ≤ N 62 y ∧ N 62 y ≤ 255) ∧ N 0 13 = N 48 24 ∧ nk N) (hm : stZ (sp_tC M t) N 3 (N 8) (N 9) (N 63) (N 69) (N 61) (N 48 29) it2 (M 53 5)) (hi : N 0 14 = bI b2 ∧ N 48 41 = bI b2 ∧ (b2 = true → stZ (sp_tC M t) N 11 (N 16) (N 17) (N 76) (N 78) (N 80) (N 48 42) it2 (M 53 5))) : rlZ N Rf2 t b2 it2 := by
  obtain ⟨⟨ht, a1, a2, a3, a4⟩, ⟨b1, b2', b3, b7, b8⟩, ⟨c1, c2, c3, c4, c5, c6⟩, d, f⟩ := h
  obtain ⟨g1, g2, g3, g4, g5⟩ := ha
  have eR : sp_tR N = sp_tR M := by show (N 53, N 54, N 55, N 58, N 59, N 60) = _; rw [hx 53 (by decide), hx 54 (by decide), hx 55 (by decide), hx 58 (by decide), hx 59 (by decide), hx 60 (by decide)]
  have e53 := hx 53 (by decide)
  have ek : ∀ k, k < 8 → N (t + k) = M (t + k) := fun k hk => hx (t + k) (by omega)
  have ek2 : ∀ k, k < 8 → N (66 - t + k) = M (66 - t + k) := fun k hk => hx (66 - t + k) (by omega)
  have eC : sp_tC N t = sp_tC M t := by show (N t, N (t + 1), N (t + 2), N (t + 5), N (t + 6), N (t + 7)) = _; rw [show N t = M t from ek 0 (by decide), ek 1 (by decide), ek 2 (by decide), ek 5 (by decide), ek 6 (by decide), ek 7 (by decide)]
  refine ⟨⟨ht, hR, ?_, by rw [hRx 0 (by decide)]; exact a3, by rw [hRx 0 (by decide)]; exact a4⟩, ⟨by rw [eR]; exact b1, by rw [eR, eC]; exact b2', by rw [e53]; exact b3, ?_, ?_⟩, ⟨g1, g2, g3, g4, g5, ?_⟩, by rw [e53, eC]; exact hm, hi.1, hi.2.1, by rw [e53, eC]; exact hi.2.2⟩
  · unfold rfs
    rw [hRx 49 (by decide), hRx 50 (by decide)]
    exact a2
  · unfold oj; rw [ek 4 (by decide)]; exact b7
  · unfold oj; rw [ek2 4 (by decide)]; exact b8
  · unfold mcs; rw [hx 51 (by decide), hx 52 (by decide)]; exact c6
theorem rlZ.tape {M N : Nat → Int → Int} {Rf : Nat → Nat → Option Nat} {t : Nat} {b : Bool} {it : Int} (h : rlZ M Rf t b it) (h12 : N 0 12 = M 0 12) (h13 : N 0 13 = M 0 13) (h1 : N 1 = M 1) (h62 : N 62 = M 62) (h15 : N 48 15 = M 48 15) (h24 : N 48 24 = M 48 24) (h64 : nk M → nk N) : (0 ≤ N 48 15 ∧ N 48 15 ≤ 500) ∧ N 0 12 = N 48 15 ∧ (N 1 = N 62 ∧ ∀ y, 0 ≤ y → y < 500 → 0 ≤ N 62 y ∧ N 62 y ≤ 255) ∧ N 0 13 = N 48 24 ∧ nk N := by
  obtain ⟨c1, c2, c3, c4, c5, c6⟩ := h.2.2.1
  exact ⟨by rw [h15]; exact c1, by rw [h12, h15]; exact c2, by rw [h1, h62]; exact c3, by rw [h13, h24]; exact c4, h64 c5⟩
theorem rlZ.main {M N : Nat → Int → Int} {Rf : Nat → Nat → Option Nat} {t : Nat} {b : Bool} {it : Int} (h : rlZ M Rf t b it) (h9 : ∀ x, ((11 ≤ x ∧ x ≤ 17) ∨ (76 ≤ x ∧ x ≤ 80)) → N x = M x) (h0 : N 0 14 = M 0 14) (h41 : N 48 41 = M 48 41) (h42 : N 48 42 = M 48 42) : N 0 14 = bI b ∧ N 48 41 = bI b ∧ (b = true → stZ (sp_tC M t) N 11 (N 16) (N 17) (N 76) (N 78) (N 80) (N 48 42) (it + 1) (M 53 5)) := by
  refine ⟨h0.trans h.2.2.2.2.1, h41.trans h.2.2.2.2.2.1, fun hb => ?_⟩
  rw [h9 16 (by decide), h9 17 (by decide), h9 76 (by decide), h9 78 (by decide), h9 80 (by decide), h42]
  exact (h.2.2.2.2.2.2 hb).fr (h9 11 (by decide)) (h9 12 (by decide)) (h9 13 (by decide)) (h9 14 (by decide))
theorem rlZ.all {M N : Nat → Int → Int} {Rf Rf2 : Nat → Nat → Option Nat} {t : Nat} {b : Bool} {it : Int} (h : rlZ M Rf t b it) (hx : ∀ x, relB x = true → N x = M x) (h48 : ∀ k, k ≠ 4 → k ≠ 38 → k ≠ 40 → N 48 k = M 48 k) (hn : nk M → nk N) (hR : mx_rf Rf2) (hRx : ∀ y, y ≠ 46 → Rf2 y = Rf y) : rlZ N Rf2 t b (it + 1) := by
  have e : ∀ x, relB x = true → N x = M x := hx
  have e0 := hx 0 rfl
  refine h.upd hR hRx (fun x hx => e x (by simp only [relB, decide_eq_true_eq]; omega)) (h.tape (by rw [e0]) (by rw [e0]) (e 1 rfl) (e 62 rfl) (h48 15 (by decide) (by decide) (by decide)) (h48 24 (by decide) (by decide) (by decide)) hn) ?_ (h.main (fun x hx => e x (by simp only [relB, decide_eq_true_eq]; omega)) (by rw [e0]) (h48 41 (by decide) (by decide) (by decide)) (h48 42 (by decide) (by decide) (by decide)))
  rw [e 8 rfl, e 9 rfl, e 63 rfl, e 69 rfl, e 61 rfl, h48 29 (by decide) (by decide) (by decide)]
  exact h.2.2.2.1.fr (e 3 rfl) (e 4 rfl) (e 5 rfl) (e 6 rfl)
theorem rlZ.mdl {M N : Nat → Int → Int} {Rf : Nat → Nat → Option Nat} {t : Nat} {b : Bool} {it : Int} (h : rlZ M Rf t b it) (hx : ∀ x, relB x = true → N x = M x) (h48 : ∀ k, k ≠ 4 → k ≠ 38 → k ≠ 40 → N 48 k = M 48 k) (hn : nk M → nk N) : rlZ N Rf t b (it + 1) := h.all hx h48 hn h.1.2.1 (fun _ _ => rfl)
theorem rlZ.cd {M N : Nat → Int → Int} {Rf : Nat → Nat → Option Nat} {t : Nat} {b : Bool} {it c : Int} (h : rlZ M Rf t b it) (hc : cdP M N c) : rlZ N Rf t b (it + 1) :=
  h.mdl (fun x hx => hc.1 x (by intro z; subst z; cases hx)) (fun k k4 _ _ => hc.2.2 k k4) (fun z l l0 l1 => by rw [hc.1 64 (by decide)]; exact z l l0 l1)
/-- what is kept up from call to call -/
def rlA (N : Nat → Int → Int) (Rf : Nat → Nat → Option Nat) (it : Int) : Prop := ∃ (t : Nat) (b : Bool), rlV N Rf t b it ∨ rlZ N Rf t b it
theorem rlA.it {N : Nat → Int → Int} {Rf : Nat → Nat → Option Nat} {it : Int} (h : rlA N Rf it) : rlA N Rf (it + 1) := by
  obtain ⟨t, b, h | h⟩ := h
  · exact ⟨t, b, Or.inl h.it⟩
  · exact ⟨t, b, Or.inr (h.mdl (fun _ _ => rfl) (fun _ _ _ _ => rfl) id)⟩
def lcA (S : mx_Sc) (κ1 κ2 : mx_M) (ar : List Value) (M : Nat → Int → Int) (L : Nat → Nat → Int64) (Rf : Nat → Nat → Option Nat) (it : Int) : Prop :=
  ∃ (bc bs : Nat) (Pk : Option Value → mx_H → Prop), (bc ≤ 1 ∧ bs ≤ 6) ∧ mx_C S κ1 (.ref 0 :: (ar ++ [.ref 81])) (false, mx_SH, M, L, Rf) bc bs Pk (fun _ _ => False) ∧ ∀ v h1, Pk v h1 → ∃ (N1 : Nat → Int → Int) (L1 : Nat → Nat → Int64) (Rf1 : Nat → Nat → Option Nat) (k : Int), h1 = (false, mx_SH, N1, L1, Rf1) ∧ v = some (.int (iI k)) ∧ (0 ≤ k ∧ k ≤ 2) ∧ mx_rf Rf1 ∧
    ∃ Pm : Option Value → mx_H → Prop, mx_C S κ2 (.ref 48 :: ar) (false, mx_SH, N1, L1, Rf1) 0 0 Pm (fun _ _ => False) ∧ ∀ v2 h2, Pm v2 h2 → ∃ (N2 : Nat → Int → Int) (z : Int), h2 = (false, mx_SH, N2, L1, Rf1) ∧ v2 = some (.int (iI z)) ∧ N2 48 4 = k ∧ (k = 0 → L1 81 0 = (iI z).toInt64) ∧ rlA N2 Rf1 (it + 1)
def lcAD (S : mx_Sc) (κ1 κ2 : mx_M) (ar : List Value) (M : Nat → Int → Int) (L : Nat → Nat → Int64) (Rf : Nat → Nat → Option Nat) (it : Int) : Prop :=
  ∃ (bc bs : Nat) (Pk : Option Value → mx_H → Prop), (bc ≤ 1 ∧ bs ≤ 6) ∧ mx_C S κ1 (.ref 0 :: (ar ++ [.ref 81])) (false, mx_SH, M, L, Rf) bc bs Pk (fun _ _ => False) ∧ ∀ v h1, Pk v h1 → ∃ (N1 : Nat → Int → Int) (L1 : Nat → Nat → Int64) (Rf1 : Nat → Nat → Option Nat) (k : Int), h1 = (false, mx_SH, N1, L1, Rf1) ∧ v = some (.int (iI k)) ∧ (0 ≤ k ∧ k ≤ 2) ∧ mx_rf Rf1 ∧
    ∃ Pm : Option Value → mx_H → Prop, mx_C S κ2 (.ref 48 :: ar) (false, mx_SH, N1, L1, Rf1) 0 0 Pm (fun _ _ => False) ∧ ∀ v2 h2, Pm v2 h2 → ∃ (N2 : Nat → Int → Int) (z : Bool), h2 = (false, mx_SH, N2, L1, Rf1) ∧ v2 = some (.int (iI (bI z))) ∧ N2 48 4 = k ∧ (k = 0 → L1 81 0 = if z = true then 1 else 0) ∧ rlA N2 Rf1 (it + 1)
def lcA0 (S : mx_Sc) (κ1 κ2 : mx_M) (ar : List Value) (iv : Bool) (M : Nat → Int → Int) (L : Nat → Nat → Int64) (Rf : Nat → Nat → Option Nat) (it : Int) : Prop :=
  ∃ (Pk : Option Value → mx_H → Prop), mx_C S κ1 (.ref 0 :: ar) (false, mx_SH, M, L, Rf) 0 0 Pk (fun _ _ => False) ∧ ∀ v h1, Pk v h1 → ∃ (N1 : Nat → Int → Int) (Rf1 : Nat → Nat → Option Nat), h1 = (false, mx_SH, N1, L, Rf1) ∧ mx_rf Rf1 ∧ (iv = true → ∃ y : Int, v = some (.int (iI y))) ∧ (iv = false → v = none) ∧
    ∃ Pm : Option Value → mx_H → Prop, mx_C S κ2 (.ref 48 :: ar) (false, mx_SH, N1, L, Rf1) 0 0 Pm (fun _ _ => False) ∧ ∀ v2 h2, Pm v2 h2 → ∃ (N2 : Nat → Int → Int), h2 = (false, mx_SH, N2, L, Rf1) ∧ v2 = v ∧ rlA N2 Rf1 (it + 1)
theorem lcase.a {S : mx_Sc} {κ1 κ2 : mx_M} {ar : List Value} {M : Nat → Int → Int} {L : Nat → Nat → Int64} {Rf : Nat → Nat → Option Nat} {it : Int} (h : lcase S κ1 κ2 ar M L Rf it) : lcA S κ1 κ2 ar M L Rf it := by
  obtain ⟨bc, bs, Pk, hb, hC, hP⟩ := h
  refine ⟨bc, bs, Pk, hb, hC, fun v h1 hp => ?_⟩
  obtain ⟨N1, L1, Rf1, k, a1, a2, a3, a4, Pm, hm, hq⟩ := hP v h1 hp
  refine ⟨N1, L1, Rf1, k, a1, a2, a3, a4, Pm, hm, fun v2 h2 hp2 => ?_⟩
  obtain ⟨N2, z, t2, b2, c1, c2, c3, c4, c5⟩ := hq v2 h2 hp2
  exact ⟨N2, z, c1, c2, c3, c4, t2, b2, Or.inl c5⟩
theorem lcaseD.a {S : mx_Sc} {κ1 κ2 : mx_M} {ar : List Value} {M : Nat → Int → Int} {L : Nat → Nat → Int64} {Rf : Nat → Nat → Option Nat} {it : Int} (h : lcaseD S κ1 κ2 ar M L Rf it) : lcAD S κ1 κ2 ar M L Rf it := by
  obtain ⟨bc, bs, Pk, hb, hC, hP⟩ := h
  refine ⟨bc, bs, Pk, hb, hC, fun v h1 hp => ?_⟩
  obtain ⟨N1, L1, Rf1, k, a1, a2, a3, a4, Pm, hm, hq⟩ := hP v h1 hp
  refine ⟨N1, L1, Rf1, k, a1, a2, a3, a4, Pm, hm, fun v2 h2 hp2 => ?_⟩
  obtain ⟨N2, z, t2, b2, c1, c2, c3, c4, c5⟩ := hq v2 h2 hp2
  exact ⟨N2, z, c1, c2, c3, c4, t2, b2, Or.inl c5⟩
theorem lcase0.a {S : mx_Sc} {κ1 κ2 : mx_M} {ar : List Value} {iv : Bool} {M : Nat → Int → Int} {L : Nat → Nat → Int64} {Rf : Nat → Nat → Option Nat} {it : Int} (h : lcase0 S κ1 κ2 ar iv M L Rf it) : lcA0 S κ1 κ2 ar iv M L Rf it := by
  obtain ⟨Pk, hC, hP⟩ := h
  refine ⟨Pk, hC, fun v h1 hp => ?_⟩
  obtain ⟨N1, Rf1, a1, a2, a3, a4, Pm, hm, hq⟩ := hP v h1 hp
  refine ⟨N1, Rf1, a1, a2, a3, a4, Pm, hm, fun v2 h2 hp2 => ?_⟩
  obtain ⟨N2, t2, b2, c1, c2, c5⟩ := hq v2 h2 hp2
  exact ⟨N2, c1, c2, t2, b2, Or.inl c5⟩
