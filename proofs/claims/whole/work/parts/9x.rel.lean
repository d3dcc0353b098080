/-- a told valley's oils -/
def toP (K F : Int) (g : Int → Int) : Prop := ∀ l, 0 ≤ l → l < K → 0 ≤ g (3 * l) ∧ 0 ≤ g (3 * l + 1) ∧ 0 ≤ g (3 * l + 2) ∧ g (3 * l) + g (3 * l + 1) + g (3 * l + 2) = F
/-- one story in both: the lamps, the book, the status -/
def stP (tC tR : sp_T) (M : Nat → Int → Int) (a : Nat) (D W R v D2 W2 O R2 : Int → Int) (n it : Int) : Prop :=
  (scR tC M a v ∧ M a 3 = n ∧ (0 ≤ n ∧ n ≤ tR.1 5) ∧ sp_vok tR v ∧ wdI v) ∧
  ((∀ l, tR.1 1 ≤ l → l < 6 → sp_out v l = false) ∧ (∀ l, 0 ≤ l → l < 6 → v (24 + l) < n) ∧ (∀ i, 0 ≤ i → i < 18 → 0 ≤ M (a + 1) i ∧ M (a + 1) i < 32) ∧ (∀ i, 0 ≤ i → i < 18 → -1000 ≤ v i ∧ v i ≤ 1000)) ∧
  ((∀ j, 0 ≤ j → j < n → ∀ i, 0 ≤ i → i < 3 * tR.1 1 → D (j * 18 + i) = D2 (j * 18 + i)) ∧ (∀ j, 0 ≤ j → j ≤ n → ∀ i, 0 ≤ i → i < 3 * tR.1 1 → W (j * 18 + i) = W2 (j * 18 + i))) ∧
  ((∀ j, 0 ≤ j → j < n → (0 ≤ O j ∧ O j < 64) ∧ ∀ l, 0 ≤ l → l < 6 → ob (O j) l = bI (sp_out (sp_part v j) l)) ∧ (∀ j, 0 ≤ j → j < n → toP (tR.1 1) (tR.1 0) (fun i => D2 (j * 18 + i))) ∧ (∀ j, 0 ≤ j → j ≤ n → toP (tR.1 1) (tR.1 0) (fun i => W2 (j * 18 + i))) ∧ (∀ j, 0 ≤ j → j < n → ∀ l, 0 ≤ l → l < tR.1 1 → sp_out (sp_part v j) l = true → ∀ q, 0 ≤ q → q < 3 → D2 (j * 18 + 3 * l + q) = W2 ((j + 1) * 18 + 3 * l + q))) ∧
  ((∀ i, 0 ≤ i → i < 1800 → 0 ≤ W i ∧ W i < 32) ∧ (∀ i, 0 ≤ i → i < 1800 → -1000 ≤ W2 i ∧ W2 i ≤ 1000)) ∧
  (∀ i, 0 ≤ i → i < 3 → R i = R2 i ∧ 0 ≤ R2 i ∧ R2 i ≤ it)
def rfs (Rf : Nat → Nat → Option Nat) : Prop := (∀ k : Nat, k < 5 → Rf 49 k = some (1001 + (1 + k))) ∧ ∀ k : Nat, k < 4 → Rf 50 k = some (1001 + (6 + k))
/-- the class and the reference hold the same valley -/
def rlV (M : Nat → Int → Int) (Rf : Nat → Nat → Option Nat) (t : Nat) (b : Bool) (it : Int) : Prop :=
  ((t = 29 ∨ t = 37) ∧ mx_rf Rf ∧ rfs Rf ∧ Rf 0 10 = some t ∧ Rf 0 11 = some (66 - t)) ∧
  (sp_tok (sp_tR M) ∧ eqS (sp_tC M t) (sp_tR M) ∧ (∀ l, 0 ≤ l → l < M 53 1 → M (t + 3) l = M 57 l) ∧ sp_lok (sp_tR M) (M 57) ∧ (∀ i, 0 ≤ i → i < 3 * M 53 1 → M (t + 4) i = M 56 i) ∧ toP (M 53 1) (M 53 0) (M 56) ∧ oj M t ∧ oj M (66 - t)) ∧
  ((0 ≤ M 48 15 ∧ M 48 15 ≤ 500) ∧ M 0 12 = M 48 15 ∧ (M 1 = M 62 ∧ ∀ y, 0 ≤ y → y < 500 → 0 ≤ M 62 y ∧ M 62 y ≤ 255) ∧ M 0 13 = M 48 24 ∧ nk M ∧ mcs M) ∧
  stP (sp_tC M t) (sp_tR M) M 3 (M 7) (M 8) (M 9) (M 63) (M 68) (M 69) (M 70) (M 61) (M 48 29) it ∧
  (M 0 14 = bI b ∧ M 48 41 = bI b ∧ (b = true → stP (sp_tC M t) (sp_tR M) M 11 (M 15) (M 16) (M 17) (M 76) (M 77) (M 78) (M 79) (M 80) (M 48 42) it))
/-- what the relation looks at -/
def relB (x : Nat) : Bool := decide (x ≤ 17 ∨ (29 ≤ x ∧ x ≤ 44) ∨ (51 ≤ x ∧ x ≤ 63) ∨ (68 ≤ x ∧ x ≤ 70) ∨ (76 ≤ x ∧ x ≤ 80))
set_option maxHeartbeats 4000000 in
theorem rlV.fr {M N : Nat → Int → Int} {Rf Rf2 : Nat → Nat → Option Nat} {t : Nat} {b : Bool} {it : Int} (h : rlV M Rf t b it) (hx : ∀ x, relB x = true → N x = M x) (h15 : N 48 15 = M 48 15) (h24 : N 48 24 = M 48 24) (h29 : N 48 29 = M 48 29) (h41 : N 48 41 = M 48 41) (h42 : N 48 42 = M 48 42) (hn : nk M → nk N) (hR : mx_rf Rf2) (hRx : ∀ y, y ≠ 46 → Rf2 y = Rf y) : rlV N Rf2 t b it := by
  obtain ⟨⟨ht, a1, a2, a3, a4⟩, b1, ⟨c1, c2, c3, c4, c5, c6⟩, d, f1, f2, f3⟩ := h
  have e0 : N 0 = M 0 := hx 0 rfl
  have e1 : N 1 = M 1 := hx 1 rfl
  have e2 : N 2 = M 2 := hx 2 rfl
  have e3 : N 3 = M 3 := hx 3 rfl
  have e4 : N 4 = M 4 := hx 4 rfl
  have e5 : N 5 = M 5 := hx 5 rfl
  have e6 : N 6 = M 6 := hx 6 rfl
  have e7 : N 7 = M 7 := hx 7 rfl
  have e8 : N 8 = M 8 := hx 8 rfl
  have e9 : N 9 = M 9 := hx 9 rfl
  have e10 : N 10 = M 10 := hx 10 rfl
  have e11 : N 11 = M 11 := hx 11 rfl
  have e12 : N 12 = M 12 := hx 12 rfl
  have e13 : N 13 = M 13 := hx 13 rfl
  have e14 : N 14 = M 14 := hx 14 rfl
  have e15 : N 15 = M 15 := hx 15 rfl
  have e16 : N 16 = M 16 := hx 16 rfl
  have e17 : N 17 = M 17 := hx 17 rfl
  have e29 : N 29 = M 29 := hx 29 rfl
  have e30 : N 30 = M 30 := hx 30 rfl
  have e31 : N 31 = M 31 := hx 31 rfl
  have e32 : N 32 = M 32 := hx 32 rfl
  have e33 : N 33 = M 33 := hx 33 rfl
  have e34 : N 34 = M 34 := hx 34 rfl
  have e35 : N 35 = M 35 := hx 35 rfl
  have e36 : N 36 = M 36 := hx 36 rfl
  have e37 : N 37 = M 37 := hx 37 rfl
  have e38 : N 38 = M 38 := hx 38 rfl
  have e39 : N 39 = M 39 := hx 39 rfl
  have e40 : N 40 = M 40 := hx 40 rfl
  have e41 : N 41 = M 41 := hx 41 rfl
  have e42 : N 42 = M 42 := hx 42 rfl
  have e43 : N 43 = M 43 := hx 43 rfl
  have e44 : N 44 = M 44 := hx 44 rfl
  have e51 : N 51 = M 51 := hx 51 rfl
  have e52 : N 52 = M 52 := hx 52 rfl
  have e53 : N 53 = M 53 := hx 53 rfl
  have e54 : N 54 = M 54 := hx 54 rfl
  have e55 : N 55 = M 55 := hx 55 rfl
  have e56 : N 56 = M 56 := hx 56 rfl
  have e57 : N 57 = M 57 := hx 57 rfl
  have e58 : N 58 = M 58 := hx 58 rfl
  have e59 : N 59 = M 59 := hx 59 rfl
  have e60 : N 60 = M 60 := hx 60 rfl
  have e61 : N 61 = M 61 := hx 61 rfl
  have e62 : N 62 = M 62 := hx 62 rfl
  have e63 : N 63 = M 63 := hx 63 rfl
  have e68 : N 68 = M 68 := hx 68 rfl
  have e69 : N 69 = M 69 := hx 69 rfl
  have e70 : N 70 = M 70 := hx 70 rfl
  have e76 : N 76 = M 76 := hx 76 rfl
  have e77 : N 77 = M 77 := hx 77 rfl
  have e78 : N 78 = M 78 := hx 78 rfl
  have e79 : N 79 = M 79 := hx 79 rfl
  have e80 : N 80 = M 80 := hx 80 rfl
  have g1 : rfs Rf2 := by
    unfold rfs
    rw [hRx 49 (by decide), hRx 50 (by decide)]
    exact a2
  have g3 : Rf2 0 10 = some t := by rw [hRx 0 (by decide)]; exact a3
  have g4 : Rf2 0 11 = some (66 - t) := by rw [hRx 0 (by decide)]; exact a4
  have g5 := hn c5
  refine ⟨⟨ht, hR, g1, g3, g4⟩, ?_⟩
  rcases ht with rfl | rfl
  · simp only [sp_tC, sp_tR, oj, mcs, stP, scR, Nat.reduceAdd, Nat.reduceSub, e0, e1, e2, e3, e4, e5, e6, e7, e8, e9, e10, e11, e12, e13, e14, e15, e16, e17, e29, e30, e31, e32, e33, e34, e35, e36, e37, e38, e39, e40, e41, e42, e43, e44, e51, e52, e53, e54, e55, e56, e57, e58, e59, e60, e61, e62, e63, e68, e69, e70, e76, e77, e78, e79, e80, h15, h24, h29, h41, h42] at b1 c1 c2 c3 c4 c6 d f1 f2 f3 ⊢
    exact ⟨b1, ⟨c1, c2, c3, c4, g5, c6⟩, d, f1, f2, f3⟩
  · simp only [sp_tC, sp_tR, oj, mcs, stP, scR, Nat.reduceAdd, Nat.reduceSub, e0, e1, e2, e3, e4, e5, e6, e7, e8, e9, e10, e11, e12, e13, e14, e15, e16, e17, e29, e30, e31, e32, e33, e34, e35, e36, e37, e38, e39, e40, e41, e42, e43, e44, e51, e52, e53, e54, e55, e56, e57, e58, e59, e60, e61, e62, e63, e68, e69, e70, e76, e77, e78, e79, e80, h15, h24, h29, h41, h42] at b1 c1 c2 c3 c4 c6 d f1 f2 f3 ⊢
    exact ⟨b1, ⟨c1, c2, c3, c4, g5, c6⟩, d, f1, f2, f3⟩
