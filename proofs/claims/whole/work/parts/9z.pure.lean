/-- the first round is one -/
theorem frP_u {t : sp_T} {lk : Int → Int} {n : Int} {v : Int → Int} {x y : Int} {w u : Int → Int} (h : frP t lk n v x w) (h2 : frP t lk n v y u) : x = y ∧ (x ≠ -1 → w = u) := by
  rcases h with ⟨d, b, d1, d2, b0, b1, hp, hs, hm, hn, rfl, rfl⟩ | ⟨hn, rfl⟩
  · rcases h2 with ⟨d', b', d1', d2', b0', b1', hp', hs', hm', hn', rfl, rfl⟩ | ⟨hn', rfl⟩
    · have e : d = d' := by
        rcases Int.lt_trichotomy d d' with e | e | e
        · exact absurd hs (hn' d b d1 e b0 b1 hp)
        · exact e
        · exact absurd hs' (hn d' b' d1' e b0' b1' hp')
      subst e
      have e : b = b' := by
        rcases Int.lt_trichotomy b b' with e | e | e
        · exact absurd hs' (hm b' e b1' hp')
        · exact e
        · exact absurd hs (hm' b e b1 hp)
      subst e
      exact ⟨rfl, fun _ => rfl⟩
    · exact absurd hs (hn' d b d1 (by omega) b0 b1 hp)
  · rcases h2 with ⟨d', b', d1', d2', b0', b1', hp', hs', hm', hn', rfl, rfl⟩ | ⟨hn', rfl⟩
    · exact absurd hs' (hn d' b' d1' (by omega) b0' b1' hp')
    · exact ⟨rfl, fun z => absurd rfl z⟩
theorem frP_c {t s : sp_T} (h : eqS t s) (hT : sp_tok t) {lk lk2 : Int → Int} (hl : eqL t lk lk2) {n : Int} {v : Int → Int} {x : Int} {w : Int → Int} (h2 : frP t lk n v x w) : frP s lk2 n v x w := by
  have hr : ∀ j, rr t lk n v j = rr s lk2 n v j := fun j => by unfold rr; exact h.run hT hl false false n v _
  have hs : smP t lk n v = smP s lk2 n v := by
    funext a b
    unfold smP
    rw [hr a, hr b, h.1 1 (by decide) (by decide)]
  unfold frP noR at h2 ⊢
  rw [hs] at h2
  simp only [hr] at h2
  exact h2
theorem odf_x {K : Nat} (hK : K ≤ 6) {a b : Int} (ha : 0 ≤ a ∧ a < 64) (hb : 0 ≤ b ∧ b < 64) (h : ∀ l : Int, 0 ≤ l → l < K → ob a l = ob b l) : odf (2 ^ K - 1) a = odf (2 ^ K - 1) b := by
  have h9 := odf_x0 ⟨K, by omega⟩ ⟨a.toNat, by omega⟩ ⟨b.toNat, by omega⟩ (fun l hl => by
    show ob ((a.toNat : Nat) : Int) _ = ob ((b.toNat : Nat) : Int) _
    rw [show ((a.toNat : Nat) : Int) = a by omega, show ((b.toNat : Nat) : Int) = b by omega]
    exact h l.val (by omega) (by have : l.val < K := hl; omega))
  simp only [show ((a.toNat : Nat) : Int) = a by omega, show ((b.toNat : Nat) : Int) = b by omega] at h9
  exact h9
theorem ft_c {t s : sp_T} (h : eqS t s) (hT : sp_tok t) (v : Int → Int) (n : Int) {l : Int} (hl : 0 ≤ l ∧ l < t.1 1) (g : Int → Int) (k : Int) : sp_ft t v n l g k = sp_ft s v n l g k := by
  unfold sp_ft sp_mo
  rw [h.move hT hl]
theorem tl_cc {t s : sp_T} (h : eqS t s) (hT : sp_tok t) {lk lk2 : Int → Int} (hl : eqL t lk lk2) (v : Int → Int) (n : Int) {l : Int} (hl2 : 0 ≤ l ∧ l < t.1 1) (r : Int) (k : Nat) : tl_c t lk v n l r k = tl_c s lk2 v n l r k := by
  have hg : tl_g t lk (sp_run t lk false false n k v) (n + k) l = tl_g s lk2 (sp_run s lk2 false false n k v) (n + k) l := by
    unfold tl_g
    rw [h.run hT hl, h.move hT hl2, hl l hl2.1 hl2.2]
  unfold tl_c
  rw [hg, h.run hT hl]
  simp only [ft_c h hT _ _ hl2]
theorem tl_sc {t s : sp_T} (h : eqS t s) (hT : sp_tok t) {lk lk2 : Int → Int} (hl : eqL t lk lk2) (v : Int → Int) (n : Int) {l : Int} (hl2 : 0 ≤ l ∧ l < t.1 1) (r : Int) : ∀ k : Nat, tl_s t lk v n l r k = tl_s s lk2 v n l r k
  | 0 => rfl
  | k + 1 => by
    simp only [tl_s]
    rw [tl_sc h hT hl v n hl2 r k, tl_cc h hT hl v n hl2 r k]
theorem ac_c {t s : sp_T} (h : eqS t s) {l : Int} (hl : 0 ≤ l ∧ l < t.1 1) : ∀ k : Nat, (k : Int) ≤ t.1 1 → sp_ac t l k = sp_ac s l k
  | 0, _ => rfl
  | k + 1, hk => by
    simp only [sp_ac]
    rw [ac_c h hl k (by omega), (h.2.1 k (by omega) (by omega)).2, (h.2.1 l hl.1 hl.2).2]
theorem nth_c {t s : sp_T} (h : eqS t s) {l j : Int} (hl : 0 ≤ l ∧ l < t.1 1) : ∀ k : Nat, (k : Int) ≤ t.1 1 → sp_nth t l j k = sp_nth s l j k
  | 0, _ => rfl
  | k + 1, hk => by
    simp only [sp_nth]
    rw [nth_c h hl k (by omega), ac_c h hl k (by omega), (h.2.1 k (by omega) (by omega)).2, (h.2.1 l hl.1 hl.2).2]
theorem can_c {t s : sp_T} (h : eqS t s) (hT : sp_tok t) {l : Int} (hl : 0 ≤ l ∧ l < t.1 1) : sp_can t l = sp_can s l := by
  have h1 := hT.2.1
  unfold sp_can
  rw [ac_c h hl _ (by omega), (h.2.1 l hl.1 hl.2).1, h.1 1 (by decide) (by decide)]
theorem ds_c {t s : sp_T} (h : eqS t s) (hT : sp_tok t) (z : Int) : ∀ k : Nat, (k : Int) ≤ t.1 1 → sp_ds t z k = sp_ds s z k
  | 0, _ => rfl
  | k + 1, hk => by
    simp only [sp_ds]
    rw [ds_c h hT z k (by omega), can_c h hT (by omega)]
theorem dl_c {t s : sp_T} (h : eqS t s) (hT : sp_tok t) (z : Int) : eqL t (sp_dl t z) (sp_dl s z) := fun l l0 l1 => by
  have h1 := hT.2.1
  unfold sp_dl
  rw [can_c h hT ⟨l0, l1⟩, ds_c h hT z _ (by omega), ac_c h ⟨l0, l1⟩ _ (by omega), nth_c h ⟨l0, l1⟩ _ (by omega), h.1 1 (by decide) (by decide)]
theorem ysd_c {t s : sp_T} (h : eqS t s) (hT : sp_tok t) (z : Int) : ∀ k : Nat, ysd t z k = ysd s z k
  | 0 => rfl
  | k + 1 => by
    have h1 := hT.2.1
    simp only [ysd]
    rw [ysd_c h hT z k, ds_c h hT _ _ (by omega), h.1 1 (by decide) (by decide)]
theorem yal_c {t s : sp_T} (h : eqS t s) (hT : sp_tok t) (hS : sp_tok s) {g g2 : Int → Int} (hg : ∀ i, 0 ≤ i → i < 3 * t.1 1 → g i = g2 i) {z l : Int} (hl : 0 ≤ l ∧ l < t.1 1) : ∀ k : Nat, yal t g z l k = yal s g2 z l k
  | 0 => rfl
  | k + 1 => by
    have h1 := hT.2.1
    have e1 : t.1 1 = s.1 1 := h.1 1 (by decide) (by decide)
    have hq : qw s (bgv g) (bgv g2) := ⟨fun i i0 i1 => by unfold bgv; rw [if_pos (by omega), if_pos (by omega), hg i i0 (by omega)], fun i i0 i1 => by unfold bgv; rw [if_neg (by omega), if_neg (by omega)]⟩
    simp only [yal]
    rw [yal_c h hT hS hg hl k, ysd_c h hT z k, h.run hT (dl_c h hT _), h.1 5 (by decide) (by decide), (qw_run hS (dl_lok hS _) false false 0 hq _).qo hS |>.out (a := l) (by omega)]
theorem part_ok {t : sp_T} {v : Int → Int} (hv : sp_vok t v) (hT : sp_tok t) {D : Int → Int} {p u : Int} (hD : ∀ l, 0 ≤ l → l < t.1 1 → 0 ≤ D (p + 3 * l) ∧ 0 ≤ D (p + (3 * l + 1)) ∧ 0 ≤ D (p + (3 * l + 2)) ∧ D (p + 3 * l) + D (p + (3 * l + 1)) + D (p + (3 * l + 2)) = t.1 0) : sp_vok t (sp_oil D (sp_part v u) p) := by
  have h1 := hT.2.1
  refine ⟨fun l l0 l1 => ?_, fun l l0 l1 => ?_⟩
  · unfold sp_oil
    rw [if_pos (by omega), if_pos (by omega), if_pos (by omega)]
    exact hD l l0 l1
  · have h9 := hv.2 l l0 l1
    unfold sp_oil
    rw [if_neg (by omega), if_neg (by omega), part_m v u ⟨l0, l1⟩, part_n v u ⟨l0, l1⟩]
    constructor <;> split <;> omega
theorem bkM_ok {t : sp_T} (hT : sp_tok t) {D O : Int → Int} {j : Int} (hD : toP (t.1 1) (t.1 0) (fun i => D (j * 18 + i))) : sp_vok t (bkM D O j) := by
  have h1 := hT.2.1
  refine ⟨fun l l0 l1 => ?_, fun l l0 l1 => ?_⟩
  · unfold bkM
    rw [if_pos (by omega), if_pos (by omega), if_pos (by omega)]
    exact hD l l0 l1
  · have hm : bkM D O j (18 + l) = -1 ∨ bkM D O j (18 + l) = 0 := by
      unfold bkM
      rw [if_neg (by omega), if_pos (by omega)]
      split
      · exact Or.inr rfl
      · exact Or.inl rfl
    have hn : bkM D O j (24 + l) = -1 := by
      unfold bkM
      rw [if_neg (by omega), if_neg (by omega)]
    omega
theorem bkM_out {D O : Int → Int} {j l : Int} (hl : 0 ≤ l ∧ l < 6) : sp_out (bkM D O j) l = decide (ob (O j) l = 1) := by
  unfold sp_out bkM
  rw [if_neg (by omega), if_pos (by omega), show 18 + l - 18 = l by omega]
  by_cases e : ob (O j) l = 1
  · rw [if_pos e, decide_eq_true e]; rfl
  · rw [if_neg e, decide_eq_false e]; rfl
/-- a night of the book fits in both -/
theorem bk_mf {t s : sp_T} (h : eqS t s) (hT : sp_tok t) (hS : sp_tok s) {D W v D2 W2 O : Int → Int} {l j k : Int} (hl : 0 ≤ l ∧ l < s.1 1) (hk : 0 ≤ k ∧ k < 7) (hk2 : k = 6 ∨ k < s.1 1) (hD : ∀ i, 0 ≤ i → i < 3 * s.1 1 → D (j * 18 + i) = D2 (j * 18 + i)) (hW : ∀ i, 0 ≤ i → i < 3 * s.1 1 → W ((j + 1) * 18 + i) = W2 ((j + 1) * 18 + i)) (hO : ∀ l, 0 ≤ l → l < 6 → ob (O j) l = bI (sp_out (sp_part v j) l)) (hDW : sp_out (sp_part v j) l = true → ∀ q, 0 ≤ q → q < 3 → D2 (j * 18 + 3 * l + q) = W2 ((j + 1) * 18 + 3 * l + q)) : bk_ft t D W v l j k = mfB s O D2 W2 l j (if k = 6 then -1 else k) := by
  have h1 := hS.2.1
  have e1 : t.1 1 = s.1 1 := h.1 1 (by decide) (by decide)
  have hl6 : 0 ≤ l ∧ l < 6 := by omega
  have hw : ∀ q, 0 ≤ q → q < 3 → W ((j + 1) * 18 + l * 3 + q) = W2 ((j + 1) * 18 + l * 3 + q) := fun q q0 q1 => by
    have := hW (l * 3 + q) (by omega) (by omega)
    rw [show (j + 1) * 18 + (l * 3 + q) = (j + 1) * 18 + l * 3 + q by omega] at this
    exact this
  unfold bk_ft mfB
  rw [ft_c h hT _ _ (by omega)]
  unfold sp_ft sp_mo
  have ho : sp_out (bk_v D v j) l = sp_out (sp_part v j) l := by unfold bk_v; exact oil_out _ _ _ hl.1
  rw [ho, hO l hl.1 hl6.2]
  cases hx : sp_out (sp_part v j) l with
  | true =>
    rw [if_pos rfl, if_pos (show bI true = 1 from rfl)]
    have h9 := hDW hx
    refine decide_eq_true ?_
    have hb : ∀ q, 0 ≤ q → q < 3 → bk_v D v j (3 * l + q) = W ((j + 1) * 18 + l * 3 + q) := fun q q0 q1 => by
      unfold bk_v sp_oil
      rw [if_pos (by omega), hw q q0 q1, hD (3 * l + q) (by omega) (by omega), show j * 18 + (3 * l + q) = j * 18 + 3 * l + q by omega, h9 q q0 q1, show (j + 1) * 18 + l * 3 + q = (j + 1) * 18 + 3 * l + q by omega]
    exact ⟨hb 0 (by decide) (by decide), hb 1 (by decide) (by decide), hb 2 (by decide) (by decide)⟩
  | false =>
    rw [if_neg (show ¬ (false = true) by decide), if_neg (show ¬ (bI false = 1) by decide)]
    have hq : qo s (bk_v D v j) (bkM D2 O j) := by
      refine ⟨fun i i0 i1 => ?_, fun a a0 a1 => ?_⟩
      · unfold bk_v sp_oil bkM
        rw [if_pos (by omega), if_pos (by omega), hD i i0 i1]
      · rw [bkM_out ⟨a0, by omega⟩, hO a a0 (by omega)]
        unfold bk_v
        rw [oil_out _ _ _ a0]
        cases sp_out (sp_part v j) a <;> rfl
    have h9 := hq.mvB hS (n := j) (l := l) (w := if k = 6 then -1 else k) hl (by split <;> omega) (fun q => W ((j + 1) * 18 + l * 3 + q))
    have h8 : mvB s (bkM D2 O j) j l (if k = 6 then -1 else k) (fun q => W ((j + 1) * 18 + l * 3 + q)) = mvB s (bkM D2 O j) j l (if k = 6 then -1 else k) (fun q => W2 ((j + 1) * 18 + l * 3 + q)) := by
      unfold mvB
      exact decide_eq_decide.mpr (by dsimp only; rw [hw 0 (by decide) (by decide), hw 1 (by decide) (by decide), hw 2 (by decide) (by decide)])
    exact h9.trans h8
theorem bk_mfA {t s : sp_T} (h : eqS t s) (hT : sp_tok t) (hS : sp_tok s) {D W v D2 W2 O : Int → Int} {l k : Int} (hl : 0 ≤ l ∧ l < s.1 1) (hk : 0 ≤ k ∧ k < 7) (hk2 : k = 6 ∨ k < s.1 1) {n : Int} (hD : ∀ j, 0 ≤ j → j < n → ∀ i, 0 ≤ i → i < 3 * s.1 1 → D (j * 18 + i) = D2 (j * 18 + i)) (hW : ∀ j, 0 ≤ j → j ≤ n → ∀ i, 0 ≤ i → i < 3 * s.1 1 → W (j * 18 + i) = W2 (j * 18 + i)) (hO : ∀ j, 0 ≤ j → j < n → (0 ≤ O j ∧ O j < 64) ∧ ∀ l, 0 ≤ l → l < 6 → ob (O j) l = bI (sp_out (sp_part v j) l)) (hDW : ∀ j, 0 ≤ j → j < n → ∀ l, 0 ≤ l → l < s.1 1 → sp_out (sp_part v j) l = true → ∀ q, 0 ≤ q → q < 3 → D2 (j * 18 + 3 * l + q) = W2 ((j + 1) * 18 + 3 * l + q)) : ∀ m : Nat, (m : Int) ≤ n → bk_all t D W v l m k = mfA s O D2 W2 l m (if k = 6 then -1 else k)
  | 0, _ => rfl
  | m + 1, hm => by
    simp only [bk_all, mfA]
    rw [bk_mfA h hT hS hl hk hk2 hD hW hO hDW m (by omega), bk_mf h hT hS hl hk hk2 (hD m (by omega) (by omega)) (hW (m + 1) (by omega) (by omega)) (hO m (by omega) (by omega)).2 (hDW m (by omega) (by omega) l hl.1 hl.2)]
theorem ob7 {a b : Int} (ha : 0 ≤ a ∧ a < 128) (hb : 0 ≤ b ∧ b < 128) (h : ∀ l, 0 ≤ l → l < 7 → ob a l = ob b l) : a = b := by
  have h0 : a / 1 % 2 = b / 1 % 2 := h 0 (by decide) (by decide)
  have h1 : a / 2 % 2 = b / 2 % 2 := h 1 (by decide) (by decide)
  have h2 : a / 4 % 2 = b / 4 % 2 := h 2 (by decide) (by decide)
  have h3 : a / 8 % 2 = b / 8 % 2 := h 3 (by decide) (by decide)
  have h4 : a / 16 % 2 = b / 16 % 2 := h 4 (by decide) (by decide)
  have h5 : a / 32 % 2 = b / 32 % 2 := h 5 (by decide) (by decide)
  have h6 : a / 64 % 2 = b / 64 % 2 := h 6 (by decide) (by decide)
  omega
