theorem pk_sm {z : Int} (h : 0 ≤ z ∧ z < 1024) : ((iI z).toInt64).toBitVec.toNat = z.toNat := fin_of (n := 1024) (P := fun z => ((iI z).toInt64).toBitVec.toNat = z.toNat) (by decide +kernel) h.1 h.2
theorem pk_c : ((iI 10).toInt64 &&& 63).toBitVec.smod 64 = 10#64 := by decide
theorem pk_step {X : Int64} {p : Nat} (hX : X.toBitVec.toNat = p) (hp : p < 2 ^ 50) {r g : Int} (hr : 0 ≤ r ∧ r < 32) (hg : 0 ≤ g ∧ g < 32) : ((((X <<< ((iI 10).toInt64 &&& 63)) ||| (iI (r * 32)).toInt64) ||| (iI g).toInt64)).toBitVec.toNat = p * 1024 + r.toNat * 32 + g.toNat := by
  have e1 : (X <<< ((iI 10).toInt64 &&& 63)).toBitVec.toNat = p * 1024 := by
    rw [Int64.toBitVec_shiftLeft, pk_c, BitVec.shiftLeft_eq', BitVec.toNat_shiftLeft, hX, Nat.shiftLeft_eq]
    exact Nat.mod_eq_of_lt (by show p * 2 ^ 10 < 2 ^ 64; omega)
  rw [Int64.toBitVec_or, Int64.toBitVec_or, BitVec.toNat_or, BitVec.toNat_or, e1, pk_sm (by omega), pk_sm (by omega)]
  have e2 : (r * 32).toNat ||| g.toNat = r.toNat * 32 + g.toNat := by
    have h := Nat.shiftLeft_add_eq_or_of_lt (i := 5) (b := g.toNat) (by omega) r.toNat
    rw [Nat.shiftLeft_eq] at h
    rw [show (r * 32).toNat = r.toNat * 2 ^ 5 by omega]
    omega
  rw [Nat.or_assoc, e2]
  have h := Nat.shiftLeft_add_eq_or_of_lt (i := 10) (b := r.toNat * 32 + g.toNat) (by omega) p
  rw [Nat.shiftLeft_eq] at h
  have e3 : p * 2 ^ 10 = p * 1024 := rfl
  rw [e3] at h
  rw [← h]
  exact (Nat.add_assoc _ _ _).symm
def pkN (g : Int → Int) : Nat → Nat
  | 0 => 0
  | k + 1 => pkN g k * 1024 + (g ((k : Int) * 3)).toNat * 32 + (g ((k : Int) * 3 + 1)).toNat
theorem pkN_lt {g : Int → Int} (hb : ∀ i, 0 ≤ i → i < 18 → 0 ≤ g i ∧ g i < 32) : ∀ k : Nat, k ≤ 6 → pkN g k < 1024 ^ k
  | 0, _ => Nat.zero_lt_one
  | k + 1, hk => by
    have ih := pkN_lt hb k (by omega)
    have h1 := hb ((k : Int) * 3) (by omega) (by omega)
    have h2 := hb ((k : Int) * 3 + 1) (by omega) (by omega)
    show pkN g k * 1024 + (g ((k : Int) * 3)).toNat * 32 + (g ((k : Int) * 3 + 1)).toNat < 1024 ^ k * 1024
    omega
theorem pkS_N {g : Int → Int} (hb : ∀ i, 0 ≤ i → i < 18 → 0 ≤ g i ∧ g i < 32) : ∀ k : Nat, k ≤ 6 → (pkS g k).toBitVec.toNat = pkN g k
  | 0, _ => rfl
  | k + 1, hk => by
    have h3 := pkN_lt hb k (by omega)
    have h4 : 1024 ^ k ≤ 1024 ^ 5 := Nat.pow_le_pow_right (by decide) (by omega)
    rw [pkS_s]
    exact pk_step (pkS_N hb k (by omega)) (by omega) (hb _ (by omega) (by omega)) (hb _ (by omega) (by omega))
theorem pkN_inj {g g2 : Int → Int} (hb : ∀ i, 0 ≤ i → i < 18 → 0 ≤ g i ∧ g i < 32) (hb2 : ∀ i, 0 ≤ i → i < 18 → 0 ≤ g2 i ∧ g2 i < 32) : ∀ k : Nat, k ≤ 6 → pkN g k = pkN g2 k → ∀ j : Int, 0 ≤ j → j < k → g (j * 3) = g2 (j * 3) ∧ g (j * 3 + 1) = g2 (j * 3 + 1)
  | 0, _, _ => fun j j0 j1 => by omega
  | k + 1, hk, h => fun j j0 j1 => by
    have a1 := hb ((k : Int) * 3) (by omega) (by omega)
    have a2 := hb ((k : Int) * 3 + 1) (by omega) (by omega)
    have b1 := hb2 ((k : Int) * 3) (by omega) (by omega)
    have b2 := hb2 ((k : Int) * 3 + 1) (by omega) (by omega)
    have h5 : pkN g k * 1024 + (g ((k : Int) * 3)).toNat * 32 + (g ((k : Int) * 3 + 1)).toNat = pkN g2 k * 1024 + (g2 ((k : Int) * 3)).toNat * 32 + (g2 ((k : Int) * 3 + 1)).toNat := h
    by_cases e : j = k
    · rw [e]
      omega
    · exact pkN_inj hb hb2 k (by omega) (by omega) j j0 (by omega)
theorem pkS_inj {g g2 : Int → Int} (hb : ∀ i, 0 ≤ i → i < 18 → 0 ≤ g i ∧ g i < 32) (hb2 : ∀ i, 0 ≤ i → i < 18 → 0 ≤ g2 i ∧ g2 i < 32) (h : pkS g 6 = pkS g2 6) {j : Int} (j0 : 0 ≤ j) (j1 : j < 6) : g (j * 3) = g2 (j * 3) ∧ g (j * 3 + 1) = g2 (j * 3 + 1) := by
  have e : (pkS g 6).toBitVec.toNat = (pkS g2 6).toBitVec.toNat := by rw [h]
  rw [pkS_N hb 6 (by omega), pkS_N hb2 6 (by omega)] at e
  exact pkN_inj hb hb2 6 (by omega) e j j0 (by omega)
theorem pkS_congr {g g2 : Int → Int} (h : ∀ i, 0 ≤ i → i < 18 → g i = g2 i) : ∀ k : Nat, k ≤ 6 → pkS g k = pkS g2 k
  | 0, _ => rfl
  | k + 1, hk => by
    rw [pkS_s, pkS_s, pkS_congr h k (by omega), h _ (by omega) (by omega), h _ (by omega) (by omega)]

/-- the row at the j-th dusk from the 100th on -/
def rr (t : sp_T) (lk : Int → Int) (n : Int) (v : Int → Int) (j : Int) : Int → Int := sp_run t lk false false n (100 - n + j).toNat v
def smP (t : sp_T) (lk : Int → Int) (n : Int) (v : Int → Int) (j d : Int) : Prop := (∀ l, 0 ≤ l → l < t.1 1 → sp_out (rr t lk n v j) l = sp_out (rr t lk n v d) l) ∧ ∀ i, 0 ≤ i → i < 3 * t.1 1 → rr t lk n v j i = rr t lk n v d i
/-- none of the dusks up to d is as one an even number of nights ahead of it -/
def noR (t : sp_T) (lk : Int → Int) (n : Int) (v : Int → Int) (d : Int) : Prop := ∀ d2 b, 1 ≤ d2 → d2 < d → 0 ≤ b → b < d2 → (d2 - b) % 2 = 0 → ¬ smP t lk n v b d2
/-- what is to be told of the end -/
def frP (t : sp_T) (lk : Int → Int) (n : Int) (v : Int → Int) (x : Int) (w : Int → Int) : Prop := (∃ d b, 1 ≤ d ∧ d ≤ 1000 ∧ 0 ≤ b ∧ b < d ∧ (d - b) % 2 = 0 ∧ smP t lk n v b d ∧ (∀ b2, b < b2 → b2 < d → (d - b2) % 2 = 0 → ¬ smP t lk n v b2 d) ∧ noR t lk n v d ∧ x = d - b ∧ w = rr t lk n v d) ∨ (noR t lk n v 1001 ∧ x = -1)
theorem night_cnt {t : sp_T} (hT : sp_tok t) (lk : Int → Int) (hf ng : Bool) (n : Int) (v : Int → Int) : sp_cnt t v ≤ sp_cnt t (sp_night t lk hf ng n v) := by
  have h6 := hT.2.1
  have h1 : sp_cnt t (sp_mv t lk hf ng n v) = sp_cnt t v := sp_cnt_mvk t lk hf ng n v (t.1 1) (by omega)
  unfold sp_night
  rcases wed_nw hT n (sp_mv t lk hf ng n v) with h | h
  · rw [h.2, h1]
    exact Int.le_refl _
  · omega
theorem rr_s {t : sp_T} {lk : Int → Int} {n : Int} (hn : 0 ≤ n ∧ n ≤ 99) {v : Int → Int} {j : Int} (hj : 0 ≤ j) : rr t lk n v (j + 1) = sp_night t lk false false (100 + j) (rr t lk n v j) := by
  unfold rr
  rw [show (100 - n + (j + 1)).toNat = (100 - n + j).toNat + 1 by omega]
  show sp_night t lk false false (n + ((100 - n + j).toNat : Nat)) _ = _
  rw [show n + (((100 - n + j).toNat : Nat) : Int) = 100 + j by omega]
theorem cnt_sub {p q : Int → Bool} : ∀ K : Nat, (∀ l : Int, 0 ≤ l → l < K → p l = true → q l = true) → itN (fun l c => c + bI (p l)) K (0 : Int) ≤ itN (fun l c => c + bI (q l)) K 0 ∧ (itN (fun l c => c + bI (p l)) K (0 : Int) = itN (fun l c => c + bI (q l)) K 0 → ∀ l : Int, 0 ≤ l → l < K → p l = q l)
  | 0, _ => ⟨Int.le_refl _, fun _ l l0 l1 => by omega⟩
  | K + 1, h => by
    obtain ⟨h1, h2⟩ := cnt_sub K (fun l l0 l1 => h l l0 (by omega))
    have h3 := h K (by omega) (by omega)
    simp only [itN]
    have h4 : bI (p K) ≤ bI (q K) := by
      cases e : p K
      · have := bI_01 (q K)
        simp only [bI]
        simp
        omega
      · rw [h3 e]
        exact Int.le_refl _
    refine ⟨by omega, fun e l l0 l1 => ?_⟩
    by_cases q2 : l = K
    · subst q2
      have h5 : bI (p K) = bI (q K) := by omega
      cases e1 : p K <;> cases e2 : q K <;> rw [e1, e2] at h5 <;> simp [bI] at h5 ⊢
    · exact h2 (by omega) l l0 (by omega)
theorem rr_kp {t : sp_T} (hT : sp_tok t) {lk : Int → Int} {n : Int} (hn : 0 ≤ n ∧ n ≤ 99) {v : Int → Int} {j d l : Int} (hj : 0 ≤ j) (hd : j ≤ d) (hl : 0 ≤ l ∧ l < 6) (h : sp_out (rr t lk n v j) l = true) : sp_out (rr t lk n v d) l = true := by
  have h1 := run_kp hT n hl (100 - n + j).toNat h (d - j).toNat
  unfold rr at h ⊢
  rw [show (100 - n + d).toNat = (100 - n + j).toNat + (d - j).toNat by omega]
  unfold sp_out at h ⊢
  rw [h1.1]
  exact h
/-- the same count, the same lamps out -/
theorem rr_out {t : sp_T} (hT : sp_tok t) {lk : Int → Int} {n : Int} (hn : 0 ≤ n ∧ n ≤ 99) {v : Int → Int} {j d : Int} (hj : 0 ≤ j) (hd : j ≤ d) (h : sp_cnt t (rr t lk n v j) = sp_cnt t (rr t lk n v d)) {l : Int} (l0 : 0 ≤ l) (l1 : l < t.1 1) : sp_out (rr t lk n v j) l = sp_out (rr t lk n v d) l := by
  have h6 := hT.2.1
  exact (cnt_sub (t.1 1).toNat (fun l l0 l1 => rr_kp hT hn hj hd ⟨l0, by omega⟩)).2 h l l0 (by omega)
theorem cnt_cg {t : sp_T} {u w : Int → Int} (h : ∀ l, 0 ≤ l → l < t.1 1 → sp_out u l = sp_out w l) : sp_cnt t u = sp_cnt t w := by
  unfold sp_cnt
  have key : ∀ K : Nat, K ≤ (t.1 1).toNat → itN (fun l c => c + bI (sp_out u l)) K (0 : Int) = itN (fun l c => c + bI (sp_out w l)) K 0 := by
    intro K
    induction K with
    | zero => intro _; rfl
    | succ K ih =>
      intro hK
      simp only [itN]
      rw [ih (by omega), h K (by omega) (by omega)]
  exact key _ (Nat.le_refl _)
/-- the trial on its way to the end -/
def frS (t : Nat) (M : Nat → Int → Int) (n : Int) (v J : Int → Int) (N : Nat → Int → Int) (k : Nat) : Prop := (∀ x, x ≠ 47 → x ≠ 18 → x ≠ 19 → x ≠ 20 → x ≠ 21 → N x = M x) ∧ N 18 3 = n + k ∧ (∀ i, 3 * M t 1 ≤ i → N 19 i = J i) ∧ scR (sp_tC M t) N 18 (sp_run (sp_tC M t) (M (t + 3)) false false n k v) ∧ sp_vok (sp_tC M t) (sp_run (sp_tC M t) (M (t + 3)) false false n k v)
/-- the oils of a dusk with what lies behind them -/
def roW (t : Nat) (M : Nat → Int → Int) (n : Int) (v J : Int → Int) (j : Int) : Int → Int := fun i => if i < 3 * M t 1 then rr (sp_tC M t) (M (t + 3)) n v j i else J i
theorem frS.toRo {t : Nat} {M N : Nat → Int → Int} {n : Int} {v J : Int → Int} {j : Int} (h : frS t M n v J N (100 - n + j).toNat) {i : Int} (i0 : 0 ≤ i) : N 19 i = roW t M n v J j i := by
  unfold roW
  by_cases e : i < 3 * M t 1
  · rw [if_pos e]
    exact h.2.2.2.1.1 i i0 e
  · rw [if_neg e]
    exact h.2.2.1 i (by omega)
theorem vok_b {t : sp_T} (hT : sp_tok t) {v : Int → Int} (hv : sp_vok t v) {i : Int} (i0 : 0 ≤ i) (i1 : i < 3 * t.1 1) : 0 ≤ v i ∧ v i < 32 := by
  have h1 := hv.1 (i / 3) (by omega) (by omega)
  have h0 := hT.1
  rcases (show i = 3 * (i / 3) ∨ i = 3 * (i / 3) + 1 ∨ i = 3 * (i / 3) + 2 by omega) with e | e | e <;> rw [e] <;> omega

