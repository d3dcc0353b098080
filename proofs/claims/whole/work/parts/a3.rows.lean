/-- a class's row of sevens as the reference's row of nines, and back -/
def ph (w : Int) : Int := (mx_dz (chR w 0) + 1) + (mx_dz (chR w 1) + 1) * 9 + (mx_dz (chR w 2) + 1) * 81
def iv (c : Int) : Int := if c = 0 then 0 else if c < 5 then c - 1 else c - 2
def ps (x : Int) : Int := iv (c9 x 0) + iv (c9 x 1) * 7 + iv (c9 x 2) * 49
theorem ph_0 : ∀ w : Fin 343, (0 ≤ ph (w.val : Int) ∧ ph (w.val : Int) < 729) ∧ ((w.val : Int) < 49 → ph (w.val : Int) < 81) ∧ ((w.val : Int) < 7 → ph (w.val : Int) < 9) ∧ (∀ j : Fin 3, c9 (ph (w.val : Int)) j.val = mx_dz (chR (w.val : Int) j.val) + 1) ∧ ((w.val : Int) < 342 → ph (w.val : Int) < ph ((w.val : Int) + 1)) := by decide +kernel
theorem ps_0 : ∀ x : Fin 729, (∀ j : Fin 3, c9 (x.val : Int) j.val ≠ 1 ∧ c9 (x.val : Int) j.val ≠ 5) → (0 ≤ ps (x.val : Int) ∧ ps (x.val : Int) < 343) ∧ ((x.val : Int) < 81 → ps (x.val : Int) < 49) ∧ ((x.val : Int) < 9 → ps (x.val : Int) < 7) ∧ ph (ps (x.val : Int)) = (x.val : Int) := by decide +kernel
theorem px_0 : ∀ w : Fin 343, ∀ j : Fin 3, ∀ c : Fin 7, ph ((w.val : Int) - chR (w.val : Int) j.val * 7 ^ j.val + (c.val : Int) * 7 ^ j.val) = ph (w.val : Int) - c9 (ph (w.val : Int)) j.val * 9 ^ j.val + (mx_dz (c.val : Int) + 1) * 9 ^ j.val := by decide +kernel
theorem iv_0 : ∀ c : Fin 9, (c.val : Int) ≠ 1 → (c.val : Int) ≠ 5 → (0 ≤ iv (c.val : Int) ∧ iv (c.val : Int) < 7) ∧ mx_dz (iv (c.val : Int)) + 1 = (c.val : Int) := by decide +kernel
theorem p7_q {m : Nat} (h : m ≤ 3) : (7 : Int) ^ m ≤ 343 ∧ 1 ≤ (7 : Int) ^ m := by
  rcases (show m = 0 ∨ m = 1 ∨ m = 2 ∨ m = 3 by omega) with rfl | rfl | rfl | rfl <;> decide
theorem ph_m {m : Nat} (hm : m ≤ 3) {w : Int} (hw : 0 ≤ w ∧ w < 7 ^ m) : (0 ≤ ph w ∧ ph w < 9 ^ m) ∧ (∀ j : Nat, j < m → c9 (ph w) j = mx_dz (chR w j) + 1) ∧ (w + 1 < 7 ^ m → ph w < ph (w + 1)) := by
  have h3 := p7_q hm
  have h9 := fin_of (n := 343) (P := fun w => (0 ≤ ph w ∧ ph w < 729) ∧ (w < 49 → ph w < 81) ∧ (w < 7 → ph w < 9) ∧ (∀ j : Fin 3, c9 (ph w) j.val = mx_dz (chR w j.val) + 1) ∧ (w < 342 → ph w < ph (w + 1))) ph_0 hw.1 (show w < 343 by omega)
  refine ⟨⟨h9.1.1, ?_⟩, fun j hj => h9.2.2.2.1 ⟨j, by omega⟩, fun hz => h9.2.2.2.2 (by omega)⟩
  rcases (show m = 0 ∨ m = 1 ∨ m = 2 ∨ m = 3 by omega) with rfl | rfl | rfl | rfl
  · have hz : w = 0 := by have := hw.2; omega
    rw [hz]; decide +kernel
  · exact h9.2.2.1 hw.2
  · exact h9.2.1 hw.2
  · exact h9.1.2
theorem c9_hi {m : Nat} (hm : m ≤ 3) {x : Int} (hx : 0 ≤ x ∧ x < 9 ^ m) {j : Nat} (hj : m ≤ j) (hj3 : j < 3) : c9 x j = 0 := by
  unfold c9
  have hx2 := hx.2
  rcases (show m = 0 ∨ m = 1 ∨ m = 2 by omega) with rfl | rfl | rfl <;> rcases (show j = 0 ∨ j = 1 ∨ j = 2 by omega) with rfl | rfl | rfl <;> first | omega | (simp only [Int.reducePow, Nat.reducePow] at hx2 ⊢; omega)
theorem ps_m {m : Nat} (hm : m ≤ 3) {x : Int} (hx : 0 ≤ x ∧ x < 9 ^ m) (h : ∀ j : Nat, j < m → c9 x j ≠ 1 ∧ c9 x j ≠ 5) : (0 ≤ ps x ∧ ps x < 7 ^ m) ∧ ph (ps x) = x := by
  have h3 := p9_3 hm
  have h9 := fin_of (n := 729) (P := fun x => (∀ j : Fin 3, c9 x j.val ≠ 1 ∧ c9 x j.val ≠ 5) → (0 ≤ ps x ∧ ps x < 343) ∧ (x < 81 → ps x < 49) ∧ (x < 9 → ps x < 7) ∧ ph (ps x) = x) ps_0 hx.1 (show x < 729 by omega) (fun j => by
    by_cases e : j.val < m
    · exact h j.val e
    · rw [c9_hi hm hx (by omega) j.isLt]; decide)
  refine ⟨⟨h9.1.1, ?_⟩, h9.2.2.2⟩
  rcases (show m = 0 ∨ m = 1 ∨ m = 2 ∨ m = 3 by omega) with rfl | rfl | rfl | rfl
  · have hz : x = 0 := by have := hx.2; omega
    rw [hz]; decide +kernel
  · exact h9.2.2.1 hx.2
  · exact h9.2.1 hx.2
  · exact h9.1.2
theorem px_m {m : Nat} (hm : m ≤ 3) {w : Int} (hw : 0 ≤ w ∧ w < 7 ^ m) {j : Nat} (hj : j < m) {c : Int} (hc : 0 ≤ c ∧ c < 7) : ph (w - chR w j * 7 ^ j + c * 7 ^ j) = ph w - c9 (ph w) j * 9 ^ j + (mx_dz c + 1) * 9 ^ j := by
  have h3 := p7_q hm
  have h9 := fin_of (n := 343) (P := fun w => ∀ j : Fin 3, ∀ c : Fin 7, ph (w - chR w j.val * 7 ^ j.val + (c.val : Int) * 7 ^ j.val) = ph w - c9 (ph w) j.val * 9 ^ j.val + (mx_dz (c.val : Int) + 1) * 9 ^ j.val) px_0 hw.1 (show w < 343 by omega) ⟨j, by omega⟩ ⟨c.toNat, by omega⟩
  simp only [show ((c.toNat : Nat) : Int) = c by omega] at h9
  exact h9
theorem iv_m {c : Int} (hc : 0 ≤ c ∧ c < 9) (h1 : c ≠ 1) (h5 : c ≠ 5) : (0 ≤ iv c ∧ iv c < 7) ∧ mx_dz (iv c) + 1 = c :=
  fin_of (n := 9) (P := fun c => c ≠ 1 → c ≠ 5 → (0 ≤ iv c ∧ iv c < 7) ∧ mx_dz (iv c) + 1 = c) iv_0 hc.1 hc.2 h1 h5
theorem ph_mono {m : Nat} (hm : m ≤ 3) {a : Int} (ha : 0 ≤ a) : ∀ k : Nat, a + 1 + k < 7 ^ m → ph a < ph (a + 1 + k)
  | 0, h => by have := (ph_m hm (w := a) ⟨ha, by omega⟩).2.2 (by omega); simpa using this
  | k + 1, h => by
    have h1 := ph_mono hm ha k (by omega)
    have h2 := (ph_m hm (w := a + 1 + k) ⟨by omega, by omega⟩).2.2 (by omega)
    rw [show a + 1 + ((k + 1 : Nat) : Int) = a + 1 + k + 1 by omega]
    omega
theorem ph_lt {m : Nat} (hm : m ≤ 3) {a b : Int} (ha : 0 ≤ a) (hab : a < b) (hb : b < 7 ^ m) : ph a < ph b := by
  have h9 := ph_mono hm ha (b - a - 1).toNat (by omega)
  rw [show a + 1 + (((b - a - 1).toNat : Nat) : Int) = b by omega] at h9
  exact h9
theorem cg_15 {v : Int → Int} {l c : Int} (h : cgB v l c = true) : c ≠ 1 ∧ c ≠ 5 := by
  have h9 := of_decide_eq_true h
  constructor
  · rintro rfl
    omega
  · rintro rfl
    omega
theorem ir_ps {v : Int → Int} {c : Nat → Int} {m : Nat} (hm : m ≤ 3) {x : Int} (hx : 0 ≤ x ∧ x < 9 ^ m) (h : irP v c m x) : (0 ≤ ps x ∧ ps x < 7 ^ m) ∧ ph (ps x) = x := ps_m hm hx (fun j hj => cg_15 (h j hj))
/-- the row given in both -/
theorem gv_eq {t : sp_T} {v : Int → Int} (hv : sp_vok t v) {c : Nat → Int} {m : Nat} (hm : m ≤ 3) (hc : ∀ j, j < m → 0 ≤ c j ∧ c j < t.1 1) (hd : ∀ i j, i < j → j < m → c i ≠ c j) {w : Int} (hw : 0 ≤ w ∧ w < 7 ^ m) : ∀ j : Nat, j ≤ m → (irP v c j (ph w) → gvR c (fun j => mx_dz (chR w j)) v j = some (gvM v c (ph w) j)) ∧ (¬ irP v c j (ph w) → gvR c (fun j => mx_dz (chR w j)) v j = none)
  | 0, _ => ⟨fun _ => rfl, fun z => absurd (fun j hj => absurd hj (by omega)) z⟩
  | j + 1, hj => by
    have ih := gv_eq hv hm hc hd hw j (by omega)
    have hD := dz_b (c := chR w j) (by unfold chR; omega)
    have h9 := (ph_m hm hw).2.1 j (by omega)
    have hcj := hc j (by omega)
    have hvj := hv.1 (c j) hcj.1 hcj.2
    by_cases hi : irP v c j (ph w)
    · have e1 := ih.1 hi
      have hgo : ∀ i, 0 ≤ i → i < 3 → gvM v c (ph w) j (3 * c j + i) = v (3 * c j + i) := fun i i0 i1 => gvM_o ⟨i0, i1⟩ j (fun k hk => hd k j hk (by omega))
      simp only [gvR]
      rw [e1]
      simp only [Option.bind, gvM]
      rw [h9]
      by_cases e : mx_dz (chR w j) = -1
      · rw [if_pos e, e]
        refine ⟨fun _ => rfl, fun z => ?_⟩
        refine absurd (fun k hk => ?_) z
        by_cases ek : k = j
        · rw [ek, h9, e]; exact decide_eq_true (Or.inl rfl)
        · exact hi k (by omega)
      · have hD2 := hD.resolve_left e
        rw [if_neg e, hgo _ (by omega) (by omega)]
        by_cases z : v (3 * c j + mx_dz (chR w j) / 3) = 0
        · rw [if_neg (fun q => q z)]
          refine ⟨fun q => ?_, fun _ => rfl⟩
          have h8 := of_decide_eq_true (q j (by omega))
          rw [h9, show mx_dz (chR w j) + 1 - 1 = mx_dz (chR w j) by omega, z] at h8
          omega
        · rw [if_pos z]
          refine ⟨fun _ => ?_, fun q => ?_⟩
          · unfold mvU
            rw [if_neg (by omega), show mx_dz (chR w j) + 1 - 1 = mx_dz (chR w j) by omega]
          · refine absurd (fun k hk => ?_) q
            by_cases ek : k = j
            · rw [ek, h9]
              refine decide_eq_true (Or.inr ?_)
              rw [show mx_dz (chR w j) + 1 - 1 = mx_dz (chR w j) by omega]
              refine ⟨hD2.2.2, ?_⟩
              rcases (show mx_dz (chR w j) / 3 = 0 ∨ mx_dz (chR w j) / 3 = 1 ∨ mx_dz (chR w j) / 3 = 2 by omega) with y | y | y <;> rw [y] at z ⊢
              · rw [show 3 * c j + 0 = 3 * c j by omega] at z ⊢; omega
              · omega
              · omega
            · exact hi k (by omega)
    · have e1 := ih.2 hi
      simp only [gvR]
      rw [e1]
      exact ⟨fun q => absurd (fun k hk => q k (by omega)) hi, fun _ => rfl⟩
theorem vl_vm {t s : sp_T} (h : eqS t s) (hT : sp_tok t) {lk lk2 : Int → Int} (hl : eqL t lk lk2) {n : Int} {v : Int → Int} (hv : sp_vok t v) {c : Nat → Int} {m : Nat} (hm : m ≤ 3) (hc : ∀ j, j < m → 0 ≤ c j ∧ c j < t.1 1) (hd : ∀ i j, i < j → j < m → c i ≠ c j) {w : Int} (hw : 0 ≤ w ∧ w < 7 ^ m) {j : Nat} (hj : j < m) : (irP v c m (ph w) → vlR t lk n v c m w j = vmR s lk2 n v c m (ph w) j) ∧ (¬ irP v c m (ph w) → vlR t lk n v c m w j = 1001) := by
  have h9 := gv_eq hv hm hc hd hw m (Nat.le_refl m)
  have hcj := hc j hj
  unfold vlR vmR
  constructor
  · intro z
    rw [h9.1 z]
    dsimp only
    rw [h.run hT hl, h.1 5 (by decide) (by decide)]
    exact wdV_l (hl _ hcj.1 hcj.2)
  · intro z
    rw [h9.2 z]
theorem gvM_24 {v : Int → Int} {c : Nat → Int} {w : Int} {l : Int} (hl : 0 ≤ l ∧ l < 6) : ∀ j : Nat, (∀ i, i < j → 0 ≤ c i ∧ c i < 6) → gvM v c w j (24 + l) = v (24 + l)
  | 0, _ => rfl
  | j + 1, hc => by
    have hcj := hc j (by omega)
    have h9 := c9_b w j
    simp only [gvM]
    unfold mvU
    split
    · exact gvM_24 hl j (fun i hi => hc i (by omega))
    · unfold sp_give
      rw [iu_n _ _ (by omega), iu_n _ _ (by omega)]
      exact gvM_24 hl j (fun i hi => hc i (by omega))
/-- resting in both -/
theorem rs_rq {G : Int → Int} {v : Int → Int} {c : Nat → Int} {m : Nat} (hm : m ≤ 3) {V : Int → Nat → Int} (hG : ∀ w, 0 ≤ w → w < 7 ^ m → ∀ j : Nat, j < m → (irP v c m (ph w) → G (w * 3 + (j : Int)) = V (ph w) j) ∧ (¬ irP v c m (ph w) → G (w * 3 + (j : Int)) = 1001)) (hV : ∀ x, 0 ≤ x → x < 9 ^ m → irP v c m x → ∀ j : Nat, j < m → V x j ≤ 1000) {w : Int} (hw : 0 ≤ w ∧ w < 7 ^ m) : rsP G m w ↔ (irP v c m (ph w) ∧ rqP v c m V (ph w)) := by
  have hp := ph_m hm hw
  constructor
  · intro h
    have hi : irP v c m (ph w) := by
      apply Classical.byContradiction
      intro hi
      apply hi
      intro j hj
      exact absurd ((hG w hw.1 hw.2 j hj).2 hi) (h j hj).1
    refine ⟨hi, fun j hj ch c0 c1 hg => ?_⟩
    have h15 := cg_15 hg
    have hiv := iv_m ⟨c0, c1⟩ h15.1 h15.2
    have h9 := (h j hj).2 (iv ch) hiv.1.1 hiv.1.2
    have hx := ch_ix hm hj hw hiv.1
    have hpx := px_m hm hw hj hiv.1
    rw [hiv.2] at hpx
    have hi2 := ir_ix hm hj hp.1 ⟨c0, c1⟩ hi hg
    rw [(hG w hw.1 hw.2 j hj).1 hi, (hG _ hx.1 hx.2 j hj).1 (by rw [hpx]; exact hi2), hpx] at h9
    exact h9
  · rintro ⟨hi, hq⟩ j hj
    have hv1 := hV (ph w) hp.1.1 hp.1.2 hi j hj
    rw [(hG w hw.1 hw.2 j hj).1 hi]
    refine ⟨by omega, fun cc c0 c1 => ?_⟩
    have hx := ch_ix hm hj hw ⟨c0, c1⟩
    have hpx := px_m hm hw hj ⟨c0, c1⟩
    by_cases hi2 : irP v c m (ph (w - chR w j * 7 ^ j + cc * 7 ^ j))
    · rw [(hG _ hx.1 hx.2 j hj).1 hi2, hpx]
      have hd := dz_b ⟨c0, c1⟩
      refine hq j hj (mx_dz cc + 1) (by omega) (by omega) ?_
      have h9 := hi2 j hj
      rw [hpx, (c9_ix hm hj hp.1 (ch := mx_dz cc + 1) (by omega)).2 j hj, if_pos rfl] at h9
      exact h9
    · rw [(hG _ hx.1 hx.2 j hj).2 hi2]
      omega
theorem rsB_i {g : Int → Int} {m : Nat} {w : Int} (h : rsB g m w = true) : rsP g m w := @of_decide_eq_true _ (Classical.propDecidable _) h
theorem rs_b {G : Int → Int} {v : Int → Int} {c : Nat → Int} {m : Nat} {V : Int → Nat → Int} {w : Int} (h : rsP G m w ↔ (irP v c m (ph w) ∧ rqP v c m V (ph w))) : rsB G m w = (irB v c m (ph w) && rqB v c m V (ph w)) := by
  by_cases e : rsP G m w
  · rw [rsB_t e, irB_t (h.mp e).1, rqB_t (h.mp e).2]; rfl
  · rw [rsB_f e]
    by_cases i : irP v c m (ph w)
    · rw [irB_t i, rqB_f (fun q => e (h.mpr ⟨i, q⟩))]; rfl
    · rw [irB_f i]; rfl
theorem rqC_gap {v : Int → Int} {c : Nat → Int} {m : Nat} {V : Int → Nat → Int} {a : Nat} : ∀ k : Nat, (∀ x : Nat, a ≤ x → x < a + k → (irB v c m x && rqB v c m V x) = false) → rqC v c m V (a + k) = rqC v c m V a
  | 0, _ => rfl
  | k + 1, h => by
    rw [show a + (k + 1) = (a + k) + 1 by omega]
    simp only [rqC]
    rw [rqC_gap k (fun x x0 x1 => h x x0 (by omega)), h (a + k) (by omega) (by omega)]
    show rqC v c m V a + 0 = _
    omega
theorem rqC_gp {v : Int → Int} {c : Nat → Int} {m : Nat} {V : Int → Nat → Int} {a b : Nat} (hab : a ≤ b) (h : ∀ x : Nat, a ≤ x → x < b → (irB v c m x && rqB v c m V x) = false) : rqC v c m V b = rqC v c m V a := by
  have h9 := rqC_gap (v := v) (c := c) (m := m) (V := V) (a := a) (b - a) (fun x x0 x1 => h x x0 (by omega))
  rw [show a + (b - a) = b by omega] at h9
  exact h9
theorem no_im {v : Int → Int} {c : Nat → Int} {m : Nat} (hm : m ≤ 3) {V : Int → Nat → Int} {x : Int} (hx : 0 ≤ x ∧ x < 9 ^ m) (h : ∀ w, 0 ≤ w → w < 7 ^ m → ph w ≠ x) : (irB v c m x && rqB v c m V x) = false := by
  by_cases i : irP v c m x
  · have h9 := ir_ps hm hx i
    exact absurd h9.2 (h _ h9.1.1 h9.1.2)
  · rw [irB_f i]; rfl
theorem rs_cnt {G : Int → Int} {v : Int → Int} {c : Nat → Int} {m : Nat} (hm : m ≤ 3) {V : Int → Nat → Int} (hb : ∀ w, 0 ≤ w → w < 7 ^ m → rsB G m w = (irB v c m (ph w) && rqB v c m V (ph w))) : ∀ a : Nat, (a : Int) < 7 ^ m → rqC v c m V (ph a).toNat = rsC G m a
  | 0, _ => by rw [show (ph ((0 : Nat) : Int)).toNat = 0 by decide +kernel]; rfl
  | a + 1, h => by
    have ih := rs_cnt hm hb a (by omega)
    have pa := ph_m hm (w := (a : Int)) ⟨by omega, by omega⟩
    have pb := ph_m hm (w := ((a + 1 : Nat) : Int)) ⟨by omega, h⟩
    have hlt := ph_lt hm (a := (a : Int)) (b := ((a + 1 : Nat) : Int)) (by omega) (by omega) h
    rw [rqC_gp (a := (ph a).toNat + 1) (by omega) (fun x x0 x1 => no_im hm (by omega) (fun w w0 w1 e => by
      rcases Int.lt_trichotomy w (a : Int) with z | z | z
      · have := ph_lt hm w0 z (by omega); omega
      · rw [z] at e; omega
      · by_cases z2 : w = ((a + 1 : Nat) : Int)
        · rw [z2] at e; omega
        · have := ph_lt hm (a := ((a + 1 : Nat) : Int)) (b := w) (by omega) (by omega) w1; omega))]
    simp only [rqC, rsC]
    rw [ih, show (((ph (a : Int)).toNat : Nat) : Int) = ph (a : Int) by omega, hb (a : Int) (by omega) (by omega)]
theorem rs_all {G : Int → Int} {v : Int → Int} {c : Nat → Int} {m : Nat} (hm : m ≤ 3) {V : Int → Nat → Int} (hb : ∀ w, 0 ≤ w → w < 7 ^ m → rsB G m w = (irB v c m (ph w) && rqB v c m V (ph w))) : rqC v c m V (9 ^ m) = rsC G m (7 ^ m) := by
  have p7 := p7_q hm
  have e7 : ((7 ^ m : Nat) : Int) = (7 : Int) ^ m := p7c
  have e9 : ((9 ^ m : Nat) : Int) = (9 : Int) ^ m := p9c
  obtain ⟨a, ha⟩ : ∃ a : Nat, 7 ^ m = a + 1 := ⟨7 ^ m - 1, by omega⟩
  have hA : (a : Int) < 7 ^ m := by omega
  have pa := ph_m hm (w := (a : Int)) ⟨by omega, hA⟩
  rw [ha, rqC_gp (a := (ph a).toNat + 1) (by omega) (fun x x0 x1 => no_im hm (by omega) (fun w w0 w1 e => by
      rcases Int.lt_trichotomy w (a : Int) with z | z | z
      · have := ph_lt hm w0 z (by omega); omega
      · rw [z] at e; omega
      · omega))]
  simp only [rqC, rsC]
  rw [rs_cnt hm hb a hA, show (((ph (a : Int)).toNat : Nat) : Int) = ph (a : Int) by omega, hb (a : Int) (by omega) hA]
theorem fg_bt {m : Nat} (hm : m ≤ 3) {w : Int} (hw : 0 ≤ w ∧ w < 7 ^ m) : ∀ k : Nat, k ≤ m → fgR m w k = btR m (ph w) k
  | 0, _ => rfl
  | k + 1, hk => by
    simp only [fgR, btR]
    rw [fg_bt hm hw k (by omega), (ph_m hm hw).2.1 (m - 1 - k) (by omega)]
    omega
theorem rs_fst {G : Int → Int} {v : Int → Int} {c : Nat → Int} {m : Nat} (hm : m ≤ 3) {V : Int → Nat → Int} (hb : ∀ w, 0 ≤ w → w < 7 ^ m → rsB G m w = (irB v c m (ph w) && rqB v c m V (ph w))) {y fr : Int} (h1 : (y = -1 ∧ ∀ k : Nat, (k : Int) < 7 ^ m → rsB G m (k : Int) = false) ∨ (∃ k : Nat, (k : Int) < 7 ^ m ∧ rsB G m (k : Int) = true ∧ (∀ k2 : Nat, k2 < k → rsB G m (k2 : Int) = false) ∧ y = fgR m (k : Int) m)) (h2 : fqP v c m V (9 ^ m) fr) : y = if fr = -1 then -1 else btR m fr m := by
  have key : ∀ x, 0 ≤ x → x < 9 ^ m → (irB v c m x = true ∧ rqB v c m V x = true) → ∃ k : Nat, (k : Int) < 7 ^ m ∧ ph k = x ∧ rsB G m (k : Int) = true := fun x x0 x1 hx => by
    have h9 := ir_ps hm ⟨x0, x1⟩ (irB_i hx.1)
    refine ⟨(ps x).toNat, by omega, ?_, ?_⟩
    · rw [show (((ps x).toNat : Nat) : Int) = ps x by omega]; exact h9.2
    · rw [show (((ps x).toNat : Nat) : Int) = ps x by omega, hb _ h9.1.1 h9.1.2, h9.2, hx.1, hx.2]; rfl
  rcases h1 with ⟨rfl, hn⟩ | ⟨k, k1, hk, hmn, rfl⟩
  · rcases h2 with ⟨rfl, _⟩ | ⟨f0, f1, hf, _⟩
    · rw [if_pos rfl]
    · obtain ⟨k, k1, _, hk⟩ := key fr f0 f1 hf
      rw [hn k k1] at hk
      cases hk
  · have pk := ph_m hm (w := (k : Int)) ⟨by omega, k1⟩
    have hk2 := hk
    rw [hb (k : Int) (by omega) k1, Bool.and_eq_true] at hk2
    rcases h2 with ⟨rfl, hn⟩ | ⟨f0, f1, hf, hfm⟩
    · exact absurd hk2 (hn _ pk.1.1 pk.1.2)
    · obtain ⟨q, q1, hq, hq2⟩ := key fr f0 f1 hf
      have e : q = k := by
        rcases Nat.lt_trichotomy q k with z | z | z
        · rw [hmn q z] at hq2; cases hq2
        · exact z
        · exact absurd hk2 (hfm _ pk.1.1 (by rw [← hq]; exact ph_lt hm (by omega) (by omega) q1))
      rw [e] at hq
      rw [if_neg (by omega), ← hq]
      exact fg_bt hm ⟨by omega, k1⟩ m (Nat.le_refl m)
