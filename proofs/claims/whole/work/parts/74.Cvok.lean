theorem in_ok {t : sp_T} (hT : sp_tok t) {n a b : Int} (hn : 0 ≤ n ∧ n ≤ 1200) (ha : 0 ≤ a ∧ a < t.1 1) (hb : 0 ≤ b ∧ b < t.1 1) {v : Int → Int} (hv : sp_vok t v) : sp_vok t (sp_in t n a b v) := by
  unfold sp_in
  split
  · exact hv
  · exact sp_marry_ok hT hv ha hb hn
theorem wed_ok {t : sp_T} (hT : sp_tok t) {n : Int} (hn : 0 ≤ n ∧ n ≤ 1200) {v : Int → Int} (hv : sp_vok t v) : sp_vok t (sp_wed t n v) := by
  have h6 := hT.2.1
  have kA : ∀ a : Int, 0 ≤ a → a < t.1 1 → ∀ k : Nat, (k : Int) ≤ t.1 1 → ∀ w, sp_vok t w → sp_vok t (itN (fun b v => sp_in t n a b v) k w) := by
    intro a a0 a1 k
    induction k with
    | zero => intro _ w h; exact h
    | succ k ih =>
      intro hk w h
      exact in_ok hT hn ⟨a0, a1⟩ ⟨by omega, by omega⟩ (ih (by omega) w h)
  have kO : ∀ k : Nat, (k : Int) ≤ t.1 1 → sp_vok t (itN (fun a v => sp_wedA t n a v) k v) := by
    intro k
    induction k with
    | zero => intro _; exact hv
    | succ k ih =>
      intro hk
      exact kA k (by omega) (by omega) _ (by omega) _ (ih (by omega))
  exact kO _ (by omega)
theorem run_vok {t : sp_T} (hT : sp_tok t) {lk : Int → Int} (hlk : sp_lok t lk) (hf ng : Bool) {n : Int} (hn : 0 ≤ n) {v : Int → Int} (hv : sp_vok t v) : ∀ k : Nat, n + k ≤ 1201 → sp_vok t (sp_run t lk hf ng n k v)
  | 0, _ => hv
  | k + 1, hk => by
    have ih := run_vok hT hlk hf ng hn hv k (by omega)
    exact wed_ok hT (by omega) (sp_mv_ok hT ih hlk hf ng (n + k) (k := t.1 1) (Int.le_refl _))
theorem gvR_vok {t : sp_T} (hT : sp_tok t) {c d : Nat → Int} {v : Int → Int} (hv : sp_vok t v) {m : Nat} (hc : ∀ j, j < m → 0 ≤ c j ∧ c j < t.1 1) (hd : ∀ j, j < m → d j = -1 ∨ (1 ≤ d j ∧ d j ≤ 7 ∧ d j / 3 ≠ d j % 3)) : ∀ k : Nat, k ≤ m → ∀ u, gvR c d v k = some u → sp_vok t u
  | 0, _, u, h => by
    cases h
    exact hv
  | k + 1, hk, u, h => by
    have h1 : (gvR c d v k).bind (fun w => if d k = -1 then some w else if w (3 * c k + d k / 3) ≠ 0 then some (sp_give w (c k) (d k / 3) (d k % 3)) else none) = some u := h
    cases e : gvR c d v k with
    | none => rw [e] at h1; cases h1
    | some w =>
      rw [e] at h1
      have ih := gvR_vok hT hv hc hd k (by omega) w e
      have h2 : (if d k = -1 then some w else if w (3 * c k + d k / 3) ≠ 0 then some (sp_give w (c k) (d k / 3) (d k % 3)) else none) = some u := h1
      have hdk := hd k (by omega)
      by_cases e1 : d k = -1
      · rw [if_pos e1] at h2
        cases h2
        exact ih
      · rw [if_neg e1] at h2
        by_cases e2 : w (3 * c k + d k / 3) ≠ 0
        · rw [if_pos e2] at h2
          cases h2
          exact give_ok hT ih (hc k (by omega)) (by omega) (by omega) (by omega) e2
        · rw [if_neg e2] at h2
          cases h2
