/-- the same row as far as it goes -/
def qv (v u : Int → Int) : Prop := ∀ i, 0 ≤ i → i < 30 → v i = u i
theorem qv.rf (v : Int → Int) : qv v v := fun _ _ _ => rfl
theorem qv.sy {v u : Int → Int} (h : qv v u) : qv u v := fun i a b => (h i a b).symm
theorem qv.tr {v u w : Int → Int} (h : qv v u) (h2 : qv u w) : qv v w := fun i a b => (h i a b).trans (h2 i a b)
theorem qv.far {v u : Int → Int} (h : qv v u) {a b : Int} (ha : 0 ≤ a ∧ a < 6) (hb : 0 ≤ b ∧ b < 6) : sp_far v a b = sp_far u a b := by
  unfold sp_far
  rw [h (3 * a) (by omega) (by omega), h (3 * a + 1) (by omega) (by omega), h (3 * a + 2) (by omega) (by omega), h (3 * b) (by omega) (by omega), h (3 * b + 1) (by omega) (by omega), h (3 * b + 2) (by omega) (by omega)]
theorem qv.out {v u : Int → Int} (h : qv v u) {a : Int} (ha : 0 ≤ a ∧ a < 6) : sp_out v a = sp_out u a := by
  unfold sp_out
  rw [h (18 + a) (by omega) (by omega)]
theorem anyN_congr {p q : Int → Bool} : ∀ {n : Nat}, (∀ i : Int, 0 ≤ i → i < n → p i = q i) → anyN p n = anyN q n
  | 0, _ => rfl
  | n + 1, h => by
    simp only [anyN]
    rw [anyN_congr (n := n) (fun i a b => h i a (by omega)), h n (by omega) (by omega)]
theorem qv.stays {t : sp_T} (hT : sp_tok t) {v u : Int → Int} (h : qv v u) {n l : Int} (hl : 0 ≤ l ∧ l < t.1 1) : sp_stays t v n l = sp_stays t u n l := by
  have h1 := hT.2.1
  unfold sp_stays
  congr 1
  refine anyN_congr fun i a b => ?_
  rw [h.far (a := l) (b := i) (by omega) (by omega), h.out (a := i) (by omega)]
theorem qv.best {t : sp_T} (hT : sp_tok t) {v u : Int → Int} (h : qv v u) {n l : Int} (hl : 0 ≤ l ∧ l < t.1 1) : ∀ k : Nat, (k : Int) ≤ t.1 1 → sp_best t v n l k = sp_best t u n l k
  | 0, _ => rfl
  | k + 1, hk => by
    have h1 := hT.2.1
    have ih := qv.best hT h (n := n) hl k (by omega)
    simp only [sp_best]
    rw [ih, h.out (a := (k : Int)) (by omega), h.far (a := l) (b := (k : Int)) (by omega) (by omega)]
    rcases sp_best_rng t u n l k with e | e
    · rw [e]
      simp
    · rw [h.far (a := l) (b := sp_best t u n l k) (by omega) (by omega)]
theorem qv.to {t : sp_T} (hT : sp_tok t) {v u : Int → Int} (h : qv v u) {n l w : Int} (hl : 0 ≤ l ∧ l < t.1 1) (hw : -1 ≤ w ∧ w < t.1 1) : sp_to t v n l w = sp_to t u n l w := by
  have h1 := hT.2.1
  unfold sp_to
  rw [h.best hT hl _ (by omega)]
  by_cases e : w = -1
  · simp [e]
  · rw [h.out (a := w) (by omega)]
theorem qv.trip {v u : Int → Int} (h : qv v u) {l : Int} (hl : 0 ≤ l ∧ l < 6) : e3 (fun o => v (3 * l + o)) (fun o => u (3 * l + o)) :=
  ⟨h _ (by omega) (by omega), h _ (by omega) (by omega), h _ (by omega) (by omega)⟩
theorem e3.stuckg {x g g2 : Int → Int} (h : e3 g g2) (ng : Bool) : sp_stuck ng x g = sp_stuck ng x g2 := by
  simp only [sp_stuck, h.1, h.2.1, h.2.2]
theorem e3.gog {g g2 : Int → Int} {ng : Bool} (h : e3 g g2) : ∀ (k : Nat) (x : Int → Int), sp_go ng g k x = sp_go ng g2 k x
  | 0, _ => rfl
  | k + 1, x => by
    simp only [sp_go]
    rw [h.stuckg ng, show sp_go1 x g = sp_go1 x g2 by unfold sp_go1; rw [h.1, h.2.1, h.2.2]]
    split
    · rfl
    · exact e3.gog h k _
theorem qv.move {t : sp_T} (hT : sp_tok t) {v u : Int → Int} (h : qv v u) {n l w : Int} (hl : 0 ≤ l ∧ l < t.1 1) (hw : -1 ≤ w ∧ w < t.1 1) (hf ng : Bool) : e3 (sp_move t v n l w hf ng) (sp_move t u n l w hf ng) := by
  have h1 := hT.2.1
  have hs := h.trip (l := l) (by omega)
  have key : e3 (if sp_to t v n l w = -1 then (fun o => v (3 * l + o)) else sp_go ng (fun o => v (3 * sp_to t v n l w + o)) (sp_step t hf l).toNat (fun o => v (3 * l + o))) (if sp_to t u n l w = -1 then (fun o => u (3 * l + o)) else sp_go ng (fun o => u (3 * sp_to t u n l w + o)) (sp_step t hf l).toNat (fun o => u (3 * l + o))) := by
    rw [h.to hT hl hw]
    split
    · exact hs
    · rename_i hq
      have hr := (sp_to_rng u n l hw).resolve_left hq
      rw [e3.gog (h.trip (l := sp_to t u n l w) (by omega))]
      exact hs.go _
  unfold sp_move
  rw [h.stays hT hl]
  split
  · exact hs
  · split
    · exact key.drunk ng
    · exact key
/-- a row of three by its places -/
theorem e3.at {x y : Int → Int} (h : e3 x y) {o : Int} (h0 : 0 ≤ o) (h1 : o < 3) : x o = y o := by
  rcases (show o = 0 ∨ o = 1 ∨ o = 2 by omega) with rfl | rfl | rfl
  · exact h.1
  · exact h.2.1
  · exact h.2.2
/-- the lamps up to k have moved -/
def sp_mvk (t : sp_T) (lk : Int → Int) (hf ng : Bool) (n : Int) (v : Int → Int) (k : Int) : Int → Int := fun i =>
  if 0 ≤ i ∧ i < 3 * k ∧ sp_out v (i / 3) = false then sp_move t v n (i / 3) (lk (i / 3)) hf ng (i % 3) else v i
theorem sp_mv_ok {t : sp_T} (hT : sp_tok t) {v lk : Int → Int} (hv : sp_vok t v) (hl : sp_lok t lk) (hf ng : Bool) (n : Int) {k : Int} (hk : k ≤ t.1 1) : sp_vok t (sp_mvk t lk hf ng n v k) := by
  have h1 := hT.2.1
  refine ⟨fun l a b => ?_, fun l a b => ?_⟩
  · by_cases hq : l < k ∧ sp_out v l = false
    · have hm := sp_move_ok hT hv (n := n) ⟨a, b⟩ (hl l a b) hf ng
      have e : ∀ o, 0 ≤ o → o < 3 → sp_mvk t lk hf ng n v k (3 * l + o) = sp_move t v n l (lk l) hf ng o := fun o o0 o1 => by
        have e1 : (3 * l + o) / 3 = l := by omega
        have e2 : (3 * l + o) % 3 = o := by omega
        simp only [sp_mvk, e1, e2]
        rw [if_pos ⟨by omega, by omega, hq.2⟩]
      have e0 := e 0 (by omega) (by omega)
      rw [Int.add_zero] at e0
      rw [e0, e 1 (by omega) (by omega), e 2 (by omega) (by omega)]
      exact hm
    · have e : ∀ o, 0 ≤ o → o < 3 → sp_mvk t lk hf ng n v k (3 * l + o) = v (3 * l + o) := fun o o0 o1 => by
        have e1 : (3 * l + o) / 3 = l := by omega
        simp only [sp_mvk, e1]
        rw [if_neg (by rintro ⟨z1, z2, z3⟩; exact hq ⟨by omega, z3⟩)]
      have e0 := e 0 (by omega) (by omega)
      rw [Int.add_zero] at e0
      rw [e0, e 1 (by omega) (by omega), e 2 (by omega) (by omega)]
      exact hv.1 l a b
  · have e : ∀ i, 18 ≤ i → sp_mvk t lk hf ng n v k i = v i := fun i hi => by
      simp only [sp_mvk]
      rw [if_neg (by omega)]
    rw [e _ (by omega), e _ (by omega)]
    exact hv.2 l a b
theorem sp_marry_ok {t : sp_T} (hT : sp_tok t) {v : Int → Int} (hv : sp_vok t v) {a b n : Int} (ha : 0 ≤ a ∧ a < t.1 1) (hb : 0 ≤ b ∧ b < t.1 1) (hn : 0 ≤ n ∧ n ≤ 1200) : sp_vok t (sp_marry v a b n) := by
  have h1 := hT.2.1
  refine ⟨fun l x y => ?_, fun l x y => ?_⟩
  · have e : ∀ i, i < 18 → sp_marry v a b n i = v i := fun i hi => by
      unfold sp_marry
      rw [iu_n _ _ (by omega), iu_n _ _ (by omega), iu_n _ _ (by omega), iu_n _ _ (by omega)]
    rw [e _ (by omega), e _ (by omega), e _ (by omega)]
    exact hv.1 l x y
  · have h2 := hv.2 l x y
    unfold sp_marry iu
    constructor
    · split
      · omega
      · split
        · omega
        · split
          · omega
          · split
            · omega
            · exact h2.1
    · split
      · omega
      · split
        · omega
        · split
          · omega
          · split
            · omega
            · exact h2.2
/-- how many are out -/
def sp_cnt (t : sp_T) (v : Int → Int) : Int := itN (fun l c => c + bI (sp_out v l)) (t.1 1).toNat 0
theorem sp_marry_out {v : Int → Int} {a b n : Int} (ha : 0 ≤ a ∧ a < 6) (hb : 0 ≤ b ∧ b < 6) {l : Int} (hl : 0 ≤ l ∧ l < 6) : sp_out (sp_marry v a b n) l = (sp_out v l || decide (l = a) || decide (l = b)) := by
  unfold sp_out sp_marry iu
  by_cases e1 : l = a
  · subst e1
    have q1 : ¬ (18 + l = 24 + b) := by omega
    have q2 : ¬ (18 + l = 24 + l) := by omega
    by_cases e2 : l = b
    · subst e2
      simp [q1]
      omega
    · have q3 : ¬ (18 + l = 18 + b) := by omega
      simp [q1, q2, q3]
      omega
  · by_cases e2 : l = b
    · subst e2
      have q1 : ¬ (18 + l = 24 + l) := by omega
      have q2 : ¬ (18 + l = 24 + a) := by omega
      simp [q1, q2]
      omega
    · have q1 : ¬ (18 + l = 24 + b) := by omega
      have q2 : ¬ (18 + l = 24 + a) := by omega
      have q3 : ¬ (18 + l = 18 + b) := by omega
      have q4 : ¬ (18 + l = 18 + a) := by omega
      simp [q1, q2, q3, q4, e1, e2]
theorem cnt_two {p q : Int → Bool} {a b : Int} (hab : a < b) (ha : 0 ≤ a) : ∀ n : Nat, (∀ l, 0 ≤ l → l < n → q l = (p l || decide (l = a) || decide (l = b))) → p a = false → p b = false → itN (fun l c => c + bI (q l)) n 0 = itN (fun l c => c + bI (p l)) n 0 + (if a < n then 1 else 0) + (if b < n then 1 else 0)
  | 0, _, _, _ => by
    simp only [itN]
    rw [if_neg (by omega), if_neg (by omega)]
    rfl
  | n + 1, h, ea, eb => by
    have ih := cnt_two hab ha n (fun l x y => h l x (by omega)) ea eb
    simp only [itN]
    rw [ih, h n (by omega) (by omega)]
    by_cases e1 : (n : Int) = a
    · rw [e1, ea, if_neg (by omega), if_neg (by omega), if_pos (by omega), if_neg (by omega)]
      simp [bI]
    · by_cases e2 : (n : Int) = b
      · rw [e2, eb, if_pos (by omega), if_neg (by omega), if_pos (by omega), if_pos (by omega)]
        simp [bI]
      · simp only [decide_eq_false e1, decide_eq_false e2, Bool.or_false]
        by_cases q1 : a < (n : Int) <;> by_cases q2 : b < (n : Int)
        · rw [if_pos q1, if_pos q2, if_pos (by omega), if_pos (by omega)]; omega
        · rw [if_pos q1, if_neg q2, if_pos (by omega), if_neg (by omega)]; omega
        · omega
        · rw [if_neg q1, if_neg q2, if_neg (by omega), if_neg (by omega)]; omega
theorem sp_cnt_marry {t : sp_T} (hT : sp_tok t) {v : Int → Int} {a b n : Int} (ha : 0 ≤ a ∧ a < t.1 1) (hb : 0 ≤ b ∧ b < t.1 1) (hab : a < b) (h1 : sp_out v a = false) (h2 : sp_out v b = false) : sp_cnt t (sp_marry v a b n) = sp_cnt t v + 2 := by
  have h3 := hT.2.1
  unfold sp_cnt
  rw [cnt_two (p := sp_out v) hab ha.1 (t.1 1).toNat (fun l x y => sp_marry_out (by omega) (by omega) (by omega)) h1 h2, if_pos (by omega), if_pos (by omega)]
  omega
