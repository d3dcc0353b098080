/-- the same oils and the same lamps out -/
def qo (t : sp_T) (v u : Int → Int) : Prop := (∀ i, 0 ≤ i → i < 3 * t.1 1 → v i = u i) ∧ ∀ l, 0 ≤ l → l < t.1 1 → sp_out v l = sp_out u l
theorem qo.far {t : sp_T} {v u : Int → Int} (h : qo t v u) {a b : Int} (ha : 0 ≤ a ∧ a < t.1 1) (hb : 0 ≤ b ∧ b < t.1 1) : sp_far v a b = sp_far u a b := by
  unfold sp_far
  rw [h.1 (3 * a) (by omega) (by omega), h.1 (3 * a + 1) (by omega) (by omega), h.1 (3 * a + 2) (by omega) (by omega), h.1 (3 * b) (by omega) (by omega), h.1 (3 * b + 1) (by omega) (by omega), h.1 (3 * b + 2) (by omega) (by omega)]
theorem qo.out {t : sp_T} {v u : Int → Int} (h : qo t v u) {a : Int} (ha : 0 ≤ a ∧ a < t.1 1) : sp_out v a = sp_out u a := h.2 a ha.1 ha.2
theorem qo.trip {t : sp_T} {v u : Int → Int} (h : qo t v u) {l : Int} (hl : 0 ≤ l ∧ l < t.1 1) : e3 (fun o => v (3 * l + o)) (fun o => u (3 * l + o)) :=
  ⟨h.1 _ (by omega) (by omega), h.1 _ (by omega) (by omega), h.1 _ (by omega) (by omega)⟩
theorem qo.stays {t : sp_T} (hT : sp_tok t) {v u : Int → Int} (h : qo t v u) {n l : Int} (hl : 0 ≤ l ∧ l < t.1 1) : sp_stays t v n l = sp_stays t u n l := by
  have h1 := hT.2.1
  unfold sp_stays
  congr 1
  refine anyN_congr fun i a b => ?_
  rw [h.far (a := l) (b := i) (by omega) (by omega), h.out (a := i) (by omega)]
theorem qo.best {t : sp_T} (hT : sp_tok t) {v u : Int → Int} (h : qo t v u) {n l : Int} (hl : 0 ≤ l ∧ l < t.1 1) : ∀ k : Nat, (k : Int) ≤ t.1 1 → sp_best t v n l k = sp_best t u n l k
  | 0, _ => rfl
  | k + 1, hk => by
    have h1 := hT.2.1
    have ih := qo.best hT h (n := n) hl k (by omega)
    simp only [sp_best]
    rw [ih, h.out (a := (k : Int)) (by omega), h.far (a := l) (b := (k : Int)) (by omega) (by omega)]
    rcases sp_best_rng t u n l k with e | e
    · rw [e]
      simp
    · rw [h.far (a := l) (b := sp_best t u n l k) (by omega) (by omega)]
theorem qo.to {t : sp_T} (hT : sp_tok t) {v u : Int → Int} (h : qo t v u) {n l w : Int} (hl : 0 ≤ l ∧ l < t.1 1) (hw : -1 ≤ w ∧ w < t.1 1) : sp_to t v n l w = sp_to t u n l w := by
  have h1 := hT.2.1
  unfold sp_to
  rw [h.best hT hl _ (by omega)]
  by_cases e : w = -1
  · simp [e]
  · rw [h.out (a := w) (by omega)]
theorem qo.move {t : sp_T} (hT : sp_tok t) {v u : Int → Int} (h : qo t v u) {n l w : Int} (hl : 0 ≤ l ∧ l < t.1 1) (hw : -1 ≤ w ∧ w < t.1 1) (hf ng : Bool) : e3 (sp_move t v n l w hf ng) (sp_move t u n l w hf ng) := by
  have h1 := hT.2.1
  have hs := h.trip (l := l) (by omega)
  have key : e3 (if sp_to t v n l w = -1 then (fun o => v (3 * l + o)) else sp_go ng (fun o => v (3 * sp_to t v n l w + o)) (sp_step t hf l).toNat (fun o => v (3 * l + o))) (if sp_to t u n l w = -1 then (fun o => u (3 * l + o)) else sp_go ng (fun o => u (3 * sp_to t u n l w + o)) (sp_step t hf l).toNat (fun o => u (3 * l + o))) := by
    rw [h.to hT hl hw]
    split
    · exact hs
    · rename_i hq
      have hr := (sp_to_rng u n l hw).resolve_left hq
      rw [e3.gog (h.trip (l := sp_to t u n l w) (by omega))]
      exact hs.go _
  unfold sp_move
  rw [h.stays hT hl]
  split
  · exact hs
  · split
    · exact key.drunk ng
    · exact key
theorem qv.qo {t : sp_T} (hT : sp_tok t) {v u : Int → Int} (h : qv v u) : qo t v u := by
  have h1 := hT.2.1
  exact ⟨fun i i0 i1 => h i i0 (by omega), fun l l0 l1 => h.out (by omega)⟩
theorem itN_c {α : Type} {f g : Int → α → α} {R : α → α → Prop} : ∀ (k : Nat), (∀ (i : Nat) (a b : α), i < k → R a b → R (f i a) (g i b)) → ∀ a b, R a b → R (itN f k a) (itN g k b)
  | 0, _, _, _, h => h
  | k + 1, hs, a, b, h => hs k _ _ (by omega) (itN_c k (fun i a b hi hr => hs i a b (by omega) hr) a b h)
theorem qv.iu {v u : Int → Int} (h : qv v u) (k x : Int) : qv (iu v k x) (iu u k x) := fun i i0 i1 => by
  show (if i = k then x else v i) = (if i = k then x else u i)
  split
  · rfl
  · exact h i i0 i1
theorem qv.inn {t : sp_T} (hT : sp_tok t) {v u : Int → Int} (h : qv v u) {n a b : Int} (ha : 0 ≤ a ∧ a < t.1 1) (hb : 0 ≤ b ∧ b < t.1 1) : qv (sp_in t n a b v) (sp_in t n a b u) := by
  have h1 := hT.2.1
  unfold sp_in
  rw [h.out (a := a) (by omega), h.out (a := b) (by omega), h.far (a := a) (b := b) (by omega) (by omega)]
  split
  · exact h
  · unfold sp_marry
    exact (((h.iu _ _).iu _ _).iu _ _).iu _ _
theorem qv.wed {t : sp_T} (hT : sp_tok t) {v u : Int → Int} (h : qv v u) (n : Int) : qv (sp_wed t n v) (sp_wed t n u) := by
  have h1 := hT.2.1
  unfold sp_wed
  refine itN_c (R := qv) _ (fun i x y hi hr => ?_) _ _ h
  unfold sp_wedA
  exact itN_c (R := qv) _ (fun j x y hj hr => hr.inn hT (by omega) (by omega)) _ _ hr
theorem qv.mv {t : sp_T} (hT : sp_tok t) {v u : Int → Int} (h : qv v u) {lk : Int → Int} (hlk : sp_lok t lk) (hf ng : Bool) (n : Int) : qv (sp_mv t lk hf ng n v) (sp_mv t lk hf ng n u) := by
  have h1 := hT.2.1
  intro i i0 i1
  unfold sp_mv
  by_cases e : i < 3 * t.1 1
  · rw [h.out (a := i / 3) (by omega)]
    split
    · exact (h.move hT (by omega) (hlk _ (by omega) (by omega)) hf ng).at (by omega) (by omega)
    · exact h i i0 i1
  · rw [if_neg (by omega), if_neg (by omega)]
    exact h i i0 i1
theorem qv.run {t : sp_T} (hT : sp_tok t) {lk : Int → Int} (hlk : sp_lok t lk) (hf ng : Bool) (n : Int) {v u : Int → Int} (h : qv v u) : ∀ k : Nat, qv (sp_run t lk hf ng n k v) (sp_run t lk hf ng n k u)
  | 0 => h
  | k + 1 => by
    have ih := qv.run hT hlk hf ng n h k
    simp only [sp_run]
    unfold sp_night
    exact (ih.mv hT hlk hf ng (n + k)).wed hT (n + k)
theorem qv.cnt {t : sp_T} (hT : sp_tok t) {v u : Int → Int} (h : qv v u) : sp_cnt t v = sp_cnt t u := by
  have h1 := hT.2.1
  unfold sp_cnt
  exact itN_c (R := fun a b => a = b) _ (fun i a b hi hr => by rw [hr, h.out (a := (i : Int)) (by omega)]) _ _ rfl
/-- two that tell the same -/
def eqS (t s : sp_T) : Prop := (∀ k, 0 ≤ k → k < 7 → t.1 k = s.1 k) ∧ (∀ l, 0 ≤ l → l < t.1 1 → t.2.1 l = s.2.1 l ∧ t.2.2.1 l = s.2.2.1 l) ∧ ∀ f, 0 ≤ f → f < t.1 6 → t.2.2.2.1 f = s.2.2.2.1 f ∧ t.2.2.2.2.1 f = s.2.2.2.2.1 f ∧ t.2.2.2.2.2 f = s.2.2.2.2.2 f
def eqL (t : sp_T) (a b : Int → Int) : Prop := ∀ l, 0 ≤ l → l < t.1 1 → a l = b l

theorem eqS.hid {t s : sp_T} (h : eqS t s) (hT : sp_tok t) (n a b : Int) : sp_hid t n a b = sp_hid s n a b := by
  have h6 := hT.2.2.2.2.2.2.1
  unfold sp_hid
  rw [← h.1 6 (by decide) (by decide)]
  refine anyN_congr fun f f0 f1 => ?_
  have h9 := h.2.2 f f0 (by omega)
  rw [h9.1, h9.2.1, h9.2.2]
theorem eqS.stays {t s : sp_T} (h : eqS t s) (hT : sp_tok t) {l : Int} (hl : 0 ≤ l ∧ l < t.1 1) (v : Int → Int) (n : Int) : sp_stays t v n l = sp_stays s v n l := by
  have h1 := hT.2.1
  unfold sp_stays
  rw [← h.1 1 (by decide) (by decide), ← h.1 4 (by decide) (by decide), ← (h.2.1 l hl.1 hl.2).1]
  congr 1
  refine anyN_congr fun w w0 w1 => ?_
  rw [(h.2.1 w w0 (by omega)).1]
theorem eqS.best {t s : sp_T} (h : eqS t s) (hT : sp_tok t) (v : Int → Int) (n l : Int) : ∀ k : Nat, sp_best t v n l k = sp_best s v n l k
  | 0 => rfl
  | k + 1 => by
    simp only [sp_best]
    rw [eqS.best h hT v n l k, h.hid hT]
theorem eqS.to {t s : sp_T} (h : eqS t s) (hT : sp_tok t) (v : Int → Int) (n l w : Int) : sp_to t v n l w = sp_to s v n l w := by
  unfold sp_to
  rw [h.hid hT, h.best hT, h.1 1 (by decide) (by decide)]
theorem eqS.move {t s : sp_T} (h : eqS t s) (hT : sp_tok t) {l : Int} (hl : 0 ≤ l ∧ l < t.1 1) (v : Int → Int) (n w : Int) (hf ng : Bool) : sp_move t v n l w hf ng = sp_move s v n l w hf ng := by
  unfold sp_move
  rw [h.stays hT hl, h.to hT]
  unfold sp_step
  rw [(h.2.1 l hl.1 hl.2).1, h.1 2 (by decide) (by decide)]
theorem eqS.mv {t s : sp_T} (h : eqS t s) (hT : sp_tok t) {lk lk2 : Int → Int} (hl : eqL t lk lk2) (hf ng : Bool) (n : Int) (v : Int → Int) : sp_mv t lk hf ng n v = sp_mv s lk2 hf ng n v := by
  funext i
  unfold sp_mv
  rw [← h.1 1 (by decide) (by decide)]
  split
  · rw [h.move hT (by omega), hl (i / 3) (by omega) (by omega)]
  · rfl
theorem eqS.inn {t s : sp_T} (h : eqS t s) (hT : sp_tok t) {a b : Int} (ha : 0 ≤ a ∧ a < t.1 1) (hb : 0 ≤ b ∧ b < t.1 1) (n : Int) (v : Int → Int) : sp_in t n a b v = sp_in s n a b v := by
  unfold sp_in
  rw [(h.2.1 a ha.1 ha.2).2, (h.2.1 b hb.1 hb.2).2, h.1 3 (by decide) (by decide)]
theorem eqS.wed {t s : sp_T} (h : eqS t s) (hT : sp_tok t) (n : Int) (v : Int → Int) : sp_wed t n v = sp_wed s n v := by
  have h1 := hT.2.1
  unfold sp_wed
  rw [← h.1 1 (by decide) (by decide)]
  refine itN_c (R := fun a b => a = b) _ (fun i x y hi hr => ?_) _ _ rfl
  subst hr
  unfold sp_wedA
  rw [← h.1 1 (by decide) (by decide)]
  refine itN_c (R := fun a b => a = b) _ (fun j x y hj hr => ?_) _ _ rfl
  subst hr
  exact h.inn hT (by omega) (by omega) n _
theorem eqS.run {t s : sp_T} (h : eqS t s) (hT : sp_tok t) {lk lk2 : Int → Int} (hl : eqL t lk lk2) (hf ng : Bool) (n : Int) (v : Int → Int) : ∀ k : Nat, sp_run t lk hf ng n k v = sp_run s lk2 hf ng n k v
  | 0 => rfl
  | k + 1 => by
    simp only [sp_run]
    rw [eqS.run h hT hl hf ng n v k]
    unfold sp_night
    rw [h.mv hT hl, h.wed hT]
theorem eqS.cnt {t s : sp_T} (h : eqS t s) (hT : sp_tok t) (v : Int → Int) : sp_cnt t v = sp_cnt s v := by
  unfold sp_cnt
  rw [h.1 1 (by decide) (by decide)]
theorem eqS.vok {t s : sp_T} (h : eqS t s) (hT : sp_tok t) {v : Int → Int} (hv : sp_vok s v) : sp_vok t v := by
  refine ⟨fun l l0 l1 => ?_, hv.2⟩
  rw [h.1 0 (by decide) (by decide)]
  exact hv.1 l l0 (by rw [← h.1 1 (by decide) (by decide)]; exact l1)
theorem eqS.lok {t s : sp_T} (h : eqS t s) (hT : sp_tok t) {lk lk2 : Int → Int} (hl : eqL t lk lk2) (hv : sp_lok s lk2) : sp_lok t lk := by
  intro l l0 l1
  rw [hl l l0 l1, h.1 1 (by decide) (by decide)]
  exact hv l l0 (by rw [← h.1 1 (by decide) (by decide)]; exact l1)

theorem eqS.sym {t s : sp_T} (h : eqS t s) : eqS s t := ⟨fun k k0 k1 => (h.1 k k0 k1).symm, fun l l0 l1 => by have h9 := h.2.1 l l0 (by rw [h.1 1 (by decide) (by decide)]; exact l1); exact ⟨h9.1.symm, h9.2.symm⟩, fun f f0 f1 => by have h9 := h.2.2 f f0 (by rw [h.1 6 (by decide) (by decide)]; exact f1); exact ⟨h9.1.symm, h9.2.1.symm, h9.2.2.symm⟩⟩
