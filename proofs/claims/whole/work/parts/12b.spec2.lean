theorem up_ext {α : Type} {M N : Nat → α} {a : Nat} {g : α} (h : ∀ x, x ≠ a → N x = M x) (h2 : N a = g) : N = va_up M a g := by
  funext x
  by_cases hx : x = a
  · simp [va_up, hx, h2]
  · simp [va_up, hx, h x hx]
theorem up_s {α : Type} (M : Nat → α) (a : Nat) (g : α) : va_up M a g a = g := by simp [va_up]
theorem up_n {α : Type} (M : Nat → α) {a b : Nat} (g : α) (h : b ≠ a) : va_up M a g b = M b := by simp [va_up, h]
theorem iu_s (f : Int → Int) (k v : Int) : iu f k v k = v := by simp [iu]
theorem iu_n (f : Int → Int) {k j : Int} (v : Int) (h : j ≠ k) : iu f k v j = f j := by simp [iu, h]
/-- the same three -/
def e3 (x y : Int → Int) : Prop := x 0 = y 0 ∧ x 1 = y 1 ∧ x 2 = y 2
theorem e3.rf (x : Int → Int) : e3 x x := ⟨rfl, rfl, rfl⟩
theorem e3.tr {x y z : Int → Int} (h : e3 x y) (h2 : e3 y z) : e3 x z := ⟨h.1.trans h2.1, h.2.1.trans h2.2.1, h.2.2.trans h2.2.2⟩
theorem e3.sy {x y : Int → Int} (h : e3 x y) : e3 y x := ⟨h.1.symm, h.2.1.symm, h.2.2.symm⟩
theorem sp_most_rng (a b c : Int) : sp_most a b c = 0 ∨ sp_most a b c = 1 ∨ sp_most a b c = 2 := by
  unfold sp_most
  split
  · exact Or.inl rfl
  · split
    · exact Or.inr (Or.inl rfl)
    · exact Or.inr (Or.inr rfl)
theorem sp_most_spec (a b c : Int) : (sp_most a b c = 0 ∧ a ≥ b ∧ a ≥ c) ∨ (sp_most a b c = 1 ∧ b ≥ c ∧ ¬ (a ≥ b ∧ a ≥ c)) ∨ (sp_most a b c = 2 ∧ ¬ b ≥ c ∧ ¬ (a ≥ b ∧ a ≥ c)) := by
  unfold sp_most
  split
  · exact Or.inl ⟨rfl, by assumption⟩
  · split
    · exact Or.inr (Or.inl ⟨rfl, by assumption, by assumption⟩)
    · exact Or.inr (Or.inr ⟨rfl, by assumption, by assumption⟩)
theorem e3.pour {x y : Int → Int} (h : e3 x y) {i j : Int} (hi : i = 0 ∨ i = 1 ∨ i = 2) (hj : j = 0 ∨ j = 1 ∨ j = 2) : e3 (sp_pour x i j) (sp_pour y i j) := by
  obtain ⟨h0, h1, h2⟩ := h
  rcases hi with rfl | rfl | rfl <;> rcases hj with rfl | rfl | rfl <;> simp [e3, sp_pour, iu, h0, h1, h2]
theorem e3.stuck {x y g : Int → Int} (h : e3 x y) (ng : Bool) : sp_stuck ng x g = sp_stuck ng y g := by
  simp only [sp_stuck, h.1, h.2.1, h.2.2]
theorem e3.go1 {x y : Int → Int} (h : e3 x y) (g : Int → Int) : e3 (sp_go1 x g) (sp_go1 y g) := by
  unfold sp_go1
  rw [h.1, h.2.1, h.2.2]
  exact h.pour (sp_most_rng _ _ _) (sp_most_rng _ _ _)
theorem e3.drunk {x y : Int → Int} (h : e3 x y) (ng : Bool) : e3 (sp_drunk ng x) (sp_drunk ng y) := by
  unfold sp_drunk
  rw [h.1, h.2.1, h.2.2]
  split
  · exact h
  · refine h.pour (sp_most_rng _ _ _) ?_
    rcases sp_most_rng (y 0) (y 1) (y 2) with e | e | e <;> rw [e] <;> simp
theorem e3.go {g : Int → Int} {ng : Bool} : ∀ (k : Nat) {x y : Int → Int}, e3 x y → e3 (sp_go ng g k x) (sp_go ng g k y)
  | 0, _, _, h => h
  | k + 1, x, y, h => by
    simp only [sp_go]
    rw [h.stuck ng]
    split
    · exact h
    · exact e3.go k (h.go1 g)
/-- three parts that make up F -/
def s3 (F : Int) (x : Int → Int) : Prop := 0 ≤ x 0 ∧ 0 ≤ x 1 ∧ 0 ≤ x 2 ∧ x 0 + x 1 + x 2 = F
theorem s3.e {F : Int} {x y : Int → Int} (h : s3 F x) (e : e3 y x) : s3 F y := by
  unfold s3
  rw [e.1, e.2.1, e.2.2]
  exact h
theorem s3.go1 {F : Int} {x g : Int → Int} (h : s3 F x) (hg : s3 F g) (hn : ¬ (x 0 - g 0 = 0 ∧ x 1 - g 1 = 0 ∧ x 2 - g 2 = 0)) : s3 F (sp_go1 x g) := by
  unfold s3 at *
  unfold sp_go1
  rcases sp_most_spec (x 0 - g 0) (x 1 - g 1) (x 2 - g 2) with ⟨e, q⟩ | ⟨e, q⟩ | ⟨e, q⟩ <;> rcases sp_most_spec (-(x 0 - g 0)) (-(x 1 - g 1)) (-(x 2 - g 2)) with ⟨e2, q2⟩ | ⟨e2, q2⟩ | ⟨e2, q2⟩ <;> rw [e, e2] <;> simp [sp_pour, iu] <;> omega
theorem s3.drunk {F : Int} {x : Int → Int} (h : s3 F x) (hF : 1 ≤ F) (ng : Bool) : s3 F (sp_drunk ng x) := by
  unfold s3 at *
  unfold sp_drunk
  split
  · exact h
  · rcases sp_most_spec (x 0) (x 1) (x 2) with ⟨e, q⟩ | ⟨e, q⟩ | ⟨e, q⟩ <;> rw [e] <;> simp [sp_pour, iu] <;> omega
theorem s3.go {F : Int} {g : Int → Int} {ng : Bool} (hg : s3 F g) : ∀ (k : Nat) {x : Int → Int}, s3 F x → s3 F (sp_go ng g k x)
  | 0, _, h => h
  | k + 1, x, h => by
    simp only [sp_go]
    split
    · exact h
    · rename_i hq
      refine s3.go hg k (h.go1 hg fun z => hq ?_)
      simp [sp_stuck, z]
theorem sp_vok.s {t : sp_T} {v : Int → Int} (hv : sp_vok t v) {l : Int} (h0 : 0 ≤ l) (h1 : l < t.1 1) : s3 (t.1 0) (fun o => v (3 * l + o)) := by
  have h := hv.1 l h0 h1
  refine ⟨?_, h.2.1, h.2.2.1, ?_⟩
  · show 0 ≤ v (3 * l + 0)
    rw [Int.add_zero]
    exact h.1
  · show v (3 * l + 0) + v (3 * l + 1) + v (3 * l + 2) = t.1 0
    rw [Int.add_zero]
    exact h.2.2.2
theorem sp_best_rng (t : sp_T) (v : Int → Int) (n l : Int) : ∀ k : Nat, sp_best t v n l k = -1 ∨ (0 ≤ sp_best t v n l k ∧ sp_best t v n l k < k)
  | 0 => Or.inl rfl
  | k + 1 => by
    simp only [sp_best]
    split
    · exact Or.inr ⟨by omega, by omega⟩
    · rcases sp_best_rng t v n l k with h | h
      · exact Or.inl h
      · exact Or.inr ⟨h.1, by omega⟩
theorem sp_to_rng {t : sp_T} (v : Int → Int) (n l : Int) {w : Int} (hw : -1 ≤ w ∧ w < t.1 1) : sp_to t v n l w = -1 ∨ (0 ≤ sp_to t v n l w ∧ sp_to t v n l w < t.1 1) := by
  unfold sp_to
  split
  · exact Or.inl rfl
  · rename_i h1
    split
    · refine Or.inr ⟨?_, hw.2⟩
      have : ¬ w = -1 := fun q => h1 (Or.inl q)
      omega
    · rcases sp_best_rng t v n l (t.1 1).toNat with h | h
      · exact Or.inl h
      · exact Or.inr ⟨h.1, by omega⟩
theorem sp_move_ok {t : sp_T} (hT : sp_tok t) {v : Int → Int} (hv : sp_vok t v) {n l w : Int} (hl : 0 ≤ l ∧ l < t.1 1) (hw : -1 ≤ w ∧ w < t.1 1) (hf ng : Bool) : s3 (t.1 0) (sp_move t v n l w hf ng) := by
  have hs := hv.s hl.1 hl.2
  have key : s3 (t.1 0) (if sp_to t v n l w = -1 then (fun o => v (3 * l + o)) else sp_go ng (fun o => v (3 * sp_to t v n l w + o)) (sp_step t hf l).toNat (fun o => v (3 * l + o))) := by
    split
    · exact hs
    · rename_i hq
      rcases sp_to_rng v n l hw with h | h
      · exact absurd h hq
      · exact s3.go (hv.s h.1 h.2) _ hs
  unfold sp_move
  split
  · exact hs
  · split
    · exact key.drunk hT.1.1 ng
    · exact key
