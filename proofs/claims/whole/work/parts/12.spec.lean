/-! THE VALLEY IN PURE NUMBERS: rows are functions of whole numbers; a row of 30: oils at 3 l + o, mates at 18 + l, nights at 24 + l -/
/-- a loop from 0 on -/
def itN {α : Type} (f : Int → α → α) : Nat → α → α
  | 0, s => s
  | k + 1, s => f (k : Int) (itN f k s)
def anyN (p : Int → Bool) : Nat → Bool
  | 0 => false
  | k + 1 => anyN p k || p (k : Int)
theorem anyN_iff (p : Int → Bool) : ∀ n : Nat, anyN p n = true ↔ ∃ i : Int, 0 ≤ i ∧ i < n ∧ p i = true
  | 0 => by
    simp only [anyN]
    constructor
    · intro h
      cases h
    · rintro ⟨i, h0, h1, -⟩
      omega
  | n + 1 => by
    simp only [anyN, Bool.or_eq_true, anyN_iff p n]
    constructor
    · rintro (⟨i, h0, h1, h2⟩ | h)
      · exact ⟨i, h0, by omega, h2⟩
      · exact ⟨n, by omega, by omega, h⟩
    · rintro ⟨i, h0, h1, h2⟩
      by_cases hi : i = n
      · subst hi
        exact Or.inr h2
      · exact Or.inl ⟨i, h0, by omega, h2⟩
theorem anyN_false {p : Int → Bool} {n : Nat} (h : ∀ i : Int, 0 ≤ i → i < n → p i = false) : anyN p n = false := by
  cases hq : anyN p n with
  | false => rfl
  | true =>
    obtain ⟨i, h0, h1, h2⟩ := (anyN_iff p n).mp hq
    rw [h i h0 h1] at h2
    cases h2
theorem anyN_true {p : Int → Bool} {n : Nat} {i : Int} (h0 : 0 ≤ i) (h1 : i < n) (h2 : p i = true) : anyN p n = true := (anyN_iff p n).mpr ⟨i, h0, h1, h2⟩
/-- what is told: full lamps step near fright easter fogs; kinds; sides; fogs' nights, eyes, hidden ones -/
abbrev sp_T : Type := (Int → Int) × (Int → Int) × (Int → Int) × (Int → Int) × (Int → Int) × (Int → Int)
def sp_far (v : Int → Int) (a b : Int) : Int := ((v (3 * a) - v (3 * b)).natAbs + (v (3 * a + 1) - v (3 * b + 1)).natAbs + (v (3 * a + 2) - v (3 * b + 2)).natAbs) / 2
def sp_out (v : Int → Int) (l : Int) : Bool := decide (v (18 + l) ≠ -1)
def sp_hid (t : sp_T) (n a b : Int) : Bool := anyN (fun f => decide (t.2.2.2.1 f = n ∧ t.2.2.2.2.1 f = a ∧ t.2.2.2.2.2 f = b)) (t.1 6).toNat
def sp_stays (t : sp_T) (v : Int → Int) (n l : Int) : Bool :=
  decide (t.2.1 l = 4) || (decide (t.2.1 l = 1) && decide (n % 2 = 0)) || anyN (fun w => decide (w ≠ l ∧ t.2.1 w = 4 ∧ sp_out v w = false ∧ sp_far v l w ≤ t.1 4)) (t.1 1).toNat
/-- the nearest that is seen, up to k -/
def sp_best (t : sp_T) (v : Int → Int) (n l : Int) : Nat → Int
  | 0 => -1
  | k + 1 => if ((k : Int) ≠ l ∧ sp_out v k = false ∧ sp_hid t n l k = false) ∧ (sp_best t v n l k = -1 ∨ sp_far v l k < sp_far v l (sp_best t v n l k)) then (k : Int) else sp_best t v n l k
def sp_to (t : sp_T) (v : Int → Int) (n l w : Int) : Int :=
  if w = -1 ∨ sp_out v w = true then -1 else if sp_hid t n l w = false then w else sp_best t v n l (t.1 1).toNat
def sp_most (a b c : Int) : Int := if a ≥ b ∧ a ≥ c then 0 else if b ≥ c then 1 else 2
/-- one part from i to j -/
def sp_pour (x : Int → Int) (i j : Int) : Int → Int := iu (iu x i (x i - 1)) j (iu x i (x i - 1) j + 1)
/-- whether one part nearer can't be -/
def sp_stuck (ng : Bool) (x g : Int → Int) : Bool :=
  decide (x 0 - g 0 = 0 ∧ x 1 - g 1 = 0 ∧ x 2 - g 2 = 0) || (ng && decide (sp_most (-(x 0 - g 0)) (-(x 1 - g 1)) (-(x 2 - g 2)) = 1))
def sp_go1 (x g : Int → Int) : Int → Int := sp_pour x (sp_most (x 0 - g 0) (x 1 - g 1) (x 2 - g 2)) (sp_most (-(x 0 - g 0)) (-(x 1 - g 1)) (-(x 2 - g 2)))
def sp_go (ng : Bool) (g : Int → Int) : Nat → (Int → Int) → Int → Int
  | 0, x => x
  | k + 1, x => if sp_stuck ng x g = true then x else sp_go ng g k (sp_go1 x g)
def sp_drunk (ng : Bool) (x : Int → Int) : Int → Int :=
  if ng = true ∧ sp_most (x 0) (x 1) (x 2) = 0 then x else sp_pour x (sp_most (x 0) (x 1) (x 2)) ((sp_most (x 0) (x 1) (x 2) + 1) % 3)
def sp_step (t : sp_T) (hf : Bool) (l : Int) : Int := if t.2.1 l = 2 then 2 * (if hf = true then (t.1 2 + 1) / 2 else t.1 2) else (if hf = true then (t.1 2 + 1) / 2 else t.1 2)
/-- one lamp's oils at dawn (it isn't out) -/
def sp_move (t : sp_T) (v : Int → Int) (n l w : Int) (hf ng : Bool) : Int → Int :=
  if sp_stays t v n l = true then (fun o => v (3 * l + o)) else
    (if t.2.1 l = 3 then sp_drunk ng else fun x => x)
      (if sp_to t v n l w = -1 then (fun o => v (3 * l + o)) else sp_go ng (fun o => v (3 * sp_to t v n l w + o)) (sp_step t hf l).toNat (fun o => v (3 * l + o)))
/-- all lamps' oils at dawn -/
def sp_mv (t : sp_T) (lk : Int → Int) (hf ng : Bool) (n : Int) (v : Int → Int) : Int → Int := fun i =>
  if 0 ≤ i ∧ i < 3 * t.1 1 ∧ sp_out v (i / 3) = false then sp_move t v n (i / 3) (lk (i / 3)) hf ng (i % 3) else v i
def sp_marry (v : Int → Int) (a b n : Int) : Int → Int := iu (iu (iu (iu v (18 + a) b) (18 + b) a) (24 + a) n) (24 + b) n
def sp_in (t : sp_T) (n a b : Int) (v : Int → Int) : Int → Int :=
  if b ≤ a ∨ sp_out v a = true ∨ sp_out v b = true ∨ t.2.2.1 a = t.2.2.1 b ∨ t.1 3 < sp_far v a b then v else sp_marry v a b n
def sp_wedA (t : sp_T) (n a : Int) (v : Int → Int) : Int → Int := itN (fun b v => sp_in t n a b v) (t.1 1).toNat v
def sp_wed (t : sp_T) (n : Int) (v : Int → Int) : Int → Int := itN (fun a v => sp_wedA t n a v) (t.1 1).toNat v
def sp_night (t : sp_T) (lk : Int → Int) (hf ng : Bool) (n : Int) (v : Int → Int) : Int → Int := sp_wed t n (sp_mv t lk hf ng n v)
/-- k nights from n on -/
def sp_run (t : sp_T) (lk : Int → Int) (hf ng : Bool) (n : Int) : Nat → (Int → Int) → Int → Int
  | 0, v => v
  | k + 1, v => sp_night t lk hf ng (n + k) (sp_run t lk hf ng n k v)
/-- what is told is in its bounds -/
def sp_tok (t : sp_T) : Prop := (1 ≤ t.1 0 ∧ t.1 0 ≤ 30) ∧ (0 ≤ t.1 1 ∧ t.1 1 ≤ 6) ∧ (1 ≤ t.1 2 ∧ t.1 2 ≤ 9) ∧ (0 ≤ t.1 3 ∧ t.1 3 ≤ 9) ∧ (0 ≤ t.1 4 ∧ t.1 4 ≤ 9) ∧ (1 ≤ t.1 5 ∧ t.1 5 ≤ 99) ∧ (0 ≤ t.1 6 ∧ t.1 6 ≤ 10) ∧
  (∀ l, 0 ≤ l → l < t.1 1 → (0 ≤ t.2.1 l ∧ t.2.1 l ≤ 4) ∧ (0 ≤ t.2.2.1 l ∧ t.2.2.1 l ≤ 1)) ∧
  (∀ f, 0 ≤ f → f < t.1 6 → (0 ≤ t.2.2.2.1 f ∧ t.2.2.2.1 f ≤ 99) ∧ (0 ≤ t.2.2.2.2.1 f ∧ t.2.2.2.2.1 f ≤ 5) ∧ (0 ≤ t.2.2.2.2.2 f ∧ t.2.2.2.2.2 f ≤ 5))
/-- whom they like is none or a lamp -/
def sp_lok (t : sp_T) (lk : Int → Int) : Prop := ∀ l, 0 ≤ l → l < t.1 1 → -1 ≤ lk l ∧ lk l < t.1 1
/-- a row is in its bounds -/
def sp_vok (t : sp_T) (v : Int → Int) : Prop := (∀ l, 0 ≤ l → l < t.1 1 → 0 ≤ v (3 * l) ∧ 0 ≤ v (3 * l + 1) ∧ 0 ≤ v (3 * l + 2) ∧ v (3 * l) + v (3 * l + 1) + v (3 * l + 2) = t.1 0) ∧ ∀ l, 0 ≤ l → l < 6 → (-1 ≤ v (18 + l) ∧ v (18 + l) ≤ 5) ∧ (-1 ≤ v (24 + l) ∧ v (24 + l) ≤ 1200)
theorem sp_far_le {t : sp_T} {v : Int → Int} (hv : sp_vok t v) {a b : Int} (ha : 0 ≤ a ∧ a < t.1 1) (hb : 0 ≤ b ∧ b < t.1 1) : 0 ≤ sp_far v a b ∧ sp_far v a b ≤ t.1 0 := by
  have h1 := hv.1 a ha.1 ha.2
  have h2 := hv.1 b hb.1 hb.2
  unfold sp_far
  omega
theorem sp_far_sym (v : Int → Int) (a b : Int) : sp_far v a b = sp_far v b a := by
  unfold sp_far
  omega
