/-- of what kind a sign is: letter, figure, semicolon, other -/
def tcl (c : Int) : Int := if 97 ≤ c ∧ c ≤ 122 then 0 else if 48 ≤ c ∧ c ≤ 57 then 1 else if c = 59 then 2 else 3
def tk (g : Int → Int) (n p : Int) : Int := if n ≤ p then 4 else tcl (g p)
abbrev spc (c : Int) : Prop := c = 32 ∨ c = 10
def skN (g : Int → Int) : Nat → Int → Int
  | 0, p => p
  | k + 1, p => if spc (g p) then skN g k (p + 1) else p
def sk (g : Int → Int) (n p : Int) : Int := skN g (n - p).toNat p
def enN (g : Int → Int) (c : Int) : Nat → Int → Int
  | 0, p => p
  | k + 1, p => if tcl (g p) = c then enN g c k (p + 1) else p
def en (g : Int → Int) (n c p : Int) : Int := enN g c (n - p).toNat p
/-- where the sign or word or number that begins at p ends -/
def te (g : Int → Int) (n p : Int) : Int := if tk g n p = 4 then p else if tk g n p = 0 ∨ tk g n p = 1 then en g n (tk g n p) p else p + 1
/-- where the next begins -/
def nx (g : Int → Int) (n p : Int) : Int := sk g n (te g n p)
theorem tcl_b (c : Int) : 0 ≤ tcl c ∧ tcl c ≤ 3 := by
  unfold tcl
  split
  · omega
  · split
    · omega
    · split <;> omega
theorem tk_b (g : Int → Int) (n p : Int) : 0 ≤ tk g n p ∧ tk g n p ≤ 4 := by
  unfold tk
  split
  · omega
  · have := tcl_b (g p); omega
theorem tk_lt {g : Int → Int} {n p : Int} (h : tk g n p ≠ 4) : p < n := by
  unfold tk at h
  split at h
  · exact absurd rfl h
  · omega
theorem tk_in {g : Int → Int} {n p : Int} (h : p < n) : tk g n p = tcl (g p) := by
  unfold tk
  rw [if_neg (by omega)]
theorem tk_4 {g : Int → Int} {n p : Int} (h : n ≤ p) : tk g n p = 4 := if_pos h
theorem skN_b (g : Int → Int) : ∀ (k : Nat) (p : Int), p ≤ skN g k p ∧ skN g k p ≤ p + k
  | 0, p => by simp only [skN]; omega
  | k + 1, p => by
    have := skN_b g k (p + 1)
    simp only [skN]
    split <;> omega
theorem sk_b {g : Int → Int} {n p : Int} (h : p ≤ n) : p ≤ sk g n p ∧ sk g n p ≤ n := by
  have := skN_b g (n - p).toNat p
  unfold sk
  omega
theorem sk_stop {g : Int → Int} {n p : Int} (h : ¬ (p < n ∧ spc (g p))) : sk g n p = p := by
  unfold sk
  by_cases e : p < n
  · rw [show (n - p).toNat = (n - p).toNat - 1 + 1 by omega]
    simp only [skN]
    rw [if_neg (fun q => h ⟨e, q⟩)]
  · rw [show (n - p).toNat = 0 by omega]
    rfl
theorem sk_step {g : Int → Int} {n p : Int} (h : p < n) (h2 : spc (g p)) : sk g n p = sk g n (p + 1) := by
  unfold sk
  rw [show (n - p).toNat = (n - (p + 1)).toNat + 1 by omega]
  simp only [skN]
  rw [if_pos h2]
theorem enN_b (g : Int → Int) (c : Int) : ∀ (k : Nat) (p : Int), p ≤ enN g c k p ∧ enN g c k p ≤ p + k
  | 0, p => by simp only [enN]; omega
  | k + 1, p => by
    have := enN_b g c k (p + 1)
    simp only [enN]
    split <;> omega
theorem en_b {g : Int → Int} {n c p : Int} (h : p ≤ n) : p ≤ en g n c p ∧ en g n c p ≤ n := by
  have := enN_b g c (n - p).toNat p
  unfold en
  omega
theorem en_stop {g : Int → Int} {n c p : Int} (h : ¬ (p < n ∧ tcl (g p) = c)) : en g n c p = p := by
  unfold en
  by_cases e : p < n
  · rw [show (n - p).toNat = (n - p).toNat - 1 + 1 by omega]
    simp only [enN]
    rw [if_neg (fun q => h ⟨e, q⟩)]
  · rw [show (n - p).toNat = 0 by omega]
    rfl
theorem en_step {g : Int → Int} {n c p : Int} (h : p < n) (h2 : tcl (g p) = c) : en g n c p = en g n c (p + 1) := by
  unfold en
  rw [show (n - p).toNat = (n - (p + 1)).toNat + 1 by omega]
  simp only [enN]
  rw [if_pos h2]
/-- all in between are of that kind -/
theorem enN_in (g : Int → Int) (c : Int) : ∀ (k : Nat) (p i : Int), p ≤ i → i < enN g c k p → tcl (g i) = c
  | 0, p, i, h0, h1 => by simp only [enN] at h1; omega
  | k + 1, p, i, h0, h1 => by
    simp only [enN] at h1
    split at h1
    · next h =>
      by_cases e : i = p
      · rw [e]; exact h
      · exact enN_in g c k (p + 1) i (by omega) h1
    · omega
theorem te_b {g : Int → Int} {n p : Int} (h : p ≤ n) : p ≤ te g n p ∧ te g n p ≤ n := by
  unfold te
  split
  · omega
  · next h1 =>
    have := tk_lt h1
    split
    · exact en_b h
    · omega
theorem te_gt {g : Int → Int} {n p : Int} (h : tk g n p ≠ 4) : p < te g n p := by
  have hlt := tk_lt h
  unfold te
  rw [if_neg h]
  split
  · next h2 =>
    rw [en_step hlt (tk_in hlt).symm]
    have := (en_b (g := g) (n := n) (c := tk g n p) (p := p + 1) (by omega)).1
    omega
  · omega
theorem te_in {g : Int → Int} {n p i : Int} (h : tk g n p = 1) (h0 : p ≤ i) (h1 : i < te g n p) : 48 ≤ g i ∧ g i ≤ 57 := by
  unfold te at h1
  rw [if_neg (by omega), if_pos (Or.inr h), h] at h1
  have h2 := enN_in g 1 _ p i h0 h1
  unfold tcl at h2
  split at h2
  · omega
  · split at h2
    · assumption
    · split at h2 <;> omega
theorem nx_b {g : Int → Int} {n p : Int} (h : p ≤ n) : te g n p ≤ nx g n p ∧ nx g n p ≤ n := sk_b (te_b h).2
theorem nx_gt {g : Int → Int} {n p : Int} (h : tk g n p ≠ 4) : p < nx g n p := by
  have h1 := te_gt h
  have h2 := nx_b (g := g) (n := n) (p := p) (by have := tk_lt h; omega)
  omega
/-- a number's worth -/
def nb (g : Int → Int) (p : Int) : Nat → Int
  | 0 => 0
  | k + 1 => nb g p k * 10 + g (p + k) - 48
def nV (g : Int → Int) (n p : Int) : Int := nb g p (te g n p - p).toNat
theorem nb_b {g : Int → Int} {p : Int} : ∀ k : Nat, (∀ i, p ≤ i → i < p + k → 48 ≤ g i ∧ g i ≤ 57) → 0 ≤ nb g p k ∧ nb g p k + 1 ≤ 10 ^ k
  | 0, _ => ⟨Int.le_refl _, Int.le_refl _⟩
  | k + 1, h => by
    have h1 := nb_b k (fun i h0 h1 => h i h0 (by omega))
    have h2 := h (p + k) (by omega) (by omega)
    simp only [nb]
    rw [Int.pow_succ]
    omega
/-- what is wrong with a number that stands at p: 0, nothing -/
def nC (g : Int → Int) (n p a b e : Int) : Int := if tk g n p ≠ 1 then 1 else if 3 < te g n p - p then 2 else if nV g n p < a ∨ b < nV g n p then e else 0
theorem nV_b {g : Int → Int} {n p : Int} (h : tk g n p = 1) (h2 : te g n p - p ≤ 3) : 0 ≤ nV g n p ∧ nV g n p ≤ 999 := by
  have h3 := te_gt (g := g) (n := n) (p := p) (by omega)
  have h1 := nb_b (g := g) (p := p) (te g n p - p).toNat (fun i h0 h1 => te_in h h0 (by omega))
  unfold nV
  have h4 : (10 : Int) ^ (te g n p - p).toNat ≤ 1000 := by
    rcases (show (te g n p - p).toNat = 0 ∨ (te g n p - p).toNat = 1 ∨ (te g n p - p).toNat = 2 ∨ (te g n p - p).toNat = 3 by omega) with e | e | e | e <;> rw [e] <;> decide
  omega
theorem nC_0 {g : Int → Int} {n p a b e : Int} (he : e ≠ 0) (h : nC g n p a b e = 0) : tk g n p = 1 ∧ te g n p - p ≤ 3 ∧ a ≤ nV g n p ∧ nV g n p ≤ b ∧ 0 ≤ nV g n p ∧ nV g n p ≤ 999 := by
  unfold nC at h
  split at h
  · omega
  · split at h
    · omega
    · split at h
      · omega
      · have := nV_b (g := g) (n := n) (p := p) (by omega) (by omega)
        omega
/-- whether the String i stands from p to q -/
def spS (g : Int → Int) (p q : Int) (i : Nat) : Prop := q - p = (mx_sl.getD i 0 : Nat) ∧ ∀ j : Int, 0 ≤ j → j < (mx_sl.getD i 0 : Nat) → g (p + j) = sbz i j
/-- the String of a word's number -/
def wsi (k : Int) : Nat := ([1, 2, 3, 4, 5, 10, 11, 6, 7, 8, 9, 12] : List Nat).getD k.toNat 0
theorem wsi_b {k : Int} (h : 0 ≤ k ∧ k < 12) : 1 ≤ wsi k ∧ wsi k < 13 := fin_of (n := 12) (P := fun k => 1 ≤ wsi k ∧ wsi k < 13) (by decide) h.1 h.2
theorem wsi_ne0 : ∀ a b : Fin 13, 1 ≤ a.val → 1 ≤ b.val → a ≠ b → mx_sl.getD a.val 0 ≠ mx_sl.getD b.val 0 ∨ ∃ j : Fin 6, j.val < mx_sl.getD a.val 0 ∧ sbz a.val (j.val : Int) ≠ sbz b.val (j.val : Int) := by decide +kernel
theorem spS_u {g : Int → Int} {p q : Int} {a b : Nat} (ha : 1 ≤ a ∧ a < 13) (hb : 1 ≤ b ∧ b < 13) (h1 : spS g p q a) (h2 : spS g p q b) : a = b := by
  refine Classical.byContradiction fun hne => ?_
  have hl : mx_sl.getD a 0 = mx_sl.getD b 0 := by have := h1.1; have := h2.1; omega
  rcases wsi_ne0 ⟨a, ha.2⟩ ⟨b, hb.2⟩ ha.1 hb.1 (fun q => hne (congrArg Fin.val q)) with h | ⟨j, hj, h⟩
  · exact h hl
  · have hj2 : j.val < mx_sl.getD a 0 := hj
    exact h ((h1.2 (j.val : Int) (by omega) (by omega)).symm.trans (h2.2 (j.val : Int) (by omega) (by omega)))
theorem wsi_inj {a b : Int} (ha : 0 ≤ a ∧ a < 12) (hb : 0 ≤ b ∧ b < 12) (h : wsi a = wsi b) : a = b := fin_of (n := 12) (P := fun a => wsi a = wsi b → a = b) (fun i => fin_of (n := 12) (P := fun b => wsi (i.val : Int) = wsi b → (i.val : Int) = b) (fun j => (by decide +kernel : ∀ i j : Fin 12, wsi (i.val : Int) = wsi (j.val : Int) → (i.val : Int) = (j.val : Int)) i j) hb.1 hb.2) ha.1 ha.2 h
/-- the number of the word that stands at p; -1: none -/
def wdP (g : Int → Int) (n p x : Int) : Prop := (x = -1 ∧ (tk g n p ≠ 0 ∨ ∀ k, 0 ≤ k → k < 12 → ¬ spS g p (te g n p) (wsi k))) ∨ (tk g n p = 0 ∧ 0 ≤ x ∧ x < 12 ∧ spS g p (te g n p) (wsi x))
theorem wdP_u {g : Int → Int} {n p x y : Int} (h1 : wdP g n p x) (h2 : wdP g n p y) : x = y := by
  rcases h1 with ⟨rfl, h1⟩ | ⟨a1, a2, a3, a4⟩
  · rcases h2 with ⟨rfl, h2⟩ | ⟨b1, b2, b3, b4⟩
    · rfl
    · rcases h1 with h1 | h1
      · exact absurd b1 h1
      · exact absurd b4 (h1 y b2 b3)
  · rcases h2 with ⟨rfl, h2⟩ | ⟨b1, b2, b3, b4⟩
    · rcases h2 with h2 | h2
      · exact absurd a1 h2
      · exact absurd a4 (h2 x a2 a3)
    · exact wsi_inj ⟨a2, a3⟩ ⟨b2, b3⟩ (spS_u (wsi_b ⟨a2, a3⟩) (wsi_b ⟨b2, b3⟩) a4 b4)
noncomputable def wdn (g : Int → Int) (n p : Int) : Int := @dite _ (∃ x, wdP g n p x) (Classical.propDecidable _) (fun h => Classical.choose h) (fun _ => 0)
theorem wdn_e {g : Int → Int} {n p x : Int} (h : wdP g n p x) : wdn g n p = x := by
  have h1 : ∃ x, wdP g n p x := ⟨x, h⟩
  unfold wdn
  rw [dif_pos h1]
  exact wdP_u (Classical.choose_spec h1) h
/-- what comes of some lines: what is wrong, and where; or where it goes on, and what is told -/
abbrev pR : Type := (Int × Int) ⊕ (Int × td_T)
def pKind (g : Int → Int) (n p : Int) (T : td_T) (kd : Int) : pR :=
  if nC g n p 0 1 2 ≠ 0 then .inl (nC g n p 0 1 2, p) else
  if nC g n (nx g n p) 0 (T 0 0) 2 ≠ 0 then .inl (nC g n (nx g n p) 0 (T 0 0) 2, nx g n p) else
  if nC g n (nx g n (nx g n p)) 0 (T 0 0 - nV g n (nx g n p)) 2 ≠ 0 then .inl (nC g n (nx g n (nx g n p)) 0 (T 0 0 - nV g n (nx g n p)) 2, nx g n (nx g n p)) else
  .inr (nx g n (nx g n (nx g n p)), tdL T kd (nV g n p) (nV g n (nx g n p)) (nV g n (nx g n (nx g n p))))
def pLikes (g : Int → Int) (n p : Int) (T : td_T) : pR :=
  if nC g n p 0 (T 0 1 - 1) 3 ≠ 0 then .inl (nC g n p 0 (T 0 1 - 1) 3, p) else
  if T 3 (nV g n p) ≠ -1 then .inl (5, p) else
  if nC g n (nx g n p) 0 (T 0 1 - 1) 3 ≠ 0 then .inl (nC g n (nx g n p) 0 (T 0 1 - 1) 3, nx g n p) else
  if nV g n (nx g n p) = nV g n p then .inl (5, nx g n p) else
  .inr (nx g n (nx g n p), tdK T (nV g n p) (nV g n (nx g n p)))
def pFog (g : Int → Int) (n p : Int) (T : td_T) : pR :=
  if nC g n p 0 99 2 ≠ 0 then .inl (nC g n p 0 99 2, p) else
  if nC g n (nx g n p) 0 (T 0 1 - 1) 3 ≠ 0 then .inl (nC g n (nx g n p) 0 (T 0 1 - 1) 3, nx g n p) else
  if nC g n (nx g n (nx g n p)) 0 (T 0 1 - 1) 3 ≠ 0 then .inl (nC g n (nx g n (nx g n p)) 0 (T 0 1 - 1) 3, nx g n (nx g n p)) else
  if nV g n (nx g n (nx g n p)) = nV g n (nx g n p) then .inl (5, nx g n (nx g n p)) else
  .inr (nx g n (nx g n (nx g n p)), tdF T (nV g n p) (nV g n (nx g n p)) (nV g n (nx g n (nx g n p))))
/-- which setting, and from what to what -/
def wSet (w : Int) : Int × Int × Int := if w = 5 then (0, 1, 30) else if w = 7 then (2, 1, 9) else if w = 8 then (3, 0, 9) else if w = 9 then (4, 0, 9) else (5, 1, 99)
def pSet (g : Int → Int) (n p : Int) (T : td_T) (w : Int) : pR :=
  if nC g n p (wSet w).2.1 (wSet w).2.2 2 ≠ 0 then .inl (nC g n p (wSet w).2.1 (wSet w).2.2 2, p) else .inr (nx g n p, tdS T (wSet w).1 (nV g n p))
/-- whether a word can stand: sn, the words that were told; fs, it is the first -/
def jdg (T : td_T) (w : Int) (sn : Int → Bool) (fs : Bool) : Int :=
  if w = -1 then 1 else if w ≤ 4 then (if 6 ≤ T 0 1 then 2 else 0) else if w = 11 then (if 10 ≤ T 0 6 then 2 else 0) else if w = 6 then 0 else if w = 5 then (if fs = true then 0 else 4) else (if sn w = true then 4 else 0)
def pBody (g : Int → Int) (n p : Int) (T : td_T) (w : Int) : pR := if w ≤ 4 then pKind g n p T w else if w = 6 then pLikes g n p T else if w = 11 then pFog g n p T else pSet g n p T w
def pEnd (g : Int → Int) (n : Int) : pR → pR
  | .inl e => .inl e
  | .inr (p, T) => if tk g n p ≠ 2 then .inl (1, p) else .inr (nx g n p, T)
noncomputable def pLine (g : Int → Int) (n p : Int) (T : td_T) (sn : Int → Bool) (fs : Bool) : pR :=
  if jdg T (wdn g n p) sn fs ≠ 0 then .inl (jdg T (wdn g n p) sn fs, p) else pEnd g n (pBody g n (nx g n p) T (wdn g n p))
noncomputable def pAll (g : Int → Int) (n : Int) : Nat → Int → td_T → (Int → Bool) → Bool → (Int × Int) ⊕ td_T
  | 0, _, T, _, _ => .inr T
  | k + 1, p, T, sn, fs => if tk g n p = 4 then .inr T else match pLine g n p T sn fs with
    | .inl e => .inl e
    | .inr (q, T2) => pAll g n k q T2 (fun w => if w = wdn g n p then true else sn w) false

