/-- what is told, as rows: settings, kinds, sides, likes, oils, and the fogs' nights, eyes and hidden -/
abbrev td_T : Type := Nat → Int → Int
def td0 : td_T := fun j k => if j = 0 then (if k = 0 then 12 else if k = 2 then 1 else if k = 5 then 40 else 0) else 0
def tdS (T : td_T) (k x : Int) : td_T := va_up T 0 (iu (T 0) k x)
def tdL (T : td_T) (kd sd rd gr : Int) : td_T := fun j => if j = 0 then iu (T 0) 1 (T 0 1 + 1) else if j = 1 then iu (T 1) (T 0 1) kd else if j = 2 then iu (T 2) (T 0 1) sd else if j = 3 then iu (T 3) (T 0 1) (-1) else if j = 4 then iu (iu (iu (T 4) (3 * T 0 1) rd) (3 * T 0 1 + 1) gr) (3 * T 0 1 + 2) (T 0 0 - rd - gr) else T j
def tdK (T : td_T) (a b : Int) : td_T := va_up T 3 (iu (T 3) a b)
def tdF (T : td_T) (n e h : Int) : td_T := fun j => if j = 0 then iu (T 0) 6 (T 0 6 + 1) else if j = 5 then iu (T 5) (T 0 6) n else if j = 6 then iu (T 6) (T 0 6) e else if j = 7 then iu (T 7) (T 0 6) h else T j
/-- rows of a heap that hold what is told -/
def tq (T A : td_T) : Prop := (∀ k, 0 ≤ k → k < 7 → A 0 k = T 0 k) ∧ (∀ l, 0 ≤ l → l < T 0 1 → A 1 l = T 1 l ∧ A 2 l = T 2 l ∧ A 3 l = T 3 l) ∧ (∀ i, 0 ≤ i → i < 3 * T 0 1 → A 4 i = T 4 i) ∧ ∀ f, 0 ≤ f → f < T 0 6 → A 5 f = T 5 f ∧ A 6 f = T 6 f ∧ A 7 f = T 7 f
abbrev td_s (T : td_T) : sp_T := (T 0, T 1, T 2, T 5, T 6, T 7)
/-- in bounds -/
def td_ok (T : td_T) : Prop := sp_tok (td_s T) ∧ sp_lok (td_s T) (T 3) ∧ ∀ l, 0 ≤ l → l < T 0 1 → 0 ≤ T 4 (3 * l) ∧ 0 ≤ T 4 (3 * l + 1) ∧ 0 ≤ T 4 (3 * l + 2) ∧ T 4 (3 * l) + T 4 (3 * l + 1) + T 4 (3 * l + 2) = T 0 0
theorem td0_ok : td_ok td0 := by
  refine ⟨⟨by decide, by decide, by decide, by decide, by decide, by decide, by decide, fun l h0 h1 => ?_, fun l h0 h1 => ?_⟩, fun l h0 h1 => ?_, fun l h0 h1 => ?_⟩
  · exact absurd h1 (by show ¬ l < 0; omega)
  · exact absurd h1 (by show ¬ l < 0; omega)
  · exact absurd h1 (by show ¬ l < 0; omega)
  · exact absurd h1 (by show ¬ l < 0; omega)
theorem tdL_ok {T : td_T} (h : td_ok T) {kd sd rd gr : Int} (hL : T 0 1 < 6) (hk : 0 ≤ kd ∧ kd ≤ 4) (hs : 0 ≤ sd ∧ sd ≤ 1) (hr : 0 ≤ rd) (hg : 0 ≤ gr ∧ gr ≤ T 0 0 - rd) : td_ok (tdL T kd sd rd gr) := by
  obtain ⟨⟨a0, a1, a2, a3, a4, a5, a6, a7, a8⟩, hl, ho⟩ := h
  simp only [td_s] at a0 a1 a2 a3 a4 a5 a6 a7 a8
  have e0 : ∀ k, k ≠ 1 → tdL T kd sd rd gr 0 k = T 0 k := fun k hk => iu_n _ _ hk
  have e1 : tdL T kd sd rd gr 0 1 = T 0 1 + 1 := by
    show iu (T 0) 1 (T 0 1 + 1) 1 = _
    exact iu_s _ _ _
  refine ⟨⟨?_, ?_, ?_, ?_, ?_, ?_, ?_, fun l h0 h1 => ?_, fun f h0 h1 => ?_⟩, fun l h0 h1 => ?_, fun l h0 h1 => ?_⟩
  · show 1 ≤ tdL T kd sd rd gr 0 0 ∧ _; rw [e0 0 (by decide)]; exact a0
  · show 0 ≤ tdL T kd sd rd gr 0 1 ∧ tdL T kd sd rd gr 0 1 ≤ 6; rw [e1]; omega
  · show 1 ≤ tdL T kd sd rd gr 0 2 ∧ _; rw [e0 2 (by decide)]; exact a2
  · show 0 ≤ tdL T kd sd rd gr 0 3 ∧ _; rw [e0 3 (by decide)]; exact a3
  · show 0 ≤ tdL T kd sd rd gr 0 4 ∧ _; rw [e0 4 (by decide)]; exact a4
  · show 1 ≤ tdL T kd sd rd gr 0 5 ∧ _; rw [e0 5 (by decide)]; exact a5
  · show 0 ≤ tdL T kd sd rd gr 0 6 ∧ _; rw [e0 6 (by decide)]; exact a6
  · have h2 : l < T 0 1 + 1 := by rw [← e1]; exact h1
    show (0 ≤ iu (T 1) (T 0 1) kd l ∧ iu (T 1) (T 0 1) kd l ≤ 4) ∧ (0 ≤ iu (T 2) (T 0 1) sd l ∧ iu (T 2) (T 0 1) sd l ≤ 1)
    by_cases e : l = T 0 1
    · subst e
      rw [iu_s, iu_s]
      exact ⟨hk, hs⟩
    · rw [iu_n _ _ e, iu_n _ _ e]
      exact a7 l h0 (by omega)
  · have h2 : f < T 0 6 := by rw [← e0 6 (by decide)]; exact h1
    exact a8 f h0 h2
  · have h2 : l < T 0 1 + 1 := by rw [← e1]; exact h1
    show -1 ≤ iu (T 3) (T 0 1) (-1) l ∧ iu (T 3) (T 0 1) (-1) l < tdL T kd sd rd gr 0 1
    rw [e1]
    by_cases e : l = T 0 1
    · subst e
      rw [iu_s]
      omega
    · rw [iu_n _ _ e]
      have := hl l h0 (by show l < T 0 1; omega)
      simp only [td_s] at this
      omega
  · have h2 : l < T 0 1 + 1 := by rw [← e1]; exact h1
    rw [e0 0 (by decide)]
    show 0 ≤ iu (iu (iu (T 4) (3 * T 0 1) rd) (3 * T 0 1 + 1) gr) (3 * T 0 1 + 2) (T 0 0 - rd - gr) (3 * l) ∧ 0 ≤ iu (iu (iu (T 4) (3 * T 0 1) rd) (3 * T 0 1 + 1) gr) (3 * T 0 1 + 2) (T 0 0 - rd - gr) (3 * l + 1) ∧ 0 ≤ iu (iu (iu (T 4) (3 * T 0 1) rd) (3 * T 0 1 + 1) gr) (3 * T 0 1 + 2) (T 0 0 - rd - gr) (3 * l + 2) ∧ iu (iu (iu (T 4) (3 * T 0 1) rd) (3 * T 0 1 + 1) gr) (3 * T 0 1 + 2) (T 0 0 - rd - gr) (3 * l) + iu (iu (iu (T 4) (3 * T 0 1) rd) (3 * T 0 1 + 1) gr) (3 * T 0 1 + 2) (T 0 0 - rd - gr) (3 * l + 1) + iu (iu (iu (T 4) (3 * T 0 1) rd) (3 * T 0 1 + 1) gr) (3 * T 0 1 + 2) (T 0 0 - rd - gr) (3 * l + 2) = T 0 0
    simp only [iu]
    by_cases e : l = T 0 1
    · subst e
      rw [if_neg (by omega), if_neg (by omega), if_pos rfl, if_neg (by omega), if_pos rfl, if_pos rfl]
      omega
    · rw [if_neg (by omega), if_neg (by omega), if_neg (by omega), if_neg (by omega), if_neg (by omega), if_neg (by omega), if_neg (by omega), if_neg (by omega), if_neg (by omega)]
      exact ho l h0 (by omega)
theorem tdK_ok {T : td_T} (h : td_ok T) {a b : Int} (hb : 0 ≤ b ∧ b < T 0 1) : td_ok (tdK T a b) := by
  refine ⟨h.1, fun l h0 h1 => ?_, h.2.2⟩
  show -1 ≤ iu (T 3) a b l ∧ iu (T 3) a b l < T 0 1
  simp only [iu]
  split
  · omega
  · exact h.2.1 l h0 h1
theorem tdS_ok {T : td_T} (h : td_ok T) {k x : Int} (hk : (k = 0 ∧ 1 ≤ x ∧ x ≤ 30 ∧ T 0 1 = 0) ∨ (k = 2 ∧ 1 ≤ x ∧ x ≤ 9) ∨ (k = 3 ∧ 0 ≤ x ∧ x ≤ 9) ∨ (k = 4 ∧ 0 ≤ x ∧ x ≤ 9) ∨ (k = 5 ∧ 1 ≤ x ∧ x ≤ 99)) : td_ok (tdS T k x) := by
  obtain ⟨⟨a0, a1, a2, a3, a4, a5, a6, a7, a8⟩, hl, ho⟩ := h
  simp only [td_s] at a0 a1 a2 a3 a4 a5 a6 a7 a8
  have e : ∀ j, tdS T k x 0 j = if j = k then x else T 0 j := fun j => rfl
  refine ⟨⟨?_, ?_, ?_, ?_, ?_, ?_, ?_, fun l h0 h1 => ?_, fun f h0 h1 => ?_⟩, fun l h0 h1 => ?_, fun l h0 h1 => ?_⟩
  · show 1 ≤ tdS T k x 0 0 ∧ tdS T k x 0 0 ≤ 30; rw [e]; split <;> omega
  · show 0 ≤ tdS T k x 0 1 ∧ tdS T k x 0 1 ≤ 6; rw [e]; split <;> omega
  · show 1 ≤ tdS T k x 0 2 ∧ tdS T k x 0 2 ≤ 9; rw [e]; split <;> omega
  · show 0 ≤ tdS T k x 0 3 ∧ tdS T k x 0 3 ≤ 9; rw [e]; split <;> omega
  · show 0 ≤ tdS T k x 0 4 ∧ tdS T k x 0 4 ≤ 9; rw [e]; split <;> omega
  · show 1 ≤ tdS T k x 0 5 ∧ tdS T k x 0 5 ≤ 99; rw [e]; split <;> omega
  · show 0 ≤ tdS T k x 0 6 ∧ tdS T k x 0 6 ≤ 10; rw [e]; split <;> omega
  · have h2 : l < tdS T k x 0 1 := h1
    rw [e, if_neg (by omega)] at h2
    exact a7 l h0 h2
  · have h2 : f < tdS T k x 0 6 := h1
    rw [e, if_neg (by omega)] at h2
    exact a8 f h0 h2
  · have h2 : l < tdS T k x 0 1 := h1
    rw [e, if_neg (by omega)] at h2
    show -1 ≤ T 3 l ∧ T 3 l < tdS T k x 0 1
    rw [e, if_neg (by omega)]
    exact hl l h0 h2
  · have h2 : l < tdS T k x 0 1 := h1
    rw [e, if_neg (by omega)] at h2
    show 0 ≤ T 4 (3 * l) ∧ 0 ≤ T 4 (3 * l + 1) ∧ 0 ≤ T 4 (3 * l + 2) ∧ T 4 (3 * l) + T 4 (3 * l + 1) + T 4 (3 * l + 2) = tdS T k x 0 0
    rw [e]
    have := ho l h0 h2
    split <;> omega
theorem tdF_ok {T : td_T} (h : td_ok T) {n a b : Int} (hF : T 0 6 < 10) (hn : 0 ≤ n ∧ n ≤ 99) (ha : 0 ≤ a ∧ a ≤ 5) (hb : 0 ≤ b ∧ b ≤ 5) : td_ok (tdF T n a b) := by
  obtain ⟨⟨a0, a1, a2, a3, a4, a5, a6, a7, a8⟩, hl, ho⟩ := h
  simp only [td_s] at a0 a1 a2 a3 a4 a5 a6 a7 a8
  have e0 : ∀ k, k ≠ 6 → tdF T n a b 0 k = T 0 k := fun k hk => iu_n _ _ hk
  have e1 : tdF T n a b 0 6 = T 0 6 + 1 := by
    show iu (T 0) 6 (T 0 6 + 1) 6 = _
    exact iu_s _ _ _
  refine ⟨⟨?_, ?_, ?_, ?_, ?_, ?_, ?_, fun l h0 h1 => ?_, fun f h0 h1 => ?_⟩, fun l h0 h1 => ?_, fun l h0 h1 => ?_⟩
  · show 1 ≤ tdF T n a b 0 0 ∧ _; rw [e0 0 (by decide)]; exact a0
  · show 0 ≤ tdF T n a b 0 1 ∧ _; rw [e0 1 (by decide)]; exact a1
  · show 1 ≤ tdF T n a b 0 2 ∧ _; rw [e0 2 (by decide)]; exact a2
  · show 0 ≤ tdF T n a b 0 3 ∧ _; rw [e0 3 (by decide)]; exact a3
  · show 0 ≤ tdF T n a b 0 4 ∧ _; rw [e0 4 (by decide)]; exact a4
  · show 1 ≤ tdF T n a b 0 5 ∧ _; rw [e0 5 (by decide)]; exact a5
  · show 0 ≤ tdF T n a b 0 6 ∧ tdF T n a b 0 6 ≤ 10; rw [e1]; omega
  · have h2 : l < T 0 1 := by rw [← e0 1 (by decide)]; exact h1
    exact a7 l h0 h2
  · have h2 : f < T 0 6 + 1 := by rw [← e1]; exact h1
    show (0 ≤ iu (T 5) (T 0 6) n f ∧ iu (T 5) (T 0 6) n f ≤ 99) ∧ (0 ≤ iu (T 6) (T 0 6) a f ∧ iu (T 6) (T 0 6) a f ≤ 5) ∧ (0 ≤ iu (T 7) (T 0 6) b f ∧ iu (T 7) (T 0 6) b f ≤ 5)
    by_cases e : f = T 0 6
    · subst e
      rw [iu_s, iu_s, iu_s]
      exact ⟨hn, ha, hb⟩
    · rw [iu_n _ _ e, iu_n _ _ e, iu_n _ _ e]
      exact a8 f h0 (by omega)
  · have h2 : l < T 0 1 := by rw [← e0 1 (by decide)]; exact h1
    show -1 ≤ T 3 l ∧ T 3 l < tdF T n a b 0 1
    rw [e0 1 (by decide)]
    exact hl l h0 h2
  · have h2 : l < T 0 1 := by rw [← e0 1 (by decide)]; exact h1
    rw [e0 0 (by decide)]
    exact ho l h0 h2
set_option maxHeartbeats 4000000 in
set_option maxRecDepth 100000 in
theorem k_X4_forget {S : mx_Sc} {f : Bool} {sh : List (Nat × Nat)} {M : Nat → Int → Int} {L : Nat → Nat → Int64} {Rf : Nat → Nat → Option Nat} {t : Nat} (ht9 : t < 900) (hs : sh[t]? = some (7, 14)) : mx_C S mX4_forget [.ref t] (f, sh, M, L, Rf) 0 0 (fun v9 h9 => ∃ N, h9 = (f, sh, N, L, Rf) ∧ v9 = none ∧ (∀ x, x ≠ t → N x = M x) ∧ ∀ k, 0 ≤ k → k < 7 → N t k = td0 0 k) (fun _ _ => False) := by
  refine mx_C_of (by decide) (by simp [Value.category]) (Nat.le_of_ble_eq_true rfl) rfl ?_
  show mx_E S mX4_forget 0 [some (.ref t)] [] (f, sh, M, L, Rf) 0 0 _ _
  refine ms_aload_n dX4_forget_0 rfl ?_
  refine mi_bipush dX4_forget_1 (by decide) ?_
  refine ms_putI (z := 0) dX4_forget_3 (fo_X4_36 rfl) (by first | rfl | assumption) rfl rfl rfl ?_
  refine ms_aload_n dX4_forget_6 rfl ?_
  refine mi_iconst dX4_forget_7 ?_
  refine ms_putI (z := 1) dX4_forget_8 (fo_X4_40 rfl) (by first | rfl | assumption) rfl rfl rfl ?_
  refine ms_aload_n dX4_forget_11 rfl ?_
  refine mi_iconst dX4_forget_12 ?_
  refine ms_putI (z := 2) dX4_forget_13 (fo_X4_43 rfl) (by first | rfl | assumption) rfl rfl rfl ?_
  refine ms_aload_n dX4_forget_16 rfl ?_
  refine mi_iconst dX4_forget_17 ?_
  refine ms_putI (z := 3) dX4_forget_18 (fo_X4_46 rfl) (by first | rfl | assumption) rfl rfl rfl ?_
  refine ms_aload_n dX4_forget_21 rfl ?_
  refine mi_iconst dX4_forget_22 ?_
  refine ms_putI (z := 4) dX4_forget_23 (fo_X4_49 rfl) (by first | rfl | assumption) rfl rfl rfl ?_
  refine ms_aload_n dX4_forget_26 rfl ?_
  refine mi_bipush dX4_forget_27 (by decide) ?_
  refine ms_putI (z := 5) dX4_forget_29 (fo_X4_52 rfl) (by first | rfl | assumption) rfl rfl rfl ?_
  refine ms_aload_n dX4_forget_32 rfl ?_
  refine mi_iconst dX4_forget_33 ?_
  refine ms_putI (z := 6) dX4_forget_34 (fo_X4_55 rfl) (by first | rfl | assumption) rfl rfl rfl ?_
  refine ms_retV dX4_forget_37 rfl ⟨_, rfl, rfl, fun x hx => by simp only [va_up, if_neg hx], fun k k0 k1 => ?_⟩ (by simp)
  rcases (show k = 0 ∨ k = 1 ∨ k = 2 ∨ k = 3 ∨ k = 4 ∨ k = 5 ∨ k = 6 by omega) with rfl | rfl | rfl | rfl | rfl | rfl | rfl <;> simp [va_up, iu, td0]

set_option maxHeartbeats 4000000 in
set_option maxRecDepth 100000 in
theorem k_X4_addLamp {S : mx_Sc} {f : Bool} {M : Nat → Int → Int} {L : Nat → Nat → Int64} {Rf : Nat → Nat → Option Nat} (hR : mx_rf Rf) {t : Nat} (ht : t = 29 ∨ t = 37) {T : td_T} (hq : tq T (fun j => M (t + j))) (hT : td_ok T) {kd sd rd gr : Int} (hL : T 0 1 < 6) (hr : 0 ≤ rd ∧ rd ≤ T 0 0) (hg : 0 ≤ gr ∧ gr ≤ T 0 0 - rd) : mx_C S mX4_addLamp [.ref t, .int (iI kd), .int (iI sd), .int (iI rd), .int (iI gr)] (f, mx_SH, M, L, Rf) 0 0 (fun v9 h9 => ∃ N, h9 = (f, mx_SH, N, L, Rf) ∧ v9 = none ∧ (∀ x, (x < t ∨ t + 8 ≤ x) → N x = M x) ∧ tq (tdL T kd sd rd gr) (fun j => N (t + j)) ∧ ((∀ i, 0 ≤ i → i < 18 → 0 ≤ M (t + 4) i ∧ M (t + 4) i < 32) → ∀ i, 0 ≤ i → i < 18 → 0 ≤ N (t + 4) i ∧ N (t + 4) i < 32)) (fun _ _ => False) := by
  refine mx_C_of (by decide) (by simp [Value.category]) (Nat.le_of_ble_eq_true rfl) rfl ?_
  show mx_E S mX4_addLamp 0 [some (.ref t), some (.int (iI kd)), some (.int (iI sd)), some (.int (iI rd)), some (.int (iI gr))] [] (f, mx_SH, M, L, Rf) 0 0 _ _
  have hr30 : Rf t 7 = some (t + 1) := by rcases ht with rfl | rfl; exact rf_29_7 hR; exact rf_37_7 hR
  have hr31 : Rf t 8 = some (t + 2) := by rcases ht with rfl | rfl; exact rf_29_8 hR; exact rf_37_8 hR
  have hr32 : Rf t 9 = some (t + 3) := by rcases ht with rfl | rfl; exact rf_29_9 hR; exact rf_37_9 hR
  have hr33 : Rf t 10 = some (t + 4) := by rcases ht with rfl | rfl; exact rf_29_10 hR; exact rf_37_10 hR
  have hr34 : Rf t 11 = some (t + 5) := by rcases ht with rfl | rfl; exact rf_29_11 hR; exact rf_37_11 hR
  have hr35 : Rf t 12 = some (t + 6) := by rcases ht with rfl | rfl; exact rf_29_12 hR; exact rf_37_12 hR
  have hr36 : Rf t 13 = some (t + 7) := by rcases ht with rfl | rfl; exact rf_29_13 hR; exact rf_37_13 hR
  have hs0 : mx_SH[t]? = some (7, 14) := by rcases ht with rfl | rfl <;> rfl
  have hs1 : mx_SH[t + 1]? = some (0, 6) := by rcases ht with rfl | rfl <;> rfl
  have hs2 : mx_SH[t + 2]? = some (0, 6) := by rcases ht with rfl | rfl <;> rfl
  have hs3 : mx_SH[t + 3]? = some (0, 6) := by rcases ht with rfl | rfl <;> rfl
  have hs4 : mx_SH[t + 4]? = some (0, 18) := by rcases ht with rfl | rfl <;> rfl
  have hs5 : mx_SH[t + 5]? = some (0, 10) := by rcases ht with rfl | rfl <;> rfl
  have hs6 : mx_SH[t + 6]? = some (0, 10) := by rcases ht with rfl | rfl <;> rfl
  have hs7 : mx_SH[t + 7]? = some (0, 10) := by rcases ht with rfl | rfl <;> rfl
  have e00 : M t 0 = T 0 0 := hq.1 0 (by decide) (by decide)
  have e01 : M t 1 = T 0 1 := hq.1 1 (by decide) (by decide)
  have e06 : M t 6 = T 0 6 := hq.1 6 (by decide) (by decide)
  have u1 : ∀ (M : Nat → Int → Int) (g : Int → Int), va_up M (t + 1) g t = M t := fun M g => up_n M g (by omega)
  have u2 : ∀ (M : Nat → Int → Int) (g : Int → Int), va_up M (t + 2) g t = M t := fun M g => up_n M g (by omega)
  have u3 : ∀ (M : Nat → Int → Int) (g : Int → Int), va_up M (t + 3) g t = M t := fun M g => up_n M g (by omega)
  have u4 : ∀ (M : Nat → Int → Int) (g : Int → Int), va_up M (t + 4) g t = M t := fun M g => up_n M g (by omega)
  have u5 : ∀ (M : Nat → Int → Int) (g : Int → Int), va_up M (t + 5) g t = M t := fun M g => up_n M g (by omega)
  have u6 : ∀ (M : Nat → Int → Int) (g : Int → Int), va_up M (t + 6) g t = M t := fun M g => up_n M g (by omega)
  have u7 : ∀ (M : Nat → Int → Int) (g : Int → Int), va_up M (t + 7) g t = M t := fun M g => up_n M g (by omega)
  have o0 : 1 ≤ T 0 0 ∧ T 0 0 ≤ 30 := hT.1.1
  have o1 : 0 ≤ T 0 1 ∧ T 0 1 ≤ 6 := hT.1.2.1
  have o6 : 0 ≤ T 0 6 ∧ T 0 6 ≤ 10 := hT.1.2.2.2.2.2.2.1
  refine ms_aload_n dX4_addLamp_0 rfl ?_
  refine ms_getI (z := 1) dX4_addLamp_1 (fo_X4_40 rfl) (by first | rfl | assumption) rfl rfl ?_
  refine mi_bipush dX4_addLamp_4 (by decide) ?_
  refine mi_icmp_ge (tgt := 98) dX4_addLamp_6 (by decide) (fun c_6 => ?_) (fun c_6 => ?_)
  · exact absurd c_6 (by omega)
  · refine ms_aload_n dX4_addLamp_9 rfl ?_
    refine ms_getR dX4_addLamp_10 (fo_X4_9 rfl) (by first | rfl | assumption) rfl (by first | assumption | exact rf_29_7 hR | exact rf_37_7 hR ) ?_
    refine ms_aload_n dX4_addLamp_13 rfl ?_
    refine ms_getI (z := 1) dX4_addLamp_14 (fo_X4_40 rfl) (by first | rfl | assumption) rfl rfl ?_
    refine ms_iload_n dX4_addLamp_17 rfl ?_
    refine ms_iast dX4_addLamp_18 (by first | rfl | assumption) ?_
    refine ms_aload_n dX4_addLamp_19 rfl ?_
    refine ms_getR dX4_addLamp_20 (fo_X4_15 rfl) (by first | rfl | assumption) rfl (by first | assumption | exact rf_29_8 hR | exact rf_37_8 hR ) ?_
    refine ms_aload_n dX4_addLamp_23 rfl ?_
    refine ms_getI (z := 1) dX4_addLamp_24 (fo_X4_40 rfl) (by first | rfl | assumption) rfl rfl ?_
    simp only [u1, u2, u3, u4]
    refine ms_iload_n dX4_addLamp_27 rfl ?_
    refine ms_iast dX4_addLamp_28 (by first | rfl | assumption) ?_
    refine ms_aload_n dX4_addLamp_29 rfl ?_
    refine ms_getR dX4_addLamp_30 (fo_X4_18 rfl) (by first | rfl | assumption) rfl (by first | assumption | exact rf_29_9 hR | exact rf_37_9 hR ) ?_
    refine ms_aload_n dX4_addLamp_33 rfl ?_
    refine ms_getI (z := 1) dX4_addLamp_34 (fo_X4_40 rfl) (by first | rfl | assumption) rfl rfl ?_
    simp only [u1, u2, u3, u4]
    refine mi_iconst dX4_addLamp_37 ?_
    refine ms_iast dX4_addLamp_38 (by first | rfl | assumption) ?_
    refine ms_aload_n dX4_addLamp_39 rfl ?_
    refine ms_getR dX4_addLamp_40 (fo_X4_21 rfl) (by first | rfl | assumption) rfl (by first | assumption | exact rf_29_10 hR | exact rf_37_10 hR ) ?_
    refine ms_aload_n dX4_addLamp_43 rfl ?_
    refine ms_getI (z := 1) dX4_addLamp_44 (fo_X4_40 rfl) (by first | rfl | assumption) rfl rfl ?_
    simp only [u1, u2, u3, u4]
    refine mi_iconst dX4_addLamp_47 ?_
    refine mi_imul dX4_addLamp_48 ?_
    refine ms_iload_n dX4_addLamp_49 rfl ?_
    refine ms_iast dX4_addLamp_50 (by first | rfl | assumption) ?_
    refine ms_aload_n dX4_addLamp_51 rfl ?_
    refine ms_getR dX4_addLamp_52 (fo_X4_21 rfl) (by first | rfl | assumption) rfl (by first | assumption | exact rf_29_10 hR | exact rf_37_10 hR ) ?_
    refine ms_aload_n dX4_addLamp_55 rfl ?_
    refine ms_getI (z := 1) dX4_addLamp_56 (fo_X4_40 rfl) (by first | rfl | assumption) rfl rfl ?_
    simp only [u1, u2, u3, u4]
    refine mi_iconst dX4_addLamp_59 ?_
    refine mi_imul dX4_addLamp_60 ?_
    refine mi_iconst dX4_addLamp_61 ?_
    refine mi_iadd dX4_addLamp_62 ?_
    refine ms_iload dX4_addLamp_63 rfl ?_
    refine ms_iast dX4_addLamp_65 (by first | rfl | assumption) ?_
    refine ms_aload_n dX4_addLamp_66 rfl ?_
    refine ms_getR dX4_addLamp_67 (fo_X4_21 rfl) (by first | rfl | assumption) rfl (by first | assumption | exact rf_29_10 hR | exact rf_37_10 hR ) ?_
    refine ms_aload_n dX4_addLamp_70 rfl ?_
    refine ms_getI (z := 1) dX4_addLamp_71 (fo_X4_40 rfl) (by first | rfl | assumption) rfl rfl ?_
    simp only [u1, u2, u3, u4]
    refine mi_iconst dX4_addLamp_74 ?_
    refine mi_imul dX4_addLamp_75 ?_
    refine mi_iconst dX4_addLamp_76 ?_
    refine mi_iadd dX4_addLamp_77 ?_
    refine ms_aload_n dX4_addLamp_78 rfl ?_
    refine ms_getI (z := 0) dX4_addLamp_79 (fo_X4_36 rfl) (by first | rfl | assumption) rfl rfl ?_
    simp only [u1, u2, u3, u4]
    refine ms_iload_n dX4_addLamp_82 rfl ?_
    refine mi_isub dX4_addLamp_83 ?_
    refine ms_iload dX4_addLamp_84 rfl ?_
    refine mi_isub dX4_addLamp_86 ?_
    refine ms_iast dX4_addLamp_87 (by first | rfl | assumption) ?_
    refine ms_aload_n dX4_addLamp_88 rfl ?_
    refine ms_dup dX4_addLamp_89 rfl ?_
    refine ms_getI (z := 1) dX4_addLamp_90 (fo_X4_40 rfl) (by first | rfl | assumption) rfl rfl ?_
    simp only [u1, u2, u3, u4]
    refine mi_iconst dX4_addLamp_93 ?_
    refine mi_iadd dX4_addLamp_94 ?_
    refine ms_putI (z := 1) dX4_addLamp_95 (fo_X4_40 rfl) (by first | rfl | assumption) rfl rfl rfl ?_
    refine ms_retV dX4_addLamp_98 rfl ⟨_, rfl, rfl, ?_, ?_, ?_⟩ (by simp)
    · intro x hx
      simp only [va_up]
      rw [if_neg (by omega), if_neg (by omega), if_neg (by omega), if_neg (by omega), if_neg (by omega), if_neg (by omega), if_neg (by omega)]
    · rw [e01, e00]
      have d1 : ¬ t + 1 = t := by omega
      refine ⟨fun k k0 k1 => ?_, fun l l0 l1 => ?_, fun i i0 i1 => ?_, fun g g0 g1 => ?_⟩
      · simp [va_up, iu, tdL]
        split
        · rfl
        · exact hq.1 k k0 k1
      · have l2 : l < T 0 1 + 1 := l1
        simp [va_up, iu, tdL]
        by_cases e : l = T 0 1
        · simp [e]
        · simp [e]
          exact hq.2.1 l l0 (by omega)
      · have l2 : i < 3 * (T 0 1 + 1) := i1
        simp [va_up, iu, tdL]
        repeat' split
        all_goals first | rfl | omega | exact hq.2.2.1 i i0 (by omega)
      · simp [va_up, tdL]
        exact hq.2.2.2 g g0 g1
    · intro hj i i0 i1
      have := hj i i0 i1
      simp [va_up, iu]
      split
      · omega
      · split
        · omega
        · split
          · omega
          · exact this

set_option maxHeartbeats 4000000 in
set_option maxRecDepth 100000 in
theorem k_X4_addFog {S : mx_Sc} {f : Bool} {M : Nat → Int → Int} {L : Nat → Nat → Int64} {Rf : Nat → Nat → Option Nat} (hR : mx_rf Rf) {t : Nat} (ht : t = 29 ∨ t = 37) {T : td_T} (hq : tq T (fun j => M (t + j))) (hT : td_ok T) {n a b : Int} (hF : T 0 6 < 10) : mx_C S mX4_addFog [.ref t, .int (iI n), .int (iI a), .int (iI b)] (f, mx_SH, M, L, Rf) 0 0 (fun v9 h9 => ∃ N, h9 = (f, mx_SH, N, L, Rf) ∧ v9 = none ∧ (∀ x, (x < t ∨ t + 8 ≤ x) → N x = M x) ∧ tq (tdF T n a b) (fun j => N (t + j)) ∧ (∀ i, N (t + 4) i = M (t + 4) i)) (fun _ _ => False) := by
  refine mx_C_of (by decide) (by simp [Value.category]) (Nat.le_of_ble_eq_true rfl) rfl ?_
  show mx_E S mX4_addFog 0 [some (.ref t), some (.int (iI n)), some (.int (iI a)), some (.int (iI b))] [] (f, mx_SH, M, L, Rf) 0 0 _ _
  have hr30 : Rf t 7 = some (t + 1) := by rcases ht with rfl | rfl; exact rf_29_7 hR; exact rf_37_7 hR
  have hr31 : Rf t 8 = some (t + 2) := by rcases ht with rfl | rfl; exact rf_29_8 hR; exact rf_37_8 hR
  have hr32 : Rf t 9 = some (t + 3) := by rcases ht with rfl | rfl; exact rf_29_9 hR; exact rf_37_9 hR
  have hr33 : Rf t 10 = some (t + 4) := by rcases ht with rfl | rfl; exact rf_29_10 hR; exact rf_37_10 hR
  have hr34 : Rf t 11 = some (t + 5) := by rcases ht with rfl | rfl; exact rf_29_11 hR; exact rf_37_11 hR
  have hr35 : Rf t 12 = some (t + 6) := by rcases ht with rfl | rfl; exact rf_29_12 hR; exact rf_37_12 hR
  have hr36 : Rf t 13 = some (t + 7) := by rcases ht with rfl | rfl; exact rf_29_13 hR; exact rf_37_13 hR
  have hs0 : mx_SH[t]? = some (7, 14) := by rcases ht with rfl | rfl <;> rfl
  have hs1 : mx_SH[t + 1]? = some (0, 6) := by rcases ht with rfl | rfl <;> rfl
  have hs2 : mx_SH[t + 2]? = some (0, 6) := by rcases ht with rfl | rfl <;> rfl
  have hs3 : mx_SH[t + 3]? = some (0, 6) := by rcases ht with rfl | rfl <;> rfl
  have hs4 : mx_SH[t + 4]? = some (0, 18) := by rcases ht with rfl | rfl <;> rfl
  have hs5 : mx_SH[t + 5]? = some (0, 10) := by rcases ht with rfl | rfl <;> rfl
  have hs6 : mx_SH[t + 6]? = some (0, 10) := by rcases ht with rfl | rfl <;> rfl
  have hs7 : mx_SH[t + 7]? = some (0, 10) := by rcases ht with rfl | rfl <;> rfl
  have e00 : M t 0 = T 0 0 := hq.1 0 (by decide) (by decide)
  have e01 : M t 1 = T 0 1 := hq.1 1 (by decide) (by decide)
  have e06 : M t 6 = T 0 6 := hq.1 6 (by decide) (by decide)
  have u1 : ∀ (M : Nat → Int → Int) (g : Int → Int), va_up M (t + 1) g t = M t := fun M g => up_n M g (by omega)
  have u2 : ∀ (M : Nat → Int → Int) (g : Int → Int), va_up M (t + 2) g t = M t := fun M g => up_n M g (by omega)
  have u3 : ∀ (M : Nat → Int → Int) (g : Int → Int), va_up M (t + 3) g t = M t := fun M g => up_n M g (by omega)
  have u4 : ∀ (M : Nat → Int → Int) (g : Int → Int), va_up M (t + 4) g t = M t := fun M g => up_n M g (by omega)
  have u5 : ∀ (M : Nat → Int → Int) (g : Int → Int), va_up M (t + 5) g t = M t := fun M g => up_n M g (by omega)
  have u6 : ∀ (M : Nat → Int → Int) (g : Int → Int), va_up M (t + 6) g t = M t := fun M g => up_n M g (by omega)
  have u7 : ∀ (M : Nat → Int → Int) (g : Int → Int), va_up M (t + 7) g t = M t := fun M g => up_n M g (by omega)
  have o0 : 1 ≤ T 0 0 ∧ T 0 0 ≤ 30 := hT.1.1
  have o1 : 0 ≤ T 0 1 ∧ T 0 1 ≤ 6 := hT.1.2.1
  have o6 : 0 ≤ T 0 6 ∧ T 0 6 ≤ 10 := hT.1.2.2.2.2.2.2.1
  refine ms_aload_n dX4_addFog_0 rfl ?_
  refine ms_getI (z := 6) dX4_addFog_1 (fo_X4_55 rfl) (by first | rfl | assumption) rfl rfl ?_
  refine mi_bipush dX4_addFog_4 (by decide) ?_
  refine mi_icmp_ge (tgt := 49) dX4_addFog_6 (by decide) (fun c_6 => ?_) (fun c_6 => ?_)
  · exact absurd c_6 (by omega)
  · refine ms_aload_n dX4_addFog_9 rfl ?_
    refine ms_getR dX4_addFog_10 (fo_X4_24 rfl) (by first | rfl | assumption) rfl (by first | assumption | exact rf_29_11 hR | exact rf_37_11 hR ) ?_
    refine ms_aload_n dX4_addFog_13 rfl ?_
    refine ms_getI (z := 6) dX4_addFog_14 (fo_X4_55 rfl) (by first | rfl | assumption) rfl rfl ?_
    refine ms_iload_n dX4_addFog_17 rfl ?_
    refine ms_iast dX4_addFog_18 (by first | rfl | assumption) ?_
    refine ms_aload_n dX4_addFog_19 rfl ?_
    refine ms_getR dX4_addFog_20 (fo_X4_27 rfl) (by first | rfl | assumption) rfl (by first | assumption | exact rf_29_12 hR | exact rf_37_12 hR ) ?_
    refine ms_aload_n dX4_addFog_23 rfl ?_
    refine ms_getI (z := 6) dX4_addFog_24 (fo_X4_55 rfl) (by first | rfl | assumption) rfl rfl ?_
    simp only [u5, u6, u7]
    refine ms_iload_n dX4_addFog_27 rfl ?_
    refine ms_iast dX4_addFog_28 (by first | rfl | assumption) ?_
    refine ms_aload_n dX4_addFog_29 rfl ?_
    refine ms_getR dX4_addFog_30 (fo_X4_30 rfl) (by first | rfl | assumption) rfl (by first | assumption | exact rf_29_13 hR | exact rf_37_13 hR ) ?_
    refine ms_aload_n dX4_addFog_33 rfl ?_
    refine ms_getI (z := 6) dX4_addFog_34 (fo_X4_55 rfl) (by first | rfl | assumption) rfl rfl ?_
    simp only [u5, u6, u7]
    refine ms_iload_n dX4_addFog_37 rfl ?_
    refine ms_iast dX4_addFog_38 (by first | rfl | assumption) ?_
    refine ms_aload_n dX4_addFog_39 rfl ?_
    refine ms_dup dX4_addFog_40 rfl ?_
    refine ms_getI (z := 6) dX4_addFog_41 (fo_X4_55 rfl) (by first | rfl | assumption) rfl rfl ?_
    simp only [u5, u6, u7]
    refine mi_iconst dX4_addFog_44 ?_
    refine mi_iadd dX4_addFog_45 ?_
    refine ms_putI (z := 6) dX4_addFog_46 (fo_X4_55 rfl) (by first | rfl | assumption) rfl rfl rfl ?_
    refine ms_retV dX4_addFog_49 rfl ⟨_, rfl, rfl, ?_, ?_, ?_⟩ (by simp)
    · intro x hx
      simp only [va_up]
      rw [if_neg (by omega), if_neg (by omega), if_neg (by omega), if_neg (by omega)]
    · rw [e06]
      refine ⟨fun k k0 k1 => ?_, fun l l0 l1 => ?_, fun i i0 i1 => ?_, fun g g0 g1 => ?_⟩
      · simp [va_up, iu, tdF]
        split
        · rfl
        · exact hq.1 k k0 k1
      · simp [va_up, tdF]
        exact hq.2.1 l l0 l1
      · simp [va_up, tdF]
        exact hq.2.2.1 i i0 i1
      · have l2 : g < T 0 6 + 1 := g1
        simp [va_up, iu, tdF]
        by_cases e : g = T 0 6
        · simp [e]
        · simp [e]
          exact hq.2.2.2 g g0 (by omega)
    · intro i
      simp [va_up]

