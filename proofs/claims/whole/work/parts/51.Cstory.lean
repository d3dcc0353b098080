set_option maxHeartbeats 4000000 in
set_option maxRecDepth 100000 in
theorem k_X3_begin {S : mx_Sc} {f : Bool} {sh : List (Nat × Nat)} {M : Nat → Int → Int} {L : Nat → Nat → Int64} {Rf : Nat → Nat → Option Nat} {t : Nat} (ht : t = 29 ∨ t = 37) (hs_t : sh[t]? = some (7, 14)) (hs_t4 : sh[t + 4]? = some (0, 18)) (hr_t4 : Rf t 10 = some (t + 4)) (hs_2 : sh[2]? = some (6, 4)) (hs_8 : sh[8]? = some (0, 1800)) (hs_3 : sh[3]? = some (5, 6)) (hs_4 : sh[4]? = some (0, 18)) (hs_5 : sh[5]? = some (0, 6)) (hs_6 : sh[6]? = some (0, 6)) (hr_20 : Rf 2 0 = some 3) (hr_22 : Rf 2 2 = some 8) (hr_30 : Rf 3 0 = some 4) (hr_31 : Rf 3 1 = some 5) (hr_32 : Rf 3 2 = some 6) : mx_C S mX3_begin [.ref 2, .ref t] (f, sh, M, L, Rf) 0 0 (fun v9 h9 => ∃ N, h9 = (f, sh, N, L, Rf) ∧ v9 = none ∧ (∀ x, x ≠ 3 → x ≠ 4 → x ≠ 5 → x ≠ 6 → x ≠ 8 → N x = M x) ∧ (∀ i, 0 ≤ i → i < 18 → N 4 i = M (t + 4) i) ∧ (∀ l, 0 ≤ l → l < 6 → N 5 l = -1 ∧ N 6 l = -1) ∧ N 3 3 = 0 ∧ N 3 4 = 0 ∧ N 3 5 = 0 ∧ (∀ i, 0 ≤ i → i < 18 → N 8 i = M (t + 4) i) ∧ (∀ i, 18 ≤ i → N 8 i = M 8 i)) (fun _ _ => False) := by
  refine mx_C_of (by decide) (by simp [Value.category]) (Nat.le_of_ble_eq_true rfl) rfl ?_
  show mx_E S mX3_begin 0 [some (.ref 2), some (.ref t)] [] (f, sh, M, L, Rf) 0 0 _ _
  have ht9 : t < 900 := by omega
  refine ms_aload_n dX3_begin_0 rfl ?_
  refine ms_getR dX3_begin_1 (fo_X3_12 rfl) (by first | rfl | assumption) rfl (by first | assumption | exact rf_2_0 hR | exact rf_10_0 hR ) ?_
  refine ms_aload_n dX3_begin_4 rfl ?_
  refine ms_callV1 (ci := 2) (r := (RX2, TX2, 6)) dX3_begin_5 cv_X3_begin_X2_begin (k_X2_begin (a := 3) ht (Or.inl rfl) hs_t hs_t4 hr_t4 hs_3 hs_4 hs_5 hs_6 hr_30 hr_31 hr_32) rfl rfl (by first | rfl | assumption) (Nat.le_of_ble_eq_true rfl) rfl (fun _ _ z => z.elim) (fun v9 h9 hp9 => ?_)
  obtain ⟨N, rfl, rfl, z1, z2, z3, z4, z5, z6⟩ := hp9
  refine ms_aload_n dX3_begin_8 rfl ?_
  refine ms_getR dX3_begin_9 (fo_X3_12 rfl) (by first | rfl | assumption) rfl (by first | assumption | exact rf_2_0 hR | exact rf_10_0 hR ) ?_
  refine ms_getR dX3_begin_12 (fo_X3_32 rfl) (by first | rfl | assumption) rfl (by first | assumption | exact rf_3_0 hR | exact rf_11_0 hR | exact rf_18_0 hR ) ?_
  refine mi_iconst dX3_begin_15 ?_
  refine ms_aload_n dX3_begin_16 rfl ?_
  refine ms_getR dX3_begin_17 (fo_X3_22 rfl) (by first | rfl | assumption) rfl (by first | assumption | exact rf_2_2 hR | exact rf_10_2 hR ) ?_
  refine mi_iconst dX3_begin_20 ?_
  refine mi_bipush dX3_begin_21 (by decide) ?_
  refine ms_acopy dX3_begin_23 ac_X3_begin (by first | rfl | assumption) (by first | rfl | assumption) (Nat.le_of_ble_eq_true rfl) ?_
  refine ms_retV dX3_begin_26 rfl ⟨_, rfl, rfl, fun x x1 x2 x3 x4 x5 => by rw [up_n _ _ x5]; exact z1 x x1 x2 x3 x4, fun i i0 i1 => by rw [up_n _ _ (by decide)]; exact z2 i i0 i1, fun l l0 l1 => by rw [up_n _ _ (by decide), up_n _ _ (by decide)]; exact z3 l l0 l1, by rw [up_n _ _ (by decide)]; exact z4, by rw [up_n _ _ (by decide)]; exact z5, by rw [up_n _ _ (by decide)]; exact z6, fun i i0 i1 => ?_, fun i i0 => ?_⟩ (by simp)
  · rw [up_s]
    simp only [ic]
    rw [if_pos (by omega), ← z2 i i0 i1]
    congr 1
    omega
  · rw [up_s]
    simp only [ic]
    rw [if_neg (by omega), z1 8 (by decide) (by decide) (by decide) (by decide)]

theorem st_s {s : Nat} (h : s = 2 ∨ s = 10) : mx_SH[s]? = some (6, 4) := by rcases h with rfl | rfl <;> rfl
theorem st_s5 {s : Nat} (h : s = 2 ∨ s = 10) : mx_SH[s + 5]? = some (0, 1782) := by rcases h with rfl | rfl <;> rfl
theorem st_s6 {s : Nat} (h : s = 2 ∨ s = 10) : mx_SH[s + 6]? = some (0, 1800) := by rcases h with rfl | rfl <;> rfl
theorem st_s7 {s : Nat} (h : s = 2 ∨ s = 10) : mx_SH[s + 7]? = some (0, 3) := by rcases h with rfl | rfl <;> rfl
theorem st_r1 {s : Nat} {Rf : Nat → Nat → Option Nat} (hR : mx_rf Rf) (h : s = 2 ∨ s = 10) : Rf s 0 = some (s + 1) := by
  rcases h with rfl | rfl
  · exact rf_2_0 hR
  · exact rf_10_0 hR
theorem st_r5 {s : Nat} {Rf : Nat → Nat → Option Nat} (hR : mx_rf Rf) (h : s = 2 ∨ s = 10) : Rf s 1 = some (s + 5) := by
  rcases h with rfl | rfl
  · exact rf_2_1 hR
  · exact rf_10_1 hR
theorem st_r6 {s : Nat} {Rf : Nat → Nat → Option Nat} (hR : mx_rf Rf) (h : s = 2 ∨ s = 10) : Rf s 2 = some (s + 6) := by
  rcases h with rfl | rfl
  · exact rf_2_2 hR
  · exact rf_10_2 hR
theorem st_r7 {s : Nat} {Rf : Nat → Nat → Option Nat} (hR : mx_rf Rf) (h : s = 2 ∨ s = 10) : Rf s 3 = some (s + 7) := by
  rcases h with rfl | rfl
  · exact rf_2_3 hR
  · exact rf_10_3 hR
set_option maxHeartbeats 4000000 in
set_option maxRecDepth 100000 in
theorem k_X3_take {S : mx_Sc} {f : Bool} {M : Nat → Int → Int} {L : Nat → Nat → Int64} {Rf : Nat → Nat → Option Nat} (hR : mx_rf Rf) {s b : Nat} (hs : s = 2 ∨ s = 10) (hb : b = 2 ∨ b = 10) (hsb : s ≠ b) : mx_C S mX3_take [.ref s, .ref b] (f, mx_SH, M, L, Rf) 0 0 (fun v9 h9 => ∃ N, h9 = (f, mx_SH, N, L, Rf) ∧ v9 = none ∧ (∀ x, (x < s + 1 ∨ s + 7 < x) → N x = M x) ∧ scE M N (b + 1) (s + 1) ∧ (∀ i, 0 ≤ i → i < 1782 → N (s + 5) i = M (b + 5) i) ∧ (∀ i, 0 ≤ i → i < 1800 → N (s + 6) i = M (b + 6) i) ∧ (∀ i, 0 ≤ i → i < 3 → N (s + 7) i = M (b + 7) i)) (fun _ _ => False) := by
  refine mx_C_of (by decide) (by simp [Value.category]) (Nat.le_of_ble_eq_true rfl) rfl ?_
  show mx_E S mX3_take 0 [some (.ref s), some (.ref b)] [] (f, mx_SH, M, L, Rf) 0 0 _ _
  have hs9 : s < 900 := by omega
  have hs_s := st_s hs
  have hs_s5 := st_s5 hs
  have hs_s6 := st_s6 hs
  have hs_s7 := st_s7 hs
  have hr_s1 := st_r1 hR hs
  have hr_s5 := st_r5 hR hs
  have hr_s6 := st_r6 hR hs
  have hr_s7 := st_r7 hR hs
  have hs_s1 : mx_SH[s + 1]? = some (5, 6) := sc_s (by omega)
  have hb9 : b < 900 := by omega
  have hs_b := st_s hb
  have hs_b5 := st_s5 hb
  have hs_b6 := st_s6 hb
  have hs_b7 := st_s7 hb
  have hr_b1 := st_r1 hR hb
  have hr_b5 := st_r5 hR hb
  have hr_b6 := st_r6 hR hb
  have hr_b7 := st_r7 hR hb
  have hs_b1 : mx_SH[b + 1]? = some (5, 6) := sc_s (by omega)
  refine ms_aload_n dX3_take_0 rfl ?_
  refine ms_getR dX3_take_1 (fo_X3_12 rfl) (by first | rfl | assumption) rfl (by first | assumption | exact rf_2_0 hR | exact rf_10_0 hR ) ?_
  refine ms_aload_n dX3_take_4 rfl ?_
  refine ms_getR dX3_take_5 (fo_X3_12 rfl) (by first | rfl | assumption) rfl (by first | assumption | exact rf_2_0 hR | exact rf_10_0 hR ) ?_
  refine ms_callV1 (ci := 2) (r := (RX2, TX2, 6)) dX3_take_8 cv_X3_take_X2_take (k_X2_take (a := s + 1) (b := b + 1) hR (by omega) (by omega) (by omega)) rfl rfl (by first | rfl | assumption) (Nat.le_of_ble_eq_true rfl) rfl (fun _ _ z => z.elim) (fun v9 h9 hp9 => ?_)
  obtain ⟨N, rfl, rfl, z1, z2, z3⟩ := hp9
  have f1 : ∀ x, (x < s + 1 ∨ s + 4 < x) → N x = M x := fun x hx => z1 x (by omega) (by omega) (by omega) (by omega)
  refine ms_aload_n dX3_take_11 rfl ?_
  refine ms_getR dX3_take_12 (fo_X3_18 rfl) (by first | rfl | assumption) rfl (by first | assumption | exact rf_2_1 hR | exact rf_10_1 hR ) ?_
  refine mi_iconst dX3_take_15 ?_
  refine ms_aload_n dX3_take_16 rfl ?_
  refine ms_getR dX3_take_17 (fo_X3_18 rfl) (by first | rfl | assumption) rfl (by first | assumption | exact rf_2_1 hR | exact rf_10_1 hR ) ?_
  refine mi_iconst dX3_take_20 ?_
  refine ms_aload_n dX3_take_21 rfl ?_
  refine ms_getR dX3_take_22 (fo_X3_18 rfl) (by first | rfl | assumption) rfl (by first | assumption | exact rf_2_1 hR | exact rf_10_1 hR ) ?_
  refine ms_alen dX3_take_25 (by first | rfl | assumption) (by decide) rfl ?_
  refine ms_acopy dX3_take_26 ac_X3_take (by first | rfl | assumption) (by first | rfl | assumption) (Nat.le_of_ble_eq_true rfl) ?_
  refine ms_aload_n dX3_take_29 rfl ?_
  refine ms_getR dX3_take_30 (fo_X3_22 rfl) (by first | rfl | assumption) rfl (by first | assumption | exact rf_2_2 hR | exact rf_10_2 hR ) ?_
  refine mi_iconst dX3_take_33 ?_
  refine ms_aload_n dX3_take_34 rfl ?_
  refine ms_getR dX3_take_35 (fo_X3_22 rfl) (by first | rfl | assumption) rfl (by first | assumption | exact rf_2_2 hR | exact rf_10_2 hR ) ?_
  refine mi_iconst dX3_take_38 ?_
  refine ms_aload_n dX3_take_39 rfl ?_
  refine ms_getR dX3_take_40 (fo_X3_22 rfl) (by first | rfl | assumption) rfl (by first | assumption | exact rf_2_2 hR | exact rf_10_2 hR ) ?_
  refine ms_alen dX3_take_43 (by first | rfl | assumption) (by decide) rfl ?_
  refine ms_acopy dX3_take_44 ac_X3_take (by first | rfl | assumption) (by first | rfl | assumption) (Nat.le_of_ble_eq_true rfl) ?_
  refine ms_aload_n dX3_take_47 rfl ?_
  refine ms_getR dX3_take_48 (fo_X3_25 rfl) (by first | rfl | assumption) rfl (by first | assumption | exact rf_2_3 hR | exact rf_10_3 hR ) ?_
  refine mi_iconst dX3_take_51 ?_
  refine ms_aload_n dX3_take_52 rfl ?_
  refine ms_getR dX3_take_53 (fo_X3_25 rfl) (by first | rfl | assumption) rfl (by first | assumption | exact rf_2_3 hR | exact rf_10_3 hR ) ?_
  refine mi_iconst dX3_take_56 ?_
  refine mi_iconst dX3_take_57 ?_
  refine ms_acopy dX3_take_58 ac_X3_take (by first | rfl | assumption) (by first | rfl | assumption) (Nat.le_of_ble_eq_true rfl) ?_
  refine ms_retV dX3_take_61 rfl ⟨_, rfl, rfl, fun x hx => by rw [up_n _ _ (by omega), up_n _ _ (by omega), up_n _ _ (by omega)]; exact f1 x (by omega), ⟨fun i i0 i1 => ?_, fun l l0 l1 => ?_, ?_, ?_, ?_⟩, fun i i0 i1 => ?_, fun i i0 i1 => ?_, fun i i0 i1 => ?_⟩ (by simp)
  · rw [up_n _ _ (by omega), up_n _ _ (by omega), up_n _ _ (by omega)]
    exact z2.1 i i0 i1
  · rw [up_n _ _ (by omega), up_n _ _ (by omega), up_n _ _ (by omega), up_n _ _ (by omega), up_n _ _ (by omega), up_n _ _ (by omega)]
    exact z2.2.1 l l0 l1
  · rw [up_n _ _ (by omega), up_n _ _ (by omega), up_n _ _ (by omega)]
    exact z2.2.2.1
  · rw [up_n _ _ (by omega), up_n _ _ (by omega), up_n _ _ (by omega)]
    exact z2.2.2.2.1
  · rw [up_n _ _ (by omega), up_n _ _ (by omega), up_n _ _ (by omega)]
    exact z2.2.2.2.2
  · rw [up_n _ _ (by omega), up_n _ _ (by omega), up_s]
    simp only [ic]
    rw [if_pos (by omega), f1 (b + 5) (by omega)]
    congr 1
    omega
  · rw [up_n _ _ (by omega), up_s]
    simp only [ic]
    rw [if_pos (by omega), up_n _ _ (by omega), f1 (b + 6) (by omega)]
    congr 1
    omega
  · rw [up_s]
    simp only [ic]
    rw [if_pos (by omega), up_n _ _ (by omega), up_n _ _ (by omega), f1 (b + 7) (by omega)]
    congr 1
    omega

set_option maxHeartbeats 4000000 in
set_option maxRecDepth 100000 in
theorem k_X3_writeDusk {S : mx_Sc} {f : Bool} {M : Nat → Int → Int} {L : Nat → Nat → Int64} {Rf : Nat → Nat → Option Nat} (hR : mx_rf Rf) {n : Int} (hn : 0 ≤ n ∧ n < 99) (hnn : M 3 3 = n) : mx_C S mX3_writeDusk [.ref 2] (f, mx_SH, M, L, Rf) 0 0 (fun v9 h9 => h9 = (f, mx_SH, va_up M 7 (ic (M 4) (M 7) 0 (n * 18) 18), L, Rf) ∧ v9 = none) (fun _ _ => False) := by
  refine mx_C_of (by decide) (by simp [Value.category]) (Nat.le_of_ble_eq_true rfl) rfl ?_
  show mx_E S mX3_writeDusk 0 [some (.ref 2)] [] (f, mx_SH, M, L, Rf) 0 0 _ _
  subst hnn
  refine ms_aload_n dX3_writeDusk_0 rfl ?_
  refine ms_getR dX3_writeDusk_1 (fo_X3_12 rfl) (by first | rfl | assumption) rfl (by first | assumption | exact rf_2_0 hR | exact rf_10_0 hR ) ?_
  refine ms_getI (z := 3) dX3_writeDusk_4 (fo_X3_45 rfl) (by first | rfl | assumption) rfl rfl ?_
  refine mi_bipush dX3_writeDusk_7 (by decide) ?_
  refine mi_icmp_ge (tgt := 39) dX3_writeDusk_9 (by decide) (fun c_9 => ?_) (fun c_9 => ?_)
  · exact absurd c_9 (by omega)
  · refine ms_aload_n dX3_writeDusk_12 rfl ?_
    refine ms_getR dX3_writeDusk_13 (fo_X3_12 rfl) (by first | rfl | assumption) rfl (by first | assumption | exact rf_2_0 hR | exact rf_10_0 hR ) ?_
    refine ms_getR dX3_writeDusk_16 (fo_X3_32 rfl) (by first | rfl | assumption) rfl (by first | assumption | exact rf_3_0 hR | exact rf_11_0 hR | exact rf_18_0 hR ) ?_
    refine mi_iconst dX3_writeDusk_19 ?_
    refine ms_aload_n dX3_writeDusk_20 rfl ?_
    refine ms_getR dX3_writeDusk_21 (fo_X3_18 rfl) (by first | rfl | assumption) rfl (by first | assumption | exact rf_2_1 hR | exact rf_10_1 hR ) ?_
    refine ms_aload_n dX3_writeDusk_24 rfl ?_
    refine ms_getR dX3_writeDusk_25 (fo_X3_12 rfl) (by first | rfl | assumption) rfl (by first | assumption | exact rf_2_0 hR | exact rf_10_0 hR ) ?_
    refine ms_getI (z := 3) dX3_writeDusk_28 (fo_X3_45 rfl) (by first | rfl | assumption) rfl rfl ?_
    refine mi_bipush dX3_writeDusk_31 (by decide) ?_
    refine mi_imul dX3_writeDusk_33 ?_
    refine mi_bipush dX3_writeDusk_34 (by decide) ?_
    refine ms_acopy dX3_writeDusk_36 ac_X3_writeDusk (by first | rfl | assumption) (by first | rfl | assumption) (Nat.le_of_ble_eq_true rfl) ?_
    refine ms_retV dX3_writeDusk_39 rfl ⟨rfl, rfl⟩ (by simp)

set_option maxHeartbeats 4000000 in
set_option maxRecDepth 100000 in
theorem k_X3_writeDawn {S : mx_Sc} {f : Bool} {M : Nat → Int → Int} {L : Nat → Nat → Int64} {Rf : Nat → Nat → Option Nat} (hR : mx_rf Rf) {n : Int} (hn : 0 ≤ n ∧ n ≤ 99) (hnn : M 3 3 = n) : mx_C S mX3_writeDawn [.ref 2] (f, mx_SH, M, L, Rf) 0 0 (fun v9 h9 => h9 = (f, mx_SH, va_up M 8 (ic (M 4) (M 8) 0 (n * 18) 18), L, Rf) ∧ v9 = none) (fun _ _ => False) := by
  refine mx_C_of (by decide) (by simp [Value.category]) (Nat.le_of_ble_eq_true rfl) rfl ?_
  show mx_E S mX3_writeDawn 0 [some (.ref 2)] [] (f, mx_SH, M, L, Rf) 0 0 _ _
  subst hnn
  refine ms_aload_n dX3_writeDawn_0 rfl ?_
  refine ms_getR dX3_writeDawn_1 (fo_X3_12 rfl) (by first | rfl | assumption) rfl (by first | assumption | exact rf_2_0 hR | exact rf_10_0 hR ) ?_
  refine ms_getI (z := 3) dX3_writeDawn_4 (fo_X3_45 rfl) (by first | rfl | assumption) rfl rfl ?_
  refine mi_bipush dX3_writeDawn_7 (by decide) ?_
  refine mi_icmp_gt (tgt := 39) dX3_writeDawn_9 (by decide) (fun c_9 => ?_) (fun c_9 => ?_)
  · exact absurd c_9 (by omega)
  · refine ms_aload_n dX3_writeDawn_12 rfl ?_
    refine ms_getR dX3_writeDawn_13 (fo_X3_12 rfl) (by first | rfl | assumption) rfl (by first | assumption | exact rf_2_0 hR | exact rf_10_0 hR ) ?_
    refine ms_getR dX3_writeDawn_16 (fo_X3_32 rfl) (by first | rfl | assumption) rfl (by first | assumption | exact rf_3_0 hR | exact rf_11_0 hR | exact rf_18_0 hR ) ?_
    refine mi_iconst dX3_writeDawn_19 ?_
    refine ms_aload_n dX3_writeDawn_20 rfl ?_
    refine ms_getR dX3_writeDawn_21 (fo_X3_22 rfl) (by first | rfl | assumption) rfl (by first | assumption | exact rf_2_2 hR | exact rf_10_2 hR ) ?_
    refine ms_aload_n dX3_writeDawn_24 rfl ?_
    refine ms_getR dX3_writeDawn_25 (fo_X3_12 rfl) (by first | rfl | assumption) rfl (by first | assumption | exact rf_2_0 hR | exact rf_10_0 hR ) ?_
    refine ms_getI (z := 3) dX3_writeDawn_28 (fo_X3_45 rfl) (by first | rfl | assumption) rfl rfl ?_
    refine mi_bipush dX3_writeDawn_31 (by decide) ?_
    refine mi_imul dX3_writeDawn_33 ?_
    refine mi_bipush dX3_writeDawn_34 (by decide) ?_
    refine ms_acopy dX3_writeDawn_36 ac_X3_writeDawn (by first | rfl | assumption) (by first | rfl | assumption) (Nat.le_of_ble_eq_true rfl) ?_
    refine ms_retV dX3_writeDawn_39 rfl ⟨rfl, rfl⟩ (by simp)

/-- the oils of a row put over -/
def sp_oil (g v : Int → Int) (p : Int) : Int → Int := fun i => if 0 ≤ i ∧ i < 18 then g (p + i) else v i
theorem oil_out (g v : Int → Int) (p : Int) {l : Int} (h : 0 ≤ l) : sp_out (sp_oil g v p) l = sp_out v l := by
  unfold sp_out sp_oil
  rw [if_neg (by omega)]
theorem oil_cnt (t : sp_T) (g v : Int → Int) (p : Int) : sp_cnt t (sp_oil g v p) = sp_cnt t v := by
  unfold sp_cnt
  generalize (t.1 1).toNat = K
  induction K with
  | zero => rfl
  | succ K ih =>
    simp only [itN]
    rw [ih, oil_out g v p (by omega)]
theorem scR.oil {t : sp_T} (hT : sp_tok t) {M N : Nat → Int → Int} {a : Nat} {v g : Int → Int} {p : Int} (h : scR t M a v) (h1 : ∀ i, 0 ≤ i → i < 18 → N (a + 1) i = g (p + i)) (h2 : ∀ x, x ≠ a + 1 → N x = M x) : scR t N a (sp_oil g v p) := by
  have h6 := hT.2.1
  refine ⟨fun i i0 i1 => ?_, fun l l0 l1 => ?_, ?_, fun l l0 l1 => ?_, ?_⟩
  · rw [h1 i i0 (by omega)]
    unfold sp_oil
    rw [if_pos ⟨i0, by omega⟩]
  · rw [h2 _ (by omega), h2 _ (by omega)]
    unfold sp_oil
    rw [if_neg (by omega), if_neg (by omega)]
    exact h.2.1 l l0 l1
  · rw [h2 _ (by omega)]
    exact h.2.2.1
  · rw [h2 _ (by omega), oil_out g v p l0]
    exact h.2.2.2.1 l l0 l1
  · rw [h2 _ (by omega), oil_cnt]
    exact h.2.2.2.2
set_option maxHeartbeats 4000000 in
set_option maxRecDepth 100000 in
theorem k_X3_goBack {S : mx_Sc} {f : Bool} {M : Nat → Int → Int} {L : Nat → Nat → Int64} {Rf : Nat → Nat → Option Nat} (hR : mx_rf Rf) {t : sp_T} (hT : sp_tok t) {v : Int → Int} (hsc : scR t M 3 v) (hv : sp_vok t v) (hz : ∀ l, t.1 1 ≤ l → l < 6 → sp_out v l = false) {n k : Int} (hn : 0 ≤ n ∧ n ≤ 99) (hnn : M 3 3 = n) (hk : 0 ≤ k ∧ k ≤ n) : mx_C S mX3_goBack [.ref 2, .int (iI k)] (f, mx_SH, M, L, Rf) 0 0 (fun v9 h9 => ∃ N, h9 = (f, mx_SH, N, L, Rf) ∧ v9 = none ∧ (∀ x, x ≠ 3 → x ≠ 4 → x ≠ 5 → x ≠ 6 → N x = M x) ∧ scR t N 3 (sp_oil (M 8) (sp_part v (n - k)) ((n - k) * 18)) ∧ N 3 3 = n - k ∧ (∀ i, 0 ≤ i → i < 18 → N 4 i = M 8 ((n - k) * 18 + i))) (fun _ _ => False) := by
  refine mx_C_of (by decide) (by simp [Value.category]) (Nat.le_of_ble_eq_true rfl) rfl ?_
  show mx_E S mX3_goBack 0 [some (.ref 2), some (.int (iI k))] [] (f, mx_SH, M, L, Rf) 0 0 _ _
  subst hnn
  refine ms_aload_n dX3_goBack_0 rfl ?_
  refine ms_getR dX3_goBack_1 (fo_X3_12 rfl) (by first | rfl | assumption) rfl (by first | assumption | exact rf_2_0 hR | exact rf_10_0 hR ) ?_
  refine ms_aload_n dX3_goBack_4 rfl ?_
  refine ms_getR dX3_goBack_5 (fo_X3_12 rfl) (by first | rfl | assumption) rfl (by first | assumption | exact rf_2_0 hR | exact rf_10_0 hR ) ?_
  refine ms_getI (z := 3) dX3_goBack_8 (fo_X3_45 rfl) (by first | rfl | assumption) rfl rfl ?_
  refine ms_iload_n dX3_goBack_11 rfl ?_
  refine mi_isub dX3_goBack_12 ?_
  refine ms_callV1 (ci := 2) (r := (RX2, TX2, 6)) dX3_goBack_13 cv_X3_goBack_X2_partSince (k_X2_partSince (a := 3) hR (Or.inl rfl) hT hsc hv (u := M 3 3 - k) (by omega) hz) rfl rfl (by first | rfl | assumption) (Nat.le_of_ble_eq_true rfl) rfl (fun _ _ z => z.elim) (fun v9 h9 hp9 => ?_)
  obtain ⟨N, rfl, rfl, z1, z2, z3, z4⟩ := hp9
  have e8 : N 8 = M 8 := z1 8 (by decide) (by decide) (by decide)
  refine ms_aload_n dX3_goBack_16 rfl ?_
  refine ms_getR dX3_goBack_17 (fo_X3_22 rfl) (by first | rfl | assumption) rfl (by first | assumption | exact rf_2_2 hR | exact rf_10_2 hR ) ?_
  refine ms_aload_n dX3_goBack_20 rfl ?_
  refine ms_getR dX3_goBack_21 (fo_X3_12 rfl) (by first | rfl | assumption) rfl (by first | assumption | exact rf_2_0 hR | exact rf_10_0 hR ) ?_
  refine ms_getI (z := 3) dX3_goBack_24 (fo_X3_45 rfl) (by first | rfl | assumption) rfl rfl ?_
  refine mi_bipush dX3_goBack_27 (by decide) ?_
  refine mi_imul dX3_goBack_29 ?_
  refine ms_aload_n dX3_goBack_30 rfl ?_
  refine ms_getR dX3_goBack_31 (fo_X3_12 rfl) (by first | rfl | assumption) rfl (by first | assumption | exact rf_2_0 hR | exact rf_10_0 hR ) ?_
  refine ms_getR dX3_goBack_34 (fo_X3_32 rfl) (by first | rfl | assumption) rfl (by first | assumption | exact rf_3_0 hR | exact rf_11_0 hR | exact rf_18_0 hR ) ?_
  refine mi_iconst dX3_goBack_37 ?_
  refine mi_bipush dX3_goBack_38 (by decide) ?_
  refine ms_acopy dX3_goBack_40 ac_X3_goBack (by first | rfl | assumption) (by first | rfl | assumption) (Nat.le_of_ble_eq_true rfl) ?_
  refine ms_retV dX3_goBack_43 rfl ⟨_, rfl, rfl, fun x x1 x2 x3 x4 => by rw [up_n _ _ x2]; exact z1 x x1 x3 x4, z2.oil hT (fun i i0 i1 => ?_) (fun x hx => up_n _ _ hx), by rw [up_n _ _ (by decide)]; exact z3, fun i i0 i1 => ?_⟩ (by simp)
  · rw [up_s]
    simp only [ic]
    rw [if_pos (by omega), z3, e8]
    congr 1
    omega
  · rw [up_s]
    simp only [ic]
    rw [if_pos (by omega), z3, e8]
    congr 1
    omega

set_option maxHeartbeats 4000000 in
set_option maxRecDepth 100000 in
theorem k_X3_readDusk {S : mx_Sc} {f : Bool} {M : Nat → Int → Int} {L : Nat → Nat → Int64} {Rf : Nat → Nat → Option Nat} (hR : mx_rf Rf) {t : sp_T} (hT : sp_tok t) {v : Int → Int} (hsc : scR t M 3 v) (hv : sp_vok t v) (hz : ∀ l, t.1 1 ≤ l → l < 6 → sp_out v l = false) {k : Int} (hk : 0 ≤ k ∧ k < 99) : mx_C S mX3_readDusk [.ref 2, .int (iI k), .ref 18] (f, mx_SH, M, L, Rf) 0 0 (fun v9 h9 => ∃ N, h9 = (f, mx_SH, N, L, Rf) ∧ v9 = none ∧ (∀ x, x ≠ 18 → x ≠ 19 → x ≠ 20 → x ≠ 21 → N x = M x) ∧ scR t N 18 (sp_oil (M 7) (sp_part v k) (k * 18)) ∧ N 18 3 = k) (fun _ _ => False) := by
  refine mx_C_of (by decide) (by simp [Value.category]) (Nat.le_of_ble_eq_true rfl) rfl ?_
  show mx_E S mX3_readDusk 0 [some (.ref 2), some (.int (iI k)), some (.ref 18)] [] (f, mx_SH, M, L, Rf) 0 0 _ _
  refine ms_aload_n dX3_readDusk_0 rfl ?_
  refine ms_aload_n dX3_readDusk_1 rfl ?_
  refine ms_getR dX3_readDusk_2 (fo_X3_12 rfl) (by first | rfl | assumption) rfl (by first | assumption | exact rf_2_0 hR | exact rf_10_0 hR ) ?_
  refine ms_callV1 (ci := 2) (r := (RX2, TX2, 6)) dX3_readDusk_5 cv_X3_readDusk_X2_take (k_X2_take (a := 18) (b := 3) hR (by omega) (by omega) (by decide)) rfl rfl (by first | rfl | assumption) (Nat.le_of_ble_eq_true rfl) rfl (fun _ _ z => z.elim) (fun v9 h9 hp9 => ?_)
  obtain ⟨N, rfl, rfl, z1, z2, z3⟩ := hp9
  refine ms_aload_n dX3_readDusk_8 rfl ?_
  refine ms_iload_n dX3_readDusk_9 rfl ?_
  refine ms_callV1 (ci := 2) (r := (RX2, TX2, 6)) dX3_readDusk_10 cv_X3_readDusk_X2_partSince (k_X2_partSince (a := 18) (M := N) hR (by omega) hT (z2.sc hT hsc) hv (u := k) (by omega) hz) rfl rfl (by first | rfl | assumption) (Nat.le_of_ble_eq_true rfl) rfl (fun _ _ z => z.elim) (fun v9 h9 hp9 => ?_)
  obtain ⟨N2, rfl, rfl, y1, y2, y3, y4⟩ := hp9
  have e7 : N2 7 = M 7 := by rw [y1 7 (by decide) (by decide) (by decide), z1 7 (by decide) (by decide) (by decide) (by decide)]
  refine ms_aload_n dX3_readDusk_13 rfl ?_
  refine ms_getR dX3_readDusk_14 (fo_X3_18 rfl) (by first | rfl | assumption) rfl (by first | assumption | exact rf_2_1 hR | exact rf_10_1 hR ) ?_
  refine ms_iload_n dX3_readDusk_17 rfl ?_
  refine mi_bipush dX3_readDusk_18 (by decide) ?_
  refine mi_imul dX3_readDusk_20 ?_
  refine ms_aload_n dX3_readDusk_21 rfl ?_
  refine ms_getR dX3_readDusk_22 (fo_X3_32 rfl) (by first | rfl | assumption) rfl (by first | assumption | exact rf_3_0 hR | exact rf_11_0 hR | exact rf_18_0 hR ) ?_
  refine mi_iconst dX3_readDusk_25 ?_
  refine mi_bipush dX3_readDusk_26 (by decide) ?_
  refine ms_acopy dX3_readDusk_28 ac_X3_readDusk (by first | rfl | assumption) (by first | rfl | assumption) (Nat.le_of_ble_eq_true rfl) ?_
  refine ms_retV dX3_readDusk_31 rfl ⟨_, rfl, rfl, fun x x1 x2 x3 x4 => by rw [up_n _ _ x2, y1 x x1 x3 x4, z1 x x1 x2 x3 x4], y2.oil hT (fun i i0 i1 => ?_) (fun x hx => up_n _ _ hx), by rw [up_n _ _ (by decide)]; exact y3⟩ (by simp)
  rw [up_s]
  simp only [ic]
  rw [if_pos (by omega), e7]
  congr 1
  omega

set_option maxHeartbeats 4000000 in
set_option maxRecDepth 100000 in
theorem k_X3_readDawn {S : mx_Sc} {f : Bool} {M : Nat → Int → Int} {L : Nat → Nat → Int64} {Rf : Nat → Nat → Option Nat} (hR : mx_rf Rf) {k l : Int} (hk : 0 ≤ k ∧ k < 99) (hl : 0 ≤ l ∧ l < 6) : mx_C S mX3_readDawn [.ref 2, .int (iI k), .int (iI l), .ref 24] (f, mx_SH, M, L, Rf) 0 0 (fun v9 h9 => h9 = (f, mx_SH, va_up M 24 (ic (M 8) (M 24) ((k + 1) * 18 + l * 3) 0 3), L, Rf) ∧ v9 = none) (fun _ _ => False) := by
  refine mx_C_of (by decide) (by simp [Value.category]) (Nat.le_of_ble_eq_true rfl) rfl ?_
  show mx_E S mX3_readDawn 0 [some (.ref 2), some (.int (iI k)), some (.int (iI l)), some (.ref 24)] [] (f, mx_SH, M, L, Rf) 0 0 _ _
  refine ms_aload_n dX3_readDawn_0 rfl ?_
  refine ms_getR dX3_readDawn_1 (fo_X3_22 rfl) (by first | rfl | assumption) rfl (by first | assumption | exact rf_2_2 hR | exact rf_10_2 hR ) ?_
  refine ms_iload_n dX3_readDawn_4 rfl ?_
  refine mi_iconst dX3_readDawn_5 ?_
  refine mi_iadd dX3_readDawn_6 ?_
  refine mi_bipush dX3_readDawn_7 (by decide) ?_
  refine mi_imul dX3_readDawn_9 ?_
  refine ms_iload_n dX3_readDawn_10 rfl ?_
  refine mi_iconst dX3_readDawn_11 ?_
  refine mi_imul dX3_readDawn_12 ?_
  refine mi_iadd dX3_readDawn_13 ?_
  refine ms_aload_n dX3_readDawn_14 rfl ?_
  refine mi_iconst dX3_readDawn_15 ?_
  refine mi_iconst dX3_readDawn_16 ?_
  refine ms_acopy dX3_readDawn_17 ac_X3_readDawn (by first | rfl | assumption) (by first | rfl | assumption) (Nat.le_of_ble_eq_true rfl) ?_
  refine ms_retV dX3_readDawn_20 rfl ⟨rfl, rfl⟩ (by simp)

