set_option maxHeartbeats 4000000 in
set_option maxRecDepth 100000 in
theorem k_X5_obey {S : mx_Sc} {f : Bool} {M : Nat → Int → Int} {L : Nat → Nat → Int64} {Rf : Nat → Nat → Option Nat} (hR : mx_rf Rf) {t : Nat} (ht : t = 29 ∨ t = 37) (hT : sp_tok (sp_tC M t)) {wr : Nat} {hf ng : Bool} : mx_C S mX5_obey [.ref 46, .ref t, .ref wr, .int (iI (bI hf + 2 * bI ng))] (f, mx_SH, M, L, Rf) 0 0 (fun v9 h9 => ∃ N Rf2, h9 = (f, mx_SH, N, L, Rf2) ∧ v9 = none ∧ mx_rf Rf2 ∧ (∀ x, x ≠ 46 → Rf2 x = Rf x) ∧ Rf2 46 1 = some t ∧ Rf2 46 2 = some wr ∧ (∀ x, x ≠ 46 → N x = M x) ∧ N 46 4 = bI ng ∧ N 46 3 = (if hf = true then (M t 2 + 1) / 2 else M t 2)) (fun _ _ => False) := by
  refine mx_C_of (by decide) (by simp [Value.category]) (Nat.le_of_ble_eq_true rfl) rfl ?_
  show mx_E S mX5_obey 0 [some (.ref 46), some (.ref t), some (.ref wr), some (.int (iI (bI hf + 2 * bI ng)))] [] (f, mx_SH, M, L, Rf) 0 0 _ _
  have ht9 : t < 900 := by omega
  have hs_t := tc_s ht
  have hs_t1 := tc_s1 ht
  have hr_t1 := tc_r1 hR ht
  have hs_t2 := tc_s2 ht
  have hr_t2 := tc_r2 hR ht
  have hs_t3 := tc_s3 ht
  have hr_t3 := tc_r3 hR ht
  have hs_t4 := tc_s4 ht
  have hr_t4 := tc_r4 hR ht
  have hs_t5 := tc_s5 ht
  have hr_t5 := tc_r5 hR ht
  have hs_t6 := tc_s6 ht
  have hr_t6 := tc_r6 hR ht
  have hs_t7 := tc_s7 ht
  have hr_t7 := tc_r7 hR ht
  have hT0 : 1 ≤ M t 0 ∧ M t 0 ≤ 30 := hT.1
  have hT1 : 0 ≤ M t 1 ∧ M t 1 ≤ 6 := hT.2.1
  have hT2 : 1 ≤ M t 2 ∧ M t 2 ≤ 9 := hT.2.2.1
  have hT3 : 0 ≤ M t 3 ∧ M t 3 ≤ 9 := hT.2.2.2.1
  have hT4 : 0 ≤ M t 4 ∧ M t 4 ≤ 9 := hT.2.2.2.2.1
  have hT5 : 1 ≤ M t 5 ∧ M t 5 ≤ 99 := hT.2.2.2.2.2.1
  have hT6 : 0 ≤ M t 6 ∧ M t 6 ≤ 10 := hT.2.2.2.2.2.2.1
  have hTn : ((M t 1).toNat : Int) = M t 1 := Int.toNat_of_nonneg hT1.1
  have hTn6 : ((M t 6).toNat : Int) = M t 6 := Int.toNat_of_nonneg hT6.1
  have hbn := bI_01 ng
  have hbh := bI_01 hf
  refine ms_aload_n dX5_obey_0 rfl ?_
  refine ms_aload_n dX5_obey_1 rfl ?_
  refine ms_putRo dX5_obey_2 (fo_X5_15 rfl) (by first | rfl | assumption) rfl rfl ?_
  refine ms_aload_n dX5_obey_5 rfl ?_
  refine ms_aload_n dX5_obey_6 rfl ?_
  refine ms_putRa dX5_obey_7 (fo_X5_24 rfl) (by first | rfl | assumption) rfl rfl ?_
  refine ms_aload_n dX5_obey_10 rfl ?_
  refine ms_iload_n dX5_obey_11 rfl ?_
  refine mi_iconst dX5_obey_12 ?_
  refine mi_iand (bI hf) dX5_obey_13 (by cases hf <;> cases ng <;> decide) ?_
  refine mi_if_eq (tgt := 31) dX5_obey_14 (by decide) (fun c_14 => ?_) (fun c_14 => ?_)
  · have hhf : hf = false := by cases hf; rfl; simp [bI] at c_14
    refine ms_aload_n dX5_obey_31 rfl ?_
    refine ms_getR dX5_obey_32 (fo_X5_15 rfl) rfl rfl (show _ = some t by simp [va_up]) ?_
    refine ms_getI (z := 2) dX5_obey_35 (fo_X5_25 rfl) (by first | rfl | assumption) rfl rfl ?_
    refine ms_putI (z := 3) dX5_obey_38 (fo_X5_29 rfl) (by first | rfl | assumption) rfl rfl rfl ?_
    refine ms_aload_n dX5_obey_41 rfl ?_
    refine ms_iload_n dX5_obey_42 rfl ?_
    refine mi_iconst dX5_obey_43 ?_
    refine mi_iand (2 * bI ng) dX5_obey_44 (by cases hf <;> cases ng <;> decide) ?_
    refine mi_if_eq (tgt := 52) dX5_obey_45 (by decide) (fun c_45 => ?_) (fun c_45 => ?_)
    · have hng : ng = false := by cases ng; rfl; simp [bI] at c_45
      refine mi_iconst dX5_obey_52 ?_
      refine ms_putZ (z := 4) (Or.inl rfl) dX5_obey_53 (fo_X5_30 rfl) (by first | rfl | assumption) rfl rfl rfl ?_
      refine ms_retV dX5_obey_56 rfl ⟨_, _, rfl, rfl, rf_up (rf_up hR (by decide +kernel) _) (by decide +kernel) _, fun x hx => by simp [va_up, hx], by simp [va_up], by simp [va_up], fun x hx => by simp [va_up, hx], by simp [va_up, iu, bI, hhf, hng], by simp [va_up, iu, hhf, hng]⟩ (by simp)
    · have hng : ng = true := by cases ng; simp [bI] at c_45; rfl
      refine mi_iconst dX5_obey_48 ?_
      refine ms_goto (tgt := 53) dX5_obey_49 (by decide) ?_
      refine ms_putZ (z := 4) (Or.inr rfl) dX5_obey_53 (fo_X5_30 rfl) (by first | rfl | assumption) rfl rfl rfl ?_
      refine ms_retV dX5_obey_56 rfl ⟨_, _, rfl, rfl, rf_up (rf_up hR (by decide +kernel) _) (by decide +kernel) _, fun x hx => by simp [va_up, hx], by simp [va_up], by simp [va_up], fun x hx => by simp [va_up, hx], by simp [va_up, iu, bI, hhf, hng], by simp [va_up, iu, hhf, hng]⟩ (by simp)
  · have hhf : hf = true := by cases hf; simp [bI] at c_14; rfl
    refine ms_aload_n dX5_obey_17 rfl ?_
    refine ms_getR dX5_obey_18 (fo_X5_15 rfl) rfl rfl (show _ = some t by simp [va_up]) ?_
    refine ms_getI (z := 2) dX5_obey_21 (fo_X5_25 rfl) (by first | rfl | assumption) rfl rfl ?_
    refine mi_iconst dX5_obey_24 ?_
    refine mi_iadd dX5_obey_25 ?_
    refine mi_iconst dX5_obey_26 ?_
    refine mi_idiv dX5_obey_27 ?_
    refine ms_goto (tgt := 38) dX5_obey_28 (by decide) ?_
    refine ms_putI (z := 3) dX5_obey_38 (fo_X5_29 rfl) (by first | rfl | assumption) rfl rfl rfl ?_
    refine ms_aload_n dX5_obey_41 rfl ?_
    refine ms_iload_n dX5_obey_42 rfl ?_
    refine mi_iconst dX5_obey_43 ?_
    refine mi_iand (2 * bI ng) dX5_obey_44 (by cases hf <;> cases ng <;> decide) ?_
    refine mi_if_eq (tgt := 52) dX5_obey_45 (by decide) (fun c_45 => ?_) (fun c_45 => ?_)
    · have hng : ng = false := by cases ng; rfl; simp [bI] at c_45
      refine mi_iconst dX5_obey_52 ?_
      refine ms_putZ (z := 4) (Or.inl rfl) dX5_obey_53 (fo_X5_30 rfl) (by first | rfl | assumption) rfl rfl rfl ?_
      refine ms_retV dX5_obey_56 rfl ⟨_, _, rfl, rfl, rf_up (rf_up hR (by decide +kernel) _) (by decide +kernel) _, fun x hx => by simp [va_up, hx], by simp [va_up], by simp [va_up], fun x hx => by simp [va_up, hx], by simp [va_up, iu, bI, hhf, hng], by simp [va_up, iu, hhf, hng]⟩ (by simp)
    · have hng : ng = true := by cases ng; simp [bI] at c_45; rfl
      refine mi_iconst dX5_obey_48 ?_
      refine ms_goto (tgt := 53) dX5_obey_49 (by decide) ?_
      refine ms_putZ (z := 4) (Or.inr rfl) dX5_obey_53 (fo_X5_30 rfl) (by first | rfl | assumption) rfl rfl rfl ?_
      refine ms_retV dX5_obey_56 rfl ⟨_, _, rfl, rfl, rf_up (rf_up hR (by decide +kernel) _) (by decide +kernel) _, fun x hx => by simp [va_up, hx], by simp [va_up], by simp [va_up], fun x hx => by simp [va_up, hx], by simp [va_up, iu, bI, hhf, hng], by simp [va_up, iu, hhf, hng]⟩ (by simp)

set_option maxHeartbeats 4000000 in
set_option maxRecDepth 100000 in
theorem k_X5_findWedding {S : mx_Sc} {f : Bool} {M : Nat → Int → Int} {L : Nat → Nat → Int64} {Rf : Nat → Nat → Option Nat} (hR : mx_rf Rf) {t : Nat} (ht : t = 29 ∨ t = 37) (hT : sp_tok (sp_tC M t)) {a : Nat} (ha : a = 3 ∨ a = 11 ∨ a = 18) {wr : Nat} (hwr : wr = t + 3 ∨ wr = 23) (hwl : Rf 46 2 = some wr) (hlk : sp_lok (sp_tC M t) (M wr)) {v : Int → Int} (hsc : scR (sp_tC M t) M a v) (hv : sp_vok (sp_tC M t) v) {l : Int} (hl : 0 ≤ l ∧ l < M t 1) : mx_C S mX5_findWedding [.ref 46, .ref a, .int (iI l)] (f, mx_SH, M, L, Rf) 0 0 (fun v9 h9 => h9 = (f, mx_SH, M, L, Rf) ∧ v9 = some (.int (iI ((if M wr l ≠ -1 ∧ v (18 + l) = M wr l then v (24 + l) else -1))))) (fun _ _ => False) := by
  refine mx_C_of (by decide) (by simp [Value.category]) (Nat.le_of_ble_eq_true rfl) rfl ?_
  show mx_E S mX5_findWedding 0 [some (.ref 46), some (.ref a), some (.int (iI l)), none] [] (f, mx_SH, M, L, Rf) 0 0 _ _
  have ht9 : t < 900 := by omega
  have hs_t := tc_s ht
  have hs_t1 := tc_s1 ht
  have hr_t1 := tc_r1 hR ht
  have hs_t2 := tc_s2 ht
  have hr_t2 := tc_r2 hR ht
  have hs_t3 := tc_s3 ht
  have hr_t3 := tc_r3 hR ht
  have hs_t4 := tc_s4 ht
  have hr_t4 := tc_r4 hR ht
  have hs_t5 := tc_s5 ht
  have hr_t5 := tc_r5 hR ht
  have hs_t6 := tc_s6 ht
  have hr_t6 := tc_r6 hR ht
  have hs_t7 := tc_s7 ht
  have hr_t7 := tc_r7 hR ht
  have ha9 : a < 900 := by omega
  have hs_a := sc_s ha
  have hs_a1 := sc_s1 ha
  have hr_a1 := sc_r1 hR ha
  have hs_a2 := sc_s2 ha
  have hr_a2 := sc_r2 hR ha
  have hs_a3 := sc_s3 ha
  have hr_a3 := sc_r3 hR ha
  have hT0 : 1 ≤ M t 0 ∧ M t 0 ≤ 30 := hT.1
  have hT1 : 0 ≤ M t 1 ∧ M t 1 ≤ 6 := hT.2.1
  have hT2 : 1 ≤ M t 2 ∧ M t 2 ≤ 9 := hT.2.2.1
  have hT3 : 0 ≤ M t 3 ∧ M t 3 ≤ 9 := hT.2.2.2.1
  have hT4 : 0 ≤ M t 4 ∧ M t 4 ≤ 9 := hT.2.2.2.2.1
  have hT5 : 1 ≤ M t 5 ∧ M t 5 ≤ 99 := hT.2.2.2.2.2.1
  have hT6 : 0 ≤ M t 6 ∧ M t 6 ≤ 10 := hT.2.2.2.2.2.2.1
  have hTn : ((M t 1).toNat : Int) = M t 1 := Int.toNat_of_nonneg hT1.1
  have hTn6 : ((M t 6).toNat : Int) = M t 6 := Int.toNat_of_nonneg hT6.1
  have hs_w : mx_SH[wr]? = some (0, 6) := by rcases hwr with rfl | rfl; exact tc_s3 ht; rfl
  have hw9 : wr < 900 := by omega
  have h1 := (hsc.2.1 l (by omega) (by omega)).1
  have h2 := (hsc.2.1 l (by omega) (by omega)).2
  have h3 := hv.2 l (by omega) (by omega)
  have h4 := hlk l hl.1 hl.2
  simp only at h4
  refine ms_aload_n dX5_findWedding_0 rfl ?_
  refine ms_getR dX5_findWedding_1 (fo_X5_24 rfl) (by first | rfl | assumption) rfl (by first | assumption ) ?_
  refine ms_iload_n dX5_findWedding_4 rfl ?_
  refine ms_iald dX5_findWedding_5 (by first | rfl | assumption) ?_
  refine mi_iconst dX5_findWedding_6 ?_
  refine mi_icmp_eq (tgt := 29) dX5_findWedding_7 (by decide) (fun c_7 => ?_) (fun c_7 => ?_)
  · refine mi_iconst dX5_findWedding_29 ?_
    refine ms_istore_n dX5_findWedding_30 (by decide) rfl ?_
    dsimp only [List.set, Nat.reduceAdd]
    refine ms_iload_n dX5_findWedding_31 rfl ?_
    refine mi_if_eq (tgt := 44) dX5_findWedding_32 (by decide) (fun c_32 => ?_) (fun c_32 => ?_)
    · refine mi_iconst dX5_findWedding_44 ?_
      refine ms_ret dX5_findWedding_45 rfl ⟨rfl, by first | (exfalso; omega) | rw [if_neg (by omega)] | rw [if_pos (by omega), h2]⟩ (by simp)
    · refine ms_aload_n dX5_findWedding_35 rfl ?_
      refine ms_getR dX5_findWedding_36 (fo_X5_56 rfl) (by first | rfl | assumption) rfl (by first | assumption | exact rf_3_2 hR | exact rf_11_2 hR | exact rf_18_2 hR ) ?_
      refine ms_iload_n dX5_findWedding_39 rfl ?_
      refine ms_iald dX5_findWedding_40 (by first | rfl | assumption) ?_
      refine ms_goto (tgt := 45) dX5_findWedding_41 (by decide) ?_
      refine ms_ret dX5_findWedding_45 rfl ⟨rfl, by first | (exfalso; omega) | rw [if_neg (by omega)] | rw [if_pos (by omega), h2]⟩ (by simp)
  · refine ms_aload_n dX5_findWedding_10 rfl ?_
    refine ms_getR dX5_findWedding_11 (fo_X5_53 rfl) (by first | rfl | assumption) rfl (by first | assumption | exact rf_3_1 hR | exact rf_11_1 hR | exact rf_18_1 hR ) ?_
    refine ms_iload_n dX5_findWedding_14 rfl ?_
    refine ms_iald dX5_findWedding_15 (by first | rfl | assumption) ?_
    refine ms_aload_n dX5_findWedding_16 rfl ?_
    refine ms_getR dX5_findWedding_17 (fo_X5_24 rfl) (by first | rfl | assumption) rfl (by first | assumption ) ?_
    refine ms_iload_n dX5_findWedding_20 rfl ?_
    refine ms_iald dX5_findWedding_21 (by first | rfl | assumption) ?_
    refine mi_icmp_ne (tgt := 29) dX5_findWedding_22 (by decide) (fun c_22 => ?_) (fun c_22 => ?_)
    · refine mi_iconst dX5_findWedding_29 ?_
      refine ms_istore_n dX5_findWedding_30 (by decide) rfl ?_
      dsimp only [List.set, Nat.reduceAdd]
      refine ms_iload_n dX5_findWedding_31 rfl ?_
      refine mi_if_eq (tgt := 44) dX5_findWedding_32 (by decide) (fun c_32 => ?_) (fun c_32 => ?_)
      · refine mi_iconst dX5_findWedding_44 ?_
        refine ms_ret dX5_findWedding_45 rfl ⟨rfl, by first | (exfalso; omega) | rw [if_neg (by omega)] | rw [if_pos (by omega), h2]⟩ (by simp)
      · refine ms_aload_n dX5_findWedding_35 rfl ?_
        refine ms_getR dX5_findWedding_36 (fo_X5_56 rfl) (by first | rfl | assumption) rfl (by first | assumption | exact rf_3_2 hR | exact rf_11_2 hR | exact rf_18_2 hR ) ?_
        refine ms_iload_n dX5_findWedding_39 rfl ?_
        refine ms_iald dX5_findWedding_40 (by first | rfl | assumption) ?_
        refine ms_goto (tgt := 45) dX5_findWedding_41 (by decide) ?_
        refine ms_ret dX5_findWedding_45 rfl ⟨rfl, by first | (exfalso; omega) | rw [if_neg (by omega)] | rw [if_pos (by omega), h2]⟩ (by simp)
    · refine mi_iconst dX5_findWedding_25 ?_
      refine ms_goto (tgt := 30) dX5_findWedding_26 (by decide) ?_
      refine ms_istore_n dX5_findWedding_30 (by decide) rfl ?_
      dsimp only [List.set, Nat.reduceAdd]
      refine ms_iload_n dX5_findWedding_31 rfl ?_
      refine mi_if_eq (tgt := 44) dX5_findWedding_32 (by decide) (fun c_32 => ?_) (fun c_32 => ?_)
      · refine mi_iconst dX5_findWedding_44 ?_
        refine ms_ret dX5_findWedding_45 rfl ⟨rfl, by first | (exfalso; omega) | rw [if_neg (by omega)] | rw [if_pos (by omega), h2]⟩ (by simp)
      · refine ms_aload_n dX5_findWedding_35 rfl ?_
        refine ms_getR dX5_findWedding_36 (fo_X5_56 rfl) (by first | rfl | assumption) rfl (by first | assumption | exact rf_3_2 hR | exact rf_11_2 hR | exact rf_18_2 hR ) ?_
        refine ms_iload_n dX5_findWedding_39 rfl ?_
        refine ms_iald dX5_findWedding_40 (by first | rfl | assumption) ?_
        refine ms_goto (tgt := 45) dX5_findWedding_41 (by decide) ?_
        refine ms_ret dX5_findWedding_45 rfl ⟨rfl, by first | (exfalso; omega) | rw [if_neg (by omega)] | rw [if_pos (by omega), h2]⟩ (by simp)

/-- the scene at a is as the one at b was -/
def scE (M N : Nat → Int → Int) (b a : Nat) : Prop := (∀ i, 0 ≤ i → i < 18 → N (a + 1) i = M (b + 1) i) ∧ (∀ l, 0 ≤ l → l < 6 → N (a + 2) l = M (b + 2) l ∧ N (a + 3) l = M (b + 3) l) ∧ N a 3 = M b 3 ∧ N a 4 = M b 4 ∧ N a 5 = M b 5
theorem scE.sc {t : sp_T} (hT : sp_tok t) {M N : Nat → Int → Int} {b a : Nat} (h : scE M N b a) {v : Int → Int} (hs : scR t M b v) : scR t N a v := by
  have h6 := hT.2.1
  refine ⟨fun i i0 i1 => ?_, fun l l0 l1 => ?_, ?_, fun l l0 l1 => ?_, ?_⟩
  · rw [h.1 i i0 (by omega)]
    exact hs.1 i i0 i1
  · rw [(h.2.1 l l0 l1).1, (h.2.1 l l0 l1).2]
    exact hs.2.1 l l0 l1
  · rw [h.2.2.2.1]
    exact hs.2.2.1
  · rw [h.2.2.2.1]
    exact hs.2.2.2.1 l l0 l1
  · rw [h.2.2.2.2]
    exact hs.2.2.2.2
set_option maxHeartbeats 4000000 in
set_option maxRecDepth 100000 in
theorem k_X2_take {S : mx_Sc} {f : Bool} {M : Nat → Int → Int} {L : Nat → Nat → Int64} {Rf : Nat → Nat → Option Nat} (hR : mx_rf Rf) {a : Nat} (ha : a = 3 ∨ a = 11 ∨ a = 18) {b : Nat} (hb : b = 3 ∨ b = 11 ∨ b = 18) (hab : a ≠ b) : mx_C S mX2_take [.ref a, .ref b] (f, mx_SH, M, L, Rf) 0 0 (fun v9 h9 => ∃ N, h9 = (f, mx_SH, N, L, Rf) ∧ v9 = none ∧ (∀ x, x ≠ a → x ≠ a + 1 → x ≠ a + 2 → x ≠ a + 3 → N x = M x) ∧ scE M N b a ∧ (∀ x, x ≠ 3 → x ≠ 4 → x ≠ 5 → N a x = M a x)) (fun _ _ => False) := by
  refine mx_C_of (by decide) (by simp [Value.category]) (Nat.le_of_ble_eq_true rfl) rfl ?_
  show mx_E S mX2_take 0 [some (.ref a), some (.ref b)] [] (f, mx_SH, M, L, Rf) 0 0 _ _
  have ha9 : a < 900 := by omega
  have hs_a := sc_s ha
  have hs_a1 := sc_s1 ha
  have hr_a1 := sc_r1 hR ha
  have hs_a2 := sc_s2 ha
  have hr_a2 := sc_r2 hR ha
  have hs_a3 := sc_s3 ha
  have hr_a3 := sc_r3 hR ha
  have hb9 : b < 900 := by omega
  have hs_b := sc_s hb
  have hs_b1 := sc_s1 hb
  have hr_b1 := sc_r1 hR hb
  have hs_b2 := sc_s2 hb
  have hr_b2 := sc_r2 hR hb
  have hs_b3 := sc_s3 hb
  have hr_b3 := sc_r3 hR hb
  have n1 : a ≠ b := hab
  have n2 : b ≠ a + 1 := by omega
  have n3 : b ≠ a + 2 := by omega
  have n4 : b ≠ a + 3 := by omega
  have n5 : b ≠ a := by omega
  have m1 : b + 2 ≠ a + 1 := by omega
  have m2 : b + 3 ≠ a + 1 := by omega
  have m3 : b + 3 ≠ a + 2 := by omega
  refine ms_aload_n dX2_take_0 rfl ?_
  refine ms_getR dX2_take_1 (fo_X2_9 rfl) (by first | rfl | assumption) rfl (by first | assumption | exact rf_3_0 hR | exact rf_11_0 hR | exact rf_18_0 hR ) ?_
  refine mi_iconst dX2_take_4 ?_
  refine ms_aload_n dX2_take_5 rfl ?_
  refine ms_getR dX2_take_6 (fo_X2_9 rfl) (by first | rfl | assumption) rfl (by first | assumption | exact rf_3_0 hR | exact rf_11_0 hR | exact rf_18_0 hR ) ?_
  refine mi_iconst dX2_take_9 ?_
  refine mi_bipush dX2_take_10 (by decide) ?_
  refine ms_acopy dX2_take_12 ac_X2_take (by first | rfl | assumption) (by first | rfl | assumption) (Nat.le_of_ble_eq_true rfl) ?_
  refine ms_aload_n dX2_take_15 rfl ?_
  refine ms_getR dX2_take_16 (fo_X2_15 rfl) (by first | rfl | assumption) rfl (by first | assumption | exact rf_3_1 hR | exact rf_11_1 hR | exact rf_18_1 hR ) ?_
  refine mi_iconst dX2_take_19 ?_
  refine ms_aload_n dX2_take_20 rfl ?_
  refine ms_getR dX2_take_21 (fo_X2_15 rfl) (by first | rfl | assumption) rfl (by first | assumption | exact rf_3_1 hR | exact rf_11_1 hR | exact rf_18_1 hR ) ?_
  refine mi_iconst dX2_take_24 ?_
  refine mi_bipush dX2_take_25 (by decide) ?_
  refine ms_acopy dX2_take_27 ac_X2_take (by first | rfl | assumption) (by first | rfl | assumption) (Nat.le_of_ble_eq_true rfl) ?_
  refine ms_aload_n dX2_take_30 rfl ?_
  refine ms_getR dX2_take_31 (fo_X2_18 rfl) (by first | rfl | assumption) rfl (by first | assumption | exact rf_3_2 hR | exact rf_11_2 hR | exact rf_18_2 hR ) ?_
  refine mi_iconst dX2_take_34 ?_
  refine ms_aload_n dX2_take_35 rfl ?_
  refine ms_getR dX2_take_36 (fo_X2_18 rfl) (by first | rfl | assumption) rfl (by first | assumption | exact rf_3_2 hR | exact rf_11_2 hR | exact rf_18_2 hR ) ?_
  refine mi_iconst dX2_take_39 ?_
  refine mi_bipush dX2_take_40 (by decide) ?_
  refine ms_acopy dX2_take_42 ac_X2_take (by first | rfl | assumption) (by first | rfl | assumption) (Nat.le_of_ble_eq_true rfl) ?_
  refine ms_aload_n dX2_take_45 rfl ?_
  refine ms_aload_n dX2_take_46 rfl ?_
  refine ms_getI (z := 3) dX2_take_47 (fo_X2_30 rfl) (by first | rfl | assumption) rfl rfl ?_
  refine ms_putI (z := 3) dX2_take_50 (fo_X2_30 rfl) (by first | rfl | assumption) rfl rfl rfl ?_
  refine ms_aload_n dX2_take_53 rfl ?_
  refine ms_aload_n dX2_take_54 rfl ?_
  refine ms_getI (z := 4) dX2_take_55 (fo_X2_34 rfl) (by first | rfl | assumption) rfl rfl ?_
  refine ms_putI (z := 4) dX2_take_58 (fo_X2_34 rfl) (by first | rfl | assumption) rfl rfl rfl ?_
  refine ms_aload_n dX2_take_61 rfl ?_
  refine ms_aload_n dX2_take_62 rfl ?_
  refine ms_getI (z := 5) dX2_take_63 (fo_X2_37 rfl) (by first | rfl | assumption) rfl rfl ?_
  refine ms_putI (z := 5) dX2_take_66 (fo_X2_37 rfl) (by first | rfl | assumption) rfl rfl rfl ?_
  refine ms_retV dX2_take_69 rfl ⟨_, rfl, rfl, fun x x1 x2 x3 x4 => by simp [va_up, x1, x2, x3, x4], ⟨fun i i0 i1 => ?_, fun l l0 l1 => ⟨?_, ?_⟩, ?_, ?_, ?_⟩, fun x x1 x2 x3 => by simp [va_up, iu, x1, x2, x3]⟩ (by simp)
  · simp [va_up, ic, i0, i1]
  · simp [va_up, ic, l0, l1, m1]
  · simp [va_up, ic, l0, l1, m2, m3]
  · simp [va_up, iu, n2, n3, n4, n5]
  · simp [va_up, iu, n2, n3, n4, n5]
  · simp [va_up, iu, n2, n3, n4, n5]

/-- a drop -/
def sp_give (v : Int → Int) (l i j : Int) : Int → Int := iu (iu v (3 * l + i) (v (3 * l + i) - 1)) (3 * l + j) (iu v (3 * l + i) (v (3 * l + i) - 1) (3 * l + j) + 1)
set_option maxHeartbeats 4000000 in
set_option maxRecDepth 100000 in
theorem k_X2_pour {S : mx_Sc} {f : Bool} {M : Nat → Int → Int} {L : Nat → Nat → Int64} {Rf : Nat → Nat → Option Nat} (hR : mx_rf Rf) {a : Nat} (ha : a = 3 ∨ a = 11 ∨ a = 18) {t : sp_T} (hT : sp_tok t) {v : Int → Int} (hsc : scR t M a v) (hv : sp_vok t v) {l i j : Int} (hl : 0 ≤ l ∧ l < t.1 1) (hi : 0 ≤ i ∧ i < 3) (hj : 0 ≤ j ∧ j < 3) : mx_C S mX2_pour [.ref a, .int (iI l), .int (iI i), .int (iI j)] (f, mx_SH, M, L, Rf) 0 0 (fun v9 h9 => ∃ N, h9 = (f, mx_SH, N, L, Rf) ∧ v9 = some (.int (iI (bI (decide (v (3 * l + i) ≠ 0))))) ∧ (∀ x, x ≠ a + 1 → N x = M x) ∧ scR t N a (if v (3 * l + i) ≠ 0 then sp_give v l i j else v) ∧ (∀ k, 3 * t.1 1 ≤ k → N (a + 1) k = M (a + 1) k) ∧ (v (3 * l + i) = 0 → N = M)) (fun _ _ => False) := by
  refine mx_C_of (by decide) (by simp [Value.category]) (Nat.le_of_ble_eq_true rfl) rfl ?_
  show mx_E S mX2_pour 0 [some (.ref a), some (.int (iI l)), some (.int (iI i)), some (.int (iI j))] [] (f, mx_SH, M, L, Rf) 0 0 _ _
  have ha9 : a < 900 := by omega
  have hs_a := sc_s ha
  have hs_a1 := sc_s1 ha
  have hr_a1 := sc_r1 hR ha
  have hs_a2 := sc_s2 ha
  have hr_a2 := sc_r2 hR ha
  have hs_a3 := sc_s3 ha
  have hr_a3 := sc_r3 hR ha
  have h6 := hT.2.1
  have e1 : M (a + 1) (l * 3 + i) = v (3 * l + i) := by rw [hsc.1 _ (by omega) (by omega), show l * 3 + i = 3 * l + i by omega]
  have e2 : M (a + 1) (l * 3 + j) = v (3 * l + j) := by rw [hsc.1 _ (by omega) (by omega), show l * 3 + j = 3 * l + j by omega]
  have hb := scR.b hT hsc hv hl hi.1 hi.2
  refine ms_aload_n dX2_pour_0 rfl ?_
  refine ms_getR dX2_pour_1 (fo_X2_9 rfl) (by first | rfl | assumption) rfl (by first | assumption | exact rf_3_0 hR | exact rf_11_0 hR | exact rf_18_0 hR ) ?_
  refine ms_iload_n dX2_pour_4 rfl ?_
  refine mi_iconst dX2_pour_5 ?_
  refine mi_imul dX2_pour_6 ?_
  refine ms_iload_n dX2_pour_7 rfl ?_
  refine mi_iadd dX2_pour_8 ?_
  refine ms_iald dX2_pour_9 (by first | rfl | assumption) ?_
  refine mi_if_ne (tgt := 15) dX2_pour_10 (by decide) (fun c_10 => ?_) (fun c_10 => ?_)
  · refine ms_aload_n dX2_pour_15 rfl ?_
    refine ms_getR dX2_pour_16 (fo_X2_9 rfl) (by first | rfl | assumption) rfl (by first | assumption | exact rf_3_0 hR | exact rf_11_0 hR | exact rf_18_0 hR ) ?_
    refine ms_iload_n dX2_pour_19 rfl ?_
    refine mi_iconst dX2_pour_20 ?_
    refine mi_imul dX2_pour_21 ?_
    refine ms_iload_n dX2_pour_22 rfl ?_
    refine mi_iadd dX2_pour_23 ?_
    refine ms_dup2 dX2_pour_24 rfl rfl ?_
    refine ms_iald dX2_pour_25 (by first | rfl | assumption) ?_
    refine mi_iconst dX2_pour_26 ?_
    refine mi_isub dX2_pour_27 ?_
    refine ms_iast dX2_pour_28 (by first | rfl | assumption) ?_
    refine ms_aload_n dX2_pour_29 rfl ?_
    refine ms_getR dX2_pour_30 (fo_X2_9 rfl) (by first | rfl | assumption) rfl (by first | assumption | exact rf_3_0 hR | exact rf_11_0 hR | exact rf_18_0 hR ) ?_
    refine ms_iload_n dX2_pour_33 rfl ?_
    refine mi_iconst dX2_pour_34 ?_
    refine mi_imul dX2_pour_35 ?_
    refine ms_iload_n dX2_pour_36 rfl ?_
    refine mi_iadd dX2_pour_37 ?_
    refine ms_dup2 dX2_pour_38 rfl rfl ?_
    refine ms_iald dX2_pour_39 (by first | rfl | assumption) ?_
    refine mi_iconst dX2_pour_40 ?_
    refine mi_iadd dX2_pour_41 ?_
    refine ms_iast dX2_pour_42 (by first | rfl | assumption) ?_
    refine mi_iconst dX2_pour_43 ?_
    refine ms_retZ dX2_pour_44 rfl (by first | exact Or.inl rfl | exact Or.inr rfl) ⟨_, rfl, by rw [e1] at c_10; rw [decide_eq_true (by omega)]; rfl, fun x hx => by simp [va_up, hx], ?_, fun k hk => by simp only [up_s]; rw [iu_n _ _ (by omega), iu_n _ _ (by omega)], fun z9 => absurd z9 (by rw [e1] at c_10; exact c_10)⟩ (by simp)
    rw [e1] at c_10
    rw [if_pos (by omega)]
    refine ⟨fun k k0 k1 => ?_, fun x x0 x1 => ?_, ?_, fun x x0 x1 => ?_, ?_⟩
    · have e3 := hsc.1 k k0 k1
      simp only [up_s, sp_give, iu]
      rw [show 3 * l + i = l * 3 + i by omega, show 3 * l + j = l * 3 + j by omega] at *
      repeat' split
      all_goals omega
    · have e3 := hsc.2.1 x x0 x1
      rw [up_n _ _ (by omega), up_n _ _ (by omega), up_n _ _ (by omega), up_n _ _ (by omega)]
      unfold sp_give
      rw [iu_n _ _ (by omega), iu_n _ _ (by omega), iu_n _ _ (by omega), iu_n _ _ (by omega)]
      exact e3
    · rw [up_n _ _ (by omega), up_n _ _ (by omega)]
      exact hsc.2.2.1
    · rw [up_n _ _ (by omega), up_n _ _ (by omega), hsc.2.2.2.1 x x0 x1]
      unfold sp_give
      rw [sp_out_iu (by omega), sp_out_iu (by omega)]
    · rw [up_n _ _ (by omega), up_n _ _ (by omega), hsc.2.2.2.2]
      have e4 : ∀ K : Nat, (K : Int) ≤ 6 → itN (fun x c => c + bI (sp_out (sp_give v l i j) x)) K 0 = itN (fun x c => c + bI (sp_out v x)) K 0 := by
        intro K
        induction K with
        | zero => intro _; rfl
        | succ K ih =>
          intro hK
          simp only [itN]
          rw [ih (by omega)]
          unfold sp_give
          rw [sp_out_iu (by omega), sp_out_iu (by omega)]
      unfold sp_cnt
      rw [e4 _ (by omega)]
  · refine mi_iconst dX2_pour_13 ?_
    refine ms_retZ dX2_pour_14 rfl (by first | exact Or.inl rfl | exact Or.inr rfl) ⟨M, rfl, by rw [e1] at c_10; rw [decide_eq_false (by omega)]; rfl, fun _ _ => rfl, by rw [e1] at c_10; rw [if_neg (by omega)]; exact hsc, fun _ _ => rfl, fun _ => rfl⟩ (by simp)

