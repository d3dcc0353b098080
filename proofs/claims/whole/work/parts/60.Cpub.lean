set_option maxHeartbeats 4000000 in
set_option maxRecDepth 100000 in
theorem k_X6_fault {S : mx_Sc} {f : Bool} {M : Nat → Int → Int} {L : Nat → Nat → Int64} {Rf : Nat → Nat → Option Nat} (hR : mx_rf Rf) : mx_C S mX6_fault [.ref 0] (f, mx_SH, M, L, Rf) 0 0 (fun v9 h9 => h9 = (f, mx_SH, M, L, Rf) ∧ v9 = some (.int (iI (M 0 13)))) (fun _ _ => False) := by
  refine mx_C_of (by decide) (by simp [Value.category]) (Nat.le_of_ble_eq_true rfl) rfl ?_
  show mx_E S mX6_fault 0 [some (.ref 0)] [] (f, mx_SH, M, L, Rf) 0 0 _ _
  refine ms_aload_n dX6_fault_0 rfl ?_
  refine ms_getI (z := 13) dX6_fault_1 (fo_X6_57 rfl) (by first | rfl | assumption) rfl rfl ?_
  refine ms_ret dX6_fault_4 rfl ⟨rfl, rfl⟩ (by simp)

set_option maxHeartbeats 4000000 in
set_option maxRecDepth 100000 in
theorem k_X6_far {S : mx_Sc} {f : Bool} {M : Nat → Int → Int} {L : Nat → Nat → Int64} {Rf : Nat → Nat → Option Nat} (hR : mx_rf Rf) {t : Nat} (ht : t = 29 ∨ t = 37) (hT : sp_tok (sp_tC M t)) (hto : Rf 0 10 = some t) {v : Int → Int} (hsc : scR (sp_tC M t) M 3 v) (hv : sp_vok (sp_tC M t) v) {n : Int} (hn : 0 ≤ n ∧ n ≤ 99) (hnn : M 3 3 = n) {l : Int} (hl32 : -2147483648 ≤ l ∧ l ≤ 2147483647) {o : Int} (ho32 : -2147483648 ≤ o ∧ o ≤ 2147483647) (hc : (0 ≤ l ∧ l < M t 1) ∧ (0 ≤ o ∧ o < M t 1)) : mx_C S mX6_far [.ref 0, .int (iI l), .int (iI o)] (f, mx_SH, M, L, Rf) 0 0 (fun v9 h9 => h9 = (f, mx_SH, M, L, Rf) ∧ v9 = some (.int (iI (sp_far v l o)))) (fun _ _ => False) := by
  refine mx_C_of (by decide) (by simp [Value.category]) (Nat.le_of_ble_eq_true rfl) rfl ?_
  show mx_E S mX6_far 0 [some (.ref 0), some (.int (iI l)), some (.int (iI o))] [] (f, mx_SH, M, L, Rf) 0 0 _ _
  have ht9 : t < 900 := by omega
  have hs_t := tc_s ht
  have hs_t1 := tc_s1 ht
  have hr_t1 := tc_r1 hR ht
  have hs_t2 := tc_s2 ht
  have hr_t2 := tc_r2 hR ht
  have hs_t3 := tc_s3 ht
  have hr_t3 := tc_r3 hR ht
  have hs_t4 := tc_s4 ht
  have hr_t4 := tc_r4 hR ht
  have hs_t5 := tc_s5 ht
  have hr_t5 := tc_r5 hR ht
  have hs_t6 := tc_s6 ht
  have hr_t6 := tc_r6 hR ht
  have hs_t7 := tc_s7 ht
  have hr_t7 := tc_r7 hR ht
  have hT0 : 1 ≤ M t 0 ∧ M t 0 ≤ 30 := hT.1
  have hT1 : 0 ≤ M t 1 ∧ M t 1 ≤ 6 := hT.2.1
  have hT2 : 1 ≤ M t 2 ∧ M t 2 ≤ 9 := hT.2.2.1
  have hT3 : 0 ≤ M t 3 ∧ M t 3 ≤ 9 := hT.2.2.2.1
  have hT4 : 0 ≤ M t 4 ∧ M t 4 ≤ 9 := hT.2.2.2.2.1
  have hT5 : 1 ≤ M t 5 ∧ M t 5 ≤ 99 := hT.2.2.2.2.2.1
  have hT6 : 0 ≤ M t 6 ∧ M t 6 ≤ 10 := hT.2.2.2.2.2.2.1
  have hTn : ((M t 1).toNat : Int) = M t 1 := Int.toNat_of_nonneg hT1.1
  have hTn6 : ((M t 6).toNat : Int) = M t 6 := Int.toNat_of_nonneg hT6.1
  refine ms_aload_n dX6_far_0 rfl ?_
  refine ms_iload_n dX6_far_1 rfl ?_
  refine ms_callV1 (ci := 6) (r := (RX6, TX6, 15)) dX6_far_2 cv_X6_far_X6_requireLamp (k_X6_requireLamp hR ht hT hto hl32 hc.1) rfl rfl (by first | rfl | assumption) (Nat.le_of_ble_eq_true rfl) rfl (fun _ _ z => z.elim) (fun v9 h9 hp9 => ?_)
  obtain ⟨rfl, rfl⟩ := hp9
  refine ms_aload_n dX6_far_5 rfl ?_
  refine ms_iload_n dX6_far_6 rfl ?_
  refine ms_callV1 (ci := 6) (r := (RX6, TX6, 15)) dX6_far_7 cv_X6_far_X6_requireLamp (k_X6_requireLamp hR ht hT hto ho32 hc.2) rfl rfl (by first | rfl | assumption) (Nat.le_of_ble_eq_true rfl) rfl (fun _ _ z => z.elim) (fun v9 h9 hp9 => ?_)
  obtain ⟨rfl, rfl⟩ := hp9
  refine ms_aload_n dX6_far_10 rfl ?_
  refine ms_getR dX6_far_11 (fo_X6_16 rfl) (by first | rfl | assumption) rfl (by first | assumption | exact rf_0_2 hR ) ?_
  refine ms_getR dX6_far_14 (fo_X6_130 rfl) (by first | rfl | assumption) rfl (by first | assumption | exact rf_2_0 hR | exact rf_10_0 hR ) ?_
  refine ms_iload_n dX6_far_17 rfl ?_
  refine ms_iload_n dX6_far_18 rfl ?_
  refine ms_callV2 (ci := 2) (r := (RX2, TX2, 6)) dX6_far_19 cv_X6_far_X2_apart (k_X2_apart hR (a := 3) (Or.inl rfl) (l := l) (o := o) (by omega) (by omega) (fun i8 i0 i1 => ⟨scR.b hT hsc hv (x := l) hc.1 i0 i1, scR.b hT hsc hv (x := o) hc.2 i0 i1⟩)) rfl rfl (by first | rfl | assumption) (Nat.le_of_ble_eq_true rfl) rfl (fun _ _ z => z.elim) (fun v9 h9 hp9 => ?_)
  obtain ⟨rfl, rfl⟩ := hp9
  rw [hsc.far hc.1 hc.2]
  refine ms_ret dX6_far_22 rfl ⟨rfl, rfl⟩ (by simp)

set_option maxHeartbeats 4000000 in
set_option maxRecDepth 100000 in
theorem k_X6_far_x {S : mx_Sc} {f : Bool} {M : Nat → Int → Int} {L : Nat → Nat → Int64} {Rf : Nat → Nat → Option Nat} (hR : mx_rf Rf) {t : Nat} (ht : t = 29 ∨ t = 37) (hT : sp_tok (sp_tC M t)) (hto : Rf 0 10 = some t) {l : Int} (hl32 : -2147483648 ≤ l ∧ l ≤ 2147483647) {o : Int} (ho32 : -2147483648 ≤ o ∧ o ≤ 2147483647) (hc : ¬ ((0 ≤ l ∧ l < M t 1) ∧ (0 ≤ o ∧ o < M t 1))) : mx_C S mX6_far [.ref 0, .int (iI l), .int (iI o)] (f, mx_SH, M, L, Rf) 1 6 (fun _ _ => False) (fun e9 h9 => e9 = "java/util/NoSuchElementException" ∧ h9 = (false, mx_SH, M, L, Rf)) := by
  refine mx_C_of (by decide) (by simp [Value.category]) (Nat.le_of_ble_eq_true rfl) rfl ?_
  show mx_E S mX6_far 0 [some (.ref 0), some (.int (iI l)), some (.int (iI o))] [] (f, mx_SH, M, L, Rf) 1 6 _ _
  have ht9 : t < 900 := by omega
  have hs_t := tc_s ht
  have hs_t1 := tc_s1 ht
  have hr_t1 := tc_r1 hR ht
  have hs_t2 := tc_s2 ht
  have hr_t2 := tc_r2 hR ht
  have hs_t3 := tc_s3 ht
  have hr_t3 := tc_r3 hR ht
  have hs_t4 := tc_s4 ht
  have hr_t4 := tc_r4 hR ht
  have hs_t5 := tc_s5 ht
  have hr_t5 := tc_r5 hR ht
  have hs_t6 := tc_s6 ht
  have hr_t6 := tc_r6 hR ht
  have hs_t7 := tc_s7 ht
  have hr_t7 := tc_r7 hR ht
  have hT0 : 1 ≤ M t 0 ∧ M t 0 ≤ 30 := hT.1
  have hT1 : 0 ≤ M t 1 ∧ M t 1 ≤ 6 := hT.2.1
  have hT2 : 1 ≤ M t 2 ∧ M t 2 ≤ 9 := hT.2.2.1
  have hT3 : 0 ≤ M t 3 ∧ M t 3 ≤ 9 := hT.2.2.2.1
  have hT4 : 0 ≤ M t 4 ∧ M t 4 ≤ 9 := hT.2.2.2.2.1
  have hT5 : 1 ≤ M t 5 ∧ M t 5 ≤ 99 := hT.2.2.2.2.2.1
  have hT6 : 0 ≤ M t 6 ∧ M t 6 ≤ 10 := hT.2.2.2.2.2.2.1
  have hTn : ((M t 1).toNat : Int) = M t 1 := Int.toNat_of_nonneg hT1.1
  have hTn6 : ((M t 6).toNat : Int) = M t 6 := Int.toNat_of_nonneg hT6.1
  by_cases h0 : 0 ≤ l ∧ l < M t 1
  rotate_left 1
  · refine ms_aload_n dX6_far_0 rfl ?_
    refine ms_iload_n dX6_far_1 rfl ?_
    refine ms_callVx1 (bc := 0) (bs := 0) (ci := 6) (r := (RX6, TX6, 15)) dX6_far_2 cv_X6_far_X6_requireLamp (k_X6_requireLamp_x hR ht hT hto hl32 h0) rfl rfl rfl rfl (by first | rfl | assumption) (Nat.le_of_ble_eq_true rfl) rfl (fun _ _ z => by first | exact z.elim | exact z) (fun v9 h9 hp9 => ?_)
    skip
    exact hp9.elim
  by_cases h1 : 0 ≤ o ∧ o < M t 1
  rotate_left 1
  · refine ms_aload_n dX6_far_0 rfl ?_
    refine ms_iload_n dX6_far_1 rfl ?_
    refine ms_callV1 (ci := 6) (r := (RX6, TX6, 15)) dX6_far_2 cv_X6_far_X6_requireLamp (k_X6_requireLamp hR ht hT hto hl32 h0) rfl rfl (by first | rfl | assumption) (Nat.le_of_ble_eq_true rfl) rfl (fun _ _ z => by first | exact z.elim | exact z) (fun v9 h9 hp9 => ?_)
    obtain ⟨rfl, rfl⟩ := hp9
    refine ms_aload_n dX6_far_5 rfl ?_
    refine ms_iload_n dX6_far_6 rfl ?_
    refine ms_callVx1 (bc := 0) (bs := 0) (ci := 6) (r := (RX6, TX6, 15)) dX6_far_7 cv_X6_far_X6_requireLamp (k_X6_requireLamp_x hR ht hT hto ho32 h1) rfl rfl rfl rfl (by first | rfl | assumption) (Nat.le_of_ble_eq_true rfl) rfl (fun _ _ z => by first | exact z.elim | exact z) (fun v9 h9 hp9 => ?_)
    skip
    exact hp9.elim
  exact absurd (by exact ⟨h0, h1⟩) hc

set_option maxHeartbeats 4000000 in
set_option maxRecDepth 100000 in
theorem k_X6_book {S : mx_Sc} {f : Bool} {M : Nat → Int → Int} {L : Nat → Nat → Int64} {Rf : Nat → Nat → Option Nat} (hR : mx_rf Rf) {t : Nat} (ht : t = 29 ∨ t = 37) (hT : sp_tok (sp_tC M t)) (hto : Rf 0 10 = some t) {n : Int} (hn : 0 ≤ n ∧ n ≤ 99) (hnn : M 3 3 = n) {k : Int} (hk32 : -2147483648 ≤ k ∧ k ≤ 2147483647) {l : Int} (hl32 : -2147483648 ≤ l ∧ l ≤ 2147483647) {o : Int} (ho32 : -2147483648 ≤ o ∧ o ≤ 2147483647) (hc : (0 ≤ l ∧ l < M t 1) ∧ (0 ≤ o ∧ o < 3) ∧ (0 ≤ k ∧ k ≤ n)) : mx_C S mX6_book [.ref 0, .int (iI k), .int (iI l), .int (iI o)] (f, mx_SH, M, L, Rf) 0 0 (fun v9 h9 => h9 = (f, mx_SH, M, L, Rf) ∧ v9 = some (.int (iI (M 8 (k * 18 + l * 3 + o))))) (fun _ _ => False) := by
  refine mx_C_of (by decide) (by simp [Value.category]) (Nat.le_of_ble_eq_true rfl) rfl ?_
  show mx_E S mX6_book 0 [some (.ref 0), some (.int (iI k)), some (.int (iI l)), some (.int (iI o))] [] (f, mx_SH, M, L, Rf) 0 0 _ _
  have ht9 : t < 900 := by omega
  have hs_t := tc_s ht
  have hs_t1 := tc_s1 ht
  have hr_t1 := tc_r1 hR ht
  have hs_t2 := tc_s2 ht
  have hr_t2 := tc_r2 hR ht
  have hs_t3 := tc_s3 ht
  have hr_t3 := tc_r3 hR ht
  have hs_t4 := tc_s4 ht
  have hr_t4 := tc_r4 hR ht
  have hs_t5 := tc_s5 ht
  have hr_t5 := tc_r5 hR ht
  have hs_t6 := tc_s6 ht
  have hr_t6 := tc_r6 hR ht
  have hs_t7 := tc_s7 ht
  have hr_t7 := tc_r7 hR ht
  have hT0 : 1 ≤ M t 0 ∧ M t 0 ≤ 30 := hT.1
  have hT1 : 0 ≤ M t 1 ∧ M t 1 ≤ 6 := hT.2.1
  have hT2 : 1 ≤ M t 2 ∧ M t 2 ≤ 9 := hT.2.2.1
  have hT3 : 0 ≤ M t 3 ∧ M t 3 ≤ 9 := hT.2.2.2.1
  have hT4 : 0 ≤ M t 4 ∧ M t 4 ≤ 9 := hT.2.2.2.2.1
  have hT5 : 1 ≤ M t 5 ∧ M t 5 ≤ 99 := hT.2.2.2.2.2.1
  have hT6 : 0 ≤ M t 6 ∧ M t 6 ≤ 10 := hT.2.2.2.2.2.2.1
  have hTn : ((M t 1).toNat : Int) = M t 1 := Int.toNat_of_nonneg hT1.1
  have hTn6 : ((M t 6).toNat : Int) = M t 6 := Int.toNat_of_nonneg hT6.1
  refine ms_aload_n dX6_book_0 rfl ?_
  refine ms_iload_n dX6_book_1 rfl ?_
  refine ms_callV1 (ci := 6) (r := (RX6, TX6, 15)) dX6_book_2 cv_X6_book_X6_requireLamp (k_X6_requireLamp hR ht hT hto hl32 hc.1) rfl rfl (by first | rfl | assumption) (Nat.le_of_ble_eq_true rfl) rfl (fun _ _ z => z.elim) (fun v9 h9 hp9 => ?_)
  obtain ⟨rfl, rfl⟩ := hp9
  refine ms_iload_n dX6_book_5 rfl ?_
  refine ms_callS1 dX6_book_6 cv_X6_book_X6_requireOil (k_X6_requireOil hR ho32 hc.2.1) (Nat.le_of_ble_eq_true rfl) rfl (fun _ _ z => z.elim) (fun v9 h9 hp9 => ?_)
  obtain ⟨rfl, rfl⟩ := hp9
  refine ms_iload_n dX6_book_9 rfl ?_
  refine mi_if_lt (tgt := 27) dX6_book_10 (by decide) (fun c_10 => ?_) (fun c_10 => ?_)
  · exact absurd c_10 (by omega)
  · refine ms_iload_n dX6_book_13 rfl ?_
    refine ms_aload_n dX6_book_14 rfl ?_
    refine ms_getR dX6_book_15 (fo_X6_16 rfl) (by first | rfl | assumption) rfl (by first | assumption | exact rf_0_2 hR ) ?_
    refine ms_getR dX6_book_18 (fo_X6_130 rfl) (by first | rfl | assumption) rfl (by first | assumption | exact rf_2_0 hR | exact rf_10_0 hR ) ?_
    refine ms_getI (z := 3) dX6_book_21 (fo_X6_133 rfl) (by first | rfl | assumption) rfl rfl ?_
    refine mi_icmp_le (tgt := 35) dX6_book_24 (by decide) (fun c_24 => ?_) (fun c_24 => ?_)
    · refine ms_aload_n dX6_book_35 rfl ?_
      refine ms_getR dX6_book_36 (fo_X6_16 rfl) (by first | rfl | assumption) rfl (by first | assumption | exact rf_0_2 hR ) ?_
      refine ms_getR dX6_book_39 (fo_X6_192 rfl) (by first | rfl | assumption) rfl (by first | assumption | exact rf_2_2 hR | exact rf_10_2 hR ) ?_
      refine ms_iload_n dX6_book_42 rfl ?_
      refine mi_bipush dX6_book_43 (by decide) ?_
      refine mi_imul dX6_book_45 ?_
      refine ms_iload_n dX6_book_46 rfl ?_
      refine mi_iconst dX6_book_47 ?_
      refine mi_imul dX6_book_48 ?_
      refine mi_iadd dX6_book_49 ?_
      refine ms_iload_n dX6_book_50 rfl ?_
      refine mi_iadd dX6_book_51 ?_
      refine ms_iald dX6_book_52 (by first | rfl | assumption) ?_
      refine ms_ret dX6_book_53 rfl ⟨rfl, rfl⟩ (by simp)
    · exact absurd c_24 (by omega)

set_option maxHeartbeats 4000000 in
set_option maxRecDepth 100000 in
theorem k_X6_book_x {S : mx_Sc} {f : Bool} {M : Nat → Int → Int} {L : Nat → Nat → Int64} {Rf : Nat → Nat → Option Nat} (hR : mx_rf Rf) {t : Nat} (ht : t = 29 ∨ t = 37) (hT : sp_tok (sp_tC M t)) (hto : Rf 0 10 = some t) {n : Int} (hn : 0 ≤ n ∧ n ≤ 99) (hnn : M 3 3 = n) {k : Int} (hk32 : -2147483648 ≤ k ∧ k ≤ 2147483647) {l : Int} (hl32 : -2147483648 ≤ l ∧ l ≤ 2147483647) {o : Int} (ho32 : -2147483648 ≤ o ∧ o ≤ 2147483647) (hc : ¬ ((0 ≤ l ∧ l < M t 1) ∧ (0 ≤ o ∧ o < 3) ∧ (0 ≤ k ∧ k ≤ n))) : mx_C S mX6_book [.ref 0, .int (iI k), .int (iI l), .int (iI o)] (f, mx_SH, M, L, Rf) 1 6 (fun _ _ => False) (fun e9 h9 => e9 = "java/util/NoSuchElementException" ∧ h9 = (false, mx_SH, M, L, Rf)) := by
  refine mx_C_of (by decide) (by simp [Value.category]) (Nat.le_of_ble_eq_true rfl) rfl ?_
  show mx_E S mX6_book 0 [some (.ref 0), some (.int (iI k)), some (.int (iI l)), some (.int (iI o))] [] (f, mx_SH, M, L, Rf) 1 6 _ _
  have ht9 : t < 900 := by omega
  have hs_t := tc_s ht
  have hs_t1 := tc_s1 ht
  have hr_t1 := tc_r1 hR ht
  have hs_t2 := tc_s2 ht
  have hr_t2 := tc_r2 hR ht
  have hs_t3 := tc_s3 ht
  have hr_t3 := tc_r3 hR ht
  have hs_t4 := tc_s4 ht
  have hr_t4 := tc_r4 hR ht
  have hs_t5 := tc_s5 ht
  have hr_t5 := tc_r5 hR ht
  have hs_t6 := tc_s6 ht
  have hr_t6 := tc_r6 hR ht
  have hs_t7 := tc_s7 ht
  have hr_t7 := tc_r7 hR ht
  have hT0 : 1 ≤ M t 0 ∧ M t 0 ≤ 30 := hT.1
  have hT1 : 0 ≤ M t 1 ∧ M t 1 ≤ 6 := hT.2.1
  have hT2 : 1 ≤ M t 2 ∧ M t 2 ≤ 9 := hT.2.2.1
  have hT3 : 0 ≤ M t 3 ∧ M t 3 ≤ 9 := hT.2.2.2.1
  have hT4 : 0 ≤ M t 4 ∧ M t 4 ≤ 9 := hT.2.2.2.2.1
  have hT5 : 1 ≤ M t 5 ∧ M t 5 ≤ 99 := hT.2.2.2.2.2.1
  have hT6 : 0 ≤ M t 6 ∧ M t 6 ≤ 10 := hT.2.2.2.2.2.2.1
  have hTn : ((M t 1).toNat : Int) = M t 1 := Int.toNat_of_nonneg hT1.1
  have hTn6 : ((M t 6).toNat : Int) = M t 6 := Int.toNat_of_nonneg hT6.1
  by_cases h0 : 0 ≤ l ∧ l < M t 1
  rotate_left 1
  · refine ms_aload_n dX6_book_0 rfl ?_
    refine ms_iload_n dX6_book_1 rfl ?_
    refine ms_callVx1 (bc := 0) (bs := 0) (ci := 6) (r := (RX6, TX6, 15)) dX6_book_2 cv_X6_book_X6_requireLamp (k_X6_requireLamp_x hR ht hT hto hl32 h0) rfl rfl rfl rfl (by first | rfl | assumption) (Nat.le_of_ble_eq_true rfl) rfl (fun _ _ z => by first | exact z.elim | exact z) (fun v9 h9 hp9 => ?_)
    skip
    exact hp9.elim
  by_cases h1 : 0 ≤ o ∧ o < 3
  rotate_left 1
  · refine ms_aload_n dX6_book_0 rfl ?_
    refine ms_iload_n dX6_book_1 rfl ?_
    refine ms_callV1 (ci := 6) (r := (RX6, TX6, 15)) dX6_book_2 cv_X6_book_X6_requireLamp (k_X6_requireLamp hR ht hT hto hl32 h0) rfl rfl (by first | rfl | assumption) (Nat.le_of_ble_eq_true rfl) rfl (fun _ _ z => by first | exact z.elim | exact z) (fun v9 h9 hp9 => ?_)
    obtain ⟨rfl, rfl⟩ := hp9
    refine ms_iload_n dX6_book_5 rfl ?_
    refine ms_callSx1 (bc := 0) (bs := 0) dX6_book_6 cv_X6_book_X6_requireOil (k_X6_requireOil_x hR ho32 h1) rfl rfl (Nat.le_of_ble_eq_true rfl) rfl (fun _ _ z => by first | exact z.elim | exact z) (fun v9 h9 hp9 => ?_)
    skip
    exact hp9.elim
  refine ms_aload_n dX6_book_0 rfl ?_
  refine ms_iload_n dX6_book_1 rfl ?_
  refine ms_callV1 (ci := 6) (r := (RX6, TX6, 15)) dX6_book_2 cv_X6_book_X6_requireLamp (k_X6_requireLamp hR ht hT hto hl32 h0) rfl rfl (by first | rfl | assumption) (Nat.le_of_ble_eq_true rfl) rfl (fun _ _ z => by first | exact z.elim | exact z) (fun v9 h9 hp9 => ?_)
  obtain ⟨rfl, rfl⟩ := hp9
  refine ms_iload_n dX6_book_5 rfl ?_
  refine ms_callS1 dX6_book_6 cv_X6_book_X6_requireOil (k_X6_requireOil hR ho32 h1) (Nat.le_of_ble_eq_true rfl) rfl (fun _ _ z => by first | exact z.elim | exact z) (fun v9 h9 hp9 => ?_)
  obtain ⟨rfl, rfl⟩ := hp9
  refine ms_iload_n dX6_book_9 rfl ?_
  refine mi_if_lt (tgt := 27) dX6_book_10 (by decide) (fun c_10 => ?_) (fun c_10 => ?_)
  · refine ms_throw th_X6_book_N dX6_book_27 dX6_book_30 dX6_book_31 dX6_book_34 (Nat.le_of_ble_eq_true rfl) ⟨rfl, rfl⟩
  · refine ms_iload_n dX6_book_13 rfl ?_
    refine ms_aload_n dX6_book_14 rfl ?_
    refine ms_getR dX6_book_15 (fo_X6_16 rfl) (by first | rfl | assumption) rfl (by first | assumption | exact rf_0_2 hR ) ?_
    refine ms_getR dX6_book_18 (fo_X6_130 rfl) (by first | rfl | assumption) rfl (by first | assumption | exact rf_2_0 hR | exact rf_10_0 hR ) ?_
    refine ms_getI (z := 3) dX6_book_21 (fo_X6_133 rfl) (by first | rfl | assumption) rfl rfl ?_
    refine mi_icmp_le (tgt := 35) dX6_book_24 (by decide) (fun c_24 => ?_) (fun c_24 => ?_)
    · exact absurd ⟨h0, h1, by omega⟩ hc
    · refine ms_throw th_X6_book_N dX6_book_27 dX6_book_30 dX6_book_31 dX6_book_34 (Nat.le_of_ble_eq_true rfl) ⟨rfl, rfl⟩

set_option maxHeartbeats 4000000 in
set_option maxRecDepth 100000 in
theorem k_X6_undo {S : mx_Sc} {f : Bool} {M : Nat → Int → Int} {L : Nat → Nat → Int64} {Rf : Nat → Nat → Option Nat} (hR : mx_rf Rf) {t : Nat} (ht : t = 29 ∨ t = 37) (hT : sp_tok (sp_tC M t)) (hto : Rf 0 10 = some t) {v : Int → Int} (hsc : scR (sp_tC M t) M 3 v) (hv : sp_vok (sp_tC M t) v) {n : Int} (hn : 0 ≤ n ∧ n ≤ 99) (hnn : M 3 3 = n) (hz : ∀ l, M t 1 ≤ l → l < 6 → sp_out v l = false) {k : Int} (hk32 : -2147483648 ≤ k ∧ k ≤ 2147483647) (hc : 0 ≤ k) : mx_C S mX6_undo [.ref 0, .int (iI k)] (f, mx_SH, M, L, Rf) 0 0 (fun v9 h9 => ∃ N u, h9 = (f, mx_SH, N, L, Rf) ∧ v9 = some (.int (iI u)) ∧ u = (if n < k then n else k) ∧ ((u = 0 ∧ N = M) ∨ (0 < u ∧ (∀ x, x ≠ 3 → x ≠ 4 → x ≠ 5 → x ≠ 6 → N x = M x) ∧ scR (sp_tC M t) N 3 (sp_oil (M 8) (sp_part v (n - u)) ((n - u) * 18)) ∧ N 3 3 = n - u ∧ (∀ i, 0 ≤ i → i < 18 → N 4 i = M 8 ((n - u) * 18 + i))))) (fun _ _ => False) := by
  refine mx_C_of (by decide) (by simp [Value.category]) (Nat.le_of_ble_eq_true rfl) rfl ?_
  show mx_E S mX6_undo 0 [some (.ref 0), some (.int (iI k)), none] [] (f, mx_SH, M, L, Rf) 0 0 _ _
  have ht9 : t < 900 := by omega
  have hs_t := tc_s ht
  have hs_t1 := tc_s1 ht
  have hr_t1 := tc_r1 hR ht
  have hs_t2 := tc_s2 ht
  have hr_t2 := tc_r2 hR ht
  have hs_t3 := tc_s3 ht
  have hr_t3 := tc_r3 hR ht
  have hs_t4 := tc_s4 ht
  have hr_t4 := tc_r4 hR ht
  have hs_t5 := tc_s5 ht
  have hr_t5 := tc_r5 hR ht
  have hs_t6 := tc_s6 ht
  have hr_t6 := tc_r6 hR ht
  have hs_t7 := tc_s7 ht
  have hr_t7 := tc_r7 hR ht
  have hT0 : 1 ≤ M t 0 ∧ M t 0 ≤ 30 := hT.1
  have hT1 : 0 ≤ M t 1 ∧ M t 1 ≤ 6 := hT.2.1
  have hT2 : 1 ≤ M t 2 ∧ M t 2 ≤ 9 := hT.2.2.1
  have hT3 : 0 ≤ M t 3 ∧ M t 3 ≤ 9 := hT.2.2.2.1
  have hT4 : 0 ≤ M t 4 ∧ M t 4 ≤ 9 := hT.2.2.2.2.1
  have hT5 : 1 ≤ M t 5 ∧ M t 5 ≤ 99 := hT.2.2.2.2.2.1
  have hT6 : 0 ≤ M t 6 ∧ M t 6 ≤ 10 := hT.2.2.2.2.2.2.1
  have hTn : ((M t 1).toNat : Int) = M t 1 := Int.toNat_of_nonneg hT1.1
  have hTn6 : ((M t 6).toNat : Int) = M t 6 := Int.toNat_of_nonneg hT6.1
  refine ms_iload_n dX6_undo_0 rfl ?_
  refine mi_if_ge (tgt := 12) dX6_undo_1 (by decide) (fun c_1 => ?_) (fun c_1 => ?_)
  · refine ms_iload_n dX6_undo_12 rfl ?_
    refine ms_aload_n dX6_undo_13 rfl ?_
    refine ms_getR dX6_undo_14 (fo_X6_16 rfl) (by first | rfl | assumption) rfl (by first | assumption | exact rf_0_2 hR ) ?_
    refine ms_getR dX6_undo_17 (fo_X6_130 rfl) (by first | rfl | assumption) rfl (by first | assumption | exact rf_2_0 hR | exact rf_10_0 hR ) ?_
    refine ms_getI (z := 3) dX6_undo_20 (fo_X6_133 rfl) (by first | rfl | assumption) rfl rfl ?_
    refine mi_mmin dX6_undo_23 ma_X6_undo_min (Nat.le_of_ble_eq_true rfl) ?_
    refine ms_istore_n dX6_undo_26 (by decide) rfl ?_
    dsimp only [List.set, Nat.reduceAdd]
    have hmn : (if M 3 3 < k then M 3 3 else k) = (if n < k then n else k) := by rw [hnn]
    have hmb : 0 ≤ (if M 3 3 < k then M 3 3 else k) ∧ (if M 3 3 < k then M 3 3 else k) ≤ n := by split <;> omega
    refine ms_iload_n dX6_undo_27 rfl ?_
    refine mi_if_le (tgt := 39) dX6_undo_28 (by decide) (fun c_28 => ?_) (fun c_28 => ?_)
    · refine ms_iload_n dX6_undo_39 rfl ?_
      refine ms_ret dX6_undo_40 rfl ⟨M, _, rfl, rfl, hmn, Or.inl ⟨by split at c_28 <;> omega, rfl⟩⟩ (by simp)
    · refine ms_aload_n dX6_undo_31 rfl ?_
      refine ms_getR dX6_undo_32 (fo_X6_16 rfl) (by first | rfl | assumption) rfl (by first | assumption | exact rf_0_2 hR ) ?_
      refine ms_iload_n dX6_undo_35 rfl ?_
      refine ms_callV1 (ci := 3) (r := (RX3, TX3, 4)) dX6_undo_36 cv_X6_undo_X3_goBack (k_X3_goBack hR hT hsc hv hz hn hnn (k := if M 3 3 < k then M 3 3 else k) hmb) rfl rfl (by first | rfl | assumption) (Nat.le_of_ble_eq_true rfl) rfl (fun _ _ z => z.elim) (fun v9 h9 hp9 => ?_)
      obtain ⟨N, rfl, rfl, z1, z2, z3, z4⟩ := hp9
      refine ms_iload_n dX6_undo_39 rfl ?_
      refine ms_ret dX6_undo_40 rfl ⟨N, _, rfl, rfl, hmn, Or.inr ⟨by omega, z1, z2, z3, z4⟩⟩ (by simp)
  · exact absurd hc (by omega)

set_option maxHeartbeats 4000000 in
set_option maxRecDepth 100000 in
theorem k_X6_undo_x {S : mx_Sc} {f : Bool} {M : Nat → Int → Int} {L : Nat → Nat → Int64} {Rf : Nat → Nat → Option Nat} (hR : mx_rf Rf) {k : Int} (hk32 : -2147483648 ≤ k ∧ k ≤ 2147483647) (hc : ¬ 0 ≤ k) : mx_C S mX6_undo [.ref 0, .int (iI k)] (f, mx_SH, M, L, Rf) 1 6 (fun _ _ => False) (fun e9 h9 => e9 = "java/lang/IllegalArgumentException" ∧ h9 = (false, mx_SH, M, L, Rf)) := by
  refine mx_C_of (by decide) (by simp [Value.category]) (Nat.le_of_ble_eq_true rfl) rfl ?_
  show mx_E S mX6_undo 0 [some (.ref 0), some (.int (iI k)), none] [] (f, mx_SH, M, L, Rf) 1 6 _ _
  refine ms_iload_n dX6_undo_0 rfl ?_
  refine mi_if_ge (tgt := 12) dX6_undo_1 (by decide) (fun c_1 => ?_) (fun c_1 => ?_)
  · exact absurd c_1 (by omega)
  · refine ms_throw th_X6_undo_I dX6_undo_4 dX6_undo_7 dX6_undo_8 dX6_undo_11 (Nat.le_of_ble_eq_true rfl) ⟨rfl, rfl⟩

set_option maxHeartbeats 4000000 in
set_option maxRecDepth 100000 in
theorem k_X6_drop {S : mx_Sc} {f : Bool} {M : Nat → Int → Int} {L : Nat → Nat → Int64} {Rf : Nat → Nat → Option Nat} (hR : mx_rf Rf) {t : Nat} (ht : t = 29 ∨ t = 37) (hT : sp_tok (sp_tC M t)) (hto : Rf 0 10 = some t) {v : Int → Int} (hsc : scR (sp_tC M t) M 3 v) (hv : sp_vok (sp_tC M t) v) {n : Int} (hn : 0 ≤ n ∧ n ≤ 99) (hnn : M 3 3 = n) {l : Int} (hl32 : -2147483648 ≤ l ∧ l ≤ 2147483647) {i : Int} (hi32 : -2147483648 ≤ i ∧ i ≤ 2147483647) {j : Int} (hj32 : -2147483648 ≤ j ∧ j ≤ 2147483647) (hc : (0 ≤ l ∧ l < M t 1) ∧ (0 ≤ i ∧ i < 3) ∧ (0 ≤ j ∧ j < 3) ∧ i ≠ j) : mx_C S mX6_drop [.ref 0, .int (iI l), .int (iI i), .int (iI j)] (f, mx_SH, M, L, Rf) 0 0 (fun v9 h9 => ∃ N, h9 = (f, mx_SH, N, L, Rf) ∧ v9 = some (.int (iI (bI (decide (sp_out v l = false ∧ v (3 * l + i) ≠ 0))))) ∧ (((sp_out v l = false ∧ v (3 * l + i) ≠ 0) ∧ (∀ x, x ≠ 4 → N x = M x) ∧ scR (sp_tC M t) N 3 (sp_give v l i j) ∧ (∀ k, 3 * M t 1 ≤ k → N 4 k = M 4 k)) ∨ (¬ (sp_out v l = false ∧ v (3 * l + i) ≠ 0) ∧ N = va_up M 9 (iu (M 9) 1 (M 9 1 + 1))))) (fun _ _ => False) := by
  refine mx_C_of (by decide) (by simp [Value.category]) (Nat.le_of_ble_eq_true rfl) rfl ?_
  show mx_E S mX6_drop 0 [some (.ref 0), some (.int (iI l)), some (.int (iI i)), some (.int (iI j)), none] [] (f, mx_SH, M, L, Rf) 0 0 _ _
  have ht9 : t < 900 := by omega
  have hs_t := tc_s ht
  have hs_t1 := tc_s1 ht
  have hr_t1 := tc_r1 hR ht
  have hs_t2 := tc_s2 ht
  have hr_t2 := tc_r2 hR ht
  have hs_t3 := tc_s3 ht
  have hr_t3 := tc_r3 hR ht
  have hs_t4 := tc_s4 ht
  have hr_t4 := tc_r4 hR ht
  have hs_t5 := tc_s5 ht
  have hr_t5 := tc_r5 hR ht
  have hs_t6 := tc_s6 ht
  have hr_t6 := tc_r6 hR ht
  have hs_t7 := tc_s7 ht
  have hr_t7 := tc_r7 hR ht
  have hT0 : 1 ≤ M t 0 ∧ M t 0 ≤ 30 := hT.1
  have hT1 : 0 ≤ M t 1 ∧ M t 1 ≤ 6 := hT.2.1
  have hT2 : 1 ≤ M t 2 ∧ M t 2 ≤ 9 := hT.2.2.1
  have hT3 : 0 ≤ M t 3 ∧ M t 3 ≤ 9 := hT.2.2.2.1
  have hT4 : 0 ≤ M t 4 ∧ M t 4 ≤ 9 := hT.2.2.2.2.1
  have hT5 : 1 ≤ M t 5 ∧ M t 5 ≤ 99 := hT.2.2.2.2.2.1
  have hT6 : 0 ≤ M t 6 ∧ M t 6 ≤ 10 := hT.2.2.2.2.2.2.1
  have hTn : ((M t 1).toNat : Int) = M t 1 := Int.toNat_of_nonneg hT1.1
  have hTn6 : ((M t 6).toNat : Int) = M t 6 := Int.toNat_of_nonneg hT6.1
  refine ms_aload_n dX6_drop_0 rfl ?_
  refine ms_iload_n dX6_drop_1 rfl ?_
  refine ms_callV1 (ci := 6) (r := (RX6, TX6, 15)) dX6_drop_2 cv_X6_drop_X6_requireLamp (k_X6_requireLamp hR ht hT hto hl32 hc.1) rfl rfl (by first | rfl | assumption) (Nat.le_of_ble_eq_true rfl) rfl (fun _ _ z => z.elim) (fun v9 h9 hp9 => ?_)
  obtain ⟨rfl, rfl⟩ := hp9
  refine ms_iload_n dX6_drop_5 rfl ?_
  refine ms_callS1 dX6_drop_6 cv_X6_drop_X6_requireOil (k_X6_requireOil hR hi32 hc.2.1) (Nat.le_of_ble_eq_true rfl) rfl (fun _ _ z => z.elim) (fun v9 h9 hp9 => ?_)
  obtain ⟨rfl, rfl⟩ := hp9
  refine ms_iload_n dX6_drop_9 rfl ?_
  refine ms_callS1 dX6_drop_10 cv_X6_drop_X6_requireOil (k_X6_requireOil hR hj32 hc.2.2.1) (Nat.le_of_ble_eq_true rfl) rfl (fun _ _ z => z.elim) (fun v9 h9 hp9 => ?_)
  obtain ⟨rfl, rfl⟩ := hp9
  refine ms_iload_n dX6_drop_13 rfl ?_
  refine ms_iload_n dX6_drop_14 rfl ?_
  refine mi_icmp_ne (tgt := 26) dX6_drop_15 (by decide) (fun c_15 => ?_) (fun c_15 => ?_)
  · refine ms_aload_n dX6_drop_26 rfl ?_
    refine ms_getR dX6_drop_27 (fo_X6_16 rfl) (by first | rfl | assumption) rfl (by first | assumption | exact rf_0_2 hR ) ?_
    refine ms_getR dX6_drop_30 (fo_X6_130 rfl) (by first | rfl | assumption) rfl (by first | assumption | exact rf_2_0 hR | exact rf_10_0 hR ) ?_
    refine ms_iload_n dX6_drop_33 rfl ?_
    refine ms_callV1 (ci := 2) (r := (RX2, TX2, 6)) dX6_drop_34 cv_X6_drop_X2_isOut (k_X2_isOut (a := 3) (Or.inl rfl) (l := l) (by omega) hsc.2.2.1) rfl rfl (by first | rfl | assumption) (Nat.le_of_ble_eq_true rfl) rfl (fun _ _ z => z.elim) (fun v9 h9 hp9 => ?_)
    obtain ⟨rfl, rfl⟩ := hp9
    rw [hsc.2.2.2.1 l (by omega) (by omega)]
    refine mi_if_neB (tgt := 60) dX6_drop_37 (by decide) (fun c_37 => ?_) (fun c_37 => ?_)
    · refine mi_iconst dX6_drop_60 ?_
      refine ms_istore dX6_drop_61 (by decide) rfl ?_
      dsimp only [List.set, Nat.reduceAdd]
      refine ms_iload dX6_drop_63 rfl ?_
      refine mi_if_ne (tgt := 81) dX6_drop_65 (by decide) (fun c_65 => ?_) (fun c_65 => ?_)
      · exact absurd c_65 (by omega)
      · refine ms_aload_n dX6_drop_68 rfl ?_
        refine ms_getR dX6_drop_69 (fo_X6_16 rfl) (by first | rfl | assumption) rfl (by first | assumption | exact rf_0_2 hR ) ?_
        refine ms_getR dX6_drop_72 (fo_X6_102 rfl) (by first | rfl | assumption) rfl (by first | assumption | exact rf_2_3 hR | exact rf_10_3 hR ) ?_
        refine mi_iconst dX6_drop_75 ?_
        refine ms_dup2 dX6_drop_76 rfl rfl ?_
        refine ms_iald dX6_drop_77 (by first | rfl | assumption) ?_
        refine mi_iconst dX6_drop_78 ?_
        refine mi_iadd dX6_drop_79 ?_
        refine ms_iast dX6_drop_80 (by first | rfl | assumption) ?_
        refine ms_iload dX6_drop_81 rfl ?_
        refine ms_retZ dX6_drop_83 rfl (by first | exact Or.inl rfl | exact Or.inr rfl) ⟨_, rfl, by rw [decide_eq_false (by rintro ⟨z, _⟩; rw [c_37] at z; cases z)]; rfl, Or.inr ⟨(by rintro ⟨z, _⟩; rw [c_37] at z; cases z), rfl⟩⟩ (by simp)
    · refine ms_aload_n dX6_drop_40 rfl ?_
      refine ms_getR dX6_drop_41 (fo_X6_16 rfl) (by first | rfl | assumption) rfl (by first | assumption | exact rf_0_2 hR ) ?_
      refine ms_getR dX6_drop_44 (fo_X6_130 rfl) (by first | rfl | assumption) rfl (by first | assumption | exact rf_2_0 hR | exact rf_10_0 hR ) ?_
      refine ms_iload_n dX6_drop_47 rfl ?_
      refine ms_iload_n dX6_drop_48 rfl ?_
      refine ms_iload_n dX6_drop_49 rfl ?_
      refine ms_callV3 (ci := 2) (r := (RX2, TX2, 6)) dX6_drop_50 cv_X6_drop_X2_pour (k_X2_pour hR (a := 3) (Or.inl rfl) hT hsc hv (l := l) (i := i) (j := j) hc.1 hc.2.1 hc.2.2.1) rfl rfl (by first | rfl | assumption) (Nat.le_of_ble_eq_true rfl) rfl (fun _ _ z => z.elim) (fun v9 h9 hp9 => ?_)
      obtain ⟨N, rfl, rfl, z1, z2, z3, z4⟩ := hp9
      refine mi_if_eqB (tgt := 60) dX6_drop_53 (by decide) (fun c_53 => ?_) (fun c_53 => ?_)
      · have hq : ¬ v (3 * l + i) ≠ 0 := of_decide_eq_false c_53
        rw [if_neg hq] at z2
        have hNM : N = M := z4 (Classical.not_not.mp hq)
        subst hNM
        refine mi_iconst dX6_drop_60 ?_
        refine ms_istore dX6_drop_61 (by decide) rfl ?_
        dsimp only [List.set, Nat.reduceAdd]
        refine ms_iload dX6_drop_63 rfl ?_
        refine mi_if_ne (tgt := 81) dX6_drop_65 (by decide) (fun c_65 => ?_) (fun c_65 => ?_)
        · exact absurd c_65 (by omega)
        · refine ms_aload_n dX6_drop_68 rfl ?_
          refine ms_getR dX6_drop_69 (fo_X6_16 rfl) (by first | rfl | assumption) rfl (by first | assumption | exact rf_0_2 hR ) ?_
          refine ms_getR dX6_drop_72 (fo_X6_102 rfl) (by first | rfl | assumption) rfl (by first | assumption | exact rf_2_3 hR | exact rf_10_3 hR ) ?_
          refine mi_iconst dX6_drop_75 ?_
          refine ms_dup2 dX6_drop_76 rfl rfl ?_
          refine ms_iald dX6_drop_77 (by first | rfl | assumption) ?_
          refine mi_iconst dX6_drop_78 ?_
          refine mi_iadd dX6_drop_79 ?_
          refine ms_iast dX6_drop_80 (by first | rfl | assumption) ?_
          refine ms_iload dX6_drop_81 rfl ?_
          refine ms_retZ dX6_drop_83 rfl (by first | exact Or.inl rfl | exact Or.inr rfl) ⟨_, rfl, by rw [decide_eq_false (by rintro ⟨_, z⟩; exact hq z)]; rfl, Or.inr ⟨(by rintro ⟨_, z⟩; exact hq z), rfl⟩⟩ (by simp)
      · have hq : v (3 * l + i) ≠ 0 := of_decide_eq_true c_53
        rw [if_pos hq] at z2
        refine mi_iconst dX6_drop_56 ?_
        refine ms_goto (tgt := 61) dX6_drop_57 (by decide) ?_
        refine ms_istore dX6_drop_61 (by decide) rfl ?_
        dsimp only [List.set, Nat.reduceAdd]
        refine ms_iload dX6_drop_63 rfl ?_
        refine mi_if_ne (tgt := 81) dX6_drop_65 (by decide) (fun c_65 => ?_) (fun c_65 => ?_)
        · refine ms_iload dX6_drop_81 rfl ?_
          refine ms_retZ dX6_drop_83 rfl (by first | exact Or.inl rfl | exact Or.inr rfl) ⟨N, rfl, by rw [decide_eq_true ⟨c_37, hq⟩]; rfl, Or.inl ⟨⟨c_37, hq⟩, z1, z2, z3⟩⟩ (by simp)
        · exact absurd c_65 (by omega)
  · exact absurd c_15 (by omega)

set_option maxHeartbeats 4000000 in
set_option maxRecDepth 100000 in
theorem k_X6_drop_x {S : mx_Sc} {f : Bool} {M : Nat → Int → Int} {L : Nat → Nat → Int64} {Rf : Nat → Nat → Option Nat} (hR : mx_rf Rf) {t : Nat} (ht : t = 29 ∨ t = 37) (hT : sp_tok (sp_tC M t)) (hto : Rf 0 10 = some t) {l : Int} (hl32 : -2147483648 ≤ l ∧ l ≤ 2147483647) {i : Int} (hi32 : -2147483648 ≤ i ∧ i ≤ 2147483647) {j : Int} (hj32 : -2147483648 ≤ j ∧ j ≤ 2147483647) (hc : ¬ ((0 ≤ l ∧ l < M t 1) ∧ (0 ≤ i ∧ i < 3) ∧ (0 ≤ j ∧ j < 3) ∧ i ≠ j)) : mx_C S mX6_drop [.ref 0, .int (iI l), .int (iI i), .int (iI j)] (f, mx_SH, M, L, Rf) 1 6 (fun _ _ => False) (fun e9 h9 => e9 = "java/util/NoSuchElementException" ∧ h9 = (false, mx_SH, M, L, Rf)) := by
  refine mx_C_of (by decide) (by simp [Value.category]) (Nat.le_of_ble_eq_true rfl) rfl ?_
  show mx_E S mX6_drop 0 [some (.ref 0), some (.int (iI l)), some (.int (iI i)), some (.int (iI j)), none] [] (f, mx_SH, M, L, Rf) 1 6 _ _
  have ht9 : t < 900 := by omega
  have hs_t := tc_s ht
  have hs_t1 := tc_s1 ht
  have hr_t1 := tc_r1 hR ht
  have hs_t2 := tc_s2 ht
  have hr_t2 := tc_r2 hR ht
  have hs_t3 := tc_s3 ht
  have hr_t3 := tc_r3 hR ht
  have hs_t4 := tc_s4 ht
  have hr_t4 := tc_r4 hR ht
  have hs_t5 := tc_s5 ht
  have hr_t5 := tc_r5 hR ht
  have hs_t6 := tc_s6 ht
  have hr_t6 := tc_r6 hR ht
  have hs_t7 := tc_s7 ht
  have hr_t7 := tc_r7 hR ht
  have hT0 : 1 ≤ M t 0 ∧ M t 0 ≤ 30 := hT.1
  have hT1 : 0 ≤ M t 1 ∧ M t 1 ≤ 6 := hT.2.1
  have hT2 : 1 ≤ M t 2 ∧ M t 2 ≤ 9 := hT.2.2.1
  have hT3 : 0 ≤ M t 3 ∧ M t 3 ≤ 9 := hT.2.2.2.1
  have hT4 : 0 ≤ M t 4 ∧ M t 4 ≤ 9 := hT.2.2.2.2.1
  have hT5 : 1 ≤ M t 5 ∧ M t 5 ≤ 99 := hT.2.2.2.2.2.1
  have hT6 : 0 ≤ M t 6 ∧ M t 6 ≤ 10 := hT.2.2.2.2.2.2.1
  have hTn : ((M t 1).toNat : Int) = M t 1 := Int.toNat_of_nonneg hT1.1
  have hTn6 : ((M t 6).toNat : Int) = M t 6 := Int.toNat_of_nonneg hT6.1
  by_cases h0 : 0 ≤ l ∧ l < M t 1
  rotate_left 1
  · refine ms_aload_n dX6_drop_0 rfl ?_
    refine ms_iload_n dX6_drop_1 rfl ?_
    refine ms_callVx1 (bc := 0) (bs := 0) (ci := 6) (r := (RX6, TX6, 15)) dX6_drop_2 cv_X6_drop_X6_requireLamp (k_X6_requireLamp_x hR ht hT hto hl32 h0) rfl rfl rfl rfl (by first | rfl | assumption) (Nat.le_of_ble_eq_true rfl) rfl (fun _ _ z => by first | exact z.elim | exact z) (fun v9 h9 hp9 => ?_)
    skip
    exact hp9.elim
  by_cases h1 : 0 ≤ i ∧ i < 3
  rotate_left 1
  · refine ms_aload_n dX6_drop_0 rfl ?_
    refine ms_iload_n dX6_drop_1 rfl ?_
    refine ms_callV1 (ci := 6) (r := (RX6, TX6, 15)) dX6_drop_2 cv_X6_drop_X6_requireLamp (k_X6_requireLamp hR ht hT hto hl32 h0) rfl rfl (by first | rfl | assumption) (Nat.le_of_ble_eq_true rfl) rfl (fun _ _ z => by first | exact z.elim | exact z) (fun v9 h9 hp9 => ?_)
    obtain ⟨rfl, rfl⟩ := hp9
    refine ms_iload_n dX6_drop_5 rfl ?_
    refine ms_callSx1 (bc := 0) (bs := 0) dX6_drop_6 cv_X6_drop_X6_requireOil (k_X6_requireOil_x hR hi32 h1) rfl rfl (Nat.le_of_ble_eq_true rfl) rfl (fun _ _ z => by first | exact z.elim | exact z) (fun v9 h9 hp9 => ?_)
    skip
    exact hp9.elim
  by_cases h2 : 0 ≤ j ∧ j < 3
  rotate_left 1
  · refine ms_aload_n dX6_drop_0 rfl ?_
    refine ms_iload_n dX6_drop_1 rfl ?_
    refine ms_callV1 (ci := 6) (r := (RX6, TX6, 15)) dX6_drop_2 cv_X6_drop_X6_requireLamp (k_X6_requireLamp hR ht hT hto hl32 h0) rfl rfl (by first | rfl | assumption) (Nat.le_of_ble_eq_true rfl) rfl (fun _ _ z => by first | exact z.elim | exact z) (fun v9 h9 hp9 => ?_)
    obtain ⟨rfl, rfl⟩ := hp9
    refine ms_iload_n dX6_drop_5 rfl ?_
    refine ms_callS1 dX6_drop_6 cv_X6_drop_X6_requireOil (k_X6_requireOil hR hi32 h1) (Nat.le_of_ble_eq_true rfl) rfl (fun _ _ z => by first | exact z.elim | exact z) (fun v9 h9 hp9 => ?_)
    obtain ⟨rfl, rfl⟩ := hp9
    refine ms_iload_n dX6_drop_9 rfl ?_
    refine ms_callSx1 (bc := 0) (bs := 0) dX6_drop_10 cv_X6_drop_X6_requireOil (k_X6_requireOil_x hR hj32 h2) rfl rfl (Nat.le_of_ble_eq_true rfl) rfl (fun _ _ z => by first | exact z.elim | exact z) (fun v9 h9 hp9 => ?_)
    skip
    exact hp9.elim
  refine ms_aload_n dX6_drop_0 rfl ?_
  refine ms_iload_n dX6_drop_1 rfl ?_
  refine ms_callV1 (ci := 6) (r := (RX6, TX6, 15)) dX6_drop_2 cv_X6_drop_X6_requireLamp (k_X6_requireLamp hR ht hT hto hl32 h0) rfl rfl (by first | rfl | assumption) (Nat.le_of_ble_eq_true rfl) rfl (fun _ _ z => by first | exact z.elim | exact z) (fun v9 h9 hp9 => ?_)
  obtain ⟨rfl, rfl⟩ := hp9
  refine ms_iload_n dX6_drop_5 rfl ?_
  refine ms_callS1 dX6_drop_6 cv_X6_drop_X6_requireOil (k_X6_requireOil hR hi32 h1) (Nat.le_of_ble_eq_true rfl) rfl (fun _ _ z => by first | exact z.elim | exact z) (fun v9 h9 hp9 => ?_)
  obtain ⟨rfl, rfl⟩ := hp9
  refine ms_iload_n dX6_drop_9 rfl ?_
  refine ms_callS1 dX6_drop_10 cv_X6_drop_X6_requireOil (k_X6_requireOil hR hj32 h2) (Nat.le_of_ble_eq_true rfl) rfl (fun _ _ z => by first | exact z.elim | exact z) (fun v9 h9 hp9 => ?_)
  obtain ⟨rfl, rfl⟩ := hp9
  refine ms_iload_n dX6_drop_13 rfl ?_
  refine ms_iload_n dX6_drop_14 rfl ?_
  refine mi_icmp_ne (tgt := 26) dX6_drop_15 (by decide) (fun c_15 => ?_) (fun c_15 => ?_)
  · exact absurd ⟨h0, h1, h2, c_15⟩ hc
  · refine ms_throw th_X6_drop_N dX6_drop_18 dX6_drop_21 dX6_drop_22 dX6_drop_25 (Nat.le_of_ble_eq_true rfl) ⟨rfl, rfl⟩

set_option maxHeartbeats 4000000 in
set_option maxRecDepth 100000 in
theorem k_X6_end {S : mx_Sc} {f : Bool} {M : Nat → Int → Int} {L : Nat → Nat → Int64} {Rf : Nat → Nat → Option Nat} (hR : mx_rf Rf) {t : Nat} (ht : t = 29 ∨ t = 37) (hT : sp_tok (sp_tC M t)) (hto : Rf 0 10 = some t) {v : Int → Int} (hsc : scR (sp_tC M t) M 3 v) (hv : sp_vok (sp_tC M t) v) {n : Int} (hn : 0 ≤ n ∧ n ≤ 99) (hnn : M 3 3 = n) (hlk : sp_lok (sp_tC M t) (M (t + 3))) (hJ : ∀ i, 0 ≤ i → i < 18 → 0 ≤ M 4 i ∧ M 4 i < 32) (hff : f = false) {k : Int} (hk32 : -2147483648 ≤ k ∧ k ≤ 2147483647) (hc : 0 ≤ k ∧ k < 2) : mx_C S mX6_end [.ref 0, .int (iI k)] (f, mx_SH, M, L, Rf) 0 0 (fun v9 h9 => ∃ N L3 Rf2 x w, h9 = (f, mx_SH, N, L3, Rf2) ∧ v9 = some (.int (iI (if x = -1 ∨ k = 0 then x else odf (2 ^ (M t 1).toNat - 1) (N 18 4)))) ∧ mx_rf Rf2 ∧ (∀ y, y ≠ 46 → Rf2 y = Rf y) ∧ (∀ y, y ≠ 22 → L3 y = L y) ∧ (∀ x, x ≠ 46 → x ≠ 47 → x ≠ 18 → x ≠ 19 → x ≠ 20 → x ≠ 21 → N x = M x) ∧ (x = -1 ∨ scR (sp_tC M t) N 18 w) ∧ frP (sp_tC M t) (M (t + 3)) n v x w) (fun _ _ => False) := by
  refine mx_C_of (by decide) (by simp [Value.category]) (Nat.le_of_ble_eq_true rfl) rfl ?_
  show mx_E S mX6_end 0 [some (.ref 0), some (.int (iI k)), none] [] (f, mx_SH, M, L, Rf) 0 0 _ _
  have ht9 : t < 900 := by omega
  have hs_t := tc_s ht
  have hs_t1 := tc_s1 ht
  have hr_t1 := tc_r1 hR ht
  have hs_t2 := tc_s2 ht
  have hr_t2 := tc_r2 hR ht
  have hs_t3 := tc_s3 ht
  have hr_t3 := tc_r3 hR ht
  have hs_t4 := tc_s4 ht
  have hr_t4 := tc_r4 hR ht
  have hs_t5 := tc_s5 ht
  have hr_t5 := tc_r5 hR ht
  have hs_t6 := tc_s6 ht
  have hr_t6 := tc_r6 hR ht
  have hs_t7 := tc_s7 ht
  have hr_t7 := tc_r7 hR ht
  have hT0 : 1 ≤ M t 0 ∧ M t 0 ≤ 30 := hT.1
  have hT1 : 0 ≤ M t 1 ∧ M t 1 ≤ 6 := hT.2.1
  have hT2 : 1 ≤ M t 2 ∧ M t 2 ≤ 9 := hT.2.2.1
  have hT3 : 0 ≤ M t 3 ∧ M t 3 ≤ 9 := hT.2.2.2.1
  have hT4 : 0 ≤ M t 4 ∧ M t 4 ≤ 9 := hT.2.2.2.2.1
  have hT5 : 1 ≤ M t 5 ∧ M t 5 ≤ 99 := hT.2.2.2.2.2.1
  have hT6 : 0 ≤ M t 6 ∧ M t 6 ≤ 10 := hT.2.2.2.2.2.2.1
  have hTn : ((M t 1).toNat : Int) = M t 1 := Int.toNat_of_nonneg hT1.1
  have hTn6 : ((M t 6).toNat : Int) = M t 6 := Int.toNat_of_nonneg hT6.1
  refine ms_iload_n dX6_end_0 rfl ?_
  refine ms_callS1 dX6_end_1 cv_X6_end_X6_requireFirstOrSecond (k_X6_requireFS hR hk32 hc) (Nat.le_of_ble_eq_true rfl) rfl (fun _ _ z => z.elim) (fun v9 h9 hp9 => ?_)
  obtain ⟨rfl, rfl⟩ := hp9
  refine ms_aload_n dX6_end_4 rfl ?_
  refine ms_callV0 (ci := 6) (r := (RX6, TX6, 15)) dX6_end_5 cv_X6_end_X6_findRound (k_X6_findRound hR ht hT hto hsc hv hn hnn hlk hJ hff) rfl rfl (by first | rfl | assumption) (Nat.le_of_ble_eq_true rfl) rfl (fun _ _ z => z.elim) (fun v9 h9 hp9 => ?_)
  obtain ⟨N, L3, Rf2, x, w, rfl, rfl, hR, hRx, hL3, hNx, hsw, hfr⟩ := hp9
  have hto : Rf2 0 10 = some t := by rw [hRx 0 (by decide)]; exact hto
  have eT : sp_tC N t = sp_tC M t := tC_fr (fun y _ _ => hNx y (by omega) (by omega) (by omega) (by omega) (by omega) (by omega))
  have eN : ∀ k, N t k = M t k := fun k => by rw [hNx t (by omega) (by omega) (by omega) (by omega) (by omega) (by omega)]
  have hxb : -1 ≤ x ∧ x ≤ 1000 := by
    rcases hfr with ⟨d, b, h1, h2, h3, h4, h5, h6, h7, h8, h9, h10⟩ | h
    · omega
    · omega
  have hal := al_lt (l := M t 1) (by omega)
  refine ms_istore_n dX6_end_8 (by decide) rfl ?_
  dsimp only [List.set, Nat.reduceAdd]
  refine ms_iload_n dX6_end_9 rfl ?_
  refine mi_iconst dX6_end_10 ?_
  refine mi_icmp_eq (tgt := 18) dX6_end_11 (by decide) (fun c_11 => ?_) (fun c_11 => ?_)
  · refine ms_iload_n dX6_end_18 rfl ?_
    refine ms_ret dX6_end_19 rfl ⟨N, L3, Rf2, x, w, rfl, by rw [if_pos (by omega)], hR, hRx, hL3, hNx, hsw, hfr⟩ (by rw [hff]; simp)
  · refine ms_iload_n dX6_end_14 rfl ?_
    refine mi_if_ne (tgt := 20) dX6_end_15 (by decide) (fun c_15 => ?_) (fun c_15 => ?_)
    · refine ms_aload_n dX6_end_20 rfl ?_
      refine ms_callV0 (ci := 6) (r := (RX6, TX6, 15)) dX6_end_21 cv_X6_end_X6_allLamps (k_X6_allLamps (M := N) hR ht (by rw [eT]; exact hT) hto) rfl rfl (by first | rfl | assumption) (Nat.le_of_ble_eq_true rfl) rfl (fun _ _ z => z.elim) (fun v9 h9 hp9 => ?_)
      obtain ⟨rfl, rfl⟩ := hp9
      rw [eN]
      have hob := (hsw.resolve_left c_11).2.2.1
      refine ms_aload_n dX6_end_24 rfl ?_
      refine ms_getR dX6_end_25 (fo_X6_26 rfl) (by first | rfl | assumption) rfl (by first | assumption | exact rf_0_4 hR ) ?_
      refine ms_getI (z := 4) dX6_end_28 (fo_X6_213 rfl) (by first | rfl | assumption) rfl rfl ?_
      refine mi_iconst dX6_end_31 ?_
      refine mi_ixor (-1 - N 18 4) dX6_end_32 (oxm hob) ?_
      refine mi_iand (odf (2 ^ (M t 1).toNat - 1) (N 18 4)) dX6_end_33 (odf_e hal hob).1 ?_
      refine ms_ret dX6_end_34 rfl ⟨N, L3, Rf2, x, w, rfl, by rw [if_neg (by omega)], hR, hRx, hL3, hNx, hsw, hfr⟩ (by rw [hff]; simp)
    · refine ms_iload_n dX6_end_18 rfl ?_
      refine ms_ret dX6_end_19 rfl ⟨N, L3, Rf2, x, w, rfl, by rw [if_pos (by omega)], hR, hRx, hL3, hNx, hsw, hfr⟩ (by rw [hff]; simp)

set_option maxHeartbeats 4000000 in
set_option maxRecDepth 100000 in
theorem k_X6_end_x {S : mx_Sc} {f : Bool} {M : Nat → Int → Int} {L : Nat → Nat → Int64} {Rf : Nat → Nat → Option Nat} (hR : mx_rf Rf) {k : Int} (hk32 : -2147483648 ≤ k ∧ k ≤ 2147483647) (hc : ¬ (0 ≤ k ∧ k < 2)) : mx_C S mX6_end [.ref 0, .int (iI k)] (f, mx_SH, M, L, Rf) 1 6 (fun _ _ => False) (fun e9 h9 => e9 = "java/util/NoSuchElementException" ∧ h9 = (false, mx_SH, M, L, Rf)) := by
  refine mx_C_of (by decide) (by simp [Value.category]) (Nat.le_of_ble_eq_true rfl) rfl ?_
  show mx_E S mX6_end 0 [some (.ref 0), some (.int (iI k)), none] [] (f, mx_SH, M, L, Rf) 1 6 _ _
  skip
  by_cases h0 : 0 ≤ k ∧ k < 2
  rotate_left 1
  · refine ms_iload_n dX6_end_0 rfl ?_
    refine ms_callSx1 (bc := 0) (bs := 0) dX6_end_1 cv_X6_end_X6_requireFirstOrSecond (k_X6_requireFS_x hR hk32 h0) rfl rfl (Nat.le_of_ble_eq_true rfl) rfl (fun _ _ z => by first | exact z.elim | exact z) (fun v9 h9 hp9 => ?_)
    skip
    exact hp9.elim
  exact absurd (by exact h0) hc

