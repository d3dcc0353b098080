set_option maxHeartbeats 4000000 in
set_option maxRecDepth 100000 in
theorem k_X6_requireLamp {S : mx_Sc} {f : Bool} {M : Nat → Int → Int} {L : Nat → Nat → Int64} {Rf : Nat → Nat → Option Nat} (hR : mx_rf Rf) {t : Nat} (ht : t = 29 ∨ t = 37) (hT : sp_tok (sp_tC M t)) (hto : Rf 0 10 = some t) {l : Int} (hl32 : -2147483648 ≤ l ∧ l ≤ 2147483647) (hc : 0 ≤ l ∧ l < M t 1) : mx_C S mX6_requireLamp [.ref 0, .int (iI l)] (f, mx_SH, M, L, Rf) 0 0 (fun v9 h9 => h9 = (f, mx_SH, M, L, Rf) ∧ v9 = none) (fun _ _ => False) := by
  refine mx_C_of (by decide) (by simp [Value.category]) (Nat.le_of_ble_eq_true rfl) rfl ?_
  show mx_E S mX6_requireLamp 0 [some (.ref 0), some (.int (iI l))] [] (f, mx_SH, M, L, Rf) 0 0 _ _
  have ht9 : t < 900 := by omega
  have hs_t := tc_s ht
  have hs_t1 := tc_s1 ht
  have hr_t1 := tc_r1 hR ht
  have hs_t2 := tc_s2 ht
  have hr_t2 := tc_r2 hR ht
  have hs_t3 := tc_s3 ht
  have hr_t3 := tc_r3 hR ht
  have hs_t4 := tc_s4 ht
  have hr_t4 := tc_r4 hR ht
  have hs_t5 := tc_s5 ht
  have hr_t5 := tc_r5 hR ht
  have hs_t6 := tc_s6 ht
  have hr_t6 := tc_r6 hR ht
  have hs_t7 := tc_s7 ht
  have hr_t7 := tc_r7 hR ht
  have hT0 : 1 ≤ M t 0 ∧ M t 0 ≤ 30 := hT.1
  have hT1 : 0 ≤ M t 1 ∧ M t 1 ≤ 6 := hT.2.1
  have hT2 : 1 ≤ M t 2 ∧ M t 2 ≤ 9 := hT.2.2.1
  have hT3 : 0 ≤ M t 3 ∧ M t 3 ≤ 9 := hT.2.2.2.1
  have hT4 : 0 ≤ M t 4 ∧ M t 4 ≤ 9 := hT.2.2.2.2.1
  have hT5 : 1 ≤ M t 5 ∧ M t 5 ≤ 99 := hT.2.2.2.2.2.1
  have hT6 : 0 ≤ M t 6 ∧ M t 6 ≤ 10 := hT.2.2.2.2.2.2.1
  have hTn : ((M t 1).toNat : Int) = M t 1 := Int.toNat_of_nonneg hT1.1
  have hTn6 : ((M t 6).toNat : Int) = M t 6 := Int.toNat_of_nonneg hT6.1
  refine ms_iload_n dX6_requireLamp_0 rfl ?_
  refine mi_if_lt (tgt := 15) dX6_requireLamp_1 (by decide) (fun c_1 => ?_) (fun c_1 => ?_)
  · exact absurd c_1 (by omega)
  · refine ms_iload_n dX6_requireLamp_4 rfl ?_
    refine ms_aload_n dX6_requireLamp_5 rfl ?_
    refine ms_getR dX6_requireLamp_6 (fo_X6_50 rfl) (by first | rfl | assumption) rfl (by first | assumption ) ?_
    refine ms_getI (z := 1) dX6_requireLamp_9 (fo_X6_112 rfl) (by first | rfl | assumption) rfl rfl ?_
    refine mi_icmp_lt (tgt := 23) dX6_requireLamp_12 (by decide) (fun c_12 => ?_) (fun c_12 => ?_)
    · refine ms_retV dX6_requireLamp_23 rfl ⟨rfl, rfl⟩ (by simp)
    · exact absurd c_12 (by omega)

set_option maxHeartbeats 4000000 in
set_option maxRecDepth 100000 in
theorem k_X6_requireLamp_x {S : mx_Sc} {f : Bool} {M : Nat → Int → Int} {L : Nat → Nat → Int64} {Rf : Nat → Nat → Option Nat} (hR : mx_rf Rf) {t : Nat} (ht : t = 29 ∨ t = 37) (hT : sp_tok (sp_tC M t)) (hto : Rf 0 10 = some t) {l : Int} (hl32 : -2147483648 ≤ l ∧ l ≤ 2147483647) (hc : ¬ (0 ≤ l ∧ l < M t 1)) : mx_C S mX6_requireLamp [.ref 0, .int (iI l)] (f, mx_SH, M, L, Rf) 1 6 (fun _ _ => False) (fun e9 h9 => e9 = "java/util/NoSuchElementException" ∧ h9 = (false, mx_SH, M, L, Rf)) := by
  refine mx_C_of (by decide) (by simp [Value.category]) (Nat.le_of_ble_eq_true rfl) rfl ?_
  show mx_E S mX6_requireLamp 0 [some (.ref 0), some (.int (iI l))] [] (f, mx_SH, M, L, Rf) 1 6 _ _
  have ht9 : t < 900 := by omega
  have hs_t := tc_s ht
  have hs_t1 := tc_s1 ht
  have hr_t1 := tc_r1 hR ht
  have hs_t2 := tc_s2 ht
  have hr_t2 := tc_r2 hR ht
  have hs_t3 := tc_s3 ht
  have hr_t3 := tc_r3 hR ht
  have hs_t4 := tc_s4 ht
  have hr_t4 := tc_r4 hR ht
  have hs_t5 := tc_s5 ht
  have hr_t5 := tc_r5 hR ht
  have hs_t6 := tc_s6 ht
  have hr_t6 := tc_r6 hR ht
  have hs_t7 := tc_s7 ht
  have hr_t7 := tc_r7 hR ht
  have hT0 : 1 ≤ M t 0 ∧ M t 0 ≤ 30 := hT.1
  have hT1 : 0 ≤ M t 1 ∧ M t 1 ≤ 6 := hT.2.1
  have hT2 : 1 ≤ M t 2 ∧ M t 2 ≤ 9 := hT.2.2.1
  have hT3 : 0 ≤ M t 3 ∧ M t 3 ≤ 9 := hT.2.2.2.1
  have hT4 : 0 ≤ M t 4 ∧ M t 4 ≤ 9 := hT.2.2.2.2.1
  have hT5 : 1 ≤ M t 5 ∧ M t 5 ≤ 99 := hT.2.2.2.2.2.1
  have hT6 : 0 ≤ M t 6 ∧ M t 6 ≤ 10 := hT.2.2.2.2.2.2.1
  have hTn : ((M t 1).toNat : Int) = M t 1 := Int.toNat_of_nonneg hT1.1
  have hTn6 : ((M t 6).toNat : Int) = M t 6 := Int.toNat_of_nonneg hT6.1
  refine ms_iload_n dX6_requireLamp_0 rfl ?_
  refine mi_if_lt (tgt := 15) dX6_requireLamp_1 (by decide) (fun c_1 => ?_) (fun c_1 => ?_)
  · refine ms_throw th_X6_requireLamp_N dX6_requireLamp_15 dX6_requireLamp_18 dX6_requireLamp_19 dX6_requireLamp_22 (Nat.le_of_ble_eq_true rfl) ⟨rfl, rfl⟩
  · refine ms_iload_n dX6_requireLamp_4 rfl ?_
    refine ms_aload_n dX6_requireLamp_5 rfl ?_
    refine ms_getR dX6_requireLamp_6 (fo_X6_50 rfl) (by first | rfl | assumption) rfl (by first | assumption ) ?_
    refine ms_getI (z := 1) dX6_requireLamp_9 (fo_X6_112 rfl) (by first | rfl | assumption) rfl rfl ?_
    refine mi_icmp_lt (tgt := 23) dX6_requireLamp_12 (by decide) (fun c_12 => ?_) (fun c_12 => ?_)
    · exact absurd hc (by simp only [Classical.not_not]; omega)
    · refine ms_throw th_X6_requireLamp_N dX6_requireLamp_15 dX6_requireLamp_18 dX6_requireLamp_19 dX6_requireLamp_22 (Nat.le_of_ble_eq_true rfl) ⟨rfl, rfl⟩

set_option maxHeartbeats 4000000 in
set_option maxRecDepth 100000 in
theorem k_X6_requireOil {S : mx_Sc} {f : Bool} {M : Nat → Int → Int} {L : Nat → Nat → Int64} {Rf : Nat → Nat → Option Nat} (hR : mx_rf Rf) {l : Int} (hl32 : -2147483648 ≤ l ∧ l ≤ 2147483647) (hc : 0 ≤ l ∧ l < 3) : mx_C S mX6_requireOil [.int (iI l)] (f, mx_SH, M, L, Rf) 0 0 (fun v9 h9 => h9 = (f, mx_SH, M, L, Rf) ∧ v9 = none) (fun _ _ => False) := by
  refine mx_C_of (by decide) (by simp [Value.category]) (Nat.le_of_ble_eq_true rfl) rfl ?_
  show mx_E S mX6_requireOil 0 [some (.int (iI l))] [] (f, mx_SH, M, L, Rf) 0 0 _ _
  skip
  refine ms_iload_n dX6_requireOil_0 rfl ?_
  refine mi_if_lt (tgt := 9) dX6_requireOil_1 (by decide) (fun c_1 => ?_) (fun c_1 => ?_)
  · exact absurd c_1 (by omega)
  · refine ms_iload_n dX6_requireOil_4 rfl ?_
    refine mi_iconst dX6_requireOil_5 ?_
    refine mi_icmp_lt (tgt := 17) dX6_requireOil_6 (by decide) (fun c_6 => ?_) (fun c_6 => ?_)
    · refine ms_retV dX6_requireOil_17 rfl ⟨rfl, rfl⟩ (by simp)
    · exact absurd c_6 (by omega)

set_option maxHeartbeats 4000000 in
set_option maxRecDepth 100000 in
theorem k_X6_requireOil_x {S : mx_Sc} {f : Bool} {M : Nat → Int → Int} {L : Nat → Nat → Int64} {Rf : Nat → Nat → Option Nat} (hR : mx_rf Rf) {l : Int} (hl32 : -2147483648 ≤ l ∧ l ≤ 2147483647) (hc : ¬ (0 ≤ l ∧ l < 3)) : mx_C S mX6_requireOil [.int (iI l)] (f, mx_SH, M, L, Rf) 1 6 (fun _ _ => False) (fun e9 h9 => e9 = "java/util/NoSuchElementException" ∧ h9 = (false, mx_SH, M, L, Rf)) := by
  refine mx_C_of (by decide) (by simp [Value.category]) (Nat.le_of_ble_eq_true rfl) rfl ?_
  show mx_E S mX6_requireOil 0 [some (.int (iI l))] [] (f, mx_SH, M, L, Rf) 1 6 _ _
  skip
  refine ms_iload_n dX6_requireOil_0 rfl ?_
  refine mi_if_lt (tgt := 9) dX6_requireOil_1 (by decide) (fun c_1 => ?_) (fun c_1 => ?_)
  · refine ms_throw th_X6_requireOil_N dX6_requireOil_9 dX6_requireOil_12 dX6_requireOil_13 dX6_requireOil_16 (Nat.le_of_ble_eq_true rfl) ⟨rfl, rfl⟩
  · refine ms_iload_n dX6_requireOil_4 rfl ?_
    refine mi_iconst dX6_requireOil_5 ?_
    refine mi_icmp_lt (tgt := 17) dX6_requireOil_6 (by decide) (fun c_6 => ?_) (fun c_6 => ?_)
    · exact absurd hc (by simp only [Classical.not_not]; omega)
    · refine ms_throw th_X6_requireOil_N dX6_requireOil_9 dX6_requireOil_12 dX6_requireOil_13 dX6_requireOil_16 (Nat.le_of_ble_eq_true rfl) ⟨rfl, rfl⟩

set_option maxHeartbeats 4000000 in
set_option maxRecDepth 100000 in
theorem k_X6_requireFS {S : mx_Sc} {f : Bool} {M : Nat → Int → Int} {L : Nat → Nat → Int64} {Rf : Nat → Nat → Option Nat} (hR : mx_rf Rf) {l : Int} (hl32 : -2147483648 ≤ l ∧ l ≤ 2147483647) (hc : 0 ≤ l ∧ l < 2) : mx_C S mX6_requireFirstOrSecond [.int (iI l)] (f, mx_SH, M, L, Rf) 0 0 (fun v9 h9 => h9 = (f, mx_SH, M, L, Rf) ∧ v9 = none) (fun _ _ => False) := by
  refine mx_C_of (by decide) (by simp [Value.category]) (Nat.le_of_ble_eq_true rfl) rfl ?_
  show mx_E S mX6_requireFirstOrSecond 0 [some (.int (iI l))] [] (f, mx_SH, M, L, Rf) 0 0 _ _
  skip
  refine ms_iload_n dX6_requireFirstOrSecond_0 rfl ?_
  refine mi_if_eq (tgt := 17) dX6_requireFirstOrSecond_1 (by decide) (fun c_1 => ?_) (fun c_1 => ?_)
  · refine ms_retV dX6_requireFirstOrSecond_17 rfl ⟨rfl, rfl⟩ (by simp)
  · refine ms_iload_n dX6_requireFirstOrSecond_4 rfl ?_
    refine mi_iconst dX6_requireFirstOrSecond_5 ?_
    refine mi_icmp_eq (tgt := 17) dX6_requireFirstOrSecond_6 (by decide) (fun c_6 => ?_) (fun c_6 => ?_)
    · refine ms_retV dX6_requireFirstOrSecond_17 rfl ⟨rfl, rfl⟩ (by simp)
    · exact absurd c_6 (by omega)

set_option maxHeartbeats 4000000 in
set_option maxRecDepth 100000 in
theorem k_X6_requireFS_x {S : mx_Sc} {f : Bool} {M : Nat → Int → Int} {L : Nat → Nat → Int64} {Rf : Nat → Nat → Option Nat} (hR : mx_rf Rf) {l : Int} (hl32 : -2147483648 ≤ l ∧ l ≤ 2147483647) (hc : ¬ (0 ≤ l ∧ l < 2)) : mx_C S mX6_requireFirstOrSecond [.int (iI l)] (f, mx_SH, M, L, Rf) 1 6 (fun _ _ => False) (fun e9 h9 => e9 = "java/util/NoSuchElementException" ∧ h9 = (false, mx_SH, M, L, Rf)) := by
  refine mx_C_of (by decide) (by simp [Value.category]) (Nat.le_of_ble_eq_true rfl) rfl ?_
  show mx_E S mX6_requireFirstOrSecond 0 [some (.int (iI l))] [] (f, mx_SH, M, L, Rf) 1 6 _ _
  skip
  refine ms_iload_n dX6_requireFirstOrSecond_0 rfl ?_
  refine mi_if_eq (tgt := 17) dX6_requireFirstOrSecond_1 (by decide) (fun c_1 => ?_) (fun c_1 => ?_)
  · exact absurd hc (by simp only [Classical.not_not]; omega)
  · refine ms_iload_n dX6_requireFirstOrSecond_4 rfl ?_
    refine mi_iconst dX6_requireFirstOrSecond_5 ?_
    refine mi_icmp_eq (tgt := 17) dX6_requireFirstOrSecond_6 (by decide) (fun c_6 => ?_) (fun c_6 => ?_)
    · exact absurd hc (by simp only [Classical.not_not]; omega)
    · refine ms_throw th_X6_requireFirstOrSecond_N dX6_requireFirstOrSecond_9 dX6_requireFirstOrSecond_12 dX6_requireFirstOrSecond_13 dX6_requireFirstOrSecond_16 (Nat.le_of_ble_eq_true rfl) ⟨rfl, rfl⟩

theorem al_e0 : ∀ l : Fin 7, ((2 : Int) ^ ((l.val : Int)).toNat - 1 = odf 63 (63 - (2 ^ ((l.val : Int)).toNat - 1))) ∧ 0 ≤ (2 : Int) ^ ((l.val : Int)).toNat - 1 ∧ (2 : Int) ^ ((l.val : Int)).toNat - 1 < 64 := by decide +kernel
theorem al_lt {l : Int} (h : 0 ≤ l ∧ l < 7) : 0 ≤ (2 : Int) ^ l.toNat - 1 ∧ (2 : Int) ^ l.toNat - 1 < 64 := (fin_of (n := 7) (P := fun l => ((2 : Int) ^ l.toNat - 1 = odf 63 (63 - (2 ^ l.toNat - 1))) ∧ 0 ≤ (2 : Int) ^ l.toNat - 1 ∧ (2 : Int) ^ l.toNat - 1 < 64) al_e0 h.1 h.2).2
theorem ob_al0 : ∀ k : Fin 7, ∀ l : Fin 6, ob (2 ^ ((k.val : Int)).toNat - 1) (l.val : Int) = if (l.val : Int) < (k.val : Int) then 1 else 0 := by decide +kernel
theorem ob_al {k l : Int} (hk : 0 ≤ k ∧ k < 7) (hl : 0 ≤ l ∧ l < 6) : ob (2 ^ k.toNat - 1) l = if l < k then 1 else 0 := fin_of (n := 7) (P := fun k => ob (2 ^ k.toNat - 1) l = if l < k then 1 else 0) (fun i => fin_of (n := 6) (P := fun l => ob (2 ^ ((i.val : Int)).toNat - 1) l = if l < (i.val : Int) then 1 else 0) (fun j => ob_al0 i j) hl.1 hl.2) hk.1 hk.2
set_option maxHeartbeats 4000000 in
set_option maxRecDepth 100000 in
theorem k_X6_allLamps {S : mx_Sc} {f : Bool} {M : Nat → Int → Int} {L : Nat → Nat → Int64} {Rf : Nat → Nat → Option Nat} (hR : mx_rf Rf) {t : Nat} (ht : t = 29 ∨ t = 37) (hT : sp_tok (sp_tC M t)) (hto : Rf 0 10 = some t) : mx_C S mX6_allLamps [.ref 0] (f, mx_SH, M, L, Rf) 0 0 (fun v9 h9 => h9 = (f, mx_SH, M, L, Rf) ∧ v9 = some (.int (iI ((2 ^ (M t 1).toNat - 1))))) (fun _ _ => False) := by
  refine mx_C_of (by decide) (by simp [Value.category]) (Nat.le_of_ble_eq_true rfl) rfl ?_
  show mx_E S mX6_allLamps 0 [some (.ref 0)] [] (f, mx_SH, M, L, Rf) 0 0 _ _
  have ht9 : t < 900 := by omega
  have hs_t := tc_s ht
  have hs_t1 := tc_s1 ht
  have hr_t1 := tc_r1 hR ht
  have hs_t2 := tc_s2 ht
  have hr_t2 := tc_r2 hR ht
  have hs_t3 := tc_s3 ht
  have hr_t3 := tc_r3 hR ht
  have hs_t4 := tc_s4 ht
  have hr_t4 := tc_r4 hR ht
  have hs_t5 := tc_s5 ht
  have hr_t5 := tc_r5 hR ht
  have hs_t6 := tc_s6 ht
  have hr_t6 := tc_r6 hR ht
  have hs_t7 := tc_s7 ht
  have hr_t7 := tc_r7 hR ht
  have hT0 : 1 ≤ M t 0 ∧ M t 0 ≤ 30 := hT.1
  have hT1 : 0 ≤ M t 1 ∧ M t 1 ≤ 6 := hT.2.1
  have hT2 : 1 ≤ M t 2 ∧ M t 2 ≤ 9 := hT.2.2.1
  have hT3 : 0 ≤ M t 3 ∧ M t 3 ≤ 9 := hT.2.2.2.1
  have hT4 : 0 ≤ M t 4 ∧ M t 4 ≤ 9 := hT.2.2.2.2.1
  have hT5 : 1 ≤ M t 5 ∧ M t 5 ≤ 99 := hT.2.2.2.2.2.1
  have hT6 : 0 ≤ M t 6 ∧ M t 6 ≤ 10 := hT.2.2.2.2.2.2.1
  have hTn : ((M t 1).toNat : Int) = M t 1 := Int.toNat_of_nonneg hT1.1
  have hTn6 : ((M t 6).toNat : Int) = M t 6 := Int.toNat_of_nonneg hT6.1
  refine mi_iconst dX6_allLamps_0 ?_
  refine ms_aload_n dX6_allLamps_1 rfl ?_
  refine ms_getR dX6_allLamps_2 (fo_X6_50 rfl) (by first | rfl | assumption) rfl (by first | assumption ) ?_
  refine ms_getI (z := 1) dX6_allLamps_5 (fo_X6_112 rfl) (by first | rfl | assumption) rfl rfl ?_
  refine mi_ishl (2 ^ (M t 1).toNat) dX6_allLamps_8 (p2_shl (by omega)) ?_
  refine mi_iconst dX6_allLamps_9 ?_
  refine mi_isub dX6_allLamps_10 ?_
  refine ms_ret dX6_allLamps_11 rfl ⟨rfl, rfl⟩ (by simp)

set_option maxHeartbeats 4000000 in
set_option maxRecDepth 100000 in
theorem k_X6_isSeen {S : mx_Sc} {f : Bool} {M : Nat → Int → Int} {L : Nat → Nat → Int64} {Rf : Nat → Nat → Option Nat} (hR : mx_rf Rf) {l : Int} (hl : 0 ≤ l ∧ l < 6) (hb : ∀ q, 0 ≤ q → q < 3 → (-1000 ≤ M 47 (l * 3 + q) ∧ M 47 (l * 3 + q) ≤ 1000) ∧ (-1000 ≤ M 24 q ∧ M 24 q ≤ 1000)) : mx_C S mX6_isSeen [.ref 0, .int (iI l)] (f, mx_SH, M, L, Rf) 0 0 (fun v9 h9 => h9 = (f, mx_SH, M, L, Rf) ∧ v9 = some (.int (iI (bI (decide (M 47 (l * 3 + 0) = M 24 0 ∧ M 47 (l * 3 + 1) = M 24 1 ∧ M 47 (l * 3 + 2) = M 24 2)))))) (fun _ _ => False) := by
  refine mx_C_of (by decide) (by simp [Value.category]) (Nat.le_of_ble_eq_true rfl) rfl ?_
  show mx_E S mX6_isSeen 0 [some (.ref 0), some (.int (iI l)), none] [] (f, mx_SH, M, L, Rf) 0 0 _ _
  have hb0 := hb 0 (by omega) (by omega)
  have hb1 := hb 1 (by omega) (by omega)
  have hb2 := hb 2 (by omega) (by omega)
  refine mi_iconst dX6_isSeen_0 ?_
  refine ms_istore_n dX6_isSeen_1 (by decide) rfl ?_
  dsimp only [List.set, Nat.reduceAdd]
  refine ms_iload_n dX6_isSeen_2 rfl ?_
  refine mi_iconst dX6_isSeen_3 ?_
  refine mi_icmp_ge (tgt := 37) dX6_isSeen_4 (by decide) (fun c_4 => ?_) (fun c_4 => ?_)
  · exact absurd c_4 (by omega)
  · refine ms_aload_n dX6_isSeen_7 rfl ?_
    refine ms_getR dX6_isSeen_8 (fo_X6_75 rfl) (by first | rfl | assumption) rfl (by first | assumption | exact rf_0_9 hR ) ?_
    refine ms_getR dX6_isSeen_11 (fo_X6_254 rfl) (by first | rfl | assumption) rfl (by first | assumption | exact rf_46_0 hR ) ?_
    refine ms_iload_n dX6_isSeen_14 rfl ?_
    refine mi_iconst dX6_isSeen_15 ?_
    refine mi_imul dX6_isSeen_16 ?_
    refine ms_iload_n dX6_isSeen_17 rfl ?_
    refine mi_iadd dX6_isSeen_18 ?_
    refine ms_iald dX6_isSeen_19 (by first | rfl | assumption) ?_
    refine ms_aload_n dX6_isSeen_20 rfl ?_
    refine ms_getR dX6_isSeen_21 (fo_X6_37 rfl) (by first | rfl | assumption) rfl (by first | assumption | exact rf_0_7 hR ) ?_
    refine ms_iload_n dX6_isSeen_24 rfl ?_
    refine ms_iald dX6_isSeen_25 (by first | rfl | assumption) ?_
    refine mi_icmp_eq (tgt := 31) dX6_isSeen_26 (by decide) (fun c_26 => ?_) (fun c_26 => ?_)
    · refine mi_iincL (1) dX6_isSeen_31 rfl (by decide) rfl (by decide) ?_
      dsimp only [List.set, Nat.reduceAdd]
      refine ms_goto (tgt := 2) dX6_isSeen_34 (by decide) ?_
      refine ms_iload_n dX6_isSeen_2 rfl ?_
      refine mi_iconst dX6_isSeen_3 ?_
      refine mi_icmp_ge (tgt := 37) dX6_isSeen_4 (by decide) (fun c_4 => ?_) (fun c_4 => ?_)
      · exact absurd c_4 (by omega)
      · refine ms_aload_n dX6_isSeen_7 rfl ?_
        refine ms_getR dX6_isSeen_8 (fo_X6_75 rfl) (by first | rfl | assumption) rfl (by first | assumption | exact rf_0_9 hR ) ?_
        refine ms_getR dX6_isSeen_11 (fo_X6_254 rfl) (by first | rfl | assumption) rfl (by first | assumption | exact rf_46_0 hR ) ?_
        refine ms_iload_n dX6_isSeen_14 rfl ?_
        refine mi_iconst dX6_isSeen_15 ?_
        refine mi_imul dX6_isSeen_16 ?_
        refine ms_iload_n dX6_isSeen_17 rfl ?_
        refine mi_iadd dX6_isSeen_18 ?_
        refine ms_iald dX6_isSeen_19 (by first | rfl | assumption) ?_
        refine ms_aload_n dX6_isSeen_20 rfl ?_
        refine ms_getR dX6_isSeen_21 (fo_X6_37 rfl) (by first | rfl | assumption) rfl (by first | assumption | exact rf_0_7 hR ) ?_
        refine ms_iload_n dX6_isSeen_24 rfl ?_
        refine ms_iald dX6_isSeen_25 (by first | rfl | assumption) ?_
        refine mi_icmp_eq (tgt := 31) dX6_isSeen_26 (by decide) (fun c_26 => ?_) (fun c_26 => ?_)
        · refine mi_iincL (2) dX6_isSeen_31 rfl (by decide) rfl (by decide) ?_
          dsimp only [List.set, Nat.reduceAdd]
          refine ms_goto (tgt := 2) dX6_isSeen_34 (by decide) ?_
          refine ms_iload_n dX6_isSeen_2 rfl ?_
          refine mi_iconst dX6_isSeen_3 ?_
          refine mi_icmp_ge (tgt := 37) dX6_isSeen_4 (by decide) (fun c_4 => ?_) (fun c_4 => ?_)
          · exact absurd c_4 (by omega)
          · refine ms_aload_n dX6_isSeen_7 rfl ?_
            refine ms_getR dX6_isSeen_8 (fo_X6_75 rfl) (by first | rfl | assumption) rfl (by first | assumption | exact rf_0_9 hR ) ?_
            refine ms_getR dX6_isSeen_11 (fo_X6_254 rfl) (by first | rfl | assumption) rfl (by first | assumption | exact rf_46_0 hR ) ?_
            refine ms_iload_n dX6_isSeen_14 rfl ?_
            refine mi_iconst dX6_isSeen_15 ?_
            refine mi_imul dX6_isSeen_16 ?_
            refine ms_iload_n dX6_isSeen_17 rfl ?_
            refine mi_iadd dX6_isSeen_18 ?_
            refine ms_iald dX6_isSeen_19 (by first | rfl | assumption) ?_
            refine ms_aload_n dX6_isSeen_20 rfl ?_
            refine ms_getR dX6_isSeen_21 (fo_X6_37 rfl) (by first | rfl | assumption) rfl (by first | assumption | exact rf_0_7 hR ) ?_
            refine ms_iload_n dX6_isSeen_24 rfl ?_
            refine ms_iald dX6_isSeen_25 (by first | rfl | assumption) ?_
            refine mi_icmp_eq (tgt := 31) dX6_isSeen_26 (by decide) (fun c_26 => ?_) (fun c_26 => ?_)
            · refine mi_iincL (3) dX6_isSeen_31 rfl (by decide) rfl (by decide) ?_
              dsimp only [List.set, Nat.reduceAdd]
              refine ms_goto (tgt := 2) dX6_isSeen_34 (by decide) ?_
              refine ms_iload_n dX6_isSeen_2 rfl ?_
              refine mi_iconst dX6_isSeen_3 ?_
              refine mi_icmp_ge (tgt := 37) dX6_isSeen_4 (by decide) (fun c_4 => ?_) (fun c_4 => ?_)
              · refine mi_iconst dX6_isSeen_37 ?_
                refine ms_retZ dX6_isSeen_38 rfl (by first | exact Or.inl rfl | exact Or.inr rfl) ⟨rfl, by first | (rw [decide_eq_false (by omega)]; rfl) | (rw [decide_eq_true (by omega)]; rfl)⟩ (by simp)
              · exact absurd c_4 (by omega)
            · refine mi_iconst dX6_isSeen_29 ?_
              refine ms_retZ dX6_isSeen_30 rfl (by first | exact Or.inl rfl | exact Or.inr rfl) ⟨rfl, by first | (rw [decide_eq_false (by omega)]; rfl) | (rw [decide_eq_true (by omega)]; rfl)⟩ (by simp)
        · refine mi_iconst dX6_isSeen_29 ?_
          refine ms_retZ dX6_isSeen_30 rfl (by first | exact Or.inl rfl | exact Or.inr rfl) ⟨rfl, by first | (rw [decide_eq_false (by omega)]; rfl) | (rw [decide_eq_true (by omega)]; rfl)⟩ (by simp)
    · refine mi_iconst dX6_isSeen_29 ?_
      refine ms_retZ dX6_isSeen_30 rfl (by first | exact Or.inl rfl | exact Or.inr rfl) ⟨rfl, by first | (rw [decide_eq_false (by omega)]; rfl) | (rw [decide_eq_true (by omega)]; rfl)⟩ (by simp)

/-- those on the other side, up to k; the j-th of them -/
def sp_ac (t : sp_T) (l : Int) : Nat → Int
  | 0 => 0
  | k + 1 => sp_ac t l k + (if t.2.2.1 k = t.2.2.1 l then 0 else 1)
theorem sp_ac_le (t : sp_T) (l : Int) : ∀ k : Nat, 0 ≤ sp_ac t l k ∧ sp_ac t l k ≤ k
  | 0 => ⟨Int.le_refl _, Int.le_refl _⟩
  | k + 1 => by
    have h := sp_ac_le t l k
    simp only [sp_ac]
    split <;> omega
/-- the j-th (from 0) on the other side -/
def sp_nth (t : sp_T) (l j : Int) : Nat → Int
  | 0 => -1
  | k + 1 => if sp_nth t l j k ≠ -1 then sp_nth t l j k else if t.2.2.1 k ≠ t.2.2.1 l ∧ sp_ac t l k = j then (k : Int) else -1
theorem nth_stop {t : sp_T} {l j : Int} {k : Nat} (h : sp_nth t l j k ≠ -1) : ∀ m : Nat, sp_nth t l j (k + m) = sp_nth t l j k
  | 0 => rfl
  | m + 1 => by
    show (if sp_nth t l j (k + m) ≠ -1 then sp_nth t l j (k + m) else _) = _
    rw [nth_stop h m, if_pos h]
set_option maxHeartbeats 4000000 in
set_option maxRecDepth 100000 in
theorem l_X4_ca {S : mx_Sc} {f : Bool} {M : Nat → Int → Int} {L : Nat → Nat → Int64} {Rf : Nat → Nat → Option Nat} (hR : mx_rf Rf) {t : Nat} (ht : t = 29 ∨ t = 37) (hT : sp_tok (sp_tC M t)) {l : Int} (hl : 0 ≤ l ∧ l < M t 1) : ∀ (kk : Nat) (i : Nat), (i : Int) + kk = M t 1 → mx_E S mX4_countAcross 4 [some (.ref t), some (.int (iI l)), some (.int (iI (sp_ac (sp_tC M t) l i))), some (.int (iI (i : Int)))] [] (f, mx_SH, M, L, Rf) 0 0 (fun v9 h9 => h9 = (f, mx_SH, M, L, Rf) ∧ v9 = some (.int (iI (sp_ac (sp_tC M t) l (M t 1).toNat)))) (fun _ _ => False) := by
  intro kk
  induction kk with
  | zero => 
    intro i g1
    have ht9 : t < 900 := by omega
    have hs_t := tc_s ht
    have hs_t1 := tc_s1 ht
    have hr_t1 := tc_r1 hR ht
    have hs_t2 := tc_s2 ht
    have hr_t2 := tc_r2 hR ht
    have hs_t3 := tc_s3 ht
    have hr_t3 := tc_r3 hR ht
    have hs_t4 := tc_s4 ht
    have hr_t4 := tc_r4 hR ht
    have hs_t5 := tc_s5 ht
    have hr_t5 := tc_r5 hR ht
    have hs_t6 := tc_s6 ht
    have hr_t6 := tc_r6 hR ht
    have hs_t7 := tc_s7 ht
    have hr_t7 := tc_r7 hR ht
    have hT0 : 1 ≤ M t 0 ∧ M t 0 ≤ 30 := hT.1
    have hT1 : 0 ≤ M t 1 ∧ M t 1 ≤ 6 := hT.2.1
    have hT2 : 1 ≤ M t 2 ∧ M t 2 ≤ 9 := hT.2.2.1
    have hT3 : 0 ≤ M t 3 ∧ M t 3 ≤ 9 := hT.2.2.2.1
    have hT4 : 0 ≤ M t 4 ∧ M t 4 ≤ 9 := hT.2.2.2.2.1
    have hT5 : 1 ≤ M t 5 ∧ M t 5 ≤ 99 := hT.2.2.2.2.2.1
    have hT6 : 0 ≤ M t 6 ∧ M t 6 ≤ 10 := hT.2.2.2.2.2.2.1
    have hTn : ((M t 1).toNat : Int) = M t 1 := Int.toNat_of_nonneg hT1.1
    have hTn6 : ((M t 6).toNat : Int) = M t 6 := Int.toNat_of_nonneg hT6.1
    refine ms_iload_n dX4_countAcross_4 rfl ?_
    refine ms_aload_n dX4_countAcross_5 rfl ?_
    refine ms_getI (z := 1) dX4_countAcross_6 (fo_X4_40 rfl) (by first | rfl | assumption) rfl rfl ?_
    refine mi_icmp_ge (tgt := 36) dX4_countAcross_9 (by decide) (fun c_9 => ?_) (fun c_9 => ?_)
    · refine ms_iload_n dX4_countAcross_36 rfl ?_
      refine ms_ret dX4_countAcross_37 rfl ⟨rfl, by rw [show (M t 1).toNat = i by omega]⟩ (by simp)
    · exact absurd c_9 (by omega)
  | succ kk ih => 
    intro i g1
    have ht9 : t < 900 := by omega
    have hs_t := tc_s ht
    have hs_t1 := tc_s1 ht
    have hr_t1 := tc_r1 hR ht
    have hs_t2 := tc_s2 ht
    have hr_t2 := tc_r2 hR ht
    have hs_t3 := tc_s3 ht
    have hr_t3 := tc_r3 hR ht
    have hs_t4 := tc_s4 ht
    have hr_t4 := tc_r4 hR ht
    have hs_t5 := tc_s5 ht
    have hr_t5 := tc_r5 hR ht
    have hs_t6 := tc_s6 ht
    have hr_t6 := tc_r6 hR ht
    have hs_t7 := tc_s7 ht
    have hr_t7 := tc_r7 hR ht
    have hT0 : 1 ≤ M t 0 ∧ M t 0 ≤ 30 := hT.1
    have hT1 : 0 ≤ M t 1 ∧ M t 1 ≤ 6 := hT.2.1
    have hT2 : 1 ≤ M t 2 ∧ M t 2 ≤ 9 := hT.2.2.1
    have hT3 : 0 ≤ M t 3 ∧ M t 3 ≤ 9 := hT.2.2.2.1
    have hT4 : 0 ≤ M t 4 ∧ M t 4 ≤ 9 := hT.2.2.2.2.1
    have hT5 : 1 ≤ M t 5 ∧ M t 5 ≤ 99 := hT.2.2.2.2.2.1
    have hT6 : 0 ≤ M t 6 ∧ M t 6 ≤ 10 := hT.2.2.2.2.2.2.1
    have hTn : ((M t 1).toNat : Int) = M t 1 := Int.toNat_of_nonneg hT1.1
    have hTn6 : ((M t 6).toNat : Int) = M t 6 := Int.toNat_of_nonneg hT6.1
    have hsl : 0 ≤ M (t + 2) l ∧ M (t + 2) l ≤ 1 := (hT.2.2.2.2.2.2.2.1 l hl.1 hl.2).2
    have hsi : 0 ≤ M (t + 2) (i : Int) ∧ M (t + 2) (i : Int) ≤ 1 := (hT.2.2.2.2.2.2.2.1 (i : Int) (by omega) (by show (i : Int) < M t 1; omega)).2
    refine ms_iload_n dX4_countAcross_4 rfl ?_
    refine ms_aload_n dX4_countAcross_5 rfl ?_
    refine ms_getI (z := 1) dX4_countAcross_6 (fo_X4_40 rfl) (by first | rfl | assumption) rfl rfl ?_
    refine mi_icmp_ge (tgt := 36) dX4_countAcross_9 (by decide) (fun c_9 => ?_) (fun c_9 => ?_)
    · exact absurd c_9 (by omega)
    · refine ms_aload_n dX4_countAcross_12 rfl ?_
      refine ms_getR dX4_countAcross_13 (fo_X4_15 rfl) (by first | rfl | assumption) rfl (by first | assumption | exact rf_29_8 hR | exact rf_37_8 hR ) ?_
      refine ms_iload_n dX4_countAcross_16 rfl ?_
      refine ms_iald dX4_countAcross_17 (by first | rfl | assumption) ?_
      refine ms_aload_n dX4_countAcross_18 rfl ?_
      refine ms_getR dX4_countAcross_19 (fo_X4_15 rfl) (by first | rfl | assumption) rfl (by first | assumption | exact rf_29_8 hR | exact rf_37_8 hR ) ?_
      refine ms_iload_n dX4_countAcross_22 rfl ?_
      refine ms_iald dX4_countAcross_23 (by first | rfl | assumption) ?_
      refine mi_icmp_eq (tgt := 30) dX4_countAcross_24 (by decide) (fun c_24 => ?_) (fun c_24 => ?_)
      · refine mi_iinc dX4_countAcross_30 rfl (by decide) rfl ?_
        dsimp only [List.set, Nat.reduceAdd]
        refine ms_goto (tgt := 4) dX4_countAcross_33 (by decide) ?_
        have i9 := ih (i + 1) (by omega)
        rw [show sp_ac (sp_tC M t) l (i + 1) = sp_ac (sp_tC M t) l i from by simp only [sp_ac]; rw [if_pos c_24, Int.add_zero]] at i9
        exact i9
      · refine mi_iinc dX4_countAcross_27 rfl (by decide) rfl ?_
        dsimp only [List.set, Nat.reduceAdd]
        refine mi_iinc dX4_countAcross_30 rfl (by decide) rfl ?_
        dsimp only [List.set, Nat.reduceAdd]
        refine ms_goto (tgt := 4) dX4_countAcross_33 (by decide) ?_
        have i9 := ih (i + 1) (by omega)
        rw [show sp_ac (sp_tC M t) l (i + 1) = sp_ac (sp_tC M t) l i + 1 from by simp only [sp_ac]; rw [if_neg c_24]] at i9
        exact i9

set_option maxHeartbeats 4000000 in
set_option maxRecDepth 100000 in
theorem k_X4_countAcross {S : mx_Sc} {f : Bool} {M : Nat → Int → Int} {L : Nat → Nat → Int64} {Rf : Nat → Nat → Option Nat} (hR : mx_rf Rf) {t : Nat} (ht : t = 29 ∨ t = 37) (hT : sp_tok (sp_tC M t)) {l : Int} (hl : 0 ≤ l ∧ l < M t 1) : mx_C S mX4_countAcross [.ref t, .int (iI l)] (f, mx_SH, M, L, Rf) 0 0 (fun v9 h9 => h9 = (f, mx_SH, M, L, Rf) ∧ v9 = some (.int (iI (sp_ac (sp_tC M t) l (M t 1).toNat)))) (fun _ _ => False) := by
  refine mx_C_of (by decide) (by simp [Value.category]) (Nat.le_of_ble_eq_true rfl) rfl ?_
  show mx_E S mX4_countAcross 0 [some (.ref t), some (.int (iI l)), none, none] [] (f, mx_SH, M, L, Rf) 0 0 _ _
  have ht9 : t < 900 := by omega
  have hs_t := tc_s ht
  have hs_t1 := tc_s1 ht
  have hr_t1 := tc_r1 hR ht
  have hs_t2 := tc_s2 ht
  have hr_t2 := tc_r2 hR ht
  have hs_t3 := tc_s3 ht
  have hr_t3 := tc_r3 hR ht
  have hs_t4 := tc_s4 ht
  have hr_t4 := tc_r4 hR ht
  have hs_t5 := tc_s5 ht
  have hr_t5 := tc_r5 hR ht
  have hs_t6 := tc_s6 ht
  have hr_t6 := tc_r6 hR ht
  have hs_t7 := tc_s7 ht
  have hr_t7 := tc_r7 hR ht
  have hT0 : 1 ≤ M t 0 ∧ M t 0 ≤ 30 := hT.1
  have hT1 : 0 ≤ M t 1 ∧ M t 1 ≤ 6 := hT.2.1
  have hT2 : 1 ≤ M t 2 ∧ M t 2 ≤ 9 := hT.2.2.1
  have hT3 : 0 ≤ M t 3 ∧ M t 3 ≤ 9 := hT.2.2.2.1
  have hT4 : 0 ≤ M t 4 ∧ M t 4 ≤ 9 := hT.2.2.2.2.1
  have hT5 : 1 ≤ M t 5 ∧ M t 5 ≤ 99 := hT.2.2.2.2.2.1
  have hT6 : 0 ≤ M t 6 ∧ M t 6 ≤ 10 := hT.2.2.2.2.2.2.1
  have hTn : ((M t 1).toNat : Int) = M t 1 := Int.toNat_of_nonneg hT1.1
  have hTn6 : ((M t 6).toNat : Int) = M t 6 := Int.toNat_of_nonneg hT6.1
  refine mi_iconst dX4_countAcross_0 ?_
  refine ms_istore_n dX4_countAcross_1 (by decide) rfl ?_
  dsimp only [List.set, Nat.reduceAdd]
  refine mi_iconst dX4_countAcross_2 ?_
  refine ms_istore_n dX4_countAcross_3 (by decide) rfl ?_
  dsimp only [List.set, Nat.reduceAdd]
  exact l_X4_ca hR ht hT hl (M t 1).toNat 0 (by omega)

set_option maxHeartbeats 4000000 in
set_option maxRecDepth 100000 in
theorem l_X4_fa {S : mx_Sc} {f : Bool} {M : Nat → Int → Int} {L : Nat → Nat → Int64} {Rf : Nat → Nat → Option Nat} (hR : mx_rf Rf) {t : Nat} (ht : t = 29 ∨ t = 37) (hT : sp_tok (sp_tC M t)) {l : Int} (hl : 0 ≤ l ∧ l < M t 1) {j : Int} (hj : 0 ≤ j ∧ j < 40000) : ∀ (kk : Nat) (i : Nat), (i : Int) + kk = M t 1 → sp_nth (sp_tC M t) l j i = -1 → mx_E S mX4_findAcross 5 [some (.ref t), some (.int (iI l)), some (.int (iI j)), some (.int (iI (sp_ac (sp_tC M t) l i))), some (.int (iI (i : Int)))] [] (f, mx_SH, M, L, Rf) 0 0 (fun v9 h9 => h9 = (f, mx_SH, M, L, Rf) ∧ v9 = some (.int (iI (sp_nth (sp_tC M t) l j (M t 1).toNat)))) (fun _ _ => False) := by
  intro kk
  induction kk with
  | zero => 
    intro i g1 hq
    have ht9 : t < 900 := by omega
    have hs_t := tc_s ht
    have hs_t1 := tc_s1 ht
    have hr_t1 := tc_r1 hR ht
    have hs_t2 := tc_s2 ht
    have hr_t2 := tc_r2 hR ht
    have hs_t3 := tc_s3 ht
    have hr_t3 := tc_r3 hR ht
    have hs_t4 := tc_s4 ht
    have hr_t4 := tc_r4 hR ht
    have hs_t5 := tc_s5 ht
    have hr_t5 := tc_r5 hR ht
    have hs_t6 := tc_s6 ht
    have hr_t6 := tc_r6 hR ht
    have hs_t7 := tc_s7 ht
    have hr_t7 := tc_r7 hR ht
    have hT0 : 1 ≤ M t 0 ∧ M t 0 ≤ 30 := hT.1
    have hT1 : 0 ≤ M t 1 ∧ M t 1 ≤ 6 := hT.2.1
    have hT2 : 1 ≤ M t 2 ∧ M t 2 ≤ 9 := hT.2.2.1
    have hT3 : 0 ≤ M t 3 ∧ M t 3 ≤ 9 := hT.2.2.2.1
    have hT4 : 0 ≤ M t 4 ∧ M t 4 ≤ 9 := hT.2.2.2.2.1
    have hT5 : 1 ≤ M t 5 ∧ M t 5 ≤ 99 := hT.2.2.2.2.2.1
    have hT6 : 0 ≤ M t 6 ∧ M t 6 ≤ 10 := hT.2.2.2.2.2.2.1
    have hTn : ((M t 1).toNat : Int) = M t 1 := Int.toNat_of_nonneg hT1.1
    have hTn6 : ((M t 6).toNat : Int) = M t 6 := Int.toNat_of_nonneg hT6.1
    refine ms_iload dX4_findAcross_5 rfl ?_
    refine ms_aload_n dX4_findAcross_7 rfl ?_
    refine ms_getI (z := 1) dX4_findAcross_8 (fo_X4_40 rfl) (by first | rfl | assumption) rfl rfl ?_
    refine mi_icmp_ge (tgt := 47) dX4_findAcross_11 (by decide) (fun c_11 => ?_) (fun c_11 => ?_)
    · refine mi_iconst dX4_findAcross_47 ?_
      refine ms_ret dX4_findAcross_48 rfl ⟨rfl, by rw [show (M t 1).toNat = i by omega, hq]⟩ (by simp)
    · exact absurd c_11 (by omega)
  | succ kk ih => 
    intro i g1 hq
    have ht9 : t < 900 := by omega
    have hs_t := tc_s ht
    have hs_t1 := tc_s1 ht
    have hr_t1 := tc_r1 hR ht
    have hs_t2 := tc_s2 ht
    have hr_t2 := tc_r2 hR ht
    have hs_t3 := tc_s3 ht
    have hr_t3 := tc_r3 hR ht
    have hs_t4 := tc_s4 ht
    have hr_t4 := tc_r4 hR ht
    have hs_t5 := tc_s5 ht
    have hr_t5 := tc_r5 hR ht
    have hs_t6 := tc_s6 ht
    have hr_t6 := tc_r6 hR ht
    have hs_t7 := tc_s7 ht
    have hr_t7 := tc_r7 hR ht
    have hT0 : 1 ≤ M t 0 ∧ M t 0 ≤ 30 := hT.1
    have hT1 : 0 ≤ M t 1 ∧ M t 1 ≤ 6 := hT.2.1
    have hT2 : 1 ≤ M t 2 ∧ M t 2 ≤ 9 := hT.2.2.1
    have hT3 : 0 ≤ M t 3 ∧ M t 3 ≤ 9 := hT.2.2.2.1
    have hT4 : 0 ≤ M t 4 ∧ M t 4 ≤ 9 := hT.2.2.2.2.1
    have hT5 : 1 ≤ M t 5 ∧ M t 5 ≤ 99 := hT.2.2.2.2.2.1
    have hT6 : 0 ≤ M t 6 ∧ M t 6 ≤ 10 := hT.2.2.2.2.2.2.1
    have hTn : ((M t 1).toNat : Int) = M t 1 := Int.toNat_of_nonneg hT1.1
    have hTn6 : ((M t 6).toNat : Int) = M t 6 := Int.toNat_of_nonneg hT6.1
    have hsl : 0 ≤ M (t + 2) l ∧ M (t + 2) l ≤ 1 := (hT.2.2.2.2.2.2.2.1 l hl.1 hl.2).2
    have hsi : 0 ≤ M (t + 2) (i : Int) ∧ M (t + 2) (i : Int) ≤ 1 := (hT.2.2.2.2.2.2.2.1 (i : Int) (by omega) (by show (i : Int) < M t 1; omega)).2
    have hac := sp_ac_le (sp_tC M t) l i
    refine ms_iload dX4_findAcross_5 rfl ?_
    refine ms_aload_n dX4_findAcross_7 rfl ?_
    refine ms_getI (z := 1) dX4_findAcross_8 (fo_X4_40 rfl) (by first | rfl | assumption) rfl rfl ?_
    refine mi_icmp_ge (tgt := 47) dX4_findAcross_11 (by decide) (fun c_11 => ?_) (fun c_11 => ?_)
    · exact absurd c_11 (by omega)
    · refine ms_aload_n dX4_findAcross_14 rfl ?_
      refine ms_getR dX4_findAcross_15 (fo_X4_15 rfl) (by first | rfl | assumption) rfl (by first | assumption | exact rf_29_8 hR | exact rf_37_8 hR ) ?_
      refine ms_iload dX4_findAcross_18 rfl ?_
      refine ms_iald dX4_findAcross_20 (by first | rfl | assumption) ?_
      refine ms_aload_n dX4_findAcross_21 rfl ?_
      refine ms_getR dX4_findAcross_22 (fo_X4_15 rfl) (by first | rfl | assumption) rfl (by first | assumption | exact rf_29_8 hR | exact rf_37_8 hR ) ?_
      refine ms_iload_n dX4_findAcross_25 rfl ?_
      refine ms_iald dX4_findAcross_26 (by first | rfl | assumption) ?_
      refine mi_icmp_eq (tgt := 41) dX4_findAcross_27 (by decide) (fun c_27 => ?_) (fun c_27 => ?_)
      · refine mi_iinc dX4_findAcross_41 rfl (by decide) rfl ?_
        dsimp only [List.set, Nat.reduceAdd]
        refine ms_goto (tgt := 5) dX4_findAcross_44 (by decide) ?_
        have i9 := ih (i + 1) (by omega) (by simp only [sp_nth]; rw [if_neg (by rw [hq]; decide), if_neg (by rintro ⟨z, _⟩; exact z c_27)])
        rw [show sp_ac (sp_tC M t) l (i + 1) = sp_ac (sp_tC M t) l i from by simp only [sp_ac]; rw [if_pos c_27, Int.add_zero]] at i9
        exact i9
      · refine ms_iload_n dX4_findAcross_30 rfl ?_
        refine ms_iload_n dX4_findAcross_31 rfl ?_
        refine mi_icmp_ne (tgt := 38) dX4_findAcross_32 (by decide) (fun c_32 => ?_) (fun c_32 => ?_)
        · refine mi_iinc dX4_findAcross_38 rfl (by decide) rfl ?_
          dsimp only [List.set, Nat.reduceAdd]
          refine mi_iinc dX4_findAcross_41 rfl (by decide) rfl ?_
          dsimp only [List.set, Nat.reduceAdd]
          refine ms_goto (tgt := 5) dX4_findAcross_44 (by decide) ?_
          have i9 := ih (i + 1) (by omega) (by simp only [sp_nth]; rw [if_neg (by rw [hq]; decide), if_neg (by rintro ⟨_, z⟩; exact c_32 z)])
          rw [show sp_ac (sp_tC M t) l (i + 1) = sp_ac (sp_tC M t) l i + 1 from by simp only [sp_ac]; rw [if_neg c_27]] at i9
          exact i9
        · refine ms_iload dX4_findAcross_35 rfl ?_
          refine ms_ret dX4_findAcross_37 rfl ⟨rfl, by have h9 : sp_nth (sp_tC M t) l j (i + 1) = (i : Int) := (by simp only [sp_nth]; rw [if_neg (by rw [hq]; decide), if_pos ⟨c_27, c_32⟩]); rw [show (M t 1).toNat = (i + 1) + kk by omega, nth_stop (by rw [h9]; omega), h9]⟩ (by simp)

set_option maxHeartbeats 4000000 in
set_option maxRecDepth 100000 in
theorem k_X4_findAcross {S : mx_Sc} {f : Bool} {M : Nat → Int → Int} {L : Nat → Nat → Int64} {Rf : Nat → Nat → Option Nat} (hR : mx_rf Rf) {t : Nat} (ht : t = 29 ∨ t = 37) (hT : sp_tok (sp_tC M t)) {l : Int} (hl : 0 ≤ l ∧ l < M t 1) {j : Int} (hj : 0 ≤ j ∧ j < 40000) : mx_C S mX4_findAcross [.ref t, .int (iI l), .int (iI j)] (f, mx_SH, M, L, Rf) 0 0 (fun v9 h9 => h9 = (f, mx_SH, M, L, Rf) ∧ v9 = some (.int (iI (sp_nth (sp_tC M t) l j (M t 1).toNat)))) (fun _ _ => False) := by
  refine mx_C_of (by decide) (by simp [Value.category]) (Nat.le_of_ble_eq_true rfl) rfl ?_
  show mx_E S mX4_findAcross 0 [some (.ref t), some (.int (iI l)), some (.int (iI j)), none, none] [] (f, mx_SH, M, L, Rf) 0 0 _ _
  have ht9 : t < 900 := by omega
  have hs_t := tc_s ht
  have hs_t1 := tc_s1 ht
  have hr_t1 := tc_r1 hR ht
  have hs_t2 := tc_s2 ht
  have hr_t2 := tc_r2 hR ht
  have hs_t3 := tc_s3 ht
  have hr_t3 := tc_r3 hR ht
  have hs_t4 := tc_s4 ht
  have hr_t4 := tc_r4 hR ht
  have hs_t5 := tc_s5 ht
  have hr_t5 := tc_r5 hR ht
  have hs_t6 := tc_s6 ht
  have hr_t6 := tc_r6 hR ht
  have hs_t7 := tc_s7 ht
  have hr_t7 := tc_r7 hR ht
  have hT0 : 1 ≤ M t 0 ∧ M t 0 ≤ 30 := hT.1
  have hT1 : 0 ≤ M t 1 ∧ M t 1 ≤ 6 := hT.2.1
  have hT2 : 1 ≤ M t 2 ∧ M t 2 ≤ 9 := hT.2.2.1
  have hT3 : 0 ≤ M t 3 ∧ M t 3 ≤ 9 := hT.2.2.2.1
  have hT4 : 0 ≤ M t 4 ∧ M t 4 ≤ 9 := hT.2.2.2.2.1
  have hT5 : 1 ≤ M t 5 ∧ M t 5 ≤ 99 := hT.2.2.2.2.2.1
  have hT6 : 0 ≤ M t 6 ∧ M t 6 ≤ 10 := hT.2.2.2.2.2.2.1
  have hTn : ((M t 1).toNat : Int) = M t 1 := Int.toNat_of_nonneg hT1.1
  have hTn6 : ((M t 6).toNat : Int) = M t 6 := Int.toNat_of_nonneg hT6.1
  refine mi_iconst dX4_findAcross_0 ?_
  refine ms_istore_n dX4_findAcross_1 (by decide) rfl ?_
  dsimp only [List.set, Nat.reduceAdd]
  refine mi_iconst dX4_findAcross_2 ?_
  refine ms_istore dX4_findAcross_3 (by decide) rfl ?_
  dsimp only [List.set, Nat.reduceAdd]
  exact l_X4_fa hR ht hT hl hj (M t 1).toNat 0 (by omega) rfl

