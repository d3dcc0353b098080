set_option maxHeartbeats 4000000 in
set_option maxRecDepth 100000 in
theorem k_L_valley {S : mx_Sc} {M : Nat → Int → Int} {L : Nat → Nat → Int64} {Rf : Nat → Nat → Option Nat} {x1 : Int} {Pk : Option Value → mx_H → Prop} (hM : mx_C S mX6_valley [.ref 0, .int (iI x1)] (false, mx_SH, M, L, Rf) 0 0 Pk (fun _ _ => False)) (hP : ∀ v h9, Pk v h9 → ∃ N L2 Rf2, ∃ y : Int, h9 = (false, mx_SH, N, L2, Rf2) ∧ v = some (.int (iI (y)))) : mx_C S mL_valley [.ref 0, .int (iI x1), .ref 81] (false, mx_SH, M, L, Rf) 0 0 (fun v9 h9 => ∃ N L2 Rf2, ∃ y : Int, Pk (some (.int (iI (y)))) (false, mx_SH, N, L2, Rf2) ∧ h9 = (false, mx_SH, N, va_up L2 81 (va_up (L2 81) 0 (iI y).toInt64), Rf2) ∧ v9 = some (.int (iI 0))) (fun _ _ => False) := by
  refine mx_C_ofH (by decide) (by simp [Value.category]) (Nat.le_of_ble_eq_true rfl) (by decide) ?_
  show mx_E S mL_valley 0 [some (.ref 0), some (.int (iI x1)), some (.ref 81), none] [] (false, mx_SH, M, L, Rf) 0 0 _ _
  refine ms_aload_n dL_valley_0 rfl ?_
  refine mi_iconst dL_valley_1 ?_
  refine ms_aload_n dL_valley_2 rfl ?_
  refine ms_iload_n dL_valley_3 rfl ?_
  refine ms_callVN (ci := 6) (r := (RX6, TX6, 15)) (As := [.int (iI x1)]) dL_valley_4 cv_L_valley_X6_valley hM rfl rfl rfl rfl rfl (Nat.le_of_ble_eq_true rfl) (fun v9 h9 hp9 => ?_)
  obtain ⟨N, L2, Rf2, y, rfl, rfl⟩ := hP v9 h9 hp9
  refine ms_i2l dL_valley_7 ?_
  refine ms_last dL_valley_8 (by first | rfl | assumption) ?_
  refine ms_goto (tgt := 15) dL_valley_9 (by decide) ?_
  refine mi_iconst dL_valley_15 ?_
  refine ms_ret dL_valley_16 rfl ⟨N, L2, Rf2, y, hp9, rfl, rfl⟩ (by simp)
set_option maxHeartbeats 4000000 in
set_option maxRecDepth 100000 in
theorem k_L_valley_x {S : mx_Sc} {M : Nat → Int → Int} {L : Nat → Nat → Int64} {Rf : Nat → Nat → Option Nat} {x1 : Int} (hM : mx_C S mX6_valley [.ref 0, .int (iI x1)] (false, mx_SH, M, L, Rf) 1 6 (fun _ _ => False) (fun e9 h9 => e9 = "java/lang/IllegalArgumentException" ∧ h9 = (false, mx_SH, M, L, Rf))) : mx_C S mL_valley [.ref 0, .int (iI x1), .ref 81] (false, mx_SH, M, L, Rf) 1 6 (fun v9 h9 => h9 = (false, mx_SH, M, L, Rf) ∧ v9 = some (.int (iI 1))) (fun _ _ => False) := by
  refine mx_C_ofH (by decide) (by simp [Value.category]) (Nat.le_of_ble_eq_true rfl) (by decide) ?_
  show mx_E S mL_valley 0 [some (.ref 0), some (.int (iI x1)), some (.ref 81), none] [] (false, mx_SH, M, L, Rf) 1 6 _ _
  refine ms_aload_n dL_valley_0 rfl ?_
  refine mi_iconst dL_valley_1 ?_
  refine ms_aload_n dL_valley_2 rfl ?_
  refine ms_iload_n dL_valley_3 rfl ?_
  refine ms_callC (bc := 0) (bs := 0) (ci := 6) (r := (RX6, TX6, 15)) (As := [.int (iI x1)]) dL_valley_4 cv_L_valley_X6_valley hM rfl rfl rfl rfl rfl (Nat.le_of_ble_eq_true rfl) rfl (fun e9 h9 hp9 => ?_)
  obtain ⟨rfl, rfl⟩ := hp9
  exact ⟨12, 1, ⟨[], _, _, "java/lang/IllegalArgumentException", rfl, (fun z hz => by cases hz), rfl, by decide, rfl, wq_422, wq_429⟩, Or.inl ⟨3, dL_valley_12, by decide, dL_valley_13, dL_valley_14⟩, rfl, rfl, rfl⟩
set_option maxHeartbeats 4000000 in
set_option maxRecDepth 100000 in
theorem k_L_count {S : mx_Sc} {M : Nat → Int → Int} {L : Nat → Nat → Int64} {Rf : Nat → Nat → Option Nat} {x1 : Int} {Pk : Option Value → mx_H → Prop} (hM : mx_C S mX6_count [.ref 0, .int (iI x1)] (false, mx_SH, M, L, Rf) 0 0 Pk (fun _ _ => False)) (hP : ∀ v h9, Pk v h9 → ∃ N L2 Rf2, ∃ y : Int, h9 = (false, mx_SH, N, L2, Rf2) ∧ v = some (.int (iI (y)))) : mx_C S mL_count [.ref 0, .int (iI x1), .ref 81] (false, mx_SH, M, L, Rf) 0 0 (fun v9 h9 => ∃ N L2 Rf2, ∃ y : Int, Pk (some (.int (iI (y)))) (false, mx_SH, N, L2, Rf2) ∧ h9 = (false, mx_SH, N, va_up L2 81 (va_up (L2 81) 0 (iI y).toInt64), Rf2) ∧ v9 = some (.int (iI 0))) (fun _ _ => False) := by
  refine mx_C_ofH (by decide) (by simp [Value.category]) (Nat.le_of_ble_eq_true rfl) (by decide) ?_
  show mx_E S mL_count 0 [some (.ref 0), some (.int (iI x1)), some (.ref 81), none] [] (false, mx_SH, M, L, Rf) 0 0 _ _
  refine ms_aload_n dL_count_0 rfl ?_
  refine mi_iconst dL_count_1 ?_
  refine ms_aload_n dL_count_2 rfl ?_
  refine ms_iload_n dL_count_3 rfl ?_
  refine ms_callVN (ci := 6) (r := (RX6, TX6, 15)) (As := [.int (iI x1)]) dL_count_4 cv_L_count_X6_count hM rfl rfl rfl rfl rfl (Nat.le_of_ble_eq_true rfl) (fun v9 h9 hp9 => ?_)
  obtain ⟨N, L2, Rf2, y, rfl, rfl⟩ := hP v9 h9 hp9
  refine ms_i2l dL_count_7 ?_
  refine ms_last dL_count_8 (by first | rfl | assumption) ?_
  refine ms_goto (tgt := 15) dL_count_9 (by decide) ?_
  refine mi_iconst dL_count_15 ?_
  refine ms_ret dL_count_16 rfl ⟨N, L2, Rf2, y, hp9, rfl, rfl⟩ (by simp)
set_option maxHeartbeats 4000000 in
set_option maxRecDepth 100000 in
theorem k_L_count_x {S : mx_Sc} {M : Nat → Int → Int} {L : Nat → Nat → Int64} {Rf : Nat → Nat → Option Nat} {x1 : Int} (hM : mx_C S mX6_count [.ref 0, .int (iI x1)] (false, mx_SH, M, L, Rf) 1 6 (fun _ _ => False) (fun e9 h9 => e9 = "java/util/NoSuchElementException" ∧ h9 = (false, mx_SH, M, L, Rf))) : mx_C S mL_count [.ref 0, .int (iI x1), .ref 81] (false, mx_SH, M, L, Rf) 1 6 (fun v9 h9 => h9 = (false, mx_SH, M, L, Rf) ∧ v9 = some (.int (iI 1))) (fun _ _ => False) := by
  refine mx_C_ofH (by decide) (by simp [Value.category]) (Nat.le_of_ble_eq_true rfl) (by decide) ?_
  show mx_E S mL_count 0 [some (.ref 0), some (.int (iI x1)), some (.ref 81), none] [] (false, mx_SH, M, L, Rf) 1 6 _ _
  refine ms_aload_n dL_count_0 rfl ?_
  refine mi_iconst dL_count_1 ?_
  refine ms_aload_n dL_count_2 rfl ?_
  refine ms_iload_n dL_count_3 rfl ?_
  refine ms_callC (bc := 0) (bs := 0) (ci := 6) (r := (RX6, TX6, 15)) (As := [.int (iI x1)]) dL_count_4 cv_L_count_X6_count hM rfl rfl rfl rfl rfl (Nat.le_of_ble_eq_true rfl) rfl (fun e9 h9 hp9 => ?_)
  obtain ⟨rfl, rfl⟩ := hp9
  exact ⟨12, 1, ⟨[], _, _, "java/util/NoSuchElementException", rfl, (fun z hz => by cases hz), rfl, by decide, rfl, wq_610, wq_617⟩, Or.inl ⟨3, dL_count_12, by decide, dL_count_13, dL_count_14⟩, rfl, rfl, rfl⟩
set_option maxHeartbeats 4000000 in
set_option maxRecDepth 100000 in
theorem k_L_lamp {S : mx_Sc} {M : Nat → Int → Int} {L : Nat → Nat → Int64} {Rf : Nat → Nat → Option Nat} {x1 x2 : Int} {Pk : Option Value → mx_H → Prop} (hM : mx_C S mX6_lamp [.ref 0, .int (iI x1), .int (iI x2)] (false, mx_SH, M, L, Rf) 0 0 Pk (fun _ _ => False)) (hP : ∀ v h9, Pk v h9 → ∃ N L2 Rf2, ∃ y : Int, h9 = (false, mx_SH, N, L2, Rf2) ∧ v = some (.int (iI (y)))) : mx_C S mL_lamp [.ref 0, .int (iI x1), .int (iI x2), .ref 81] (false, mx_SH, M, L, Rf) 0 0 (fun v9 h9 => ∃ N L2 Rf2, ∃ y : Int, Pk (some (.int (iI (y)))) (false, mx_SH, N, L2, Rf2) ∧ h9 = (false, mx_SH, N, va_up L2 81 (va_up (L2 81) 0 (iI y).toInt64), Rf2) ∧ v9 = some (.int (iI 0))) (fun _ _ => False) := by
  refine mx_C_ofH (by decide) (by simp [Value.category]) (Nat.le_of_ble_eq_true rfl) (by decide) ?_
  show mx_E S mL_lamp 0 [some (.ref 0), some (.int (iI x1)), some (.int (iI x2)), some (.ref 81), none] [] (false, mx_SH, M, L, Rf) 0 0 _ _
  refine ms_aload_n dL_lamp_0 rfl ?_
  refine mi_iconst dL_lamp_1 ?_
  refine ms_aload_n dL_lamp_2 rfl ?_
  refine ms_iload_n dL_lamp_3 rfl ?_
  refine ms_iload_n dL_lamp_4 rfl ?_
  refine ms_callVN (ci := 6) (r := (RX6, TX6, 15)) (As := [.int (iI x1), .int (iI x2)]) dL_lamp_5 cv_L_lamp_X6_lamp hM rfl rfl rfl rfl rfl (Nat.le_of_ble_eq_true rfl) (fun v9 h9 hp9 => ?_)
  obtain ⟨N, L2, Rf2, y, rfl, rfl⟩ := hP v9 h9 hp9
  refine ms_i2l dL_lamp_8 ?_
  refine ms_last dL_lamp_9 (by first | rfl | assumption) ?_
  refine ms_goto (tgt := 17) dL_lamp_10 (by decide) ?_
  refine mi_iconst dL_lamp_17 ?_
  refine ms_ret dL_lamp_18 rfl ⟨N, L2, Rf2, y, hp9, rfl, rfl⟩ (by simp)
set_option maxHeartbeats 4000000 in
set_option maxRecDepth 100000 in
theorem k_L_lamp_x {S : mx_Sc} {M : Nat → Int → Int} {L : Nat → Nat → Int64} {Rf : Nat → Nat → Option Nat} {x1 x2 : Int} (hM : mx_C S mX6_lamp [.ref 0, .int (iI x1), .int (iI x2)] (false, mx_SH, M, L, Rf) 1 6 (fun _ _ => False) (fun e9 h9 => e9 = "java/util/NoSuchElementException" ∧ h9 = (false, mx_SH, M, L, Rf))) : mx_C S mL_lamp [.ref 0, .int (iI x1), .int (iI x2), .ref 81] (false, mx_SH, M, L, Rf) 1 6 (fun v9 h9 => h9 = (false, mx_SH, M, L, Rf) ∧ v9 = some (.int (iI 1))) (fun _ _ => False) := by
  refine mx_C_ofH (by decide) (by simp [Value.category]) (Nat.le_of_ble_eq_true rfl) (by decide) ?_
  show mx_E S mL_lamp 0 [some (.ref 0), some (.int (iI x1)), some (.int (iI x2)), some (.ref 81), none] [] (false, mx_SH, M, L, Rf) 1 6 _ _
  refine ms_aload_n dL_lamp_0 rfl ?_
  refine mi_iconst dL_lamp_1 ?_
  refine ms_aload_n dL_lamp_2 rfl ?_
  refine ms_iload_n dL_lamp_3 rfl ?_
  refine ms_iload_n dL_lamp_4 rfl ?_
  refine ms_callC (bc := 0) (bs := 0) (ci := 6) (r := (RX6, TX6, 15)) (As := [.int (iI x1), .int (iI x2)]) dL_lamp_5 cv_L_lamp_X6_lamp hM rfl rfl rfl rfl rfl (Nat.le_of_ble_eq_true rfl) rfl (fun e9 h9 hp9 => ?_)
  obtain ⟨rfl, rfl⟩ := hp9
  exact ⟨13, 1, ⟨[], _, _, "java/util/NoSuchElementException", rfl, (fun z hz => by cases hz), rfl, by decide, rfl, wq_610, wq_617⟩, Or.inr ⟨4, dL_lamp_13, by decide, dL_lamp_15, dL_lamp_16⟩, rfl, rfl, rfl⟩
set_option maxHeartbeats 4000000 in
set_option maxRecDepth 100000 in
theorem k_L_far {S : mx_Sc} {M : Nat → Int → Int} {L : Nat → Nat → Int64} {Rf : Nat → Nat → Option Nat} {x1 x2 : Int} {Pk : Option Value → mx_H → Prop} (hM : mx_C S mX6_far [.ref 0, .int (iI x1), .int (iI x2)] (false, mx_SH, M, L, Rf) 0 0 Pk (fun _ _ => False)) (hP : ∀ v h9, Pk v h9 → ∃ N L2 Rf2, ∃ y : Int, h9 = (false, mx_SH, N, L2, Rf2) ∧ v = some (.int (iI (y)))) : mx_C S mL_far [.ref 0, .int (iI x1), .int (iI x2), .ref 81] (false, mx_SH, M, L, Rf) 0 0 (fun v9 h9 => ∃ N L2 Rf2, ∃ y : Int, Pk (some (.int (iI (y)))) (false, mx_SH, N, L2, Rf2) ∧ h9 = (false, mx_SH, N, va_up L2 81 (va_up (L2 81) 0 (iI y).toInt64), Rf2) ∧ v9 = some (.int (iI 0))) (fun _ _ => False) := by
  refine mx_C_ofH (by decide) (by simp [Value.category]) (Nat.le_of_ble_eq_true rfl) (by decide) ?_
  show mx_E S mL_far 0 [some (.ref 0), some (.int (iI x1)), some (.int (iI x2)), some (.ref 81), none] [] (false, mx_SH, M, L, Rf) 0 0 _ _
  refine ms_aload_n dL_far_0 rfl ?_
  refine mi_iconst dL_far_1 ?_
  refine ms_aload_n dL_far_2 rfl ?_
  refine ms_iload_n dL_far_3 rfl ?_
  refine ms_iload_n dL_far_4 rfl ?_
  refine ms_callVN (ci := 6) (r := (RX6, TX6, 15)) (As := [.int (iI x1), .int (iI x2)]) dL_far_5 cv_L_far_X6_far hM rfl rfl rfl rfl rfl (Nat.le_of_ble_eq_true rfl) (fun v9 h9 hp9 => ?_)
  obtain ⟨N, L2, Rf2, y, rfl, rfl⟩ := hP v9 h9 hp9
  refine ms_i2l dL_far_8 ?_
  refine ms_last dL_far_9 (by first | rfl | assumption) ?_
  refine ms_goto (tgt := 17) dL_far_10 (by decide) ?_
  refine mi_iconst dL_far_17 ?_
  refine ms_ret dL_far_18 rfl ⟨N, L2, Rf2, y, hp9, rfl, rfl⟩ (by simp)
set_option maxHeartbeats 4000000 in
set_option maxRecDepth 100000 in
theorem k_L_far_x {S : mx_Sc} {M : Nat → Int → Int} {L : Nat → Nat → Int64} {Rf : Nat → Nat → Option Nat} {x1 x2 : Int} (hM : mx_C S mX6_far [.ref 0, .int (iI x1), .int (iI x2)] (false, mx_SH, M, L, Rf) 1 6 (fun _ _ => False) (fun e9 h9 => e9 = "java/util/NoSuchElementException" ∧ h9 = (false, mx_SH, M, L, Rf))) : mx_C S mL_far [.ref 0, .int (iI x1), .int (iI x2), .ref 81] (false, mx_SH, M, L, Rf) 1 6 (fun v9 h9 => h9 = (false, mx_SH, M, L, Rf) ∧ v9 = some (.int (iI 1))) (fun _ _ => False) := by
  refine mx_C_ofH (by decide) (by simp [Value.category]) (Nat.le_of_ble_eq_true rfl) (by decide) ?_
  show mx_E S mL_far 0 [some (.ref 0), some (.int (iI x1)), some (.int (iI x2)), some (.ref 81), none] [] (false, mx_SH, M, L, Rf) 1 6 _ _
  refine ms_aload_n dL_far_0 rfl ?_
  refine mi_iconst dL_far_1 ?_
  refine ms_aload_n dL_far_2 rfl ?_
  refine ms_iload_n dL_far_3 rfl ?_
  refine ms_iload_n dL_far_4 rfl ?_
  refine ms_callC (bc := 0) (bs := 0) (ci := 6) (r := (RX6, TX6, 15)) (As := [.int (iI x1), .int (iI x2)]) dL_far_5 cv_L_far_X6_far hM rfl rfl rfl rfl rfl (Nat.le_of_ble_eq_true rfl) rfl (fun e9 h9 hp9 => ?_)
  obtain ⟨rfl, rfl⟩ := hp9
  exact ⟨13, 1, ⟨[], _, _, "java/util/NoSuchElementException", rfl, (fun z hz => by cases hz), rfl, by decide, rfl, wq_610, wq_617⟩, Or.inr ⟨4, dL_far_13, by decide, dL_far_15, dL_far_16⟩, rfl, rfl, rfl⟩
set_option maxHeartbeats 4000000 in
set_option maxRecDepth 100000 in
theorem k_L_nights {S : mx_Sc} {M : Nat → Int → Int} {L : Nat → Nat → Int64} {Rf : Nat → Nat → Option Nat} {x1 : Int} {Pk : Option Value → mx_H → Prop} (hM : mx_C S mX6_nights [.ref 0, .int (iI x1)] (false, mx_SH, M, L, Rf) 0 0 Pk (fun _ _ => False)) (hP : ∀ v h9, Pk v h9 → ∃ N L2 Rf2, ∃ y : Int, h9 = (false, mx_SH, N, L2, Rf2) ∧ v = some (.int (iI (y)))) : mx_C S mL_nights [.ref 0, .int (iI x1), .ref 81] (false, mx_SH, M, L, Rf) 0 0 (fun v9 h9 => ∃ N L2 Rf2, ∃ y : Int, Pk (some (.int (iI (y)))) (false, mx_SH, N, L2, Rf2) ∧ h9 = (false, mx_SH, N, va_up L2 81 (va_up (L2 81) 0 (iI y).toInt64), Rf2) ∧ v9 = some (.int (iI 0))) (fun _ _ => False) := by
  refine mx_C_ofH (by decide) (by simp [Value.category]) (Nat.le_of_ble_eq_true rfl) (by decide) ?_
  show mx_E S mL_nights 0 [some (.ref 0), some (.int (iI x1)), some (.ref 81), none] [] (false, mx_SH, M, L, Rf) 0 0 _ _
  refine ms_aload_n dL_nights_0 rfl ?_
  refine mi_iconst dL_nights_1 ?_
  refine ms_aload_n dL_nights_2 rfl ?_
  refine ms_iload_n dL_nights_3 rfl ?_
  refine ms_callVN (ci := 6) (r := (RX6, TX6, 15)) (As := [.int (iI x1)]) dL_nights_4 cv_L_nights_X6_nights hM rfl rfl rfl rfl rfl (Nat.le_of_ble_eq_true rfl) (fun v9 h9 hp9 => ?_)
  obtain ⟨N, L2, Rf2, y, rfl, rfl⟩ := hP v9 h9 hp9
  refine ms_i2l dL_nights_7 ?_
  refine ms_last dL_nights_8 (by first | rfl | assumption) ?_
  refine ms_goto (tgt := 15) dL_nights_9 (by decide) ?_
  refine mi_iconst dL_nights_15 ?_
  refine ms_ret dL_nights_16 rfl ⟨N, L2, Rf2, y, hp9, rfl, rfl⟩ (by simp)
set_option maxHeartbeats 4000000 in
set_option maxRecDepth 100000 in
theorem k_L_nights_x {S : mx_Sc} {M : Nat → Int → Int} {L : Nat → Nat → Int64} {Rf : Nat → Nat → Option Nat} {x1 : Int} (hM : mx_C S mX6_nights [.ref 0, .int (iI x1)] (false, mx_SH, M, L, Rf) 1 6 (fun _ _ => False) (fun e9 h9 => e9 = "java/lang/IllegalArgumentException" ∧ h9 = (false, mx_SH, M, L, Rf))) : mx_C S mL_nights [.ref 0, .int (iI x1), .ref 81] (false, mx_SH, M, L, Rf) 1 6 (fun v9 h9 => h9 = (false, mx_SH, M, L, Rf) ∧ v9 = some (.int (iI 1))) (fun _ _ => False) := by
  refine mx_C_ofH (by decide) (by simp [Value.category]) (Nat.le_of_ble_eq_true rfl) (by decide) ?_
  show mx_E S mL_nights 0 [some (.ref 0), some (.int (iI x1)), some (.ref 81), none] [] (false, mx_SH, M, L, Rf) 1 6 _ _
  refine ms_aload_n dL_nights_0 rfl ?_
  refine mi_iconst dL_nights_1 ?_
  refine ms_aload_n dL_nights_2 rfl ?_
  refine ms_iload_n dL_nights_3 rfl ?_
  refine ms_callC (bc := 0) (bs := 0) (ci := 6) (r := (RX6, TX6, 15)) (As := [.int (iI x1)]) dL_nights_4 cv_L_nights_X6_nights hM rfl rfl rfl rfl rfl (Nat.le_of_ble_eq_true rfl) rfl (fun e9 h9 hp9 => ?_)
  obtain ⟨rfl, rfl⟩ := hp9
  exact ⟨12, 1, ⟨[], _, _, "java/lang/IllegalArgumentException", rfl, (fun z hz => by cases hz), rfl, by decide, rfl, wq_422, wq_429⟩, Or.inl ⟨3, dL_nights_12, by decide, dL_nights_13, dL_nights_14⟩, rfl, rfl, rfl⟩
set_option maxHeartbeats 4000000 in
set_option maxRecDepth 100000 in
theorem k_L_undo {S : mx_Sc} {M : Nat → Int → Int} {L : Nat → Nat → Int64} {Rf : Nat → Nat → Option Nat} {x1 : Int} {Pk : Option Value → mx_H → Prop} (hM : mx_C S mX6_undo [.ref 0, .int (iI x1)] (false, mx_SH, M, L, Rf) 0 0 Pk (fun _ _ => False)) (hP : ∀ v h9, Pk v h9 → ∃ N L2 Rf2, ∃ y : Int, h9 = (false, mx_SH, N, L2, Rf2) ∧ v = some (.int (iI (y)))) : mx_C S mL_undo [.ref 0, .int (iI x1), .ref 81] (false, mx_SH, M, L, Rf) 0 0 (fun v9 h9 => ∃ N L2 Rf2, ∃ y : Int, Pk (some (.int (iI (y)))) (false, mx_SH, N, L2, Rf2) ∧ h9 = (false, mx_SH, N, va_up L2 81 (va_up (L2 81) 0 (iI y).toInt64), Rf2) ∧ v9 = some (.int (iI 0))) (fun _ _ => False) := by
  refine mx_C_ofH (by decide) (by simp [Value.category]) (Nat.le_of_ble_eq_true rfl) (by decide) ?_
  show mx_E S mL_undo 0 [some (.ref 0), some (.int (iI x1)), some (.ref 81), none] [] (false, mx_SH, M, L, Rf) 0 0 _ _
  refine ms_aload_n dL_undo_0 rfl ?_
  refine mi_iconst dL_undo_1 ?_
  refine ms_aload_n dL_undo_2 rfl ?_
  refine ms_iload_n dL_undo_3 rfl ?_
  refine ms_callVN (ci := 6) (r := (RX6, TX6, 15)) (As := [.int (iI x1)]) dL_undo_4 cv_L_undo_X6_undo hM rfl rfl rfl rfl rfl (Nat.le_of_ble_eq_true rfl) (fun v9 h9 hp9 => ?_)
  obtain ⟨N, L2, Rf2, y, rfl, rfl⟩ := hP v9 h9 hp9
  refine ms_i2l dL_undo_7 ?_
  refine ms_last dL_undo_8 (by first | rfl | assumption) ?_
  refine ms_goto (tgt := 15) dL_undo_9 (by decide) ?_
  refine mi_iconst dL_undo_15 ?_
  refine ms_ret dL_undo_16 rfl ⟨N, L2, Rf2, y, hp9, rfl, rfl⟩ (by simp)
set_option maxHeartbeats 4000000 in
set_option maxRecDepth 100000 in
theorem k_L_undo_x {S : mx_Sc} {M : Nat → Int → Int} {L : Nat → Nat → Int64} {Rf : Nat → Nat → Option Nat} {x1 : Int} (hM : mx_C S mX6_undo [.ref 0, .int (iI x1)] (false, mx_SH, M, L, Rf) 1 6 (fun _ _ => False) (fun e9 h9 => e9 = "java/lang/IllegalArgumentException" ∧ h9 = (false, mx_SH, M, L, Rf))) : mx_C S mL_undo [.ref 0, .int (iI x1), .ref 81] (false, mx_SH, M, L, Rf) 1 6 (fun v9 h9 => h9 = (false, mx_SH, M, L, Rf) ∧ v9 = some (.int (iI 1))) (fun _ _ => False) := by
  refine mx_C_ofH (by decide) (by simp [Value.category]) (Nat.le_of_ble_eq_true rfl) (by decide) ?_
  show mx_E S mL_undo 0 [some (.ref 0), some (.int (iI x1)), some (.ref 81), none] [] (false, mx_SH, M, L, Rf) 1 6 _ _
  refine ms_aload_n dL_undo_0 rfl ?_
  refine mi_iconst dL_undo_1 ?_
  refine ms_aload_n dL_undo_2 rfl ?_
  refine ms_iload_n dL_undo_3 rfl ?_
  refine ms_callC (bc := 0) (bs := 0) (ci := 6) (r := (RX6, TX6, 15)) (As := [.int (iI x1)]) dL_undo_4 cv_L_undo_X6_undo hM rfl rfl rfl rfl rfl (Nat.le_of_ble_eq_true rfl) rfl (fun e9 h9 hp9 => ?_)
  obtain ⟨rfl, rfl⟩ := hp9
  exact ⟨12, 1, ⟨[], _, _, "java/lang/IllegalArgumentException", rfl, (fun z hz => by cases hz), rfl, by decide, rfl, wq_422, wq_429⟩, Or.inl ⟨3, dL_undo_12, by decide, dL_undo_13, dL_undo_14⟩, rfl, rfl, rfl⟩
set_option maxHeartbeats 4000000 in
set_option maxRecDepth 100000 in
theorem k_L_book {S : mx_Sc} {M : Nat → Int → Int} {L : Nat → Nat → Int64} {Rf : Nat → Nat → Option Nat} {x1 x2 x3 : Int} {Pk : Option Value → mx_H → Prop} (hM : mx_C S mX6_book [.ref 0, .int (iI x1), .int (iI x2), .int (iI x3)] (false, mx_SH, M, L, Rf) 0 0 Pk (fun _ _ => False)) (hP : ∀ v h9, Pk v h9 → ∃ N L2 Rf2, ∃ y : Int, h9 = (false, mx_SH, N, L2, Rf2) ∧ v = some (.int (iI (y)))) : mx_C S mL_book [.ref 0, .int (iI x1), .int (iI x2), .int (iI x3), .ref 81] (false, mx_SH, M, L, Rf) 0 0 (fun v9 h9 => ∃ N L2 Rf2, ∃ y : Int, Pk (some (.int (iI (y)))) (false, mx_SH, N, L2, Rf2) ∧ h9 = (false, mx_SH, N, va_up L2 81 (va_up (L2 81) 0 (iI y).toInt64), Rf2) ∧ v9 = some (.int (iI 0))) (fun _ _ => False) := by
  refine mx_C_ofH (by decide) (by simp [Value.category]) (Nat.le_of_ble_eq_true rfl) (by decide) ?_
  show mx_E S mL_book 0 [some (.ref 0), some (.int (iI x1)), some (.int (iI x2)), some (.int (iI x3)), some (.ref 81), none] [] (false, mx_SH, M, L, Rf) 0 0 _ _
  refine ms_aload dL_book_0 rfl ?_
  refine mi_iconst dL_book_2 ?_
  refine ms_aload_n dL_book_3 rfl ?_
  refine ms_iload_n dL_book_4 rfl ?_
  refine ms_iload_n dL_book_5 rfl ?_
  refine ms_iload_n dL_book_6 rfl ?_
  refine ms_callVN (ci := 6) (r := (RX6, TX6, 15)) (As := [.int (iI x1), .int (iI x2), .int (iI x3)]) dL_book_7 cv_L_book_X6_book hM rfl rfl rfl rfl rfl (Nat.le_of_ble_eq_true rfl) (fun v9 h9 hp9 => ?_)
  obtain ⟨N, L2, Rf2, y, rfl, rfl⟩ := hP v9 h9 hp9
  refine ms_i2l dL_book_10 ?_
  refine ms_last dL_book_11 (by first | rfl | assumption) ?_
  refine ms_goto (tgt := 19) dL_book_12 (by decide) ?_
  refine mi_iconst dL_book_19 ?_
  refine ms_ret dL_book_20 rfl ⟨N, L2, Rf2, y, hp9, rfl, rfl⟩ (by simp)
set_option maxHeartbeats 4000000 in
set_option maxRecDepth 100000 in
theorem k_L_book_x {S : mx_Sc} {M : Nat → Int → Int} {L : Nat → Nat → Int64} {Rf : Nat → Nat → Option Nat} {x1 x2 x3 : Int} (hM : mx_C S mX6_book [.ref 0, .int (iI x1), .int (iI x2), .int (iI x3)] (false, mx_SH, M, L, Rf) 1 6 (fun _ _ => False) (fun e9 h9 => e9 = "java/util/NoSuchElementException" ∧ h9 = (false, mx_SH, M, L, Rf))) : mx_C S mL_book [.ref 0, .int (iI x1), .int (iI x2), .int (iI x3), .ref 81] (false, mx_SH, M, L, Rf) 1 6 (fun v9 h9 => h9 = (false, mx_SH, M, L, Rf) ∧ v9 = some (.int (iI 1))) (fun _ _ => False) := by
  refine mx_C_ofH (by decide) (by simp [Value.category]) (Nat.le_of_ble_eq_true rfl) (by decide) ?_
  show mx_E S mL_book 0 [some (.ref 0), some (.int (iI x1)), some (.int (iI x2)), some (.int (iI x3)), some (.ref 81), none] [] (false, mx_SH, M, L, Rf) 1 6 _ _
  refine ms_aload dL_book_0 rfl ?_
  refine mi_iconst dL_book_2 ?_
  refine ms_aload_n dL_book_3 rfl ?_
  refine ms_iload_n dL_book_4 rfl ?_
  refine ms_iload_n dL_book_5 rfl ?_
  refine ms_iload_n dL_book_6 rfl ?_
  refine ms_callC (bc := 0) (bs := 0) (ci := 6) (r := (RX6, TX6, 15)) (As := [.int (iI x1), .int (iI x2), .int (iI x3)]) dL_book_7 cv_L_book_X6_book hM rfl rfl rfl rfl rfl (Nat.le_of_ble_eq_true rfl) rfl (fun e9 h9 hp9 => ?_)
  obtain ⟨rfl, rfl⟩ := hp9
  exact ⟨15, 1, ⟨[], _, _, "java/util/NoSuchElementException", rfl, (fun z hz => by cases hz), rfl, by decide, rfl, wq_610, wq_617⟩, Or.inr ⟨5, dL_book_15, by decide, dL_book_17, dL_book_18⟩, rfl, rfl, rfl⟩
set_option maxHeartbeats 4000000 in
set_option maxRecDepth 100000 in
theorem k_L_drop {S : mx_Sc} {M : Nat → Int → Int} {L : Nat → Nat → Int64} {Rf : Nat → Nat → Option Nat} {x1 x2 x3 : Int} {Pk : Option Value → mx_H → Prop} (hM : mx_C S mX6_drop [.ref 0, .int (iI x1), .int (iI x2), .int (iI x3)] (false, mx_SH, M, L, Rf) 0 0 Pk (fun _ _ => False)) (hP : ∀ v h9, Pk v h9 → ∃ N L2 Rf2, ∃ y : Bool, h9 = (false, mx_SH, N, L2, Rf2) ∧ v = some (.int (iI (bI y)))) : mx_C S mL_drop [.ref 0, .int (iI x1), .int (iI x2), .int (iI x3), .ref 81] (false, mx_SH, M, L, Rf) 0 0 (fun v9 h9 => ∃ N L2 Rf2, ∃ y : Bool, Pk (some (.int (iI (bI y)))) (false, mx_SH, N, L2, Rf2) ∧ h9 = (false, mx_SH, N, va_up L2 81 (va_up (L2 81) 0 (if y = true then (1 : Int64) else 0)), Rf2) ∧ v9 = some (.int (iI 0))) (fun _ _ => False) := by
  refine mx_C_ofH (by decide) (by simp [Value.category]) (Nat.le_of_ble_eq_true rfl) (by decide) ?_
  show mx_E S mL_drop 0 [some (.ref 0), some (.int (iI x1)), some (.int (iI x2)), some (.int (iI x3)), some (.ref 81), none] [] (false, mx_SH, M, L, Rf) 0 0 _ _
  refine ms_aload dL_drop_0 rfl ?_
  refine mi_iconst dL_drop_2 ?_
  refine ms_aload_n dL_drop_3 rfl ?_
  refine ms_iload_n dL_drop_4 rfl ?_
  refine ms_iload_n dL_drop_5 rfl ?_
  refine ms_iload_n dL_drop_6 rfl ?_
  refine ms_callVN (ci := 6) (r := (RX6, TX6, 15)) (As := [.int (iI x1), .int (iI x2), .int (iI x3)]) dL_drop_7 cv_L_drop_X6_drop hM rfl rfl rfl rfl rfl (Nat.le_of_ble_eq_true rfl) (fun v9 h9 hp9 => ?_)
  obtain ⟨N, L2, Rf2, y, rfl, rfl⟩ := hP v9 h9 hp9
  refine mi_if_eqB (tgt := 17) dL_drop_10 (by decide) (fun c_10 => ?_) (fun c_10 => ?_)
  · refine ms_lconst dL_drop_17 rfl ?_
    refine ms_last dL_drop_18 (by first | rfl | assumption) ?_
    refine ms_goto (tgt := 26) dL_drop_19 (by decide) ?_
    refine mi_iconst dL_drop_26 ?_
    refine ms_ret dL_drop_27 rfl ⟨N, L2, Rf2, y, hp9, by first | (rw [if_pos c_10]; rfl) | (rw [if_neg (by rw [c_10]; decide)]; rfl), rfl⟩ (by simp)
  · refine ms_lconst dL_drop_13 rfl ?_
    refine ms_goto (tgt := 18) dL_drop_14 (by decide) ?_
    refine ms_last dL_drop_18 (by first | rfl | assumption) ?_
    refine ms_goto (tgt := 26) dL_drop_19 (by decide) ?_
    refine mi_iconst dL_drop_26 ?_
    refine ms_ret dL_drop_27 rfl ⟨N, L2, Rf2, y, hp9, by first | (rw [if_pos c_10]; rfl) | (rw [if_neg (by rw [c_10]; decide)]; rfl), rfl⟩ (by simp)
set_option maxHeartbeats 4000000 in
set_option maxRecDepth 100000 in
theorem k_L_drop_x {S : mx_Sc} {M : Nat → Int → Int} {L : Nat → Nat → Int64} {Rf : Nat → Nat → Option Nat} {x1 x2 x3 : Int} (hM : mx_C S mX6_drop [.ref 0, .int (iI x1), .int (iI x2), .int (iI x3)] (false, mx_SH, M, L, Rf) 1 6 (fun _ _ => False) (fun e9 h9 => e9 = "java/util/NoSuchElementException" ∧ h9 = (false, mx_SH, M, L, Rf))) : mx_C S mL_drop [.ref 0, .int (iI x1), .int (iI x2), .int (iI x3), .ref 81] (false, mx_SH, M, L, Rf) 1 6 (fun v9 h9 => h9 = (false, mx_SH, M, L, Rf) ∧ v9 = some (.int (iI 1))) (fun _ _ => False) := by
  refine mx_C_ofH (by decide) (by simp [Value.category]) (Nat.le_of_ble_eq_true rfl) (by decide) ?_
  show mx_E S mL_drop 0 [some (.ref 0), some (.int (iI x1)), some (.int (iI x2)), some (.int (iI x3)), some (.ref 81), none] [] (false, mx_SH, M, L, Rf) 1 6 _ _
  refine ms_aload dL_drop_0 rfl ?_
  refine mi_iconst dL_drop_2 ?_
  refine ms_aload_n dL_drop_3 rfl ?_
  refine ms_iload_n dL_drop_4 rfl ?_
  refine ms_iload_n dL_drop_5 rfl ?_
  refine ms_iload_n dL_drop_6 rfl ?_
  refine ms_callC (bc := 0) (bs := 0) (ci := 6) (r := (RX6, TX6, 15)) (As := [.int (iI x1), .int (iI x2), .int (iI x3)]) dL_drop_7 cv_L_drop_X6_drop hM rfl rfl rfl rfl rfl (Nat.le_of_ble_eq_true rfl) rfl (fun e9 h9 hp9 => ?_)
  obtain ⟨rfl, rfl⟩ := hp9
  exact ⟨22, 1, ⟨[], _, _, "java/util/NoSuchElementException", rfl, (fun z hz => by cases hz), rfl, by decide, rfl, wq_610, wq_617⟩, Or.inr ⟨5, dL_drop_22, by decide, dL_drop_24, dL_drop_25⟩, rfl, rfl, rfl⟩
set_option maxHeartbeats 4000000 in
set_option maxRecDepth 100000 in
theorem k_L_end {S : mx_Sc} {M : Nat → Int → Int} {L : Nat → Nat → Int64} {Rf : Nat → Nat → Option Nat} {x1 : Int} {Pk : Option Value → mx_H → Prop} (hM : mx_C S mX6_end [.ref 0, .int (iI x1)] (false, mx_SH, M, L, Rf) 0 0 Pk (fun _ _ => False)) (hP : ∀ v h9, Pk v h9 → ∃ N L2 Rf2, ∃ y : Int, h9 = (false, mx_SH, N, L2, Rf2) ∧ v = some (.int (iI (y)))) : mx_C S mL_end [.ref 0, .int (iI x1), .ref 81] (false, mx_SH, M, L, Rf) 0 0 (fun v9 h9 => ∃ N L2 Rf2, ∃ y : Int, Pk (some (.int (iI (y)))) (false, mx_SH, N, L2, Rf2) ∧ h9 = (false, mx_SH, N, va_up L2 81 (va_up (L2 81) 0 (iI y).toInt64), Rf2) ∧ v9 = some (.int (iI 0))) (fun _ _ => False) := by
  refine mx_C_ofH (by decide) (by simp [Value.category]) (Nat.le_of_ble_eq_true rfl) (by decide) ?_
  show mx_E S mL_end 0 [some (.ref 0), some (.int (iI x1)), some (.ref 81), none] [] (false, mx_SH, M, L, Rf) 0 0 _ _
  refine ms_aload_n dL_end_0 rfl ?_
  refine mi_iconst dL_end_1 ?_
  refine ms_aload_n dL_end_2 rfl ?_
  refine ms_iload_n dL_end_3 rfl ?_
  refine ms_callVN (ci := 6) (r := (RX6, TX6, 15)) (As := [.int (iI x1)]) dL_end_4 cv_L_end_X6_end hM rfl rfl rfl rfl rfl (Nat.le_of_ble_eq_true rfl) (fun v9 h9 hp9 => ?_)
  obtain ⟨N, L2, Rf2, y, rfl, rfl⟩ := hP v9 h9 hp9
  refine ms_i2l dL_end_7 ?_
  refine ms_last dL_end_8 (by first | rfl | assumption) ?_
  refine ms_goto (tgt := 15) dL_end_9 (by decide) ?_
  refine mi_iconst dL_end_15 ?_
  refine ms_ret dL_end_16 rfl ⟨N, L2, Rf2, y, hp9, rfl, rfl⟩ (by simp)
set_option maxHeartbeats 4000000 in
set_option maxRecDepth 100000 in
theorem k_L_end_x {S : mx_Sc} {M : Nat → Int → Int} {L : Nat → Nat → Int64} {Rf : Nat → Nat → Option Nat} {x1 : Int} (hM : mx_C S mX6_end [.ref 0, .int (iI x1)] (false, mx_SH, M, L, Rf) 1 6 (fun _ _ => False) (fun e9 h9 => e9 = "java/util/NoSuchElementException" ∧ h9 = (false, mx_SH, M, L, Rf))) : mx_C S mL_end [.ref 0, .int (iI x1), .ref 81] (false, mx_SH, M, L, Rf) 1 6 (fun v9 h9 => h9 = (false, mx_SH, M, L, Rf) ∧ v9 = some (.int (iI 1))) (fun _ _ => False) := by
  refine mx_C_ofH (by decide) (by simp [Value.category]) (Nat.le_of_ble_eq_true rfl) (by decide) ?_
  show mx_E S mL_end 0 [some (.ref 0), some (.int (iI x1)), some (.ref 81), none] [] (false, mx_SH, M, L, Rf) 1 6 _ _
  refine ms_aload_n dL_end_0 rfl ?_
  refine mi_iconst dL_end_1 ?_
  refine ms_aload_n dL_end_2 rfl ?_
  refine ms_iload_n dL_end_3 rfl ?_
  refine ms_callC (bc := 0) (bs := 0) (ci := 6) (r := (RX6, TX6, 15)) (As := [.int (iI x1)]) dL_end_4 cv_L_end_X6_end hM rfl rfl rfl rfl rfl (Nat.le_of_ble_eq_true rfl) rfl (fun e9 h9 hp9 => ?_)
  obtain ⟨rfl, rfl⟩ := hp9
  exact ⟨12, 1, ⟨[], _, _, "java/util/NoSuchElementException", rfl, (fun z hz => by cases hz), rfl, by decide, rfl, wq_610, wq_617⟩, Or.inl ⟨3, dL_end_12, by decide, dL_end_13, dL_end_14⟩, rfl, rfl, rfl⟩
set_option maxHeartbeats 4000000 in
set_option maxRecDepth 100000 in
theorem k_L_matches {S : mx_Sc} {M : Nat → Int → Int} {L : Nat → Nat → Int64} {Rf : Nat → Nat → Option Nat} {x1 : Int} {Pk : Option Value → mx_H → Prop} (hM : mx_C S mX6_matches [.ref 0, .int (iI x1)] (false, mx_SH, M, L, Rf) 0 0 Pk (fun _ _ => False)) (hP : ∀ v h9, Pk v h9 → ∃ N L2 Rf2, ∃ y : Int, h9 = (false, mx_SH, N, L2, Rf2) ∧ v = some (.int (iI (y)))) : mx_C S mL_matches [.ref 0, .int (iI x1), .ref 81] (false, mx_SH, M, L, Rf) 0 0 (fun v9 h9 => ∃ N L2 Rf2, ∃ y : Int, Pk (some (.int (iI (y)))) (false, mx_SH, N, L2, Rf2) ∧ h9 = (false, mx_SH, N, va_up L2 81 (va_up (L2 81) 0 (iI y).toInt64), Rf2) ∧ v9 = some (.int (iI 0))) (fun _ _ => False) := by
  refine mx_C_ofH (by decide) (by simp [Value.category]) (Nat.le_of_ble_eq_true rfl) (by decide) ?_
  show mx_E S mL_matches 0 [some (.ref 0), some (.int (iI x1)), some (.ref 81), none] [] (false, mx_SH, M, L, Rf) 0 0 _ _
  refine ms_aload_n dL_matches_0 rfl ?_
  refine mi_iconst dL_matches_1 ?_
  refine ms_aload_n dL_matches_2 rfl ?_
  refine ms_iload_n dL_matches_3 rfl ?_
  refine ms_callVN (ci := 6) (r := (RX6, TX6, 15)) (As := [.int (iI x1)]) dL_matches_4 cv_L_matches_X6_matches hM rfl rfl rfl rfl rfl (Nat.le_of_ble_eq_true rfl) (fun v9 h9 hp9 => ?_)
  obtain ⟨N, L2, Rf2, y, rfl, rfl⟩ := hP v9 h9 hp9
  refine ms_i2l dL_matches_7 ?_
  refine ms_last dL_matches_8 (by first | rfl | assumption) ?_
  refine ms_goto (tgt := 15) dL_matches_9 (by decide) ?_
  refine mi_iconst dL_matches_15 ?_
  refine ms_ret dL_matches_16 rfl ⟨N, L2, Rf2, y, hp9, rfl, rfl⟩ (by simp)
set_option maxHeartbeats 4000000 in
set_option maxRecDepth 100000 in
theorem k_L_matches_x {S : mx_Sc} {M : Nat → Int → Int} {L : Nat → Nat → Int64} {Rf : Nat → Nat → Option Nat} {x1 : Int} (hM : mx_C S mX6_matches [.ref 0, .int (iI x1)] (false, mx_SH, M, L, Rf) 1 6 (fun _ _ => False) (fun e9 h9 => e9 = "java/lang/IllegalArgumentException" ∧ h9 = (false, mx_SH, M, L, Rf))) : mx_C S mL_matches [.ref 0, .int (iI x1), .ref 81] (false, mx_SH, M, L, Rf) 1 6 (fun v9 h9 => h9 = (false, mx_SH, M, L, Rf) ∧ v9 = some (.int (iI 1))) (fun _ _ => False) := by
  refine mx_C_ofH (by decide) (by simp [Value.category]) (Nat.le_of_ble_eq_true rfl) (by decide) ?_
  show mx_E S mL_matches 0 [some (.ref 0), some (.int (iI x1)), some (.ref 81), none] [] (false, mx_SH, M, L, Rf) 1 6 _ _
  refine ms_aload_n dL_matches_0 rfl ?_
  refine mi_iconst dL_matches_1 ?_
  refine ms_aload_n dL_matches_2 rfl ?_
  refine ms_iload_n dL_matches_3 rfl ?_
  refine ms_callC (bc := 0) (bs := 0) (ci := 6) (r := (RX6, TX6, 15)) (As := [.int (iI x1)]) dL_matches_4 cv_L_matches_X6_matches hM rfl rfl rfl rfl rfl (Nat.le_of_ble_eq_true rfl) rfl (fun e9 h9 hp9 => ?_)
  obtain ⟨rfl, rfl⟩ := hp9
  exact ⟨12, 1, ⟨[], _, _, "java/lang/IllegalArgumentException", rfl, (fun z hz => by cases hz), rfl, by decide, rfl, wq_422, wq_429⟩, Or.inl ⟨3, dL_matches_12, by decide, dL_matches_13, dL_matches_14⟩, rfl, rfl, rfl⟩
set_option maxHeartbeats 4000000 in
set_option maxRecDepth 100000 in
theorem k_L_mother {S : mx_Sc} {M : Nat → Int → Int} {L : Nat → Nat → Int64} {Rf : Nat → Nat → Option Nat} {x1 x2 : Int} {Pk : Option Value → mx_H → Prop} (hM : mx_C S mX6_mother [.ref 0, .int (iI x1), .int (iI x2)] (false, mx_SH, M, L, Rf) 0 0 Pk (fun _ _ => False)) (hP : ∀ v h9, Pk v h9 → ∃ N L2 Rf2, ∃ y : Int, h9 = (false, mx_SH, N, L2, Rf2) ∧ v = some (.int (iI (y)))) : mx_C S mL_mother [.ref 0, .int (iI x1), .int (iI x2), .ref 81] (false, mx_SH, M, L, Rf) 0 0 (fun v9 h9 => ∃ N L2 Rf2, ∃ y : Int, Pk (some (.int (iI (y)))) (false, mx_SH, N, L2, Rf2) ∧ h9 = (false, mx_SH, N, va_up L2 81 (va_up (L2 81) 0 (iI y).toInt64), Rf2) ∧ v9 = some (.int (iI 0))) (fun _ _ => False) := by
  refine mx_C_ofH (by decide) (by simp [Value.category]) (Nat.le_of_ble_eq_true rfl) (by decide) ?_
  show mx_E S mL_mother 0 [some (.ref 0), some (.int (iI x1)), some (.int (iI x2)), some (.ref 81), none] [] (false, mx_SH, M, L, Rf) 0 0 _ _
  refine ms_aload_n dL_mother_0 rfl ?_
  refine mi_iconst dL_mother_1 ?_
  refine ms_aload_n dL_mother_2 rfl ?_
  refine ms_iload_n dL_mother_3 rfl ?_
  refine ms_iload_n dL_mother_4 rfl ?_
  refine ms_callVN (ci := 6) (r := (RX6, TX6, 15)) (As := [.int (iI x1), .int (iI x2)]) dL_mother_5 cv_L_mother_X6_mother hM rfl rfl rfl rfl rfl (Nat.le_of_ble_eq_true rfl) (fun v9 h9 hp9 => ?_)
  obtain ⟨N, L2, Rf2, y, rfl, rfl⟩ := hP v9 h9 hp9
  refine ms_i2l dL_mother_8 ?_
  refine ms_last dL_mother_9 (by first | rfl | assumption) ?_
  refine ms_goto (tgt := 17) dL_mother_10 (by decide) ?_
  refine mi_iconst dL_mother_17 ?_
  refine ms_ret dL_mother_18 rfl ⟨N, L2, Rf2, y, hp9, rfl, rfl⟩ (by simp)
set_option maxHeartbeats 4000000 in
set_option maxRecDepth 100000 in
theorem k_L_mother_x {S : mx_Sc} {M : Nat → Int → Int} {L : Nat → Nat → Int64} {Rf : Nat → Nat → Option Nat} {x1 x2 : Int} (hM : mx_C S mX6_mother [.ref 0, .int (iI x1), .int (iI x2)] (false, mx_SH, M, L, Rf) 1 6 (fun _ _ => False) (fun e9 h9 => e9 = "java/util/NoSuchElementException" ∧ h9 = (false, mx_SH, M, L, Rf))) : mx_C S mL_mother [.ref 0, .int (iI x1), .int (iI x2), .ref 81] (false, mx_SH, M, L, Rf) 1 6 (fun v9 h9 => h9 = (false, mx_SH, M, L, Rf) ∧ v9 = some (.int (iI 1))) (fun _ _ => False) := by
  refine mx_C_ofH (by decide) (by simp [Value.category]) (Nat.le_of_ble_eq_true rfl) (by decide) ?_
  show mx_E S mL_mother 0 [some (.ref 0), some (.int (iI x1)), some (.int (iI x2)), some (.ref 81), none] [] (false, mx_SH, M, L, Rf) 1 6 _ _
  refine ms_aload_n dL_mother_0 rfl ?_
  refine mi_iconst dL_mother_1 ?_
  refine ms_aload_n dL_mother_2 rfl ?_
  refine ms_iload_n dL_mother_3 rfl ?_
  refine ms_iload_n dL_mother_4 rfl ?_
  refine ms_callC (bc := 0) (bs := 0) (ci := 6) (r := (RX6, TX6, 15)) (As := [.int (iI x1), .int (iI x2)]) dL_mother_5 cv_L_mother_X6_mother hM rfl rfl rfl rfl rfl (Nat.le_of_ble_eq_true rfl) rfl (fun e9 h9 hp9 => ?_)
  obtain ⟨rfl, rfl⟩ := hp9
  exact ⟨13, 1, ⟨[], _, _, "java/util/NoSuchElementException", rfl, (fun z hz => by cases hz), rfl, by decide, rfl, wq_610, wq_617⟩, Or.inr ⟨4, dL_mother_13, by decide, dL_mother_15, dL_mother_16⟩, rfl, rfl, rfl⟩
set_option maxHeartbeats 4000000 in
set_option maxRecDepth 100000 in
theorem k_L_mothers {S : mx_Sc} {M : Nat → Int → Int} {L : Nat → Nat → Int64} {Rf : Nat → Nat → Option Nat} {x1 x2 : Int} {Pk : Option Value → mx_H → Prop} (hM : mx_C S mX6_mothers [.ref 0, .int (iI x1), .int (iI x2)] (false, mx_SH, M, L, Rf) 0 0 Pk (fun _ _ => False)) (hP : ∀ v h9, Pk v h9 → ∃ N L2 Rf2, ∃ y : Int, h9 = (false, mx_SH, N, L2, Rf2) ∧ v = some (.int (iI (y)))) : mx_C S mL_mothers [.ref 0, .int (iI x1), .int (iI x2), .ref 81] (false, mx_SH, M, L, Rf) 0 0 (fun v9 h9 => ∃ N L2 Rf2, ∃ y : Int, Pk (some (.int (iI (y)))) (false, mx_SH, N, L2, Rf2) ∧ h9 = (false, mx_SH, N, va_up L2 81 (va_up (L2 81) 0 (iI y).toInt64), Rf2) ∧ v9 = some (.int (iI 0))) (fun _ _ => False) := by
  refine mx_C_ofH (by decide) (by simp [Value.category]) (Nat.le_of_ble_eq_true rfl) (by decide) ?_
  show mx_E S mL_mothers 0 [some (.ref 0), some (.int (iI x1)), some (.int (iI x2)), some (.ref 81), none] [] (false, mx_SH, M, L, Rf) 0 0 _ _
  refine ms_aload_n dL_mothers_0 rfl ?_
  refine mi_iconst dL_mothers_1 ?_
  refine ms_aload_n dL_mothers_2 rfl ?_
  refine ms_iload_n dL_mothers_3 rfl ?_
  refine ms_iload_n dL_mothers_4 rfl ?_
  refine ms_callVN (ci := 6) (r := (RX6, TX6, 15)) (As := [.int (iI x1), .int (iI x2)]) dL_mothers_5 cv_L_mothers_X6_mothers hM rfl rfl rfl rfl rfl (Nat.le_of_ble_eq_true rfl) (fun v9 h9 hp9 => ?_)
  obtain ⟨N, L2, Rf2, y, rfl, rfl⟩ := hP v9 h9 hp9
  refine ms_i2l dL_mothers_8 ?_
  refine ms_last dL_mothers_9 (by first | rfl | assumption) ?_
  refine ms_goto (tgt := 21) dL_mothers_10 (by decide) ?_
  refine mi_iconst dL_mothers_21 ?_
  refine ms_ret dL_mothers_22 rfl ⟨N, L2, Rf2, y, hp9, rfl, rfl⟩ (by simp)
set_option maxHeartbeats 4000000 in
set_option maxRecDepth 100000 in
theorem k_L_mothers_x {S : mx_Sc} {M : Nat → Int → Int} {L : Nat → Nat → Int64} {Rf : Nat → Nat → Option Nat} {x1 x2 : Int} (hM : mx_C S mX6_mothers [.ref 0, .int (iI x1), .int (iI x2)] (false, mx_SH, M, L, Rf) 1 6 (fun _ _ => False) (fun e9 h9 => e9 = "java/util/NoSuchElementException" ∧ h9 = (false, mx_SH, M, L, Rf))) : mx_C S mL_mothers [.ref 0, .int (iI x1), .int (iI x2), .ref 81] (false, mx_SH, M, L, Rf) 1 6 (fun v9 h9 => h9 = (false, mx_SH, M, L, Rf) ∧ v9 = some (.int (iI 1))) (fun _ _ => False) := by
  refine mx_C_ofH (by decide) (by simp [Value.category]) (Nat.le_of_ble_eq_true rfl) (by decide) ?_
  show mx_E S mL_mothers 0 [some (.ref 0), some (.int (iI x1)), some (.int (iI x2)), some (.ref 81), none] [] (false, mx_SH, M, L, Rf) 1 6 _ _
  refine ms_aload_n dL_mothers_0 rfl ?_
  refine mi_iconst dL_mothers_1 ?_
  refine ms_aload_n dL_mothers_2 rfl ?_
  refine ms_iload_n dL_mothers_3 rfl ?_
  refine ms_iload_n dL_mothers_4 rfl ?_
  refine ms_callC (bc := 0) (bs := 0) (ci := 6) (r := (RX6, TX6, 15)) (As := [.int (iI x1), .int (iI x2)]) dL_mothers_5 cv_L_mothers_X6_mothers hM rfl rfl rfl rfl rfl (Nat.le_of_ble_eq_true rfl) rfl (fun e9 h9 hp9 => ?_)
  obtain ⟨rfl, rfl⟩ := hp9
  exact ⟨13, 1, ⟨[], _, _, "java/util/NoSuchElementException", rfl, (fun z hz => by cases hz), rfl, by decide, rfl, wq_610, wq_617⟩, Or.inr ⟨4, dL_mothers_13, by decide, dL_mothers_15, dL_mothers_16⟩, rfl, rfl, rfl⟩
set_option maxHeartbeats 4000000 in
set_option maxRecDepth 100000 in
theorem k_L_mothers_y {S : mx_Sc} {M : Nat → Int → Int} {L : Nat → Nat → Int64} {Rf : Nat → Nat → Option Nat} {x1 x2 : Int} (hM : mx_C S mX6_mothers [.ref 0, .int (iI x1), .int (iI x2)] (false, mx_SH, M, L, Rf) 1 6 (fun _ _ => False) (fun e9 h9 => e9 = "java/lang/IllegalArgumentException" ∧ h9 = (false, mx_SH, M, L, Rf))) : mx_C S mL_mothers [.ref 0, .int (iI x1), .int (iI x2), .ref 81] (false, mx_SH, M, L, Rf) 1 6 (fun v9 h9 => h9 = (false, mx_SH, M, L, Rf) ∧ v9 = some (.int (iI 2))) (fun _ _ => False) := by
  refine mx_C_ofH (by decide) (by simp [Value.category]) (Nat.le_of_ble_eq_true rfl) (by decide) ?_
  show mx_E S mL_mothers 0 [some (.ref 0), some (.int (iI x1)), some (.int (iI x2)), some (.ref 81), none] [] (false, mx_SH, M, L, Rf) 1 6 _ _
  refine ms_aload_n dL_mothers_0 rfl ?_
  refine mi_iconst dL_mothers_1 ?_
  refine ms_aload_n dL_mothers_2 rfl ?_
  refine ms_iload_n dL_mothers_3 rfl ?_
  refine ms_iload_n dL_mothers_4 rfl ?_
  refine ms_callC (bc := 0) (bs := 0) (ci := 6) (r := (RX6, TX6, 15)) (As := [.int (iI x1), .int (iI x2)]) dL_mothers_5 cv_L_mothers_X6_mothers hM rfl rfl rfl rfl rfl (Nat.le_of_ble_eq_true rfl) rfl (fun e9 h9 hp9 => ?_)
  obtain ⟨rfl, rfl⟩ := hp9
  exact ⟨17, 2, ⟨[_], _, _, "java/lang/IllegalArgumentException", rfl, (fun z hz => by rw [List.mem_singleton.mp hz]; exact ⟨by decide, wq_610, rfl⟩), rfl, by decide, rfl, wq_422, wq_429⟩, Or.inr ⟨4, dL_mothers_17, by decide, dL_mothers_19, dL_mothers_20⟩, rfl, rfl, rfl⟩
set_option maxHeartbeats 4000000 in
set_option maxRecDepth 100000 in
theorem k_L_may {S : mx_Sc} {M : Nat → Int → Int} {L : Nat → Nat → Int64} {Rf : Nat → Nat → Option Nat} {x1 : Int} {Pk : Option Value → mx_H → Prop} (hM : mx_C S mX6_may [.ref 0, .int (iI x1)] (false, mx_SH, M, L, Rf) 0 0 Pk (fun _ _ => False)) (hP : ∀ v h9, Pk v h9 → ∃ N L2 Rf2, ∃ y : Int, h9 = (false, mx_SH, N, L2, Rf2) ∧ v = some (.int (iI (y)))) : mx_C S mL_may [.ref 0, .int (iI x1), .ref 81] (false, mx_SH, M, L, Rf) 0 0 (fun v9 h9 => ∃ N L2 Rf2, ∃ y : Int, Pk (some (.int (iI (y)))) (false, mx_SH, N, L2, Rf2) ∧ h9 = (false, mx_SH, N, va_up L2 81 (va_up (L2 81) 0 (iI y).toInt64), Rf2) ∧ v9 = some (.int (iI 0))) (fun _ _ => False) := by
  refine mx_C_ofH (by decide) (by simp [Value.category]) (Nat.le_of_ble_eq_true rfl) (by decide) ?_
  show mx_E S mL_may 0 [some (.ref 0), some (.int (iI x1)), some (.ref 81), none] [] (false, mx_SH, M, L, Rf) 0 0 _ _
  refine ms_aload_n dL_may_0 rfl ?_
  refine mi_iconst dL_may_1 ?_
  refine ms_aload_n dL_may_2 rfl ?_
  refine ms_iload_n dL_may_3 rfl ?_
  refine ms_callVN (ci := 6) (r := (RX6, TX6, 15)) (As := [.int (iI x1)]) dL_may_4 cv_L_may_X6_may hM rfl rfl rfl rfl rfl (Nat.le_of_ble_eq_true rfl) (fun v9 h9 hp9 => ?_)
  obtain ⟨N, L2, Rf2, y, rfl, rfl⟩ := hP v9 h9 hp9
  refine ms_i2l dL_may_7 ?_
  refine ms_last dL_may_8 (by first | rfl | assumption) ?_
  refine ms_goto (tgt := 15) dL_may_9 (by decide) ?_
  refine mi_iconst dL_may_15 ?_
  refine ms_ret dL_may_16 rfl ⟨N, L2, Rf2, y, hp9, rfl, rfl⟩ (by simp)
set_option maxHeartbeats 4000000 in
set_option maxRecDepth 100000 in
theorem k_L_may_x {S : mx_Sc} {M : Nat → Int → Int} {L : Nat → Nat → Int64} {Rf : Nat → Nat → Option Nat} {x1 : Int} (hM : mx_C S mX6_may [.ref 0, .int (iI x1)] (false, mx_SH, M, L, Rf) 1 6 (fun _ _ => False) (fun e9 h9 => e9 = "java/util/NoSuchElementException" ∧ h9 = (false, mx_SH, M, L, Rf))) : mx_C S mL_may [.ref 0, .int (iI x1), .ref 81] (false, mx_SH, M, L, Rf) 1 6 (fun v9 h9 => h9 = (false, mx_SH, M, L, Rf) ∧ v9 = some (.int (iI 1))) (fun _ _ => False) := by
  refine mx_C_ofH (by decide) (by simp [Value.category]) (Nat.le_of_ble_eq_true rfl) (by decide) ?_
  show mx_E S mL_may 0 [some (.ref 0), some (.int (iI x1)), some (.ref 81), none] [] (false, mx_SH, M, L, Rf) 1 6 _ _
  refine ms_aload_n dL_may_0 rfl ?_
  refine mi_iconst dL_may_1 ?_
  refine ms_aload_n dL_may_2 rfl ?_
  refine ms_iload_n dL_may_3 rfl ?_
  refine ms_callC (bc := 0) (bs := 0) (ci := 6) (r := (RX6, TX6, 15)) (As := [.int (iI x1)]) dL_may_4 cv_L_may_X6_may hM rfl rfl rfl rfl rfl (Nat.le_of_ble_eq_true rfl) rfl (fun e9 h9 hp9 => ?_)
  obtain ⟨rfl, rfl⟩ := hp9
  exact ⟨12, 1, ⟨[], _, _, "java/util/NoSuchElementException", rfl, (fun z hz => by cases hz), rfl, by decide, rfl, wq_610, wq_617⟩, Or.inl ⟨3, dL_may_12, by decide, dL_may_13, dL_may_14⟩, rfl, rfl, rfl⟩
set_option maxHeartbeats 4000000 in
set_option maxRecDepth 100000 in
theorem k_L_tells {S : mx_Sc} {M : Nat → Int → Int} {L : Nat → Nat → Int64} {Rf : Nat → Nat → Option Nat} {x1 x2 : Int} {Pk : Option Value → mx_H → Prop} (hM : mx_C S mX6_tells [.ref 0, .int (iI x1), .int (iI x2)] (false, mx_SH, M, L, Rf) 0 0 Pk (fun _ _ => False)) (hP : ∀ v h9, Pk v h9 → ∃ N L2 Rf2, ∃ y : Int, h9 = (false, mx_SH, N, L2, Rf2) ∧ v = some (.int (iI (y)))) : mx_C S mL_tells [.ref 0, .int (iI x1), .int (iI x2), .ref 81] (false, mx_SH, M, L, Rf) 0 0 (fun v9 h9 => ∃ N L2 Rf2, ∃ y : Int, Pk (some (.int (iI (y)))) (false, mx_SH, N, L2, Rf2) ∧ h9 = (false, mx_SH, N, va_up L2 81 (va_up (L2 81) 0 (iI y).toInt64), Rf2) ∧ v9 = some (.int (iI 0))) (fun _ _ => False) := by
  refine mx_C_ofH (by decide) (by simp [Value.category]) (Nat.le_of_ble_eq_true rfl) (by decide) ?_
  show mx_E S mL_tells 0 [some (.ref 0), some (.int (iI x1)), some (.int (iI x2)), some (.ref 81), none] [] (false, mx_SH, M, L, Rf) 0 0 _ _
  refine ms_aload_n dL_tells_0 rfl ?_
  refine mi_iconst dL_tells_1 ?_
  refine ms_aload_n dL_tells_2 rfl ?_
  refine ms_iload_n dL_tells_3 rfl ?_
  refine ms_iload_n dL_tells_4 rfl ?_
  refine ms_callVN (ci := 6) (r := (RX6, TX6, 15)) (As := [.int (iI x1), .int (iI x2)]) dL_tells_5 cv_L_tells_X6_tells hM rfl rfl rfl rfl rfl (Nat.le_of_ble_eq_true rfl) (fun v9 h9 hp9 => ?_)
  obtain ⟨N, L2, Rf2, y, rfl, rfl⟩ := hP v9 h9 hp9
  refine ms_i2l dL_tells_8 ?_
  refine ms_last dL_tells_9 (by first | rfl | assumption) ?_
  refine ms_goto (tgt := 17) dL_tells_10 (by decide) ?_
  refine mi_iconst dL_tells_17 ?_
  refine ms_ret dL_tells_18 rfl ⟨N, L2, Rf2, y, hp9, rfl, rfl⟩ (by simp)
set_option maxHeartbeats 4000000 in
set_option maxRecDepth 100000 in
theorem k_L_tells_x {S : mx_Sc} {M : Nat → Int → Int} {L : Nat → Nat → Int64} {Rf : Nat → Nat → Option Nat} {x1 x2 : Int} (hM : mx_C S mX6_tells [.ref 0, .int (iI x1), .int (iI x2)] (false, mx_SH, M, L, Rf) 1 6 (fun _ _ => False) (fun e9 h9 => e9 = "java/util/NoSuchElementException" ∧ h9 = (false, mx_SH, M, L, Rf))) : mx_C S mL_tells [.ref 0, .int (iI x1), .int (iI x2), .ref 81] (false, mx_SH, M, L, Rf) 1 6 (fun v9 h9 => h9 = (false, mx_SH, M, L, Rf) ∧ v9 = some (.int (iI 1))) (fun _ _ => False) := by
  refine mx_C_ofH (by decide) (by simp [Value.category]) (Nat.le_of_ble_eq_true rfl) (by decide) ?_
  show mx_E S mL_tells 0 [some (.ref 0), some (.int (iI x1)), some (.int (iI x2)), some (.ref 81), none] [] (false, mx_SH, M, L, Rf) 1 6 _ _
  refine ms_aload_n dL_tells_0 rfl ?_
  refine mi_iconst dL_tells_1 ?_
  refine ms_aload_n dL_tells_2 rfl ?_
  refine ms_iload_n dL_tells_3 rfl ?_
  refine ms_iload_n dL_tells_4 rfl ?_
  refine ms_callC (bc := 0) (bs := 0) (ci := 6) (r := (RX6, TX6, 15)) (As := [.int (iI x1), .int (iI x2)]) dL_tells_5 cv_L_tells_X6_tells hM rfl rfl rfl rfl rfl (Nat.le_of_ble_eq_true rfl) rfl (fun e9 h9 hp9 => ?_)
  obtain ⟨rfl, rfl⟩ := hp9
  exact ⟨13, 1, ⟨[], _, _, "java/util/NoSuchElementException", rfl, (fun z hz => by cases hz), rfl, by decide, rfl, wq_610, wq_617⟩, Or.inr ⟨4, dL_tells_13, by decide, dL_tells_15, dL_tells_16⟩, rfl, rfl, rfl⟩
set_option maxHeartbeats 4000000 in
set_option maxRecDepth 100000 in
theorem k_L_near {S : mx_Sc} {M : Nat → Int → Int} {L : Nat → Nat → Int64} {Rf : Nat → Nat → Option Nat} {x1 : Int} {Pk : Option Value → mx_H → Prop} (hM : mx_C S mX6_near [.ref 0, .int (iI x1)] (false, mx_SH, M, L, Rf) 0 0 Pk (fun _ _ => False)) (hP : ∀ v h9, Pk v h9 → ∃ N L2 Rf2, ∃ y : Int, h9 = (false, mx_SH, N, L2, Rf2) ∧ v = some (.int (iI (y)))) : mx_C S mL_near [.ref 0, .int (iI x1), .ref 81] (false, mx_SH, M, L, Rf) 0 0 (fun v9 h9 => ∃ N L2 Rf2, ∃ y : Int, Pk (some (.int (iI (y)))) (false, mx_SH, N, L2, Rf2) ∧ h9 = (false, mx_SH, N, va_up L2 81 (va_up (L2 81) 0 (iI y).toInt64), Rf2) ∧ v9 = some (.int (iI 0))) (fun _ _ => False) := by
  refine mx_C_ofH (by decide) (by simp [Value.category]) (Nat.le_of_ble_eq_true rfl) (by decide) ?_
  show mx_E S mL_near 0 [some (.ref 0), some (.int (iI x1)), some (.ref 81), none] [] (false, mx_SH, M, L, Rf) 0 0 _ _
  refine ms_aload_n dL_near_0 rfl ?_
  refine mi_iconst dL_near_1 ?_
  refine ms_aload_n dL_near_2 rfl ?_
  refine ms_iload_n dL_near_3 rfl ?_
  refine ms_callVN (ci := 6) (r := (RX6, TX6, 15)) (As := [.int (iI x1)]) dL_near_4 cv_L_near_X6_near hM rfl rfl rfl rfl rfl (Nat.le_of_ble_eq_true rfl) (fun v9 h9 hp9 => ?_)
  obtain ⟨N, L2, Rf2, y, rfl, rfl⟩ := hP v9 h9 hp9
  refine ms_i2l dL_near_7 ?_
  refine ms_last dL_near_8 (by first | rfl | assumption) ?_
  refine ms_goto (tgt := 15) dL_near_9 (by decide) ?_
  refine mi_iconst dL_near_15 ?_
  refine ms_ret dL_near_16 rfl ⟨N, L2, Rf2, y, hp9, rfl, rfl⟩ (by simp)
set_option maxHeartbeats 4000000 in
set_option maxRecDepth 100000 in
theorem k_L_near_x {S : mx_Sc} {M : Nat → Int → Int} {L : Nat → Nat → Int64} {Rf : Nat → Nat → Option Nat} {x1 : Int} (hM : mx_C S mX6_near [.ref 0, .int (iI x1)] (false, mx_SH, M, L, Rf) 1 6 (fun _ _ => False) (fun e9 h9 => e9 = "java/lang/IllegalArgumentException" ∧ h9 = (false, mx_SH, M, L, Rf))) : mx_C S mL_near [.ref 0, .int (iI x1), .ref 81] (false, mx_SH, M, L, Rf) 1 6 (fun v9 h9 => h9 = (false, mx_SH, M, L, Rf) ∧ v9 = some (.int (iI 1))) (fun _ _ => False) := by
  refine mx_C_ofH (by decide) (by simp [Value.category]) (Nat.le_of_ble_eq_true rfl) (by decide) ?_
  show mx_E S mL_near 0 [some (.ref 0), some (.int (iI x1)), some (.ref 81), none] [] (false, mx_SH, M, L, Rf) 1 6 _ _
  refine ms_aload_n dL_near_0 rfl ?_
  refine mi_iconst dL_near_1 ?_
  refine ms_aload_n dL_near_2 rfl ?_
  refine ms_iload_n dL_near_3 rfl ?_
  refine ms_callC (bc := 0) (bs := 0) (ci := 6) (r := (RX6, TX6, 15)) (As := [.int (iI x1)]) dL_near_4 cv_L_near_X6_near hM rfl rfl rfl rfl rfl (Nat.le_of_ble_eq_true rfl) rfl (fun e9 h9 hp9 => ?_)
  obtain ⟨rfl, rfl⟩ := hp9
  exact ⟨12, 1, ⟨[], _, _, "java/lang/IllegalArgumentException", rfl, (fun z hz => by cases hz), rfl, by decide, rfl, wq_422, wq_429⟩, Or.inl ⟨3, dL_near_12, by decide, dL_near_13, dL_near_14⟩, rfl, rfl, rfl⟩
set_option maxHeartbeats 4000000 in
set_option maxRecDepth 100000 in
theorem k_L_years {S : mx_Sc} {M : Nat → Int → Int} {L : Nat → Nat → Int64} {Rf : Nat → Nat → Option Nat} {x1 x2 x3 : Int} {Pk : Option Value → mx_H → Prop} (hM : mx_C S mX6_years [.ref 0, .int (iI x1), .int (iI x2), .int (iI x3)] (false, mx_SH, M, L, Rf) 0 0 Pk (fun _ _ => False)) (hP : ∀ v h9, Pk v h9 → ∃ N L2 Rf2, ∃ y : Int, h9 = (false, mx_SH, N, L2, Rf2) ∧ v = some (.int (iI (y)))) : mx_C S mL_years [.ref 0, .int (iI x1), .int (iI x2), .int (iI x3), .ref 81] (false, mx_SH, M, L, Rf) 0 0 (fun v9 h9 => ∃ N L2 Rf2, ∃ y : Int, Pk (some (.int (iI (y)))) (false, mx_SH, N, L2, Rf2) ∧ h9 = (false, mx_SH, N, va_up L2 81 (va_up (L2 81) 0 (iI y).toInt64), Rf2) ∧ v9 = some (.int (iI 0))) (fun _ _ => False) := by
  refine mx_C_ofH (by decide) (by simp [Value.category]) (Nat.le_of_ble_eq_true rfl) (by decide) ?_
  show mx_E S mL_years 0 [some (.ref 0), some (.int (iI x1)), some (.int (iI x2)), some (.int (iI x3)), some (.ref 81), none] [] (false, mx_SH, M, L, Rf) 0 0 _ _
  refine ms_aload dL_years_0 rfl ?_
  refine mi_iconst dL_years_2 ?_
  refine ms_aload_n dL_years_3 rfl ?_
  refine ms_iload_n dL_years_4 rfl ?_
  refine ms_iload_n dL_years_5 rfl ?_
  refine ms_iload_n dL_years_6 rfl ?_
  refine ms_callVN (ci := 6) (r := (RX6, TX6, 15)) (As := [.int (iI x1), .int (iI x2), .int (iI x3)]) dL_years_7 cv_L_years_X6_years hM rfl rfl rfl rfl rfl (Nat.le_of_ble_eq_true rfl) (fun v9 h9 hp9 => ?_)
  obtain ⟨N, L2, Rf2, y, rfl, rfl⟩ := hP v9 h9 hp9
  refine ms_i2l dL_years_10 ?_
  refine ms_last dL_years_11 (by first | rfl | assumption) ?_
  refine ms_goto (tgt := 23) dL_years_12 (by decide) ?_
  refine mi_iconst dL_years_23 ?_
  refine ms_ret dL_years_24 rfl ⟨N, L2, Rf2, y, hp9, rfl, rfl⟩ (by simp)
set_option maxHeartbeats 4000000 in
set_option maxRecDepth 100000 in
theorem k_L_years_x {S : mx_Sc} {M : Nat → Int → Int} {L : Nat → Nat → Int64} {Rf : Nat → Nat → Option Nat} {x1 x2 x3 : Int} (hM : mx_C S mX6_years [.ref 0, .int (iI x1), .int (iI x2), .int (iI x3)] (false, mx_SH, M, L, Rf) 1 6 (fun _ _ => False) (fun e9 h9 => e9 = "java/util/NoSuchElementException" ∧ h9 = (false, mx_SH, M, L, Rf))) : mx_C S mL_years [.ref 0, .int (iI x1), .int (iI x2), .int (iI x3), .ref 81] (false, mx_SH, M, L, Rf) 1 6 (fun v9 h9 => h9 = (false, mx_SH, M, L, Rf) ∧ v9 = some (.int (iI 1))) (fun _ _ => False) := by
  refine mx_C_ofH (by decide) (by simp [Value.category]) (Nat.le_of_ble_eq_true rfl) (by decide) ?_
  show mx_E S mL_years 0 [some (.ref 0), some (.int (iI x1)), some (.int (iI x2)), some (.int (iI x3)), some (.ref 81), none] [] (false, mx_SH, M, L, Rf) 1 6 _ _
  refine ms_aload dL_years_0 rfl ?_
  refine mi_iconst dL_years_2 ?_
  refine ms_aload_n dL_years_3 rfl ?_
  refine ms_iload_n dL_years_4 rfl ?_
  refine ms_iload_n dL_years_5 rfl ?_
  refine ms_iload_n dL_years_6 rfl ?_
  refine ms_callC (bc := 0) (bs := 0) (ci := 6) (r := (RX6, TX6, 15)) (As := [.int (iI x1), .int (iI x2), .int (iI x3)]) dL_years_7 cv_L_years_X6_years hM rfl rfl rfl rfl rfl (Nat.le_of_ble_eq_true rfl) rfl (fun e9 h9 hp9 => ?_)
  obtain ⟨rfl, rfl⟩ := hp9
  exact ⟨15, 1, ⟨[], _, _, "java/util/NoSuchElementException", rfl, (fun z hz => by cases hz), rfl, by decide, rfl, wq_610, wq_617⟩, Or.inr ⟨5, dL_years_15, by decide, dL_years_17, dL_years_18⟩, rfl, rfl, rfl⟩
set_option maxHeartbeats 4000000 in
set_option maxRecDepth 100000 in
theorem k_L_years_y {S : mx_Sc} {M : Nat → Int → Int} {L : Nat → Nat → Int64} {Rf : Nat → Nat → Option Nat} {x1 x2 x3 : Int} (hM : mx_C S mX6_years [.ref 0, .int (iI x1), .int (iI x2), .int (iI x3)] (false, mx_SH, M, L, Rf) 1 6 (fun _ _ => False) (fun e9 h9 => e9 = "java/lang/IllegalArgumentException" ∧ h9 = (false, mx_SH, M, L, Rf))) : mx_C S mL_years [.ref 0, .int (iI x1), .int (iI x2), .int (iI x3), .ref 81] (false, mx_SH, M, L, Rf) 1 6 (fun v9 h9 => h9 = (false, mx_SH, M, L, Rf) ∧ v9 = some (.int (iI 2))) (fun _ _ => False) := by
  refine mx_C_ofH (by decide) (by simp [Value.category]) (Nat.le_of_ble_eq_true rfl) (by decide) ?_
  show mx_E S mL_years 0 [some (.ref 0), some (.int (iI x1)), some (.int (iI x2)), some (.int (iI x3)), some (.ref 81), none] [] (false, mx_SH, M, L, Rf) 1 6 _ _
  refine ms_aload dL_years_0 rfl ?_
  refine mi_iconst dL_years_2 ?_
  refine ms_aload_n dL_years_3 rfl ?_
  refine ms_iload_n dL_years_4 rfl ?_
  refine ms_iload_n dL_years_5 rfl ?_
  refine ms_iload_n dL_years_6 rfl ?_
  refine ms_callC (bc := 0) (bs := 0) (ci := 6) (r := (RX6, TX6, 15)) (As := [.int (iI x1), .int (iI x2), .int (iI x3)]) dL_years_7 cv_L_years_X6_years hM rfl rfl rfl rfl rfl (Nat.le_of_ble_eq_true rfl) rfl (fun e9 h9 hp9 => ?_)
  obtain ⟨rfl, rfl⟩ := hp9
  exact ⟨19, 2, ⟨[_], _, _, "java/lang/IllegalArgumentException", rfl, (fun z hz => by rw [List.mem_singleton.mp hz]; exact ⟨by decide, wq_610, rfl⟩), rfl, by decide, rfl, wq_422, wq_429⟩, Or.inr ⟨5, dL_years_19, by decide, dL_years_21, dL_years_22⟩, rfl, rfl, rfl⟩
