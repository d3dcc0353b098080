set_option maxHeartbeats 4000000 in
set_option maxRecDepth 100000 in
theorem k_X4_init_29 {S : mx_Sc} {M : Nat → Int → Int} {L : Nat → Nat → Int64} {l : List (Nat × Nat × Nat)} (hz : ∀ x, 29 < x → M x = fun _ => 0) : mx_C S mX4_init [.ref 29] (true, mx_SH.take 30, M, L, rfL l) 7 66 (fun v9 h9 => ∃ N, h9 = (true, mx_SH.take 37, N, L, rfL ((29, 13, 36) :: (29, 12, 35) :: (29, 11, 34) :: (29, 10, 33) :: (29, 9, 32) :: (29, 8, 31) :: (29, 7, 30) :: l)) ∧ v9 = none ∧ (∀ x, x ≠ 29 → N x = M x) ∧ ∀ k, 0 ≤ k → k < 7 → N 29 k = td0 0 k) (fun _ _ => False) := by
  refine mx_C_of (by decide) (by simp [Value.category]) (Nat.le_of_ble_eq_true rfl) rfl ?_
  show mx_E S mX4_init 0 [some (.ref 29)] [] (true, mx_SH.take 30, M, L, rfL l) 7 66 _ _
  refine ms_aload_n dX4_init_0 rfl ?_
  refine ms_objInit dX4_init_1 (oi_X4_3 rfl) (Nat.le_of_ble_eq_true rfl) (Nat.le_of_ble_eq_true rfl) ?_
  refine ms_aload_n dX4_init_4 rfl ?_
  refine mi_bipush dX4_init_5 (by decide) ?_
  refine ms_newi_t 30 (N := 6) (bc := 6) (bs := 60) dX4_init_7 rfl rfl (by decide) (hz 30 (by decide)) rfl ?_
  refine ms_putRFa dX4_init_9 (fo_X4_9 rfl) (by first | rfl | assumption) rfl rfl rfl rfl ?_
  rw [rfL_put]
  refine ms_aload_n dX4_init_12 rfl ?_
  refine mi_bipush dX4_init_13 (by decide) ?_
  refine ms_newi_t 31 (N := 6) (bc := 5) (bs := 54) dX4_init_15 rfl rfl (by decide) (hz 31 (by decide)) rfl ?_
  refine ms_putRFa dX4_init_17 (fo_X4_15 rfl) (by first | rfl | assumption) rfl rfl rfl rfl ?_
  rw [rfL_put]
  refine ms_aload_n dX4_init_20 rfl ?_
  refine mi_bipush dX4_init_21 (by decide) ?_
  refine ms_newi_t 32 (N := 6) (bc := 4) (bs := 48) dX4_init_23 rfl rfl (by decide) (hz 32 (by decide)) rfl ?_
  refine ms_putRFa dX4_init_25 (fo_X4_18 rfl) (by first | rfl | assumption) rfl rfl rfl rfl ?_
  rw [rfL_put]
  refine ms_aload_n dX4_init_28 rfl ?_
  refine mi_bipush dX4_init_29 (by decide) ?_
  refine ms_newi_t 33 (N := 18) (bc := 3) (bs := 30) dX4_init_31 rfl rfl (by decide) (hz 33 (by decide)) rfl ?_
  refine ms_putRFa dX4_init_33 (fo_X4_21 rfl) (by first | rfl | assumption) rfl rfl rfl rfl ?_
  rw [rfL_put]
  refine ms_aload_n dX4_init_36 rfl ?_
  refine mi_bipush dX4_init_37 (by decide) ?_
  refine ms_newi_t 34 (N := 10) (bc := 2) (bs := 20) dX4_init_39 rfl rfl (by decide) (hz 34 (by decide)) rfl ?_
  refine ms_putRFa dX4_init_41 (fo_X4_24 rfl) (by first | rfl | assumption) rfl rfl rfl rfl ?_
  rw [rfL_put]
  refine ms_aload_n dX4_init_44 rfl ?_
  refine mi_bipush dX4_init_45 (by decide) ?_
  refine ms_newi_t 35 (N := 10) (bc := 1) (bs := 10) dX4_init_47 rfl rfl (by decide) (hz 35 (by decide)) rfl ?_
  refine ms_putRFa dX4_init_49 (fo_X4_27 rfl) (by first | rfl | assumption) rfl rfl rfl rfl ?_
  rw [rfL_put]
  refine ms_aload_n dX4_init_52 rfl ?_
  refine mi_bipush dX4_init_53 (by decide) ?_
  refine ms_newi_t 36 (N := 10) (bc := 0) (bs := 0) dX4_init_55 rfl rfl (by decide) (hz 36 (by decide)) rfl ?_
  refine ms_putRFa dX4_init_57 (fo_X4_30 rfl) (by first | rfl | assumption) rfl rfl rfl rfl ?_
  rw [rfL_put]
  refine ms_aload_n dX4_init_60 rfl ?_
  refine ms_callV0 (ci := 4) (r := (RX4, TX4, 14)) dX4_init_61 cv_X4_init_X4_forget (k_X4_forget (t := 29) (by decide) rfl) rfl rfl (by first | rfl | assumption) (Nat.le_of_ble_eq_true rfl) rfl (fun _ _ z => z.elim) (fun v9 h9 hp9 => ?_)
  obtain ⟨N, rfl, rfl, f1, f2⟩ := hp9
  refine ms_retV dX4_init_64 rfl ⟨N, rfl, rfl, f1, f2⟩ (by simp)

set_option maxHeartbeats 4000000 in
set_option maxRecDepth 100000 in
theorem k_X4_init_37 {S : mx_Sc} {M : Nat → Int → Int} {L : Nat → Nat → Int64} {l : List (Nat × Nat × Nat)} (hz : ∀ x, 37 < x → M x = fun _ => 0) : mx_C S mX4_init [.ref 37] (true, mx_SH.take 38, M, L, rfL l) 7 66 (fun v9 h9 => ∃ N, h9 = (true, mx_SH.take 45, N, L, rfL ((37, 13, 44) :: (37, 12, 43) :: (37, 11, 42) :: (37, 10, 41) :: (37, 9, 40) :: (37, 8, 39) :: (37, 7, 38) :: l)) ∧ v9 = none ∧ (∀ x, x ≠ 37 → N x = M x) ∧ ∀ k, 0 ≤ k → k < 7 → N 37 k = td0 0 k) (fun _ _ => False) := by
  refine mx_C_of (by decide) (by simp [Value.category]) (Nat.le_of_ble_eq_true rfl) rfl ?_
  show mx_E S mX4_init 0 [some (.ref 37)] [] (true, mx_SH.take 38, M, L, rfL l) 7 66 _ _
  refine ms_aload_n dX4_init_0 rfl ?_
  refine ms_objInit dX4_init_1 (oi_X4_3 rfl) (Nat.le_of_ble_eq_true rfl) (Nat.le_of_ble_eq_true rfl) ?_
  refine ms_aload_n dX4_init_4 rfl ?_
  refine mi_bipush dX4_init_5 (by decide) ?_
  refine ms_newi_t 38 (N := 6) (bc := 6) (bs := 60) dX4_init_7 rfl rfl (by decide) (hz 38 (by decide)) rfl ?_
  refine ms_putRFa dX4_init_9 (fo_X4_9 rfl) (by first | rfl | assumption) rfl rfl rfl rfl ?_
  rw [rfL_put]
  refine ms_aload_n dX4_init_12 rfl ?_
  refine mi_bipush dX4_init_13 (by decide) ?_
  refine ms_newi_t 39 (N := 6) (bc := 5) (bs := 54) dX4_init_15 rfl rfl (by decide) (hz 39 (by decide)) rfl ?_
  refine ms_putRFa dX4_init_17 (fo_X4_15 rfl) (by first | rfl | assumption) rfl rfl rfl rfl ?_
  rw [rfL_put]
  refine ms_aload_n dX4_init_20 rfl ?_
  refine mi_bipush dX4_init_21 (by decide) ?_
  refine ms_newi_t 40 (N := 6) (bc := 4) (bs := 48) dX4_init_23 rfl rfl (by decide) (hz 40 (by decide)) rfl ?_
  refine ms_putRFa dX4_init_25 (fo_X4_18 rfl) (by first | rfl | assumption) rfl rfl rfl rfl ?_
  rw [rfL_put]
  refine ms_aload_n dX4_init_28 rfl ?_
  refine mi_bipush dX4_init_29 (by decide) ?_
  refine ms_newi_t 41 (N := 18) (bc := 3) (bs := 30) dX4_init_31 rfl rfl (by decide) (hz 41 (by decide)) rfl ?_
  refine ms_putRFa dX4_init_33 (fo_X4_21 rfl) (by first | rfl | assumption) rfl rfl rfl rfl ?_
  rw [rfL_put]
  refine ms_aload_n dX4_init_36 rfl ?_
  refine mi_bipush dX4_init_37 (by decide) ?_
  refine ms_newi_t 42 (N := 10) (bc := 2) (bs := 20) dX4_init_39 rfl rfl (by decide) (hz 42 (by decide)) rfl ?_
  refine ms_putRFa dX4_init_41 (fo_X4_24 rfl) (by first | rfl | assumption) rfl rfl rfl rfl ?_
  rw [rfL_put]
  refine ms_aload_n dX4_init_44 rfl ?_
  refine mi_bipush dX4_init_45 (by decide) ?_
  refine ms_newi_t 43 (N := 10) (bc := 1) (bs := 10) dX4_init_47 rfl rfl (by decide) (hz 43 (by decide)) rfl ?_
  refine ms_putRFa dX4_init_49 (fo_X4_27 rfl) (by first | rfl | assumption) rfl rfl rfl rfl ?_
  rw [rfL_put]
  refine ms_aload_n dX4_init_52 rfl ?_
  refine mi_bipush dX4_init_53 (by decide) ?_
  refine ms_newi_t 44 (N := 10) (bc := 0) (bs := 0) dX4_init_55 rfl rfl (by decide) (hz 44 (by decide)) rfl ?_
  refine ms_putRFa dX4_init_57 (fo_X4_30 rfl) (by first | rfl | assumption) rfl rfl rfl rfl ?_
  rw [rfL_put]
  refine ms_aload_n dX4_init_60 rfl ?_
  refine ms_callV0 (ci := 4) (r := (RX4, TX4, 14)) dX4_init_61 cv_X4_init_X4_forget (k_X4_forget (t := 37) (by decide) rfl) rfl rfl (by first | rfl | assumption) (Nat.le_of_ble_eq_true rfl) rfl (fun _ _ z => z.elim) (fun v9 h9 hp9 => ?_)
  obtain ⟨N, rfl, rfl, f1, f2⟩ := hp9
  refine ms_retV dX4_init_64 rfl ⟨N, rfl, rfl, f1, f2⟩ (by simp)

set_option maxHeartbeats 4000000 in
set_option maxRecDepth 100000 in
theorem k_X1_init {S : mx_Sc} {M : Nat → Int → Int} {L : Nat → Nat → Int64} {l : List (Nat × Nat × Nat)} : mx_C S mX1_init [.ref 45, .ref 1, .ref 37] (true, mx_SH.take 46, M, L, rfL l) 0 0 (fun v9 h9 => h9 = (true, mx_SH.take 46, M, L, rfL ((45, 9, 37) :: (45, 2, 1) :: l)) ∧ v9 = none) (fun _ _ => False) := by
  refine mx_C_of (by decide) (by simp [Value.category]) (Nat.le_of_ble_eq_true rfl) rfl ?_
  show mx_E S mX1_init 0 [some (.ref 45), some (.ref 1), some (.ref 37)] [] (true, mx_SH.take 46, M, L, rfL l) 0 0 _ _
  refine ms_aload_n dX1_init_0 rfl ?_
  refine ms_objInit dX1_init_1 (oi_X1_3 rfl) (Nat.le_of_ble_eq_true rfl) (Nat.le_of_ble_eq_true rfl) ?_
  refine ms_aload_n dX1_init_4 rfl ?_
  refine ms_aload_n dX1_init_5 rfl ?_
  refine ms_putRFa dX1_init_6 (fo_X1_9 rfl) (by first | rfl | assumption) rfl rfl rfl rfl ?_
  rw [rfL_put]
  refine ms_aload_n dX1_init_9 rfl ?_
  refine ms_aload_n dX1_init_10 rfl ?_
  refine ms_putRo dX1_init_11 (fo_X1_15 rfl) (by first | rfl | assumption) rfl rfl ?_
  rw [rfL_put]
  refine ms_retV dX1_init_14 rfl ⟨rfl, rfl⟩ (by simp)

set_option maxHeartbeats 4000000 in
set_option maxRecDepth 100000 in
theorem k_X5_init {S : mx_Sc} {M : Nat → Int → Int} {L : Nat → Nat → Int64} {l : List (Nat × Nat × Nat)} (hz : ∀ x, 46 < x → M x = fun _ => 0) (hl9 : rfL ((46, 1, 29) :: (46, 0, 47) :: l) 29 9 = some 32) : mx_C S mX5_init [.ref 46, .ref 29] (true, mx_SH.take 47, M, L, rfL l) 1 18 (fun v9 h9 => h9 = (true, mx_SH.take 48, va_up M 46 (iu (M 46) 3 (M 29 2)), L, rfL ((46, 2, 32) :: (46, 1, 29) :: (46, 0, 47) :: l)) ∧ v9 = none) (fun _ _ => False) := by
  refine mx_C_of (by decide) (by simp [Value.category]) (Nat.le_of_ble_eq_true rfl) rfl ?_
  show mx_E S mX5_init 0 [some (.ref 46), some (.ref 29)] [] (true, mx_SH.take 47, M, L, rfL l) 1 18 _ _
  refine ms_aload_n dX5_init_0 rfl ?_
  refine ms_objInit dX5_init_1 (oi_X5_3 rfl) (Nat.le_of_ble_eq_true rfl) (Nat.le_of_ble_eq_true rfl) ?_
  refine ms_aload_n dX5_init_4 rfl ?_
  refine mi_bipush dX5_init_5 (by decide) ?_
  refine ms_newi_t 47 (N := 18) (bc := 0) (bs := 0) dX5_init_7 rfl rfl (by decide) (hz 47 (by decide)) rfl ?_
  refine ms_putRFa dX5_init_9 (fo_X5_9 rfl) (by first | rfl | assumption) rfl rfl rfl rfl ?_
  rw [rfL_put]
  refine ms_aload_n dX5_init_12 rfl ?_
  refine ms_aload_n dX5_init_13 rfl ?_
  refine ms_putRo dX5_init_14 (fo_X5_15 rfl) (by first | rfl | assumption) rfl rfl ?_
  rw [rfL_put]
  refine ms_aload_n dX5_init_17 rfl ?_
  refine ms_aload_n dX5_init_18 rfl ?_
  refine ms_getR dX5_init_19 (fo_X5_19 rfl) (by first | rfl | assumption) rfl hl9 ?_
  refine ms_putRa dX5_init_22 (fo_X5_24 rfl) (by first | rfl | assumption) rfl rfl ?_
  rw [rfL_put]
  refine ms_aload_n dX5_init_25 rfl ?_
  refine ms_aload_n dX5_init_26 rfl ?_
  refine ms_getI (z := 2) dX5_init_27 (fo_X5_25 rfl) (by first | rfl | assumption) rfl rfl ?_
  refine ms_putI (z := 3) dX5_init_30 (fo_X5_29 rfl) (by first | rfl | assumption) rfl rfl rfl ?_
  refine ms_retV dX5_init_33 rfl ⟨rfl, rfl⟩ (by simp)

set_option maxHeartbeats 4000000 in
set_option maxRecDepth 100000 in
theorem k_X6_init {S : mx_Sc} {M : Nat → Int → Int} {L : Nat → Nat → Int64} (hz : ∀ x, M x = fun _ => 0) : mx_C S mX6_init [.ref 0] (true, mx_SH.take 1, M, L, rfL []) 47 10029 (fun v9 h9 => ∃ N, h9 = (true, mx_SH.take 48, N, (va_up L 22 (fun _ => 0)), rfL ((0, 9, 46) :: (46, 2, 32) :: (46, 1, 29) :: (46, 0, 47) :: (0, 1, 45) :: (45, 9, 37) :: (45, 2, 1) :: (0, 11, 37) :: (37, 13, 44) :: (37, 12, 43) :: (37, 11, 42) :: (37, 10, 41) :: (37, 9, 40) :: (37, 8, 39) :: (37, 7, 38) :: (0, 10, 29) :: (29, 13, 36) :: (29, 12, 35) :: (29, 11, 34) :: (29, 10, 33) :: (29, 9, 32) :: (29, 8, 31) :: (29, 7, 30) :: (0, 8, 25) :: (25, 2, 28) :: (25, 1, 27) :: (25, 0, 26) :: (0, 7, 24) :: (0, 6, 23) :: (0, 5, 22) :: (0, 4, 18) :: (18, 2, 21) :: (18, 1, 20) :: (18, 0, 19) :: (0, 3, 10) :: (10, 3, 17) :: (10, 2, 16) :: (10, 1, 15) :: (10, 0, 11) :: (11, 2, 14) :: (11, 1, 13) :: (11, 0, 12) :: (0, 2, 2) :: (2, 3, 9) :: (2, 2, 8) :: (2, 1, 7) :: (2, 0, 3) :: (3, 2, 6) :: (3, 1, 5) :: (3, 0, 4) :: (0, 0, 1) :: [])) ∧ v9 = none ∧ (∀ x, x ≠ 0 → x ≠ 3 → x ≠ 4 → x ≠ 5 → x ≠ 6 → x ≠ 8 → x ≠ 29 → x ≠ 37 → x ≠ 46 → N x = fun _ => 0) ∧ N 0 13 = -1 ∧ (∀ k, k ≠ 13 → N 0 k = 0) ∧ (∀ k, 0 ≤ k → k < 7 → N 29 k = td0 0 k) ∧ (∀ i, 0 ≤ i → i < 18 → N 4 i = 0) ∧ (∀ l, 0 ≤ l → l < 6 → N 5 l = -1 ∧ N 6 l = -1) ∧ N 3 3 = 0 ∧ N 3 4 = 0 ∧ N 3 5 = 0 ∧ ∀ i, 0 ≤ i → N 8 i = 0) (fun _ _ => False) := by
  refine mx_C_of (by decide) (by simp [Value.category]) (Nat.le_of_ble_eq_true rfl) rfl ?_
  show mx_E S mX6_init 0 [some (.ref 0)] [] (true, mx_SH.take 1, M, L, rfL []) 47 10029 _ _
  refine ms_aload_n dX6_init_0 rfl ?_
  refine ms_objInit dX6_init_1 (oi_X6_1 rfl) (Nat.le_of_ble_eq_true rfl) (Nat.le_of_ble_eq_true rfl) ?_
  refine ms_aload_n dX6_init_4 rfl ?_
  refine mi_sipush dX6_init_5 (by decide) ?_
  refine ms_newi_t 1 (N := 500) (bc := 46) (bs := 9529) dX6_init_8 rfl rfl (by decide) (hz 1) rfl ?_
  refine ms_putRFa dX6_init_10 (fo_X6_9 rfl) (by first | rfl | assumption) rfl rfl rfl rfl ?_
  rw [rfL_put]
  refine ms_aload_n dX6_init_13 rfl ?_
  refine ms_new_t 2 (bc := 45) (bs := 9525) dX6_init_14 cl_3 nw_X6_init_3 rfl (hz 2) (rfL_new 2 _ rfl) rfl ?_
  refine ms_dup dX6_init_17 rfl ?_
  refine ms_callI0 (bc := 38) (bs := 5904) dX6_init_18 cv_X6_init_X3_init (k_X3_init_2 (M := M) (fun x hx => hz x) rfl) rfl rfl (Nat.le_of_ble_eq_true rfl) (fun v9 h9 hp9 => ?_)
  obtain ⟨rfl, rfl⟩ := hp9
  refine ms_putRFo dX6_init_21 (fo_X6_16 rfl) (by first | rfl | assumption) rfl rfl rfl rfl ?_
  rw [rfL_put]
  refine ms_aload_n dX6_init_24 rfl ?_
  refine ms_new_t 10 (bc := 37) (bs := 5900) dX6_init_25 cl_3 nw_X6_init_3 rfl (hz 10) (rfL_new 10 _ rfl) rfl ?_
  refine ms_dup dX6_init_28 rfl ?_
  refine ms_callI0 (bc := 30) (bs := 2279) dX6_init_29 cv_X6_init_X3_init (k_X3_init_10 (M := M) (fun x hx => hz x) rfl) rfl rfl (Nat.le_of_ble_eq_true rfl) (fun v9 h9 hp9 => ?_)
  obtain ⟨rfl, rfl⟩ := hp9
  refine ms_putRFo dX6_init_32 (fo_X6_20 rfl) (by first | rfl | assumption) rfl rfl rfl rfl ?_
  rw [rfL_put]
  refine ms_aload_n dX6_init_35 rfl ?_
  refine ms_new_t 18 (bc := 29) (bs := 2273) dX6_init_36 cl_2 nw_X6_init_2 rfl (hz 18) (rfL_new 18 _ rfl) rfl ?_
  refine ms_dup dX6_init_39 rfl ?_
  refine ms_callI0 (bc := 26) (bs := 2243) dX6_init_40 cv_X6_init_X2_init (k_X2_init_18 (M := M) (fun x hx => hz x)) rfl rfl (Nat.le_of_ble_eq_true rfl) (fun v9 h9 hp9 => ?_)
  obtain ⟨rfl, rfl⟩ := hp9
  refine ms_putRFo dX6_init_43 (fo_X6_26 rfl) (by first | rfl | assumption) rfl rfl rfl rfl ?_
  rw [rfL_put]
  refine ms_aload_n dX6_init_46 rfl ?_
  refine mi_sipush dX6_init_47 (by decide) ?_
  refine ms_newl_t 22 (N := 1001) (bc := 25) (bs := 1242) dX6_init_50 rfl rfl (by decide) rfl ?_
  refine ms_putRFa dX6_init_52 (fo_X6_30 rfl) (by first | rfl | assumption) rfl rfl rfl rfl ?_
  rw [rfL_put]
  refine ms_aload_n dX6_init_55 rfl ?_
  refine mi_bipush dX6_init_56 (by decide) ?_
  refine ms_newi_t 23 (N := 6) (bc := 24) (bs := 1236) dX6_init_58 rfl rfl (by decide) (hz 23) rfl ?_
  refine ms_putRFa dX6_init_60 (fo_X6_34 rfl) (by first | rfl | assumption) rfl rfl rfl rfl ?_
  rw [rfL_put]
  refine ms_aload_n dX6_init_63 rfl ?_
  refine mi_iconst dX6_init_64 ?_
  refine ms_newi_t 24 (N := 3) (bc := 23) (bs := 1233) dX6_init_65 rfl rfl (by decide) (hz 24) rfl ?_
  refine ms_putRFa dX6_init_67 (fo_X6_37 rfl) (by first | rfl | assumption) rfl rfl rfl rfl ?_
  rw [rfL_put]
  refine ms_aload_n dX6_init_70 rfl ?_
  refine ms_new_t 25 (bc := 22) (bs := 1228) dX6_init_71 cl_0 nw_X6_init_0 rfl (hz 25) (rfL_new 25 _ rfl) rfl ?_
  refine ms_dup dX6_init_74 rfl ?_
  refine ms_callI0 (bc := 19) (bs := 193) dX6_init_75 cv_X6_init_X0_init (k_X0_init (M := M) (fun x hx => hz x)) rfl rfl (Nat.le_of_ble_eq_true rfl) (fun v9 h9 hp9 => ?_)
  obtain ⟨rfl, rfl⟩ := hp9
  refine ms_putRFo dX6_init_78 (fo_X6_43 rfl) (by first | rfl | assumption) rfl rfl rfl rfl ?_
  rw [rfL_put]
  refine ms_aload_n dX6_init_81 rfl ?_
  refine ms_new_t 29 (bc := 18) (bs := 179) dX6_init_82 cl_4 nw_X6_init_4 rfl (hz 29) (rfL_new 29 _ rfl) rfl ?_
  refine ms_dup dX6_init_85 rfl ?_
  refine ms_callI0 (bc := 11) (bs := 113) dX6_init_86 cv_X6_init_X4_init (k_X4_init_29 (M := M) (fun x hx => hz x)) rfl rfl (Nat.le_of_ble_eq_true rfl) (fun v9 h9 hp9 => ?_)
  obtain ⟨N, rfl, rfl, f1, f2⟩ := hp9
  refine ms_putRo dX6_init_89 (fo_X6_50 rfl) (by first | rfl | assumption) rfl rfl ?_
  rw [rfL_put]
  refine ms_aload_n dX6_init_92 rfl ?_
  refine ms_new_t 37 (bc := 10) (bs := 99) dX6_init_93 cl_4 nw_X6_init_4 rfl ((f1 37 (by decide)).trans (hz 37)) (rfL_new 37 _ rfl) rfl ?_
  refine ms_dup dX6_init_96 rfl ?_
  refine ms_callI0 (bc := 3) (bs := 33) dX6_init_97 cv_X6_init_X4_init (k_X4_init_37 (M := N) (fun x hx => (f1 x (by omega)).trans (hz x))) rfl rfl (Nat.le_of_ble_eq_true rfl) (fun v9 h9 hp9 => ?_)
  obtain ⟨N2, rfl, rfl, g1, g2⟩ := hp9
  refine ms_putRo dX6_init_100 (fo_X6_54 rfl) (by first | rfl | assumption) rfl rfl ?_
  rw [rfL_put]
  refine ms_aload_n dX6_init_103 rfl ?_
  refine mi_iconst dX6_init_104 ?_
  refine ms_putI (z := 13) dX6_init_105 (fo_X6_57 rfl) (by first | rfl | assumption) rfl rfl rfl ?_
  refine mx_gen (fun N3 => (∀ x, x ≠ 0 → x ≠ 29 → x ≠ 37 → N3 x = fun _ => 0) ∧ N3 0 13 = -1 ∧ (∀ k, k ≠ 13 → N3 0 k = 0) ∧ ∀ k, 0 ≤ k → k < 7 → N3 29 k = td0 0 k) ⟨fun x x0 x1 x2 => ?_, ?_, fun k hk => ?_, fun k k0 k1 => ?_⟩ (fun N3 hN3 => ?_)
  · rw [up_n _ _ x0, g1 x x2, f1 x x1]; exact hz x
  · rw [up_s, iu_s]
  · rw [up_s, iu_n _ _ hk, g1 0 (by decide), f1 0 (by decide), hz 0]
  · rw [up_n _ _ (by decide), g1 29 (by decide)]; exact f2 k k0 k1
  obtain ⟨n1, n2, n3, n4⟩ := hN3
  refine ms_aload_n dX6_init_108 rfl ?_
  refine ms_new_t 45 (bc := 2) (bs := 23) dX6_init_109 cl_1 nw_X6_init_1 rfl (n1 45 (by decide) (by decide) (by decide)) (rfL_new 45 _ rfl) rfl ?_
  refine ms_dup dX6_init_112 rfl ?_
  refine ms_aload_n dX6_init_113 rfl ?_
  refine ms_getR dX6_init_114 (fo_X6_9 rfl) (by first | rfl | assumption) rfl rfl ?_
  refine ms_aload_n dX6_init_117 rfl ?_
  refine ms_getR dX6_init_118 (fo_X6_54 rfl) (by first | rfl | assumption) rfl rfl ?_
  refine ms_callI2 (bc := 2) (bs := 23) dX6_init_121 cv_X6_init_X1_init (k_X1_init) rfl rfl (Nat.le_of_ble_eq_true rfl) (fun v9 h9 hp9 => ?_)
  obtain ⟨rfl, rfl⟩ := hp9
  refine ms_putRFo dX6_init_124 (fo_X6_66 rfl) (by first | rfl | assumption) rfl rfl rfl rfl ?_
  rw [rfL_put]
  refine ms_aload_n dX6_init_127 rfl ?_
  refine ms_new_t 46 (bc := 1) (bs := 18) dX6_init_128 cl_5 nw_X6_init_5 rfl (n1 46 (by decide) (by decide) (by decide)) (rfL_new 46 _ rfl) rfl ?_
  refine ms_dup dX6_init_131 rfl ?_
  refine ms_aload_n dX6_init_132 rfl ?_
  refine ms_getR dX6_init_133 (fo_X6_50 rfl) (by first | rfl | assumption) rfl rfl ?_
  refine ms_callI1 (bc := 0) (bs := 0) dX6_init_136 cv_X6_init_X5_init (k_X5_init (fun x hx => n1 x (by omega) (by omega) (by omega)) rfl) rfl rfl (Nat.le_of_ble_eq_true rfl) (fun v9 h9 hp9 => ?_)
  obtain ⟨rfl, rfl⟩ := hp9
  refine ms_putRFo dX6_init_139 (fo_X6_75 rfl) (by first | rfl | assumption) rfl rfl rfl rfl ?_
  rw [rfL_put]
  refine ms_aload_n dX6_init_142 rfl ?_
  refine ms_getR dX6_init_143 (fo_X6_16 rfl) (by first | rfl | assumption) rfl rfl ?_
  refine ms_aload_n dX6_init_146 rfl ?_
  refine ms_getR dX6_init_147 (fo_X6_50 rfl) (by first | rfl | assumption) rfl rfl ?_
  refine ms_callV1 (ci := 3) (r := (RX3, TX3, 4)) dX6_init_150 cv_X6_init_X3_begin (k_X3_begin (M := va_up N3 46 (iu (N3 46) 3 (N3 29 2))) (t := 29) (Or.inl rfl) rfl rfl rfl rfl rfl rfl rfl rfl rfl rfl rfl rfl rfl rfl) rfl rfl (by first | rfl | assumption) (Nat.le_of_ble_eq_true rfl) rfl (fun _ _ z => z.elim) (fun v9 h9 hp9 => ?_)
  obtain ⟨N5, rfl, rfl, b1, b2, b3, b4, b5, b6, b7, b8⟩ := hp9
  refine ms_retV dX6_init_153 rfl ?_ (by simp)
  have q1 : ∀ x, x ≠ 0 → x ≠ 3 → x ≠ 4 → x ≠ 5 → x ≠ 6 → x ≠ 8 → x ≠ 29 → x ≠ 37 → x ≠ 46 → N5 x = fun _ => 0 := fun x x0 x3 x4 x5 x6 x8 x29 x37 x46 => by rw [b1 x x3 x4 x5 x6 x8, up_n _ _ x46]; exact n1 x x0 x29 x37
  refine ⟨N5, rfl, rfl, q1, ?_, fun k hk => ?_, fun k k0 k1 => ?_, fun i i0 i1 => ?_, b3, b4, b5, b6, fun i i0 => ?_⟩
  · rw [b1 0 (by decide) (by decide) (by decide) (by decide) (by decide), up_n _ _ (by decide)]; exact n2
  · rw [b1 0 (by decide) (by decide) (by decide) (by decide) (by decide), up_n _ _ (by decide)]; exact n3 k hk
  · rw [b1 29 (by decide) (by decide) (by decide) (by decide) (by decide), up_n _ _ (by decide)]; exact n4 k k0 k1
  · rw [b2 i i0 i1, up_n _ _ (by decide), n1 (29 + 4) (by decide) (by decide) (by decide)]
  · by_cases z : i < 18
    · rw [b7 i i0 z, up_n _ _ (by decide), n1 (29 + 4) (by decide) (by decide) (by decide)]
    · rw [b8 i (by omega), up_n _ _ (by decide), n1 8 (by decide) (by decide) (by decide)]

