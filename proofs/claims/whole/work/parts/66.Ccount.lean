set_option maxHeartbeats 4000000 in
set_option maxRecDepth 100000 in
theorem k_X6_count {S : mx_Sc} {f : Bool} {M : Nat → Int → Int} {L : Nat → Nat → Int64} {Rf : Nat → Nat → Option Nat} (hR : mx_rf Rf) {t : Nat} (ht : t = 29 ∨ t = 37) (hT : sp_tok (sp_tC M t)) (hto : Rf 0 10 = some t) {k : Int} (hk32 : -2147483648 ≤ k ∧ k ≤ 2147483647) (hc : 0 ≤ k ∧ k ≤ 12) : mx_C S mX6_count [.ref 0, .int (iI k)] (f, mx_SH, M, L, Rf) 0 0 (fun v9 h9 => h9 = (f, mx_SH, M, L, Rf) ∧ v9 = some (.int (iI (if k = 0 then M t 0 else if k = 1 then M t 1 else if k = 2 then M t 2 else if k = 3 then M t 3 else if k = 4 then M t 4 else if k = 5 then M t 5 else if k = 6 then M t 6 else if k = 7 then M 3 3 else if k = 8 then M 3 5 else if k = 9 then M 0 12 else if k = 10 then M 9 0 else if k = 11 then M 9 1 else if k = 12 then M 9 2 else 0)))) (fun _ _ => False) := by
  refine mx_C_of (by decide) (by simp [Value.category]) (Nat.le_of_ble_eq_true rfl) rfl ?_
  show mx_E S mX6_count 0 [some (.ref 0), some (.int (iI k))] [] (f, mx_SH, M, L, Rf) 0 0 _ _
  have ht9 : t < 900 := by omega
  have hs_t := tc_s ht
  have hs_t1 := tc_s1 ht
  have hr_t1 := tc_r1 hR ht
  have hs_t2 := tc_s2 ht
  have hr_t2 := tc_r2 hR ht
  have hs_t3 := tc_s3 ht
  have hr_t3 := tc_r3 hR ht
  have hs_t4 := tc_s4 ht
  have hr_t4 := tc_r4 hR ht
  have hs_t5 := tc_s5 ht
  have hr_t5 := tc_r5 hR ht
  have hs_t6 := tc_s6 ht
  have hr_t6 := tc_r6 hR ht
  have hs_t7 := tc_s7 ht
  have hr_t7 := tc_r7 hR ht
  have hT0 : 1 ≤ M t 0 ∧ M t 0 ≤ 30 := hT.1
  have hT1 : 0 ≤ M t 1 ∧ M t 1 ≤ 6 := hT.2.1
  have hT2 : 1 ≤ M t 2 ∧ M t 2 ≤ 9 := hT.2.2.1
  have hT3 : 0 ≤ M t 3 ∧ M t 3 ≤ 9 := hT.2.2.2.1
  have hT4 : 0 ≤ M t 4 ∧ M t 4 ≤ 9 := hT.2.2.2.2.1
  have hT5 : 1 ≤ M t 5 ∧ M t 5 ≤ 99 := hT.2.2.2.2.2.1
  have hT6 : 0 ≤ M t 6 ∧ M t 6 ≤ 10 := hT.2.2.2.2.2.2.1
  have hTn : ((M t 1).toNat : Int) = M t 1 := Int.toNat_of_nonneg hT1.1
  have hTn6 : ((M t 6).toNat : Int) = M t 6 := Int.toNat_of_nonneg hT6.1
  refine ms_iload_n dX6_count_0 rfl ?_
  rcases (show k = 0 ∨ k = 1 ∨ k = 2 ∨ k = 3 ∨ k = 4 ∨ k = 5 ∨ k = 6 ∨ k = 7 ∨ k = 8 ∨ k = 9 ∨ k = 10 ∨ k = 11 ∨ k = 12 by omega) with rfl | rfl | rfl | rfl | rfl | rfl | rfl | rfl | rfl | rfl | rfl | rfl | rfl
  · refine ms_tabIn (tgt := 68) dX6_count_1 (by decide) (by decide) rfl (by decide) ?_
    refine ms_aload_n dX6_count_68 rfl ?_
    refine ms_getR dX6_count_69 (fo_X6_50 rfl) (by first | rfl | assumption) rfl (by first | assumption ) ?_
    refine ms_getI (z := 0) dX6_count_72 (fo_X6_109 rfl) (by first | rfl | assumption) rfl rfl ?_
    refine ms_ret dX6_count_75 rfl ⟨rfl, rfl⟩ (by simp)
  · refine ms_tabIn (tgt := 76) dX6_count_1 (by decide) (by decide) rfl (by decide) ?_
    refine ms_aload_n dX6_count_76 rfl ?_
    refine ms_getR dX6_count_77 (fo_X6_50 rfl) (by first | rfl | assumption) rfl (by first | assumption ) ?_
    refine ms_getI (z := 1) dX6_count_80 (fo_X6_112 rfl) (by first | rfl | assumption) rfl rfl ?_
    refine ms_ret dX6_count_83 rfl ⟨rfl, rfl⟩ (by simp)
  · refine ms_tabIn (tgt := 84) dX6_count_1 (by decide) (by decide) rfl (by decide) ?_
    refine ms_aload_n dX6_count_84 rfl ?_
    refine ms_getR dX6_count_85 (fo_X6_50 rfl) (by first | rfl | assumption) rfl (by first | assumption ) ?_
    refine ms_getI (z := 2) dX6_count_88 (fo_X6_115 rfl) (by first | rfl | assumption) rfl rfl ?_
    refine ms_ret dX6_count_91 rfl ⟨rfl, rfl⟩ (by simp)
  · refine ms_tabIn (tgt := 92) dX6_count_1 (by decide) (by decide) rfl (by decide) ?_
    refine ms_aload_n dX6_count_92 rfl ?_
    refine ms_getR dX6_count_93 (fo_X6_50 rfl) (by first | rfl | assumption) rfl (by first | assumption ) ?_
    refine ms_getI (z := 3) dX6_count_96 (fo_X6_118 rfl) (by first | rfl | assumption) rfl rfl ?_
    refine ms_ret dX6_count_99 rfl ⟨rfl, rfl⟩ (by simp)
  · refine ms_tabIn (tgt := 100) dX6_count_1 (by decide) (by decide) rfl (by decide) ?_
    refine ms_aload_n dX6_count_100 rfl ?_
    refine ms_getR dX6_count_101 (fo_X6_50 rfl) (by first | rfl | assumption) rfl (by first | assumption ) ?_
    refine ms_getI (z := 4) dX6_count_104 (fo_X6_121 rfl) (by first | rfl | assumption) rfl rfl ?_
    refine ms_ret dX6_count_107 rfl ⟨rfl, rfl⟩ (by simp)
  · refine ms_tabIn (tgt := 108) dX6_count_1 (by decide) (by decide) rfl (by decide) ?_
    refine ms_aload_n dX6_count_108 rfl ?_
    refine ms_getR dX6_count_109 (fo_X6_50 rfl) (by first | rfl | assumption) rfl (by first | assumption ) ?_
    refine ms_getI (z := 5) dX6_count_112 (fo_X6_124 rfl) (by first | rfl | assumption) rfl rfl ?_
    refine ms_ret dX6_count_115 rfl ⟨rfl, rfl⟩ (by simp)
  · refine ms_tabIn (tgt := 116) dX6_count_1 (by decide) (by decide) rfl (by decide) ?_
    refine ms_aload_n dX6_count_116 rfl ?_
    refine ms_getR dX6_count_117 (fo_X6_50 rfl) (by first | rfl | assumption) rfl (by first | assumption ) ?_
    refine ms_getI (z := 6) dX6_count_120 (fo_X6_127 rfl) (by first | rfl | assumption) rfl rfl ?_
    refine ms_ret dX6_count_123 rfl ⟨rfl, rfl⟩ (by simp)
  · refine ms_tabIn (tgt := 124) dX6_count_1 (by decide) (by decide) rfl (by decide) ?_
    refine ms_aload_n dX6_count_124 rfl ?_
    refine ms_getR dX6_count_125 (fo_X6_16 rfl) (by first | rfl | assumption) rfl (by first | assumption | exact rf_0_2 hR ) ?_
    refine ms_getR dX6_count_128 (fo_X6_130 rfl) (by first | rfl | assumption) rfl (by first | assumption | exact rf_2_0 hR | exact rf_10_0 hR ) ?_
    refine ms_getI (z := 3) dX6_count_131 (fo_X6_133 rfl) (by first | rfl | assumption) rfl rfl ?_
    refine ms_ret dX6_count_134 rfl ⟨rfl, rfl⟩ (by simp)
  · refine ms_tabIn (tgt := 135) dX6_count_1 (by decide) (by decide) rfl (by decide) ?_
    refine ms_aload_n dX6_count_135 rfl ?_
    refine ms_getR dX6_count_136 (fo_X6_16 rfl) (by first | rfl | assumption) rfl (by first | assumption | exact rf_0_2 hR ) ?_
    refine ms_getR dX6_count_139 (fo_X6_130 rfl) (by first | rfl | assumption) rfl (by first | assumption | exact rf_2_0 hR | exact rf_10_0 hR ) ?_
    refine ms_getI (z := 5) dX6_count_142 (fo_X6_136 rfl) (by first | rfl | assumption) rfl rfl ?_
    refine ms_ret dX6_count_145 rfl ⟨rfl, rfl⟩ (by simp)
  · refine ms_tabIn (tgt := 146) dX6_count_1 (by decide) (by decide) rfl (by decide) ?_
    refine ms_aload_n dX6_count_146 rfl ?_
    refine ms_getI (z := 12) dX6_count_147 (fo_X6_82 rfl) (by first | rfl | assumption) rfl rfl ?_
    refine ms_ret dX6_count_150 rfl ⟨rfl, rfl⟩ (by simp)
  · refine ms_tabIn (tgt := 151) dX6_count_1 (by decide) (by decide) rfl (by decide) ?_
    refine ms_aload_n dX6_count_151 rfl ?_
    refine ms_getR dX6_count_152 (fo_X6_16 rfl) (by first | rfl | assumption) rfl (by first | assumption | exact rf_0_2 hR ) ?_
    refine ms_getR dX6_count_155 (fo_X6_102 rfl) (by first | rfl | assumption) rfl (by first | assumption | exact rf_2_3 hR | exact rf_10_3 hR ) ?_
    refine mi_iconst dX6_count_158 ?_
    refine ms_iald dX6_count_159 (by first | rfl | assumption) ?_
    refine ms_ret dX6_count_160 rfl ⟨rfl, rfl⟩ (by simp)
  · refine ms_tabIn (tgt := 161) dX6_count_1 (by decide) (by decide) rfl (by decide) ?_
    refine ms_aload_n dX6_count_161 rfl ?_
    refine ms_getR dX6_count_162 (fo_X6_16 rfl) (by first | rfl | assumption) rfl (by first | assumption | exact rf_0_2 hR ) ?_
    refine ms_getR dX6_count_165 (fo_X6_102 rfl) (by first | rfl | assumption) rfl (by first | assumption | exact rf_2_3 hR | exact rf_10_3 hR ) ?_
    refine mi_iconst dX6_count_168 ?_
    refine ms_iald dX6_count_169 (by first | rfl | assumption) ?_
    refine ms_ret dX6_count_170 rfl ⟨rfl, rfl⟩ (by simp)
  · refine ms_tabIn (tgt := 171) dX6_count_1 (by decide) (by decide) rfl (by decide) ?_
    refine ms_aload_n dX6_count_171 rfl ?_
    refine ms_getR dX6_count_172 (fo_X6_16 rfl) (by first | rfl | assumption) rfl (by first | assumption | exact rf_0_2 hR ) ?_
    refine ms_getR dX6_count_175 (fo_X6_102 rfl) (by first | rfl | assumption) rfl (by first | assumption | exact rf_2_3 hR | exact rf_10_3 hR ) ?_
    refine mi_iconst dX6_count_178 ?_
    refine ms_iald dX6_count_179 (by first | rfl | assumption) ?_
    refine ms_ret dX6_count_180 rfl ⟨rfl, rfl⟩ (by simp)

set_option maxHeartbeats 4000000 in
set_option maxRecDepth 100000 in
theorem k_X6_count_x {S : mx_Sc} {f : Bool} {M : Nat → Int → Int} {L : Nat → Nat → Int64} {Rf : Nat → Nat → Option Nat} (hR : mx_rf Rf) {k : Int} (hk32 : -2147483648 ≤ k ∧ k ≤ 2147483647) (hc : ¬ (0 ≤ k ∧ k ≤ 12)) : mx_C S mX6_count [.ref 0, .int (iI k)] (f, mx_SH, M, L, Rf) 1 6 (fun _ _ => False) (fun e9 h9 => e9 = "java/util/NoSuchElementException" ∧ h9 = (false, mx_SH, M, L, Rf)) := by
  refine mx_C_of (by decide) (by simp [Value.category]) (Nat.le_of_ble_eq_true rfl) rfl ?_
  show mx_E S mX6_count 0 [some (.ref 0), some (.int (iI k))] [] (f, mx_SH, M, L, Rf) 1 6 _ _
  refine ms_iload_n dX6_count_0 rfl ?_
  refine ms_tabOut (tgt := 181) dX6_count_1 (by rw [iI_toInt (by omega) (by omega)]; omega) (by decide) ?_
  refine ms_throw th_X6_count_N dX6_count_181 dX6_count_184 dX6_count_185 dX6_count_188 (Nat.le_of_ble_eq_true rfl) ⟨rfl, rfl⟩

set_option maxHeartbeats 4000000 in
set_option maxRecDepth 100000 in
theorem k_X6_lamp {S : mx_Sc} {f : Bool} {M : Nat → Int → Int} {L : Nat → Nat → Int64} {Rf : Nat → Nat → Option Nat} (hR : mx_rf Rf) {t : Nat} (ht : t = 29 ∨ t = 37) (hT : sp_tok (sp_tC M t)) (hto : Rf 0 10 = some t) {v : Int → Int} (hsc : scR (sp_tC M t) M 3 v) (hv : sp_vok (sp_tC M t) v) {n : Int} (hn : 0 ≤ n ∧ n ≤ 99) (hnn : M 3 3 = n) {l : Int} (hl32 : -2147483648 ≤ l ∧ l ≤ 2147483647) {k : Int} (hk32 : -2147483648 ≤ k ∧ k ≤ 2147483647) (hc : (0 ≤ l ∧ l < M t 1) ∧ (0 ≤ k ∧ k ≤ 7)) : mx_C S mX6_lamp [.ref 0, .int (iI l), .int (iI k)] (f, mx_SH, M, L, Rf) 0 0 (fun v9 h9 => h9 = (f, mx_SH, M, L, Rf) ∧ v9 = some (.int (iI (if k = 0 then M (t + 1) l else if k = 1 then M (t + 2) l else if k = 2 then v (3 * l) else if k = 3 then v (3 * l + 1) else if k = 4 then v (3 * l + 2) else if k = 5 then M (t + 3) l else if k = 6 then v (18 + l) else if k = 7 then v (24 + l) else 0)))) (fun _ _ => False) := by
  refine mx_C_of (by decide) (by simp [Value.category]) (Nat.le_of_ble_eq_true rfl) rfl ?_
  show mx_E S mX6_lamp 0 [some (.ref 0), some (.int (iI l)), some (.int (iI k))] [] (f, mx_SH, M, L, Rf) 0 0 _ _
  have ht9 : t < 900 := by omega
  have hs_t := tc_s ht
  have hs_t1 := tc_s1 ht
  have hr_t1 := tc_r1 hR ht
  have hs_t2 := tc_s2 ht
  have hr_t2 := tc_r2 hR ht
  have hs_t3 := tc_s3 ht
  have hr_t3 := tc_r3 hR ht
  have hs_t4 := tc_s4 ht
  have hr_t4 := tc_r4 hR ht
  have hs_t5 := tc_s5 ht
  have hr_t5 := tc_r5 hR ht
  have hs_t6 := tc_s6 ht
  have hr_t6 := tc_r6 hR ht
  have hs_t7 := tc_s7 ht
  have hr_t7 := tc_r7 hR ht
  have hT0 : 1 ≤ M t 0 ∧ M t 0 ≤ 30 := hT.1
  have hT1 : 0 ≤ M t 1 ∧ M t 1 ≤ 6 := hT.2.1
  have hT2 : 1 ≤ M t 2 ∧ M t 2 ≤ 9 := hT.2.2.1
  have hT3 : 0 ≤ M t 3 ∧ M t 3 ≤ 9 := hT.2.2.2.1
  have hT4 : 0 ≤ M t 4 ∧ M t 4 ≤ 9 := hT.2.2.2.2.1
  have hT5 : 1 ≤ M t 5 ∧ M t 5 ≤ 99 := hT.2.2.2.2.2.1
  have hT6 : 0 ≤ M t 6 ∧ M t 6 ≤ 10 := hT.2.2.2.2.2.2.1
  have hTn : ((M t 1).toNat : Int) = M t 1 := Int.toNat_of_nonneg hT1.1
  have hTn6 : ((M t 6).toNat : Int) = M t 6 := Int.toNat_of_nonneg hT6.1
  refine ms_aload_n dX6_lamp_0 rfl ?_
  refine ms_iload_n dX6_lamp_1 rfl ?_
  refine ms_callV1 (ci := 6) (r := (RX6, TX6, 15)) dX6_lamp_2 cv_X6_lamp_X6_requireLamp (k_X6_requireLamp hR ht hT hto hl32 hc.1) rfl rfl (by first | rfl | assumption) (Nat.le_of_ble_eq_true rfl) rfl (fun _ _ z => z.elim) (fun v9 h9 hp9 => ?_)
  obtain ⟨rfl, rfl⟩ := hp9
  refine ms_iload_n dX6_lamp_5 rfl ?_
  rcases (show k = 0 ∨ k = 1 ∨ k = 2 ∨ k = 3 ∨ k = 4 ∨ k = 5 ∨ k = 6 ∨ k = 7 by omega) with rfl | rfl | rfl | rfl | rfl | rfl | rfl | rfl
  · refine ms_tabIn (tgt := 52) dX6_lamp_6 (by decide) (by decide) rfl (by decide) ?_
    refine ms_aload_n dX6_lamp_52 rfl ?_
    refine ms_getR dX6_lamp_53 (fo_X6_50 rfl) (by first | rfl | assumption) rfl (by first | assumption ) ?_
    refine ms_getR dX6_lamp_56 (fo_X6_145 rfl) (by first | rfl | assumption) rfl (by first | assumption | exact rf_29_7 hR | exact rf_37_7 hR ) ?_
    refine ms_iload_n dX6_lamp_59 rfl ?_
    refine ms_iald dX6_lamp_60 (by first | rfl | assumption) ?_
    refine ms_ret dX6_lamp_61 rfl ⟨rfl, rfl⟩ (by simp)
  · refine ms_tabIn (tgt := 62) dX6_lamp_6 (by decide) (by decide) rfl (by decide) ?_
    refine ms_aload_n dX6_lamp_62 rfl ?_
    refine ms_getR dX6_lamp_63 (fo_X6_50 rfl) (by first | rfl | assumption) rfl (by first | assumption ) ?_
    refine ms_getR dX6_lamp_66 (fo_X6_148 rfl) (by first | rfl | assumption) rfl (by first | assumption | exact rf_29_8 hR | exact rf_37_8 hR ) ?_
    refine ms_iload_n dX6_lamp_69 rfl ?_
    refine ms_iald dX6_lamp_70 (by first | rfl | assumption) ?_
    refine ms_ret dX6_lamp_71 rfl ⟨rfl, rfl⟩ (by simp)
  · refine ms_tabIn (tgt := 72) dX6_lamp_6 (by decide) (by decide) rfl (by decide) ?_
    refine ms_aload_n dX6_lamp_72 rfl ?_
    refine ms_getR dX6_lamp_73 (fo_X6_16 rfl) (by first | rfl | assumption) rfl (by first | assumption | exact rf_0_2 hR ) ?_
    refine ms_getR dX6_lamp_76 (fo_X6_130 rfl) (by first | rfl | assumption) rfl (by first | assumption | exact rf_2_0 hR | exact rf_10_0 hR ) ?_
    refine ms_getR dX6_lamp_79 (fo_X6_151 rfl) (by first | rfl | assumption) rfl (by first | assumption | exact rf_3_0 hR | exact rf_11_0 hR | exact rf_18_0 hR ) ?_
    refine ms_iload_n dX6_lamp_82 rfl ?_
    refine mi_iconst dX6_lamp_83 ?_
    refine mi_imul dX6_lamp_84 ?_
    refine ms_iload_n dX6_lamp_85 rfl ?_
    refine mi_iadd dX6_lamp_86 ?_
    refine mi_iconst dX6_lamp_87 ?_
    refine mi_isub dX6_lamp_88 ?_
    refine ms_iald dX6_lamp_89 (by first | rfl | assumption) ?_
    rw [show M 4 (l * 3 + 2 - 2) = v (3 * l) from (hsc.1 (l * 3 + 2 - 2) (by omega) (by simp only; omega)).trans (congrArg v (by omega))]
    refine ms_ret dX6_lamp_90 rfl ⟨rfl, rfl⟩ (by simp)
  · refine ms_tabIn (tgt := 72) dX6_lamp_6 (by decide) (by decide) rfl (by decide) ?_
    refine ms_aload_n dX6_lamp_72 rfl ?_
    refine ms_getR dX6_lamp_73 (fo_X6_16 rfl) (by first | rfl | assumption) rfl (by first | assumption | exact rf_0_2 hR ) ?_
    refine ms_getR dX6_lamp_76 (fo_X6_130 rfl) (by first | rfl | assumption) rfl (by first | assumption | exact rf_2_0 hR | exact rf_10_0 hR ) ?_
    refine ms_getR dX6_lamp_79 (fo_X6_151 rfl) (by first | rfl | assumption) rfl (by first | assumption | exact rf_3_0 hR | exact rf_11_0 hR | exact rf_18_0 hR ) ?_
    refine ms_iload_n dX6_lamp_82 rfl ?_
    refine mi_iconst dX6_lamp_83 ?_
    refine mi_imul dX6_lamp_84 ?_
    refine ms_iload_n dX6_lamp_85 rfl ?_
    refine mi_iadd dX6_lamp_86 ?_
    refine mi_iconst dX6_lamp_87 ?_
    refine mi_isub dX6_lamp_88 ?_
    refine ms_iald dX6_lamp_89 (by first | rfl | assumption) ?_
    rw [show M 4 (l * 3 + 3 - 2) = v (3 * l + 1) from (hsc.1 (l * 3 + 3 - 2) (by omega) (by simp only; omega)).trans (congrArg v (by omega))]
    refine ms_ret dX6_lamp_90 rfl ⟨rfl, rfl⟩ (by simp)
  · refine ms_tabIn (tgt := 72) dX6_lamp_6 (by decide) (by decide) rfl (by decide) ?_
    refine ms_aload_n dX6_lamp_72 rfl ?_
    refine ms_getR dX6_lamp_73 (fo_X6_16 rfl) (by first | rfl | assumption) rfl (by first | assumption | exact rf_0_2 hR ) ?_
    refine ms_getR dX6_lamp_76 (fo_X6_130 rfl) (by first | rfl | assumption) rfl (by first | assumption | exact rf_2_0 hR | exact rf_10_0 hR ) ?_
    refine ms_getR dX6_lamp_79 (fo_X6_151 rfl) (by first | rfl | assumption) rfl (by first | assumption | exact rf_3_0 hR | exact rf_11_0 hR | exact rf_18_0 hR ) ?_
    refine ms_iload_n dX6_lamp_82 rfl ?_
    refine mi_iconst dX6_lamp_83 ?_
    refine mi_imul dX6_lamp_84 ?_
    refine ms_iload_n dX6_lamp_85 rfl ?_
    refine mi_iadd dX6_lamp_86 ?_
    refine mi_iconst dX6_lamp_87 ?_
    refine mi_isub dX6_lamp_88 ?_
    refine ms_iald dX6_lamp_89 (by first | rfl | assumption) ?_
    rw [show M 4 (l * 3 + 4 - 2) = v (3 * l + 2) from (hsc.1 (l * 3 + 4 - 2) (by omega) (by simp only; omega)).trans (congrArg v (by omega))]
    refine ms_ret dX6_lamp_90 rfl ⟨rfl, rfl⟩ (by simp)
  · refine ms_tabIn (tgt := 91) dX6_lamp_6 (by decide) (by decide) rfl (by decide) ?_
    refine ms_aload_n dX6_lamp_91 rfl ?_
    refine ms_getR dX6_lamp_92 (fo_X6_50 rfl) (by first | rfl | assumption) rfl (by first | assumption ) ?_
    refine ms_getR dX6_lamp_95 (fo_X6_154 rfl) (by first | rfl | assumption) rfl (by first | assumption | exact rf_29_9 hR | exact rf_37_9 hR ) ?_
    refine ms_iload_n dX6_lamp_98 rfl ?_
    refine ms_iald dX6_lamp_99 (by first | rfl | assumption) ?_
    refine ms_ret dX6_lamp_100 rfl ⟨rfl, rfl⟩ (by simp)
  · refine ms_tabIn (tgt := 101) dX6_lamp_6 (by decide) (by decide) rfl (by decide) ?_
    refine ms_aload_n dX6_lamp_101 rfl ?_
    refine ms_getR dX6_lamp_102 (fo_X6_16 rfl) (by first | rfl | assumption) rfl (by first | assumption | exact rf_0_2 hR ) ?_
    refine ms_getR dX6_lamp_105 (fo_X6_130 rfl) (by first | rfl | assumption) rfl (by first | assumption | exact rf_2_0 hR | exact rf_10_0 hR ) ?_
    refine ms_getR dX6_lamp_108 (fo_X6_157 rfl) (by first | rfl | assumption) rfl (by first | assumption | exact rf_3_1 hR | exact rf_11_1 hR | exact rf_18_1 hR ) ?_
    refine ms_iload_n dX6_lamp_111 rfl ?_
    refine ms_iald dX6_lamp_112 (by first | rfl | assumption) ?_
    rw [show M 5 l = v (18 + l) from (hsc.2.1 l (by omega) (by omega)).1]
    refine ms_ret dX6_lamp_113 rfl ⟨rfl, rfl⟩ (by simp)
  · refine ms_tabIn (tgt := 114) dX6_lamp_6 (by decide) (by decide) rfl (by decide) ?_
    refine ms_aload_n dX6_lamp_114 rfl ?_
    refine ms_getR dX6_lamp_115 (fo_X6_16 rfl) (by first | rfl | assumption) rfl (by first | assumption | exact rf_0_2 hR ) ?_
    refine ms_getR dX6_lamp_118 (fo_X6_130 rfl) (by first | rfl | assumption) rfl (by first | assumption | exact rf_2_0 hR | exact rf_10_0 hR ) ?_
    refine ms_getR dX6_lamp_121 (fo_X6_160 rfl) (by first | rfl | assumption) rfl (by first | assumption | exact rf_3_2 hR | exact rf_11_2 hR | exact rf_18_2 hR ) ?_
    refine ms_iload_n dX6_lamp_124 rfl ?_
    refine ms_iald dX6_lamp_125 (by first | rfl | assumption) ?_
    rw [show M 6 l = v (24 + l) from (hsc.2.1 l (by omega) (by omega)).2]
    refine ms_ret dX6_lamp_126 rfl ⟨rfl, rfl⟩ (by simp)

set_option maxHeartbeats 4000000 in
set_option maxRecDepth 100000 in
theorem k_X6_lamp_x {S : mx_Sc} {f : Bool} {M : Nat → Int → Int} {L : Nat → Nat → Int64} {Rf : Nat → Nat → Option Nat} (hR : mx_rf Rf) {t : Nat} (ht : t = 29 ∨ t = 37) (hT : sp_tok (sp_tC M t)) (hto : Rf 0 10 = some t) {l : Int} (hl32 : -2147483648 ≤ l ∧ l ≤ 2147483647) {k : Int} (hk32 : -2147483648 ≤ k ∧ k ≤ 2147483647) (hc : ¬ ((0 ≤ l ∧ l < M t 1) ∧ (0 ≤ k ∧ k ≤ 7))) : mx_C S mX6_lamp [.ref 0, .int (iI l), .int (iI k)] (f, mx_SH, M, L, Rf) 1 6 (fun _ _ => False) (fun e9 h9 => e9 = "java/util/NoSuchElementException" ∧ h9 = (false, mx_SH, M, L, Rf)) := by
  refine mx_C_of (by decide) (by simp [Value.category]) (Nat.le_of_ble_eq_true rfl) rfl ?_
  show mx_E S mX6_lamp 0 [some (.ref 0), some (.int (iI l)), some (.int (iI k))] [] (f, mx_SH, M, L, Rf) 1 6 _ _
  have ht9 : t < 900 := by omega
  have hs_t := tc_s ht
  have hs_t1 := tc_s1 ht
  have hr_t1 := tc_r1 hR ht
  have hs_t2 := tc_s2 ht
  have hr_t2 := tc_r2 hR ht
  have hs_t3 := tc_s3 ht
  have hr_t3 := tc_r3 hR ht
  have hs_t4 := tc_s4 ht
  have hr_t4 := tc_r4 hR ht
  have hs_t5 := tc_s5 ht
  have hr_t5 := tc_r5 hR ht
  have hs_t6 := tc_s6 ht
  have hr_t6 := tc_r6 hR ht
  have hs_t7 := tc_s7 ht
  have hr_t7 := tc_r7 hR ht
  have hT0 : 1 ≤ M t 0 ∧ M t 0 ≤ 30 := hT.1
  have hT1 : 0 ≤ M t 1 ∧ M t 1 ≤ 6 := hT.2.1
  have hT2 : 1 ≤ M t 2 ∧ M t 2 ≤ 9 := hT.2.2.1
  have hT3 : 0 ≤ M t 3 ∧ M t 3 ≤ 9 := hT.2.2.2.1
  have hT4 : 0 ≤ M t 4 ∧ M t 4 ≤ 9 := hT.2.2.2.2.1
  have hT5 : 1 ≤ M t 5 ∧ M t 5 ≤ 99 := hT.2.2.2.2.2.1
  have hT6 : 0 ≤ M t 6 ∧ M t 6 ≤ 10 := hT.2.2.2.2.2.2.1
  have hTn : ((M t 1).toNat : Int) = M t 1 := Int.toNat_of_nonneg hT1.1
  have hTn6 : ((M t 6).toNat : Int) = M t 6 := Int.toNat_of_nonneg hT6.1
  by_cases h0 : 0 ≤ l ∧ l < M t 1
  rotate_left 1
  · refine ms_aload_n dX6_lamp_0 rfl ?_
    refine ms_iload_n dX6_lamp_1 rfl ?_
    refine ms_callVx1 (bc := 0) (bs := 0) (ci := 6) (r := (RX6, TX6, 15)) dX6_lamp_2 cv_X6_lamp_X6_requireLamp (k_X6_requireLamp_x hR ht hT hto hl32 h0) rfl rfl rfl rfl (by first | rfl | assumption) (Nat.le_of_ble_eq_true rfl) rfl (fun _ _ z => by first | exact z.elim | exact z) (fun v9 h9 hp9 => ?_)
    skip
    exact hp9.elim
  refine ms_aload_n dX6_lamp_0 rfl ?_
  refine ms_iload_n dX6_lamp_1 rfl ?_
  refine ms_callV1 (ci := 6) (r := (RX6, TX6, 15)) dX6_lamp_2 cv_X6_lamp_X6_requireLamp (k_X6_requireLamp hR ht hT hto hl32 h0) rfl rfl (by first | rfl | assumption) (Nat.le_of_ble_eq_true rfl) rfl (fun _ _ z => by first | exact z.elim | exact z) (fun v9 h9 hp9 => ?_)
  obtain ⟨rfl, rfl⟩ := hp9
  refine ms_iload_n dX6_lamp_5 rfl ?_
  refine ms_tabOut (tgt := 127) dX6_lamp_6 (by rw [iI_toInt (by omega) (by omega)]; omega) (by decide) ?_
  refine ms_throw th_X6_lamp_N dX6_lamp_127 dX6_lamp_130 dX6_lamp_131 dX6_lamp_134 (Nat.le_of_ble_eq_true rfl) ⟨rfl, rfl⟩

theorem up_01 {α : Type} (M : Nat → α) (g : α) : va_up M 0 g 1 = M 1 := up_n _ _ (by decide)
theorem up_10 {α : Type} (M : Nat → α) (g : α) : va_up M 1 g 0 = M 0 := up_n _ _ (by decide)
/-- one of the four bytes of a number -/
def by32 (x : Int32) (s : Int) : Int := ((x.toUInt32 >>> ((iI s).toUInt32 &&& Int32.toUInt32 31)).toInt32 &&& iI 255).toInt
theorem by32_b (x : Int32) (s : Int) : 0 ≤ by32 x s ∧ by32 x s < 256 := by
  unfold by32
  generalize (x.toUInt32 >>> ((iI s).toUInt32 &&& Int32.toUInt32 31)).toInt32 = y
  have h1 : (y &&& iI 255).toInt = (y.toBitVec &&& (255#32)).toInt := rfl
  have h2 : (y.toBitVec &&& (255#32)).toNat ≤ 255 := by
    rw [BitVec.toNat_and]
    exact Nat.and_le_right
  rw [h1, BitVec.toInt_eq_toNat_of_lt (by omega)]
  omega
set_option maxHeartbeats 4000000 in
set_option maxRecDepth 100000 in
theorem k_X6_putBytes {S : mx_Sc} {f : Bool} {M : Nat → Int → Int} {L : Nat → Nat → Int64} {Rf : Nat → Nat → Option Nat} (hR : mx_rf Rf) {p x : Int} (hp : 0 ≤ p ∧ p ≤ 496) (hpp : M 0 12 = p) : mx_C S mX6_putBytes [.ref 0, .int (iI x)] (f, mx_SH, M, L, Rf) 0 0 (fun v9 h9 => ∃ N, h9 = (f, mx_SH, N, L, Rf) ∧ v9 = none ∧ (∀ y, y ≠ 0 → y ≠ 1 → N y = M y) ∧ (∀ j, j ≠ 12 → N 0 j = M 0 j) ∧ N 0 12 = p + 1 + 1 + 1 + 1 ∧ N 1 = iu (iu (iu (iu (M 1) p (by32 (iI x) 24)) (p + 1) (by32 (iI x) 16)) (p + 1 + 1) (by32 (iI x) 8)) (p + 1 + 1 + 1) (by32 (iI x) 0)) (fun _ _ => False) := by
  refine mx_C_of (by decide) (by simp [Value.category]) (Nat.le_of_ble_eq_true rfl) rfl ?_
  show mx_E S mX6_putBytes 0 [some (.ref 0), some (.int (iI x)), none] [] (f, mx_SH, M, L, Rf) 0 0 _ _
  subst hpp
  refine mi_bipush dX6_putBytes_0 (by decide) ?_
  refine ms_istore_n dX6_putBytes_2 (by decide) rfl ?_
  dsimp only [List.set, Nat.reduceAdd]
  refine ms_iload_n dX6_putBytes_3 rfl ?_
  refine mi_if_lt (tgt := 49) dX6_putBytes_4 (by decide) (fun c_4 => ?_) (fun c_4 => ?_)
  · exact absurd c_4 (by omega)
  · refine ms_aload_n dX6_putBytes_7 rfl ?_
    refine ms_getI (z := 12) dX6_putBytes_8 (fo_X6_82 rfl) (by first | rfl | assumption) rfl rfl ?_
    try simp only [up_s, iu_s, up_01, up_10]
    refine mi_sipush dX6_putBytes_11 (by decide) ?_
    refine mi_icmp_ge (tgt := 49) dX6_putBytes_14 (by decide) (fun c_14 => ?_) (fun c_14 => ?_)
    · exact absurd c_14 (by omega)
    · refine ms_aload_n dX6_putBytes_17 rfl ?_
      refine ms_getR dX6_putBytes_18 (fo_X6_9 rfl) (by first | rfl | assumption) rfl (by first | assumption | exact rf_0_0 hR ) ?_
      refine ms_aload_n dX6_putBytes_21 rfl ?_
      refine ms_getI (z := 12) dX6_putBytes_22 (fo_X6_82 rfl) (by first | rfl | assumption) rfl rfl ?_
      try simp only [up_s, iu_s, up_01, up_10]
      refine ms_iload_n dX6_putBytes_25 rfl ?_
      refine ms_iload_n dX6_putBytes_26 rfl ?_
      refine mi_iushr (_) dX6_putBytes_27 (iI_ti _).symm ?_
      refine mi_sipush dX6_putBytes_28 (by decide) ?_
      refine mi_iand (_) dX6_putBytes_31 (iI_ti _).symm ?_
      refine ms_iast dX6_putBytes_32 (by first | rfl | assumption) ?_
      refine ms_aload_n dX6_putBytes_33 rfl ?_
      refine ms_dup dX6_putBytes_34 rfl ?_
      refine ms_getI (z := 12) dX6_putBytes_35 (fo_X6_82 rfl) (by first | rfl | assumption) rfl rfl ?_
      try simp only [up_s, iu_s, up_01, up_10]
      refine mi_iconst dX6_putBytes_38 ?_
      refine mi_iadd dX6_putBytes_39 ?_
      refine ms_putI (z := 12) dX6_putBytes_40 (fo_X6_82 rfl) (by first | rfl | assumption) rfl rfl rfl ?_
      refine mi_iinc dX6_putBytes_43 rfl (by decide) rfl ?_
      dsimp only [List.set, Nat.reduceAdd]
      refine ms_goto (tgt := 3) dX6_putBytes_46 (by decide) ?_
      refine ms_iload_n dX6_putBytes_3 rfl ?_
      refine mi_if_lt (tgt := 49) dX6_putBytes_4 (by decide) (fun c_4 => ?_) (fun c_4 => ?_)
      · exact absurd c_4 (by omega)
      · refine ms_aload_n dX6_putBytes_7 rfl ?_
        refine ms_getI (z := 12) dX6_putBytes_8 (fo_X6_82 rfl) (by first | rfl | assumption) rfl rfl ?_
        try simp only [up_s, iu_s, up_01, up_10]
        refine mi_sipush dX6_putBytes_11 (by decide) ?_
        refine mi_icmp_ge (tgt := 49) dX6_putBytes_14 (by decide) (fun c_14 => ?_) (fun c_14 => ?_)
        · exact absurd c_14 (by omega)
        · refine ms_aload_n dX6_putBytes_17 rfl ?_
          refine ms_getR dX6_putBytes_18 (fo_X6_9 rfl) (by first | rfl | assumption) rfl (by first | assumption | exact rf_0_0 hR ) ?_
          refine ms_aload_n dX6_putBytes_21 rfl ?_
          refine ms_getI (z := 12) dX6_putBytes_22 (fo_X6_82 rfl) (by first | rfl | assumption) rfl rfl ?_
          try simp only [up_s, iu_s, up_01, up_10]
          refine ms_iload_n dX6_putBytes_25 rfl ?_
          refine ms_iload_n dX6_putBytes_26 rfl ?_
          refine mi_iushr (_) dX6_putBytes_27 (iI_ti _).symm ?_
          refine mi_sipush dX6_putBytes_28 (by decide) ?_
          refine mi_iand (_) dX6_putBytes_31 (iI_ti _).symm ?_
          refine ms_iast dX6_putBytes_32 (by first | rfl | assumption) ?_
          refine ms_aload_n dX6_putBytes_33 rfl ?_
          refine ms_dup dX6_putBytes_34 rfl ?_
          refine ms_getI (z := 12) dX6_putBytes_35 (fo_X6_82 rfl) (by first | rfl | assumption) rfl rfl ?_
          try simp only [up_s, iu_s, up_01, up_10]
          refine mi_iconst dX6_putBytes_38 ?_
          refine mi_iadd dX6_putBytes_39 ?_
          refine ms_putI (z := 12) dX6_putBytes_40 (fo_X6_82 rfl) (by first | rfl | assumption) rfl rfl rfl ?_
          refine mi_iinc dX6_putBytes_43 rfl (by decide) rfl ?_
          dsimp only [List.set, Nat.reduceAdd]
          refine ms_goto (tgt := 3) dX6_putBytes_46 (by decide) ?_
          refine ms_iload_n dX6_putBytes_3 rfl ?_
          refine mi_if_lt (tgt := 49) dX6_putBytes_4 (by decide) (fun c_4 => ?_) (fun c_4 => ?_)
          · exact absurd c_4 (by omega)
          · refine ms_aload_n dX6_putBytes_7 rfl ?_
            refine ms_getI (z := 12) dX6_putBytes_8 (fo_X6_82 rfl) (by first | rfl | assumption) rfl rfl ?_
            try simp only [up_s, iu_s, up_01, up_10]
            refine mi_sipush dX6_putBytes_11 (by decide) ?_
            refine mi_icmp_ge (tgt := 49) dX6_putBytes_14 (by decide) (fun c_14 => ?_) (fun c_14 => ?_)
            · exact absurd c_14 (by omega)
            · refine ms_aload_n dX6_putBytes_17 rfl ?_
              refine ms_getR dX6_putBytes_18 (fo_X6_9 rfl) (by first | rfl | assumption) rfl (by first | assumption | exact rf_0_0 hR ) ?_
              refine ms_aload_n dX6_putBytes_21 rfl ?_
              refine ms_getI (z := 12) dX6_putBytes_22 (fo_X6_82 rfl) (by first | rfl | assumption) rfl rfl ?_
              try simp only [up_s, iu_s, up_01, up_10]
              refine ms_iload_n dX6_putBytes_25 rfl ?_
              refine ms_iload_n dX6_putBytes_26 rfl ?_
              refine mi_iushr (_) dX6_putBytes_27 (iI_ti _).symm ?_
              refine mi_sipush dX6_putBytes_28 (by decide) ?_
              refine mi_iand (_) dX6_putBytes_31 (iI_ti _).symm ?_
              refine ms_iast dX6_putBytes_32 (by first | rfl | assumption) ?_
              refine ms_aload_n dX6_putBytes_33 rfl ?_
              refine ms_dup dX6_putBytes_34 rfl ?_
              refine ms_getI (z := 12) dX6_putBytes_35 (fo_X6_82 rfl) (by first | rfl | assumption) rfl rfl ?_
              try simp only [up_s, iu_s, up_01, up_10]
              refine mi_iconst dX6_putBytes_38 ?_
              refine mi_iadd dX6_putBytes_39 ?_
              refine ms_putI (z := 12) dX6_putBytes_40 (fo_X6_82 rfl) (by first | rfl | assumption) rfl rfl rfl ?_
              refine mi_iinc dX6_putBytes_43 rfl (by decide) rfl ?_
              dsimp only [List.set, Nat.reduceAdd]
              refine ms_goto (tgt := 3) dX6_putBytes_46 (by decide) ?_
              refine ms_iload_n dX6_putBytes_3 rfl ?_
              refine mi_if_lt (tgt := 49) dX6_putBytes_4 (by decide) (fun c_4 => ?_) (fun c_4 => ?_)
              · exact absurd c_4 (by omega)
              · refine ms_aload_n dX6_putBytes_7 rfl ?_
                refine ms_getI (z := 12) dX6_putBytes_8 (fo_X6_82 rfl) (by first | rfl | assumption) rfl rfl ?_
                try simp only [up_s, iu_s, up_01, up_10]
                refine mi_sipush dX6_putBytes_11 (by decide) ?_
                refine mi_icmp_ge (tgt := 49) dX6_putBytes_14 (by decide) (fun c_14 => ?_) (fun c_14 => ?_)
                · exact absurd c_14 (by omega)
                · refine ms_aload_n dX6_putBytes_17 rfl ?_
                  refine ms_getR dX6_putBytes_18 (fo_X6_9 rfl) (by first | rfl | assumption) rfl (by first | assumption | exact rf_0_0 hR ) ?_
                  refine ms_aload_n dX6_putBytes_21 rfl ?_
                  refine ms_getI (z := 12) dX6_putBytes_22 (fo_X6_82 rfl) (by first | rfl | assumption) rfl rfl ?_
                  try simp only [up_s, iu_s, up_01, up_10]
                  refine ms_iload_n dX6_putBytes_25 rfl ?_
                  refine ms_iload_n dX6_putBytes_26 rfl ?_
                  refine mi_iushr (_) dX6_putBytes_27 (iI_ti _).symm ?_
                  refine mi_sipush dX6_putBytes_28 (by decide) ?_
                  refine mi_iand (_) dX6_putBytes_31 (iI_ti _).symm ?_
                  refine ms_iast dX6_putBytes_32 (by first | rfl | assumption) ?_
                  refine ms_aload_n dX6_putBytes_33 rfl ?_
                  refine ms_dup dX6_putBytes_34 rfl ?_
                  refine ms_getI (z := 12) dX6_putBytes_35 (fo_X6_82 rfl) (by first | rfl | assumption) rfl rfl ?_
                  try simp only [up_s, iu_s, up_01, up_10]
                  refine mi_iconst dX6_putBytes_38 ?_
                  refine mi_iadd dX6_putBytes_39 ?_
                  refine ms_putI (z := 12) dX6_putBytes_40 (fo_X6_82 rfl) (by first | rfl | assumption) rfl rfl rfl ?_
                  refine mi_iinc dX6_putBytes_43 rfl (by decide) rfl ?_
                  dsimp only [List.set, Nat.reduceAdd]
                  refine ms_goto (tgt := 3) dX6_putBytes_46 (by decide) ?_
                  refine ms_iload_n dX6_putBytes_3 rfl ?_
                  refine mi_if_lt (tgt := 49) dX6_putBytes_4 (by decide) (fun c_4 => ?_) (fun c_4 => ?_)
                  · refine ms_retV dX6_putBytes_49 rfl ⟨_, rfl, rfl, fun y y0 y1 => by simp [va_up, y0, y1], fun j hj => by simp [va_up, iu, hj], by simp [va_up, iu], ?_⟩ (by simp)
                    simp only [up_s, up_01, up_10, iI_ti]
                    rfl
                  · exact absurd c_4 (by omega)

