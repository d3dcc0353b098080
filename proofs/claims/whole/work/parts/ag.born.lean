set_option maxHeartbeats 4000000 in
set_option maxRecDepth 100000 in
theorem k_X7_init {S : mx_Sc} {M : Nat → Int → Int} {L : Nat → Nat → Int64} {l : List (Nat × Nat × Nat)} (hz : ∀ x, 47 < x → M x = fun _ => 0) (hf49 : (l.all fun q => q.1 != 49) = true) (hf50 : (l.all fun q => q.1 != 50) = true) : mx_C S mX7_init [.ref 48] (true, mx_SH.take 49, M, L, rfL l) 32 29437 (fun v9 h9 => ∃ N, h9 = (true, mx_SH.take 81, N, L, rfL ((48, 47, 80) :: (48, 46, 79) :: (48, 45, 78) :: (48, 44, 77) :: (48, 43, 76) :: (48, 39, 75) :: (48, 37, 74) :: (48, 36, 73) :: (48, 35, 72) :: (48, 34, 71) :: (48, 33, 70) :: (48, 32, 69) :: (48, 31, 68) :: (48, 30, 67) :: (48, 28, 66) :: (48, 27, 65) :: (48, 26, 64) :: (48, 25, 63) :: (48, 14, 62) :: (48, 13, 61) :: (48, 12, 60) :: (48, 11, 59) :: (48, 10, 58) :: (48, 9, 57) :: (48, 8, 56) :: (48, 7, 55) :: (48, 6, 54) :: (48, 5, 53) :: (48, 3, 52) :: (48, 2, 51) :: (48, 1, 50) :: (50, 3, 1010) :: (50, 2, 1009) :: (50, 1, 1008) :: (50, 0, 1007) :: (48, 0, 49) :: (49, 4, 1006) :: (49, 3, 1005) :: (49, 2, 1004) :: (49, 1, 1003) :: (49, 0, 1002) :: l)) ∧ v9 = none ∧ (∀ x, x ≠ 48 → x ≠ 51 → x ≠ 52 → x ≠ 53 → N x = M x) ∧ N 48 24 = -1 ∧ (∀ k, k ≠ 24 → N 48 k = 0) ∧ mcs N ∧ ∀ k, 0 ≤ k → k < 7 → N 53 k = td0 0 k) (fun _ _ => False) := by
  refine mx_C_of (by decide) (by simp [Value.category]) (Nat.le_of_ble_eq_true rfl) rfl ?_
  show mx_E S mX7_init 0 [some (.ref 48)] [] (true, mx_SH.take 49, M, L, rfL l) 32 29437 _ _
  refine ms_aload_n dX7_init_0 rfl ?_
  refine ms_objInit dX7_init_1 (oi_X7_1 rfl) (Nat.le_of_ble_eq_true rfl) (Nat.le_of_ble_eq_true rfl) ?_
  refine ms_aload_n dX7_init_4 rfl ?_
  refine mi_iconst dX7_init_5 ?_
  refine ms_newq_t 49 (N := 5) (bc := 31) (bs := 29432) dX7_init_6 wt_str7 rfl rfl (by decide) (rfL_new 49 _ hf49) rfl ?_
  refine ms_dup dX7_init_9 rfl ?_
  refine mi_iconst dX7_init_10 ?_
  refine ms_ldcS (i := 1) dX7_init_11 rfl ?_
  refine ms_aastS (n := 5) dX7_init_13 rfl (by decide) ?_
  rw [rfL_put]
  refine ms_dup dX7_init_14 rfl ?_
  refine mi_iconst dX7_init_15 ?_
  refine ms_ldcS (i := 2) dX7_init_16 rfl ?_
  refine ms_aastS (n := 5) dX7_init_18 rfl (by decide) ?_
  rw [rfL_put]
  refine ms_dup dX7_init_19 rfl ?_
  refine mi_iconst dX7_init_20 ?_
  refine ms_ldcS (i := 3) dX7_init_21 rfl ?_
  refine ms_aastS (n := 5) dX7_init_23 rfl (by decide) ?_
  rw [rfL_put]
  refine ms_dup dX7_init_24 rfl ?_
  refine mi_iconst dX7_init_25 ?_
  refine ms_ldcS (i := 4) dX7_init_26 rfl ?_
  refine ms_aastS (n := 5) dX7_init_28 rfl (by decide) ?_
  rw [rfL_put]
  refine ms_dup dX7_init_29 rfl ?_
  refine mi_iconst dX7_init_30 ?_
  refine ms_ldcS (i := 5) dX7_init_31 rfl ?_
  refine ms_aastS (n := 5) dX7_init_33 rfl (by decide) ?_
  rw [rfL_put]
  refine ms_putRFa dX7_init_34 (fo_X7_19 rfl) (by first | rfl | assumption) rfl rfl rfl rfl ?_
  rw [rfL_put]
  refine ms_aload_n dX7_init_37 rfl ?_
  refine mi_iconst dX7_init_38 ?_
  refine ms_newq_t 50 (N := 4) (bc := 30) (bs := 29428) dX7_init_39 wt_str7 rfl rfl (by decide) (rfL_new 50 _ (by simp only [List.all_cons]; rw [hf50]; rfl)) rfl ?_
  refine ms_dup dX7_init_42 rfl ?_
  refine mi_iconst dX7_init_43 ?_
  refine ms_ldcS (i := 6) dX7_init_44 rfl ?_
  refine ms_aastS (n := 4) dX7_init_46 rfl (by decide) ?_
  rw [rfL_put]
  refine ms_dup dX7_init_47 rfl ?_
  refine mi_iconst dX7_init_48 ?_
  refine ms_ldcS (i := 7) dX7_init_49 rfl ?_
  refine ms_aastS (n := 4) dX7_init_51 rfl (by decide) ?_
  rw [rfL_put]
  refine ms_dup dX7_init_52 rfl ?_
  refine mi_iconst dX7_init_53 ?_
  refine ms_ldcS (i := 8) dX7_init_54 rfl ?_
  refine ms_aastS (n := 4) dX7_init_56 rfl (by decide) ?_
  rw [rfL_put]
  refine ms_dup dX7_init_57 rfl ?_
  refine mi_iconst dX7_init_58 ?_
  refine ms_ldcS (i := 9) dX7_init_59 rfl ?_
  refine ms_aastS (n := 4) dX7_init_61 rfl (by decide) ?_
  rw [rfL_put]
  refine ms_putRFa dX7_init_62 (fo_X7_33 rfl) (by first | rfl | assumption) rfl rfl rfl rfl ?_
  rw [rfL_put]
  refine ms_aload_n dX7_init_65 rfl ?_
  refine mi_iconst dX7_init_66 ?_
  refine ms_newi_t 51 (N := 4) (bc := 29) (bs := 29424) dX7_init_67 rfl rfl (by decide) (hz 51 (by decide)) rfl ?_
  refine ms_dup dX7_init_69 rfl ?_
  refine mi_iconst dX7_init_70 ?_
  refine mi_iconst dX7_init_71 ?_
  refine ms_iast dX7_init_72 (by first | rfl | assumption) ?_
  refine ms_dup dX7_init_73 rfl ?_
  refine mi_iconst dX7_init_74 ?_
  refine mi_iconst dX7_init_75 ?_
  refine ms_iast dX7_init_76 (by first | rfl | assumption) ?_
  rw [up_s, bx_uu]
  refine ms_dup dX7_init_77 rfl ?_
  refine mi_iconst dX7_init_78 ?_
  refine mi_iconst dX7_init_79 ?_
  refine ms_iast dX7_init_80 (by first | rfl | assumption) ?_
  rw [up_s, bx_uu]
  refine ms_dup dX7_init_81 rfl ?_
  refine mi_iconst dX7_init_82 ?_
  refine mi_iconst dX7_init_83 ?_
  refine ms_iast dX7_init_84 (by first | rfl | assumption) ?_
  rw [up_s, bx_uu]
  refine ms_putRFa dX7_init_85 (fo_X7_36 rfl) (by first | rfl | assumption) rfl rfl rfl rfl ?_
  rw [rfL_put]
  refine ms_aload_n dX7_init_88 rfl ?_
  refine mi_iconst dX7_init_89 ?_
  refine ms_newi_t 52 (N := 4) (bc := 28) (bs := 29420) dX7_init_90 rfl rfl (by decide) ((up_n _ _ (by decide)).trans (hz 52 (by decide))) rfl ?_
  refine ms_dup dX7_init_92 rfl ?_
  refine mi_iconst dX7_init_93 ?_
  refine mi_bipush dX7_init_94 (by decide) ?_
  refine ms_iast dX7_init_96 (by first | rfl | assumption) ?_
  refine ms_dup dX7_init_97 rfl ?_
  refine mi_iconst dX7_init_98 ?_
  refine mi_bipush dX7_init_99 (by decide) ?_
  refine ms_iast dX7_init_101 (by first | rfl | assumption) ?_
  rw [up_s, bx_uu]
  refine ms_dup dX7_init_102 rfl ?_
  refine mi_iconst dX7_init_103 ?_
  refine mi_bipush dX7_init_104 (by decide) ?_
  refine ms_iast dX7_init_106 (by first | rfl | assumption) ?_
  rw [up_s, bx_uu]
  refine ms_dup dX7_init_107 rfl ?_
  refine mi_iconst dX7_init_108 ?_
  refine mi_bipush dX7_init_109 (by decide) ?_
  refine ms_iast dX7_init_111 (by first | rfl | assumption) ?_
  rw [up_s, bx_uu]
  refine ms_putRFa dX7_init_112 (fo_X7_40 rfl) (by first | rfl | assumption) rfl rfl rfl rfl ?_
  rw [rfL_put]
  refine ms_aload_n dX7_init_115 rfl ?_
  refine mi_bipush dX7_init_116 (by decide) ?_
  refine ms_newi_t 53 (N := 14) (bc := 27) (bs := 29406) dX7_init_118 rfl rfl (by decide) ((up_n _ _ (by decide)).trans ((up_n _ _ (by decide)).trans (hz 53 (by decide)))) rfl ?_
  refine ms_dup dX7_init_120 rfl ?_
  refine mi_iconst dX7_init_121 ?_
  refine mi_bipush dX7_init_122 (by decide) ?_
  refine ms_iast dX7_init_124 (by first | rfl | assumption) ?_
  refine ms_dup dX7_init_125 rfl ?_
  refine mi_iconst dX7_init_126 ?_
  refine mi_iconst dX7_init_127 ?_
  refine ms_iast dX7_init_128 (by first | rfl | assumption) ?_
  rw [up_s, bx_uu]
  refine ms_dup dX7_init_129 rfl ?_
  refine mi_iconst dX7_init_130 ?_
  refine mi_iconst dX7_init_131 ?_
  refine ms_iast dX7_init_132 (by first | rfl | assumption) ?_
  rw [up_s, bx_uu]
  refine ms_dup dX7_init_133 rfl ?_
  refine mi_iconst dX7_init_134 ?_
  refine mi_iconst dX7_init_135 ?_
  refine ms_iast dX7_init_136 (by first | rfl | assumption) ?_
  rw [up_s, bx_uu]
  refine ms_dup dX7_init_137 rfl ?_
  refine mi_iconst dX7_init_138 ?_
  refine mi_iconst dX7_init_139 ?_
  refine ms_iast dX7_init_140 (by first | rfl | assumption) ?_
  rw [up_s, bx_uu]
  refine ms_dup dX7_init_141 rfl ?_
  refine mi_iconst dX7_init_142 ?_
  refine mi_bipush dX7_init_143 (by decide) ?_
  refine ms_iast dX7_init_145 (by first | rfl | assumption) ?_
  rw [up_s, bx_uu]
  refine ms_dup dX7_init_146 rfl ?_
  refine mi_bipush dX7_init_147 (by decide) ?_
  refine mi_iconst dX7_init_149 ?_
  refine ms_iast dX7_init_150 (by first | rfl | assumption) ?_
  rw [up_s, bx_uu]
  refine ms_dup dX7_init_151 rfl ?_
  refine mi_bipush dX7_init_152 (by decide) ?_
  refine mi_bipush dX7_init_154 (by decide) ?_
  refine ms_iast dX7_init_156 (by first | rfl | assumption) ?_
  rw [up_s, bx_uu]
  refine ms_dup dX7_init_157 rfl ?_
  refine mi_bipush dX7_init_158 (by decide) ?_
  refine mi_iconst dX7_init_160 ?_
  refine ms_iast dX7_init_161 (by first | rfl | assumption) ?_
  rw [up_s, bx_uu]
  refine ms_dup dX7_init_162 rfl ?_
  refine mi_bipush dX7_init_163 (by decide) ?_
  refine mi_iconst dX7_init_165 ?_
  refine ms_iast dX7_init_166 (by first | rfl | assumption) ?_
  rw [up_s, bx_uu]
  refine ms_dup dX7_init_167 rfl ?_
  refine mi_bipush dX7_init_168 (by decide) ?_
  refine mi_iconst dX7_init_170 ?_
  refine ms_iast dX7_init_171 (by first | rfl | assumption) ?_
  rw [up_s, bx_uu]
  refine ms_dup dX7_init_172 rfl ?_
  refine mi_bipush dX7_init_173 (by decide) ?_
  refine mi_iconst dX7_init_175 ?_
  refine ms_iast dX7_init_176 (by first | rfl | assumption) ?_
  rw [up_s, bx_uu]
  refine ms_dup dX7_init_177 rfl ?_
  refine mi_bipush dX7_init_178 (by decide) ?_
  refine mi_bipush dX7_init_180 (by decide) ?_
  refine ms_iast dX7_init_182 (by first | rfl | assumption) ?_
  rw [up_s, bx_uu]
  refine ms_dup dX7_init_183 rfl ?_
  refine mi_bipush dX7_init_184 (by decide) ?_
  refine mi_iconst dX7_init_186 ?_
  refine ms_iast dX7_init_187 (by first | rfl | assumption) ?_
  rw [up_s, bx_uu]
  refine ms_putRFa dX7_init_188 (fo_X7_43 rfl) (by first | rfl | assumption) rfl rfl rfl rfl ?_
  rw [rfL_put]
  refine ms_aload_n dX7_init_191 rfl ?_
  refine mi_bipush dX7_init_192 (by decide) ?_
  refine ms_newi_t 54 (N := 12) (bc := 26) (bs := 29394) dX7_init_194 rfl rfl (by decide) ((up_n _ _ (by decide)).trans ((up_n _ _ (by decide)).trans ((up_n _ _ (by decide)).trans (hz 54 (by decide))))) rfl ?_
  refine ms_putRFa dX7_init_196 (fo_X7_46 rfl) (by first | rfl | assumption) rfl rfl rfl rfl ?_
  rw [rfL_put]
  refine ms_aload_n dX7_init_199 rfl ?_
  refine mi_bipush dX7_init_200 (by decide) ?_
  refine ms_newi_t 55 (N := 12) (bc := 25) (bs := 29382) dX7_init_202 rfl rfl (by decide) ((up_n _ _ (by decide)).trans ((up_n _ _ (by decide)).trans ((up_n _ _ (by decide)).trans (hz 55 (by decide))))) rfl ?_
  refine ms_putRFa dX7_init_204 (fo_X7_49 rfl) (by first | rfl | assumption) rfl rfl rfl rfl ?_
  rw [rfL_put]
  refine ms_aload_n dX7_init_207 rfl ?_
  refine mi_bipush dX7_init_208 (by decide) ?_
  refine ms_newi_t 56 (N := 36) (bc := 24) (bs := 29346) dX7_init_210 rfl rfl (by decide) ((up_n _ _ (by decide)).trans ((up_n _ _ (by decide)).trans ((up_n _ _ (by decide)).trans (hz 56 (by decide))))) rfl ?_
  refine ms_putRFa dX7_init_212 (fo_X7_52 rfl) (by first | rfl | assumption) rfl rfl rfl rfl ?_
  rw [rfL_put]
  refine ms_aload_n dX7_init_215 rfl ?_
  refine mi_bipush dX7_init_216 (by decide) ?_
  refine ms_newi_t 57 (N := 12) (bc := 23) (bs := 29334) dX7_init_218 rfl rfl (by decide) ((up_n _ _ (by decide)).trans ((up_n _ _ (by decide)).trans ((up_n _ _ (by decide)).trans (hz 57 (by decide))))) rfl ?_
  refine ms_putRFa dX7_init_220 (fo_X7_55 rfl) (by first | rfl | assumption) rfl rfl rfl rfl ?_
  rw [rfL_put]
  refine ms_aload_n dX7_init_223 rfl ?_
  refine mi_bipush dX7_init_224 (by decide) ?_
  refine ms_newi_t 58 (N := 20) (bc := 22) (bs := 29314) dX7_init_226 rfl rfl (by decide) ((up_n _ _ (by decide)).trans ((up_n _ _ (by decide)).trans ((up_n _ _ (by decide)).trans (hz 58 (by decide))))) rfl ?_
  refine ms_putRFa dX7_init_228 (fo_X7_58 rfl) (by first | rfl | assumption) rfl rfl rfl rfl ?_
  rw [rfL_put]
  refine ms_aload_n dX7_init_231 rfl ?_
  refine mi_bipush dX7_init_232 (by decide) ?_
  refine ms_newi_t 59 (N := 20) (bc := 21) (bs := 29294) dX7_init_234 rfl rfl (by decide) ((up_n _ _ (by decide)).trans ((up_n _ _ (by decide)).trans ((up_n _ _ (by decide)).trans (hz 59 (by decide))))) rfl ?_
  refine ms_putRFa dX7_init_236 (fo_X7_61 rfl) (by first | rfl | assumption) rfl rfl rfl rfl ?_
  rw [rfL_put]
  refine ms_aload_n dX7_init_239 rfl ?_
  refine mi_bipush dX7_init_240 (by decide) ?_
  refine ms_newi_t 60 (N := 20) (bc := 20) (bs := 29274) dX7_init_242 rfl rfl (by decide) ((up_n _ _ (by decide)).trans ((up_n _ _ (by decide)).trans ((up_n _ _ (by decide)).trans (hz 60 (by decide))))) rfl ?_
  refine ms_putRFa dX7_init_244 (fo_X7_64 rfl) (by first | rfl | assumption) rfl rfl rfl rfl ?_
  rw [rfL_put]
  refine ms_aload_n dX7_init_247 rfl ?_
  refine mi_iconst dX7_init_248 ?_
  refine ms_newi_t 61 (N := 3) (bc := 19) (bs := 29271) dX7_init_249 rfl rfl (by decide) ((up_n _ _ (by decide)).trans ((up_n _ _ (by decide)).trans ((up_n _ _ (by decide)).trans (hz 61 (by decide))))) rfl ?_
  refine ms_putRFa dX7_init_251 (fo_X7_67 rfl) (by first | rfl | assumption) rfl rfl rfl rfl ?_
  rw [rfL_put]
  refine ms_aload_n dX7_init_254 rfl ?_
  refine mi_sipush dX7_init_255 (by decide) ?_
  refine ms_newi_t 62 (N := 500) (bc := 18) (bs := 28771) dX7_init_258 rfl rfl (by decide) ((up_n _ _ (by decide)).trans ((up_n _ _ (by decide)).trans ((up_n _ _ (by decide)).trans (hz 62 (by decide))))) rfl ?_
  refine ms_putRFa dX7_init_260 (fo_X7_70 rfl) (by first | rfl | assumption) rfl rfl rfl rfl ?_
  rw [rfL_put]
  refine ms_aload_n dX7_init_263 rfl ?_
  refine mi_iconst dX7_init_264 ?_
  refine ms_putI (z := 24) dX7_init_265 (fo_X7_73 rfl) (by first | rfl | assumption) rfl rfl rfl ?_
  refine ms_aload_n dX7_init_268 rfl ?_
  refine mi_bipush dX7_init_269 (by decide) ?_
  refine ms_newi_t 63 (N := 30) (bc := 17) (bs := 28741) dX7_init_271 rfl rfl (by decide) ((up_n _ _ (by decide)).trans ((up_n _ _ (by decide)).trans ((up_n _ _ (by decide)).trans ((up_n _ _ (by decide)).trans (hz 63 (by decide)))))) rfl ?_
  refine ms_putRFa dX7_init_273 (fo_X7_77 rfl) (by first | rfl | assumption) rfl rfl rfl rfl ?_
  rw [rfL_put]
  refine ms_aload_n dX7_init_276 rfl ?_
  refine mi_bipush dX7_init_277 (by decide) ?_
  refine ms_newi_t 64 (N := 30) (bc := 16) (bs := 28711) dX7_init_279 rfl rfl (by decide) ((up_n _ _ (by decide)).trans ((up_n _ _ (by decide)).trans ((up_n _ _ (by decide)).trans ((up_n _ _ (by decide)).trans (hz 64 (by decide)))))) rfl ?_
  refine ms_putRFa dX7_init_281 (fo_X7_80 rfl) (by first | rfl | assumption) rfl rfl rfl rfl ?_
  rw [rfL_put]
  refine ms_aload_n dX7_init_284 rfl ?_
  refine mi_bipush dX7_init_285 (by decide) ?_
  refine ms_newi_t 65 (N := 30) (bc := 15) (bs := 28681) dX7_init_287 rfl rfl (by decide) ((up_n _ _ (by decide)).trans ((up_n _ _ (by decide)).trans ((up_n _ _ (by decide)).trans ((up_n _ _ (by decide)).trans (hz 65 (by decide)))))) rfl ?_
  refine ms_putRFa dX7_init_289 (fo_X7_83 rfl) (by first | rfl | assumption) rfl rfl rfl rfl ?_
  rw [rfL_put]
  refine ms_aload_n dX7_init_292 rfl ?_
  refine mi_bipush dX7_init_293 (by decide) ?_
  refine ms_newi_t 66 (N := 6) (bc := 14) (bs := 28675) dX7_init_295 rfl rfl (by decide) ((up_n _ _ (by decide)).trans ((up_n _ _ (by decide)).trans ((up_n _ _ (by decide)).trans ((up_n _ _ (by decide)).trans (hz 66 (by decide)))))) rfl ?_
  refine ms_putRFa dX7_init_297 (fo_X7_86 rfl) (by first | rfl | assumption) rfl rfl rfl rfl ?_
  rw [rfL_put]
  refine ms_aload_n dX7_init_300 rfl ?_
  refine mi_iconst dX7_init_301 ?_
  refine ms_newi_t 67 (N := 3) (bc := 13) (bs := 28672) dX7_init_302 rfl rfl (by decide) ((up_n _ _ (by decide)).trans ((up_n _ _ (by decide)).trans ((up_n _ _ (by decide)).trans ((up_n _ _ (by decide)).trans (hz 67 (by decide)))))) rfl ?_
  refine ms_putRFa dX7_init_304 (fo_X7_89 rfl) (by first | rfl | assumption) rfl rfl rfl rfl ?_
  rw [rfL_put]
  refine ms_aload_n dX7_init_307 rfl ?_
  refine mi_sipush dX7_init_308 (by decide) ?_
  refine ms_newi_t 68 (N := 1800) (bc := 12) (bs := 26872) dX7_init_311 rfl rfl (by decide) ((up_n _ _ (by decide)).trans ((up_n _ _ (by decide)).trans ((up_n _ _ (by decide)).trans ((up_n _ _ (by decide)).trans (hz 68 (by decide)))))) rfl ?_
  refine ms_putRFa dX7_init_313 (fo_X7_92 rfl) (by first | rfl | assumption) rfl rfl rfl rfl ?_
  rw [rfL_put]
  refine ms_aload_n dX7_init_316 rfl ?_
  refine mi_sipush dX7_init_317 (by decide) ?_
  refine ms_newi_t 69 (N := 1800) (bc := 11) (bs := 25072) dX7_init_320 rfl rfl (by decide) ((up_n _ _ (by decide)).trans ((up_n _ _ (by decide)).trans ((up_n _ _ (by decide)).trans ((up_n _ _ (by decide)).trans (hz 69 (by decide)))))) rfl ?_
  refine ms_putRFa dX7_init_322 (fo_X7_95 rfl) (by first | rfl | assumption) rfl rfl rfl rfl ?_
  rw [rfL_put]
  refine ms_aload_n dX7_init_325 rfl ?_
  refine mi_bipush dX7_init_326 (by decide) ?_
  refine ms_newi_t 70 (N := 100) (bc := 10) (bs := 24972) dX7_init_328 rfl rfl (by decide) ((up_n _ _ (by decide)).trans ((up_n _ _ (by decide)).trans ((up_n _ _ (by decide)).trans ((up_n _ _ (by decide)).trans (hz 70 (by decide)))))) rfl ?_
  refine ms_putRFa dX7_init_330 (fo_X7_98 rfl) (by first | rfl | assumption) rfl rfl rfl rfl ?_
  rw [rfL_put]
  refine ms_aload_n dX7_init_333 rfl ?_
  refine mi_sipush dX7_init_334 (by decide) ?_
  refine ms_newi_t 71 (N := 18018) (bc := 9) (bs := 6954) dX7_init_337 rfl rfl (by decide) ((up_n _ _ (by decide)).trans ((up_n _ _ (by decide)).trans ((up_n _ _ (by decide)).trans ((up_n _ _ (by decide)).trans (hz 71 (by decide)))))) rfl ?_
  refine ms_putRFa dX7_init_339 (fo_X7_101 rfl) (by first | rfl | assumption) rfl rfl rfl rfl ?_
  rw [rfL_put]
  refine ms_aload_n dX7_init_342 rfl ?_
  refine mi_sipush dX7_init_343 (by decide) ?_
  refine ms_newi_t 72 (N := 1001) (bc := 8) (bs := 5953) dX7_init_346 rfl rfl (by decide) ((up_n _ _ (by decide)).trans ((up_n _ _ (by decide)).trans ((up_n _ _ (by decide)).trans ((up_n _ _ (by decide)).trans (hz 72 (by decide)))))) rfl ?_
  refine ms_putRFa dX7_init_348 (fo_X7_104 rfl) (by first | rfl | assumption) rfl rfl rfl rfl ?_
  rw [rfL_put]
  refine ms_aload_n dX7_init_351 rfl ?_
  refine mi_iconst dX7_init_352 ?_
  refine ms_newi_t 73 (N := 3) (bc := 7) (bs := 5950) dX7_init_353 rfl rfl (by decide) ((up_n _ _ (by decide)).trans ((up_n _ _ (by decide)).trans ((up_n _ _ (by decide)).trans ((up_n _ _ (by decide)).trans (hz 73 (by decide)))))) rfl ?_
  refine ms_putRFa dX7_init_355 (fo_X7_107 rfl) (by first | rfl | assumption) rfl rfl rfl rfl ?_
  rw [rfL_put]
  refine ms_aload_n dX7_init_358 rfl ?_
  refine mi_sipush dX7_init_359 (by decide) ?_
  refine ms_newi_t 74 (N := 2187) (bc := 6) (bs := 3763) dX7_init_362 rfl rfl (by decide) ((up_n _ _ (by decide)).trans ((up_n _ _ (by decide)).trans ((up_n _ _ (by decide)).trans ((up_n _ _ (by decide)).trans (hz 74 (by decide)))))) rfl ?_
  refine ms_putRFa dX7_init_364 (fo_X7_110 rfl) (by first | rfl | assumption) rfl rfl rfl rfl ?_
  rw [rfL_put]
  refine ms_aload_n dX7_init_367 rfl ?_
  refine mi_bipush dX7_init_368 (by decide) ?_
  refine ms_newi_t 75 (N := 30) (bc := 5) (bs := 3733) dX7_init_370 rfl rfl (by decide) ((up_n _ _ (by decide)).trans ((up_n _ _ (by decide)).trans ((up_n _ _ (by decide)).trans ((up_n _ _ (by decide)).trans (hz 75 (by decide)))))) rfl ?_
  refine ms_putRFa dX7_init_372 (fo_X7_113 rfl) (by first | rfl | assumption) rfl rfl rfl rfl ?_
  rw [rfL_put]
  refine ms_aload_n dX7_init_375 rfl ?_
  refine mi_bipush dX7_init_376 (by decide) ?_
  refine ms_newi_t 76 (N := 30) (bc := 4) (bs := 3703) dX7_init_378 rfl rfl (by decide) ((up_n _ _ (by decide)).trans ((up_n _ _ (by decide)).trans ((up_n _ _ (by decide)).trans ((up_n _ _ (by decide)).trans (hz 76 (by decide)))))) rfl ?_
  refine ms_putRFa dX7_init_380 (fo_X7_116 rfl) (by first | rfl | assumption) rfl rfl rfl rfl ?_
  rw [rfL_put]
  refine ms_aload_n dX7_init_383 rfl ?_
  refine mi_sipush dX7_init_384 (by decide) ?_
  refine ms_newi_t 77 (N := 1800) (bc := 3) (bs := 1903) dX7_init_387 rfl rfl (by decide) ((up_n _ _ (by decide)).trans ((up_n _ _ (by decide)).trans ((up_n _ _ (by decide)).trans ((up_n _ _ (by decide)).trans (hz 77 (by decide)))))) rfl ?_
  refine ms_putRFa dX7_init_389 (fo_X7_119 rfl) (by first | rfl | assumption) rfl rfl rfl rfl ?_
  rw [rfL_put]
  refine ms_aload_n dX7_init_392 rfl ?_
  refine mi_sipush dX7_init_393 (by decide) ?_
  refine ms_newi_t 78 (N := 1800) (bc := 2) (bs := 103) dX7_init_396 rfl rfl (by decide) ((up_n _ _ (by decide)).trans ((up_n _ _ (by decide)).trans ((up_n _ _ (by decide)).trans ((up_n _ _ (by decide)).trans (hz 78 (by decide)))))) rfl ?_
  refine ms_putRFa dX7_init_398 (fo_X7_122 rfl) (by first | rfl | assumption) rfl rfl rfl rfl ?_
  rw [rfL_put]
  refine ms_aload_n dX7_init_401 rfl ?_
  refine mi_bipush dX7_init_402 (by decide) ?_
  refine ms_newi_t 79 (N := 100) (bc := 1) (bs := 3) dX7_init_404 rfl rfl (by decide) ((up_n _ _ (by decide)).trans ((up_n _ _ (by decide)).trans ((up_n _ _ (by decide)).trans ((up_n _ _ (by decide)).trans (hz 79 (by decide)))))) rfl ?_
  refine ms_putRFa dX7_init_406 (fo_X7_125 rfl) (by first | rfl | assumption) rfl rfl rfl rfl ?_
  rw [rfL_put]
  refine ms_aload_n dX7_init_409 rfl ?_
  refine mi_iconst dX7_init_410 ?_
  refine ms_newi_t 80 (N := 3) (bc := 0) (bs := 0) dX7_init_411 rfl rfl (by decide) ((up_n _ _ (by decide)).trans ((up_n _ _ (by decide)).trans ((up_n _ _ (by decide)).trans ((up_n _ _ (by decide)).trans (hz 80 (by decide)))))) rfl ?_
  refine ms_putRFa dX7_init_413 (fo_X7_128 rfl) (by first | rfl | assumption) rfl rfl rfl rfl ?_
  rw [rfL_put]
  refine ms_retV dX7_init_416 rfl ?_ (by simp)
  refine ⟨_, rfl, rfl, fun x x0 x1 x2 x3 => ?_, ?_, fun k hk => ?_, fun w w0 w1 => ?_, fun k k0 k1 => ?_⟩
  · rw [up_n _ _ x0, up_n _ _ x3, up_n _ _ x2, up_n _ _ x1]
  · rw [up_s, iu_s]
  · rw [up_s, iu_n _ _ hk, up_n _ _ (by decide), up_n _ _ (by decide), up_n _ _ (by decide), hz 48 (by decide)]
  · rw [up_n _ _ (by decide), up_n _ _ (by decide), up_n _ _ (by decide), up_s, up_n _ _ (by decide), up_n _ _ (by decide), up_s]
    rcases (show w = 7 ∨ w = 8 ∨ w = 9 ∨ w = 10 by omega) with rfl | rfl | rfl | rfl <;> exact ⟨rfl, rfl⟩
  · rw [up_n _ _ (by decide), up_s]
    rcases (show k = 0 ∨ k = 1 ∨ k = 2 ∨ k = 3 ∨ k = 4 ∨ k = 5 ∨ k = 6 by omega) with rfl | rfl | rfl | rfl | rfl | rfl | rfl <;> rfl

def mx_l0 : List (Nat × Nat × Nat) := ((48, 47, 80) :: (48, 46, 79) :: (48, 45, 78) :: (48, 44, 77) :: (48, 43, 76) :: (48, 39, 75) :: (48, 37, 74) :: (48, 36, 73) :: (48, 35, 72) :: (48, 34, 71) :: (48, 33, 70) :: (48, 32, 69) :: (48, 31, 68) :: (48, 30, 67) :: (48, 28, 66) :: (48, 27, 65) :: (48, 26, 64) :: (48, 25, 63) :: (48, 14, 62) :: (48, 13, 61) :: (48, 12, 60) :: (48, 11, 59) :: (48, 10, 58) :: (48, 9, 57) :: (48, 8, 56) :: (48, 7, 55) :: (48, 6, 54) :: (48, 5, 53) :: (48, 3, 52) :: (48, 2, 51) :: (48, 1, 50) :: (50, 3, 1010) :: (50, 2, 1009) :: (50, 1, 1008) :: (50, 0, 1007) :: (48, 0, 49) :: (49, 4, 1006) :: (49, 3, 1005) :: (49, 2, 1004) :: (49, 1, 1003) :: (49, 0, 1002) :: (0, 9, 46) :: (46, 2, 32) :: (46, 1, 29) :: (46, 0, 47) :: (0, 1, 45) :: (45, 9, 37) :: (45, 2, 1) :: (0, 11, 37) :: (37, 13, 44) :: (37, 12, 43) :: (37, 11, 42) :: (37, 10, 41) :: (37, 9, 40) :: (37, 8, 39) :: (37, 7, 38) :: (0, 10, 29) :: (29, 13, 36) :: (29, 12, 35) :: (29, 11, 34) :: (29, 10, 33) :: (29, 9, 32) :: (29, 8, 31) :: (29, 7, 30) :: (0, 8, 25) :: (25, 2, 28) :: (25, 1, 27) :: (25, 0, 26) :: (0, 7, 24) :: (0, 6, 23) :: (0, 5, 22) :: (0, 4, 18) :: (18, 2, 21) :: (18, 1, 20) :: (18, 0, 19) :: (0, 3, 10) :: (10, 3, 17) :: (10, 2, 16) :: (10, 1, 15) :: (10, 0, 11) :: (11, 2, 14) :: (11, 1, 13) :: (11, 0, 12) :: (0, 2, 2) :: (2, 3, 9) :: (2, 2, 8) :: (2, 1, 7) :: (2, 0, 3) :: (3, 2, 6) :: (3, 1, 5) :: (3, 0, 4) :: (0, 0, 1) :: [])
theorem l0_rf : mx_rf (rfL mx_l0) := by
  have h : mx_RT.all (fun q => rfL mx_l0 q.1 q.2.1 == some q.2.2) = true := by decide +kernel
  intro q hq
  exact eq_of_beq (List.all_eq_true.mp h q hq)
theorem l0_rfs : rfs (rfL mx_l0) := by
  constructor
  · intro k hk
    rcases (show k = 0 ∨ k = 1 ∨ k = 2 ∨ k = 3 ∨ k = 4 by omega) with rfl | rfl | rfl | rfl | rfl <;> rfl
  · intro k hk
    rcases (show k = 0 ∨ k = 1 ∨ k = 2 ∨ k = 3 by omega) with rfl | rfl | rfl | rfl <;> rfl
/-- both as they are born -/
theorem rlZ.born {M N : Nat → Int → Int} (q1 : ∀ x, x ≠ 0 → x ≠ 3 → x ≠ 4 → x ≠ 5 → x ≠ 6 → x ≠ 8 → x ≠ 29 → x ≠ 37 → x ≠ 46 → M x = fun _ => 0) (q2 : M 0 13 = -1) (q3 : ∀ k, k ≠ 13 → M 0 k = 0) (q4 : ∀ k, 0 ≤ k → k < 7 → M 29 k = td0 0 k) (q5 : ∀ i, 0 ≤ i → i < 18 → M 4 i = 0) (q6 : ∀ l, 0 ≤ l → l < 6 → M 5 l = -1 ∧ M 6 l = -1) (q7 : M 3 3 = 0) (q8 : M 3 4 = 0) (q9 : M 3 5 = 0) (q10 : ∀ i, 0 ≤ i → M 8 i = 0) (p1 : ∀ x, x ≠ 48 → x ≠ 51 → x ≠ 52 → x ≠ 53 → N x = M x) (p2 : N 48 24 = -1) (p3 : ∀ k, k ≠ 24 → N 48 k = 0) (p4 : mcs N) (p5 : ∀ k, 0 ≤ k → k < 7 → N 53 k = td0 0 k) : rlZ N (rfL mx_l0) 29 false 0 := by
  have e : ∀ x, x < 48 → N x = M x := fun x hx => p1 x (by omega) (by omega) (by omega) (by omega)
  have z : ∀ x, 48 < x → x ≠ 51 → x ≠ 52 → x ≠ 53 → N x = fun _ => 0 := fun x x0 x1 x2 x3 => by rw [p1 x (by omega) x1 x2 x3]; exact q1 x (by omega) (by omega) (by omega) (by omega) (by omega) (by omega) (by omega) (by omega) (by omega)
  have zl : ∀ x, x < 48 → x ≠ 0 → x ≠ 3 → x ≠ 4 → x ≠ 5 → x ≠ 6 → x ≠ 8 → x ≠ 29 → x ≠ 37 → x ≠ 46 → N x = fun _ => 0 := fun x hx x0 x1 x2 x3 x4 x5 x6 x7 x8 => by rw [e x hx]; exact q1 x x0 x1 x2 x3 x4 x5 x6 x7 x8
  have hT : sp_tok (sp_tR N) := by
    refine ⟨?_, ?_, ?_, ?_, ?_, ?_, ?_, fun l l0 l1 => ?_, fun f f0 f1 => ?_⟩
    · show 1 ≤ N 53 0 ∧ N 53 0 ≤ 30; rw [p5 0 (by decide) (by decide)]; decide
    · show 0 ≤ N 53 1 ∧ N 53 1 ≤ 6; rw [p5 1 (by decide) (by decide)]; decide
    · show 1 ≤ N 53 2 ∧ N 53 2 ≤ 9; rw [p5 2 (by decide) (by decide)]; decide
    · show 0 ≤ N 53 3 ∧ N 53 3 ≤ 9; rw [p5 3 (by decide) (by decide)]; decide
    · show 0 ≤ N 53 4 ∧ N 53 4 ≤ 9; rw [p5 4 (by decide) (by decide)]; decide
    · show 1 ≤ N 53 5 ∧ N 53 5 ≤ 99; rw [p5 5 (by decide) (by decide)]; decide
    · show 0 ≤ N 53 6 ∧ N 53 6 ≤ 10; rw [p5 6 (by decide) (by decide)]; decide
    · have l2 : l < N 53 1 := l1
      rw [p5 1 (by decide) (by decide)] at l2
      exact absurd l2 (by show ¬ l < 0; omega)
    · have l2 : f < N 53 6 := f1
      rw [p5 6 (by decide) (by decide)] at l2
      exact absurd l2 (by show ¬ f < 0; omega)
  have e29 : ∀ k, 0 ≤ k → k < 7 → N 29 k = N 53 k := fun k k0 k1 => by rw [e 29 (by decide), q4 k k0 k1, p5 k k0 k1]
  have h531 : N 53 1 = 0 := by rw [p5 1 (by decide) (by decide)]; rfl
  have h536 : N 53 6 = 0 := by rw [p5 6 (by decide) (by decide)]; rfl
  have h535 : N 53 5 = 40 := by rw [p5 5 (by decide) (by decide)]; rfl
  have hE : eqS (sp_tC N 29) (sp_tR N) := by
    refine ⟨e29, fun l l0 l1 => ?_, fun f f0 f1 => ?_⟩
    · have l2 : l < N 29 1 := l1
      rw [e29 1 (by decide) (by decide)] at l2; omega
    · have l2 : f < N 29 6 := f1
      rw [e29 6 (by decide) (by decide)] at l2; omega
  have eK : (sp_tC N 29).1 1 = 0 := (e29 1 (by decide) (by decide)).trans h531
  refine ⟨⟨Or.inl rfl, l0_rf, l0_rfs, rfl, rfl⟩, ⟨hT, hE, h531, fun i i0 i1 => ?_, fun i i0 i1 => ?_⟩, ⟨by rw [p3 15 (by decide)]; decide, by rw [e 0 (by decide), q3 12 (by decide), p3 15 (by decide)], ⟨by rw [zl 1 (by decide) (by decide) (by decide) (by decide) (by decide) (by decide) (by decide) (by decide) (by decide) (by decide), z 62 (by decide) (by decide) (by decide) (by decide)], fun y y0 y1 => by rw [z 62 (by decide) (by decide) (by decide) (by decide)]; dsimp only; decide⟩, by rw [e 0 (by decide), q2, p2], fun l l0 l1 => by rw [z 64 (by decide) (by decide) (by decide) (by decide)]; dsimp only; decide, p4⟩, ?_, by rw [e 0 (by decide), q3 14 (by decide)]; rfl, by rw [p3 41 (by decide)]; rfl, fun z => absurd z (by decide)⟩
  · rw [zl (29 + 4) (by decide) (by decide) (by decide) (by decide) (by decide) (by decide) (by decide) (by decide) (by decide) (by decide)]; dsimp only; decide
  · rw [zl (66 - 29 + 4) (by decide) (by decide) (by decide) (by decide) (by decide) (by decide) (by decide) (by decide) (by decide) (by decide)]; dsimp only; decide
  · rw [zl 9 (by decide) (by decide) (by decide) (by decide) (by decide) (by decide) (by decide) (by decide) (by decide) (by decide), z 63 (by decide) (by decide) (by decide) (by decide), z 69 (by decide) (by decide) (by decide) (by decide), z 61 (by decide) (by decide) (by decide) (by decide), p3 29 (by decide)]
    refine ⟨⟨⟨fun i i0 i1 => ?_, fun l l0 l1 => ?_, by rw [e 3 (by decide), q8]; decide, fun l l0 l1 => ?_, ?_⟩, by rw [e 3 (by decide)]; exact q7, by rw [h535]; decide⟩, ⟨fun i i0 i1 => ?_, fun i i0 i1 => by dsimp only; decide, fun i i0 i1 => by dsimp only; decide⟩, ⟨fun i i0 i1 => ?_, fun i i0 i1 => by dsimp only; decide⟩, fun i i0 i1 => by dsimp only; decide⟩
    · omega
    · show N 5 l = -1 ∧ N 6 l = -1
      rw [e 5 (by decide), e 6 (by decide)]; exact q6 l l0 l1
    · rw [e 3 (by decide), q8]
      unfold ob
      rw [Int.zero_ediv]
      rfl
    · rw [e 3 (by decide), q9, cnt0 eK]; rfl
    · show 0 ≤ N 4 i ∧ N 4 i < 32
      rw [e 4 (by decide), q5 i i0 i1]; decide
    · rw [e 8 (by decide), q10 i i0]; decide
def zM : Nat → Int → Int := fun _ _ => 0
def zL : Nat → Nat → Int64 := fun _ _ => 0
set_option maxHeartbeats 4000000 in
set_option maxRecDepth 100000 in
theorem k_L_law {S : mx_Sc} (hS : S.1 ≤ 3072) : mx_C S mL_law [.ref 1000] (true, mx_SH.take 0, zM, zL, rfL []) 594 42602 lwP (fun _ _ => False) := by
  refine mx_C_of (by decide) (by simp [Value.category]) (Nat.le_of_ble_eq_true rfl) rfl ?_
  show mx_E S mL_law 0 [some (.ref 1000), none, none, none, none, none, none] [] (true, mx_SH.take 0, zM, zL, rfL []) 594 42602 _ _
  refine ms_new_t 0 (bc := 593) (bs := 42587) dL_law_0 cl_6 nw_L_law_6 rfl rfl rfl rfl ?_
  refine ms_dup dL_law_3 rfl ?_
  refine ms_callI0 (bc := 546) (bs := 32558) dL_law_4 cv_L_law_X6_init (k_X6_init (M := zM) (L := zL) (fun _ => rfl)) rfl rfl (Nat.le_of_ble_eq_true rfl) (fun v9 h9 hp9 => ?_)
  obtain ⟨M, rfl, rfl, q1, q2, q3, q4, q5, q6, q7, q8, q9, q10⟩ := hp9
  refine ms_astore_n dL_law_7 (by decide) rfl ?_
  dsimp only [List.set, Nat.reduceAdd]
  refine ms_new_t 48 (bc := 545) (bs := 32510) dL_law_8 cl_7 nw_L_law_7 rfl (q1 48 (by decide) (by decide) (by decide) (by decide) (by decide) (by decide) (by decide) (by decide) (by decide)) (rfL_new 48 _ rfl) rfl ?_
  refine ms_dup dL_law_11 rfl ?_
  refine ms_callI0 (bc := 513) (bs := 3073) dL_law_12 cv_L_law_X7_init (k_X7_init (M := M) (fun x hx => q1 x (by omega) (by omega) (by omega) (by omega) (by omega) (by omega) (by omega) (by omega) (by omega)) rfl rfl) rfl rfl (Nat.le_of_ble_eq_true rfl) (fun v9 h9 hp9 => ?_)
  obtain ⟨N, rfl, rfl, p1, p2, p3, p4, p5⟩ := hp9
  refine ms_astore_n dL_law_15 (by decide) rfl ?_
  dsimp only [List.set, Nat.reduceAdd]
  refine mi_iconst dL_law_16 ?_
  refine ms_newl_t 81 (N := 1) (bc := 512) (bs := 3072) dL_law_17 rfl rfl (by decide) rfl ?_
  refine ms_astore_n dL_law_19 (by decide) rfl ?_
  dsimp only [List.set, Nat.reduceAdd]
  refine mi_iconst dL_law_20 ?_
  refine ms_istore dL_law_21 (by decide) rfl ?_
  dsimp only [List.set, Nat.reduceAdd]
  refine ms_free ?_
  exact l_law 512 N _ (rfL mx_l0) 0 0 none none (by decide) (by decide) (by decide) (by omega) ⟨29, false, Or.inr (rlZ.born q1 q2 q3 q4 q5 q6 q7 q8 q9 q10 p1 p2 p3 p4 p5)⟩

