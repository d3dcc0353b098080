theorem cl_0 : mx_clOK 0 (RX0, TX0, 5) := ⟨rfl, clw_0, tyX0_ok, nmX0⟩
theorem cl_1 : mx_clOK 1 (RX1, TX1, 10) := ⟨rfl, clw_1, tyX1_ok, nmX1⟩
theorem cl_2 : mx_clOK 2 (RX2, TX2, 6) := ⟨rfl, clw_2, tyX2_ok, nmX2⟩
theorem cl_3 : mx_clOK 3 (RX3, TX3, 4) := ⟨rfl, clw_3, tyX3_ok, nmX3⟩
theorem cl_4 : mx_clOK 4 (RX4, TX4, 14) := ⟨rfl, clw_4, tyX4_ok, nmX4⟩
theorem cl_5 : mx_clOK 5 (RX5, TX5, 5) := ⟨rfl, clw_5, tyX5_ok, nmX5⟩
theorem cl_6 : mx_clOK 6 (RX6, TX6, 15) := ⟨rfl, clw_6, tyX6_ok, nmX6⟩
theorem cl_7 : mx_clOK 7 (RX7, TX7, 48) := ⟨rfl, clw_7, tyX7_ok, nmX7⟩
theorem fo_X0_11 {μ : mx_M} (h : (mx_y μ).cls = "LampValley$Council") : mx_flOK μ 11 0 0 (RX0, TX0, 5) := by
  refine ⟨cl_0, by decide, ?_⟩
  rw [h]
  exact wt_173
theorem fo_X0_15 {μ : mx_M} (h : (mx_y μ).cls = "LampValley$Council") : mx_flOK μ 15 0 1 (RX0, TX0, 5) := by
  refine ⟨cl_0, by decide, ?_⟩
  rw [h]
  exact wt_174
theorem fo_X0_18 {μ : mx_M} (h : (mx_y μ).cls = "LampValley$Council") : mx_flOK μ 18 0 2 (RX0, TX0, 5) := by
  refine ⟨cl_0, by decide, ?_⟩
  rw [h]
  exact wt_175
theorem fo_X0_25 {μ : mx_M} (h : (mx_y μ).cls = "LampValley$Council") : mx_flOK μ 25 0 4 (RX0, TX0, 5) := by
  refine ⟨cl_0, by decide, ?_⟩
  rw [h]
  exact wt_177
theorem fo_X0_45 {μ : mx_M} (h : (mx_y μ).cls = "LampValley$Council") : mx_flOK μ 45 0 3 (RX0, TX0, 5) := by
  refine ⟨cl_0, by decide, ?_⟩
  rw [h]
  exact wt_176
theorem fo_X1_9 {μ : mx_M} (h : (mx_y μ).cls = "LampValley$Reader") : mx_flOK μ 9 1 2 (RX1, TX1, 10) := by
  refine ⟨cl_1, by decide, ?_⟩
  rw [h]
  exact wt_281
theorem fo_X1_15 {μ : mx_M} (h : (mx_y μ).cls = "LampValley$Reader") : mx_flOK μ 15 1 9 (RX1, TX1, 10) := by
  refine ⟨cl_1, by decide, ?_⟩
  rw [h]
  exact wt_288
theorem fo_X1_25 {μ : mx_M} (h : (mx_y μ).cls = "LampValley$Reader") : mx_flOK μ 25 1 3 (RX1, TX1, 10) := by
  refine ⟨cl_1, by decide, ?_⟩
  rw [h]
  exact wt_282
theorem fo_X1_34 {μ : mx_M} (h : (mx_y μ).cls = "LampValley$Reader") : mx_flOK μ 34 1 0 (RX1, TX1, 10) := by
  refine ⟨cl_1, by decide, ?_⟩
  rw [h]
  exact wt_277
theorem fo_X1_37 {μ : mx_M} (h : (mx_y μ).cls = "LampValley$Reader") : mx_flOK μ 37 1 1 (RX1, TX1, 10) := by
  refine ⟨cl_1, by decide, ?_⟩
  rw [h]
  exact wt_279
theorem fo_X1_40 {μ : mx_M} (h : (mx_y μ).cls = "LampValley$Reader") : mx_flOK μ 40 1 6 (RX1, TX1, 10) := by
  refine ⟨cl_1, by decide, ?_⟩
  rw [h]
  exact wt_285
theorem fo_X1_43 {μ : mx_M} (h : (mx_y μ).cls = "LampValley$Reader") : mx_flOK μ 43 1 8 (RX1, TX1, 10) := by
  refine ⟨cl_1, by decide, ?_⟩
  rw [h]
  exact wt_287
theorem fo_X1_49 {μ : mx_M} (h : (mx_y μ).cls = "LampValley$Reader") : mx_flOK μ 49 1 4 (RX1, TX1, 10) := by
  refine ⟨cl_1, by decide, ?_⟩
  rw [h]
  exact wt_283
theorem fo_X1_56 {μ : mx_M} (h : (mx_y μ).cls = "LampValley$Reader") : mx_flOK μ 56 1 5 (RX1, TX1, 10) := by
  refine ⟨cl_1, by decide, ?_⟩
  rw [h]
  exact wt_284
theorem fo_X1_59 {μ : mx_M} (h : (mx_y μ).cls = "LampValley$Reader") : mx_flOK μ 59 1 7 (RX1, TX1, 10) := by
  refine ⟨cl_1, by decide, ?_⟩
  rw [h]
  exact wt_286
theorem fo_X1_103 {μ : mx_M} (h : (mx_y μ).cls = "LampValley$Reader") : mx_flOK μ 103 4 1 (RX4, TX4, 14) := by
  refine ⟨cl_4, by decide, ?_⟩
  rw [h]
  exact wt_207
theorem fo_X1_106 {μ : mx_M} (h : (mx_y μ).cls = "LampValley$Reader") : mx_flOK μ 106 4 6 (RX4, TX4, 14) := by
  refine ⟨cl_4, by decide, ?_⟩
  rw [h]
  exact wt_226
theorem fo_X1_113 {μ : mx_M} (h : (mx_y μ).cls = "LampValley$Reader") : mx_flOK μ 113 4 0 (RX4, TX4, 14) := by
  refine ⟨cl_4, by decide, ?_⟩
  rw [h]
  exact wt_202
theorem fo_X1_123 {μ : mx_M} (h : (mx_y μ).cls = "LampValley$Reader") : mx_flOK μ 123 4 9 (RX4, TX4, 14) := by
  refine ⟨cl_4, by decide, ?_⟩
  rw [h]
  exact wt_236
theorem fo_X1_130 {μ : mx_M} (h : (mx_y μ).cls = "LampValley$Reader") : mx_flOK μ 130 4 2 (RX4, TX4, 14) := by
  refine ⟨cl_4, by decide, ?_⟩
  rw [h]
  exact wt_211
theorem fo_X1_133 {μ : mx_M} (h : (mx_y μ).cls = "LampValley$Reader") : mx_flOK μ 133 4 3 (RX4, TX4, 14) := by
  refine ⟨cl_4, by decide, ?_⟩
  rw [h]
  exact wt_215
theorem fo_X1_136 {μ : mx_M} (h : (mx_y μ).cls = "LampValley$Reader") : mx_flOK μ 136 4 4 (RX4, TX4, 14) := by
  refine ⟨cl_4, by decide, ?_⟩
  rw [h]
  exact wt_219
theorem fo_X1_139 {μ : mx_M} (h : (mx_y μ).cls = "LampValley$Reader") : mx_flOK μ 139 4 5 (RX4, TX4, 14) := by
  refine ⟨cl_4, by decide, ?_⟩
  rw [h]
  exact wt_223
theorem fo_X2_9 {μ : mx_M} (h : (mx_y μ).cls = "LampValley$Scene") : mx_flOK μ 9 2 0 (RX2, TX2, 6) := by
  refine ⟨cl_2, by decide, ?_⟩
  rw [h]
  exact wt_115
theorem fo_X2_15 {μ : mx_M} (h : (mx_y μ).cls = "LampValley$Scene") : mx_flOK μ 15 2 1 (RX2, TX2, 6) := by
  refine ⟨cl_2, by decide, ?_⟩
  rw [h]
  exact wt_119
theorem fo_X2_18 {μ : mx_M} (h : (mx_y μ).cls = "LampValley$Scene") : mx_flOK μ 18 2 2 (RX2, TX2, 6) := by
  refine ⟨cl_2, by decide, ?_⟩
  rw [h]
  exact wt_122
theorem fo_X2_21 {μ : mx_M} (h : (mx_y μ).cls = "LampValley$Scene") : mx_flOK μ 21 4 10 (RX4, TX4, 14) := by
  refine ⟨cl_4, by decide, ?_⟩
  rw [h]
  exact wt_238
theorem fo_X2_30 {μ : mx_M} (h : (mx_y μ).cls = "LampValley$Scene") : mx_flOK μ 30 2 3 (RX2, TX2, 6) := by
  refine ⟨cl_2, by decide, ?_⟩
  rw [h]
  exact wt_125
theorem fo_X2_34 {μ : mx_M} (h : (mx_y μ).cls = "LampValley$Scene") : mx_flOK μ 34 2 4 (RX2, TX2, 6) := by
  refine ⟨cl_2, by decide, ?_⟩
  rw [h]
  exact wt_129
theorem fo_X2_37 {μ : mx_M} (h : (mx_y μ).cls = "LampValley$Scene") : mx_flOK μ 37 2 5 (RX2, TX2, 6) := by
  refine ⟨cl_2, by decide, ?_⟩
  rw [h]
  exact wt_132
theorem fo_X2_40 {μ : mx_M} (h : (mx_y μ).cls = "LampValley$Scene") : mx_flOK μ 40 4 1 (RX4, TX4, 14) := by
  refine ⟨cl_4, by decide, ?_⟩
  rw [h]
  exact wt_206
theorem fo_X2_47 {μ : mx_M} (h : (mx_y μ).cls = "LampValley$Scene") : mx_flOK μ 47 4 8 (RX4, TX4, 14) := by
  refine ⟨cl_4, by decide, ?_⟩
  rw [h]
  exact wt_232
theorem fo_X2_54 {μ : mx_M} (h : (mx_y μ).cls = "LampValley$Scene") : mx_flOK μ 54 4 3 (RX4, TX4, 14) := by
  refine ⟨cl_4, by decide, ?_⟩
  rw [h]
  exact wt_214
theorem fo_X3_12 {μ : mx_M} (h : (mx_y μ).cls = "LampValley$Story") : mx_flOK μ 12 3 0 (RX3, TX3, 4) := by
  refine ⟨cl_3, by decide, ?_⟩
  rw [h]
  exact wt_149
theorem fo_X3_18 {μ : mx_M} (h : (mx_y μ).cls = "LampValley$Story") : mx_flOK μ 18 3 1 (RX3, TX3, 4) := by
  refine ⟨cl_3, by decide, ?_⟩
  rw [h]
  exact wt_151
theorem fo_X3_22 {μ : mx_M} (h : (mx_y μ).cls = "LampValley$Story") : mx_flOK μ 22 3 2 (RX3, TX3, 4) := by
  refine ⟨cl_3, by decide, ?_⟩
  rw [h]
  exact wt_152
theorem fo_X3_25 {μ : mx_M} (h : (mx_y μ).cls = "LampValley$Story") : mx_flOK μ 25 3 3 (RX3, TX3, 4) := by
  refine ⟨cl_3, by decide, ?_⟩
  rw [h]
  exact wt_154
theorem fo_X3_32 {μ : mx_M} (h : (mx_y μ).cls = "LampValley$Story") : mx_flOK μ 32 2 0 (RX2, TX2, 6) := by
  refine ⟨cl_2, by decide, ?_⟩
  rw [h]
  exact wt_116
theorem fo_X3_45 {μ : mx_M} (h : (mx_y μ).cls = "LampValley$Story") : mx_flOK μ 45 2 3 (RX2, TX2, 6) := by
  refine ⟨cl_2, by decide, ?_⟩
  rw [h]
  exact wt_127
theorem fo_X4_9 {μ : mx_M} (h : (mx_y μ).cls = "LampValley$Told") : mx_flOK μ 9 4 7 (RX4, TX4, 14) := by
  refine ⟨cl_4, by decide, ?_⟩
  rw [h]
  exact wt_227
theorem fo_X4_15 {μ : mx_M} (h : (mx_y μ).cls = "LampValley$Told") : mx_flOK μ 15 4 8 (RX4, TX4, 14) := by
  refine ⟨cl_4, by decide, ?_⟩
  rw [h]
  exact wt_230
theorem fo_X4_18 {μ : mx_M} (h : (mx_y μ).cls = "LampValley$Told") : mx_flOK μ 18 4 9 (RX4, TX4, 14) := by
  refine ⟨cl_4, by decide, ?_⟩
  rw [h]
  exact wt_234
theorem fo_X4_21 {μ : mx_M} (h : (mx_y μ).cls = "LampValley$Told") : mx_flOK μ 21 4 10 (RX4, TX4, 14) := by
  refine ⟨cl_4, by decide, ?_⟩
  rw [h]
  exact wt_237
theorem fo_X4_24 {μ : mx_M} (h : (mx_y μ).cls = "LampValley$Told") : mx_flOK μ 24 4 11 (RX4, TX4, 14) := by
  refine ⟨cl_4, by decide, ?_⟩
  rw [h]
  exact wt_239
theorem fo_X4_27 {μ : mx_M} (h : (mx_y μ).cls = "LampValley$Told") : mx_flOK μ 27 4 12 (RX4, TX4, 14) := by
  refine ⟨cl_4, by decide, ?_⟩
  rw [h]
  exact wt_240
theorem fo_X4_30 {μ : mx_M} (h : (mx_y μ).cls = "LampValley$Told") : mx_flOK μ 30 4 13 (RX4, TX4, 14) := by
  refine ⟨cl_4, by decide, ?_⟩
  rw [h]
  exact wt_241
theorem fo_X4_36 {μ : mx_M} (h : (mx_y μ).cls = "LampValley$Told") : mx_flOK μ 36 4 0 (RX4, TX4, 14) := by
  refine ⟨cl_4, by decide, ?_⟩
  rw [h]
  exact wt_200
theorem fo_X4_40 {μ : mx_M} (h : (mx_y μ).cls = "LampValley$Told") : mx_flOK μ 40 4 1 (RX4, TX4, 14) := by
  refine ⟨cl_4, by decide, ?_⟩
  rw [h]
  exact wt_203
theorem fo_X4_43 {μ : mx_M} (h : (mx_y μ).cls = "LampValley$Told") : mx_flOK μ 43 4 2 (RX4, TX4, 14) := by
  refine ⟨cl_4, by decide, ?_⟩
  rw [h]
  exact wt_209
theorem fo_X4_46 {μ : mx_M} (h : (mx_y μ).cls = "LampValley$Told") : mx_flOK μ 46 4 3 (RX4, TX4, 14) := by
  refine ⟨cl_4, by decide, ?_⟩
  rw [h]
  exact wt_212
theorem fo_X4_49 {μ : mx_M} (h : (mx_y μ).cls = "LampValley$Told") : mx_flOK μ 49 4 4 (RX4, TX4, 14) := by
  refine ⟨cl_4, by decide, ?_⟩
  rw [h]
  exact wt_216
theorem fo_X4_52 {μ : mx_M} (h : (mx_y μ).cls = "LampValley$Told") : mx_flOK μ 52 4 5 (RX4, TX4, 14) := by
  refine ⟨cl_4, by decide, ?_⟩
  rw [h]
  exact wt_220
theorem fo_X4_55 {μ : mx_M} (h : (mx_y μ).cls = "LampValley$Told") : mx_flOK μ 55 4 6 (RX4, TX4, 14) := by
  refine ⟨cl_4, by decide, ?_⟩
  rw [h]
  exact wt_224
theorem fo_X5_9 {μ : mx_M} (h : (mx_y μ).cls = "LampValley$Way") : mx_flOK μ 9 5 0 (RX5, TX5, 5) := by
  refine ⟨cl_5, by decide, ?_⟩
  rw [h]
  exact wt_316
theorem fo_X5_15 {μ : mx_M} (h : (mx_y μ).cls = "LampValley$Way") : mx_flOK μ 15 5 1 (RX5, TX5, 5) := by
  refine ⟨cl_5, by decide, ?_⟩
  rw [h]
  exact wt_318
theorem fo_X5_19 {μ : mx_M} (h : (mx_y μ).cls = "LampValley$Way") : mx_flOK μ 19 4 9 (RX4, TX4, 14) := by
  refine ⟨cl_4, by decide, ?_⟩
  rw [h]
  exact wt_233
theorem fo_X5_24 {μ : mx_M} (h : (mx_y μ).cls = "LampValley$Way") : mx_flOK μ 24 5 2 (RX5, TX5, 5) := by
  refine ⟨cl_5, by decide, ?_⟩
  rw [h]
  exact wt_319
theorem fo_X5_25 {μ : mx_M} (h : (mx_y μ).cls = "LampValley$Way") : mx_flOK μ 25 4 2 (RX4, TX4, 14) := by
  refine ⟨cl_4, by decide, ?_⟩
  rw [h]
  exact wt_208
theorem fo_X5_29 {μ : mx_M} (h : (mx_y μ).cls = "LampValley$Way") : mx_flOK μ 29 5 3 (RX5, TX5, 5) := by
  refine ⟨cl_5, by decide, ?_⟩
  rw [h]
  exact wt_320
theorem fo_X5_30 {μ : mx_M} (h : (mx_y μ).cls = "LampValley$Way") : mx_flOK μ 30 5 4 (RX5, TX5, 5) := by
  refine ⟨cl_5, by decide, ?_⟩
  rw [h]
  exact wt_321
theorem fo_X5_38 {μ : mx_M} (h : (mx_y μ).cls = "LampValley$Way") : mx_flOK μ 38 2 3 (RX2, TX2, 6) := by
  refine ⟨cl_2, by decide, ?_⟩
  rw [h]
  exact wt_126
theorem fo_X5_43 {μ : mx_M} (h : (mx_y μ).cls = "LampValley$Way") : mx_flOK μ 43 4 5 (RX4, TX4, 14) := by
  refine ⟨cl_4, by decide, ?_⟩
  rw [h]
  exact wt_221
theorem fo_X5_46 {μ : mx_M} (h : (mx_y μ).cls = "LampValley$Way") : mx_flOK μ 46 2 4 (RX2, TX2, 6) := by
  refine ⟨cl_2, by decide, ?_⟩
  rw [h]
  exact wt_130
theorem fo_X5_53 {μ : mx_M} (h : (mx_y μ).cls = "LampValley$Way") : mx_flOK μ 53 2 1 (RX2, TX2, 6) := by
  refine ⟨cl_2, by decide, ?_⟩
  rw [h]
  exact wt_120
theorem fo_X5_56 {μ : mx_M} (h : (mx_y μ).cls = "LampValley$Way") : mx_flOK μ 56 2 2 (RX2, TX2, 6) := by
  refine ⟨cl_2, by decide, ?_⟩
  rw [h]
  exact wt_123
theorem fo_X5_59 {μ : mx_M} (h : (mx_y μ).cls = "LampValley$Way") : mx_flOK μ 59 2 5 (RX2, TX2, 6) := by
  refine ⟨cl_2, by decide, ?_⟩
  rw [h]
  exact wt_133
theorem fo_X5_62 {μ : mx_M} (h : (mx_y μ).cls = "LampValley$Way") : mx_flOK μ 62 4 1 (RX4, TX4, 14) := by
  refine ⟨cl_4, by decide, ?_⟩
  rw [h]
  exact wt_204
theorem fo_X5_69 {μ : mx_M} (h : (mx_y μ).cls = "LampValley$Way") : mx_flOK μ 69 2 0 (RX2, TX2, 6) := by
  refine ⟨cl_2, by decide, ?_⟩
  rw [h]
  exact wt_117
theorem fo_X5_97 {μ : mx_M} (h : (mx_y μ).cls = "LampValley$Way") : mx_flOK μ 97 4 7 (RX4, TX4, 14) := by
  refine ⟨cl_4, by decide, ?_⟩
  rw [h]
  exact wt_229
theorem fo_X5_108 {μ : mx_M} (h : (mx_y μ).cls = "LampValley$Way") : mx_flOK μ 108 4 4 (RX4, TX4, 14) := by
  refine ⟨cl_4, by decide, ?_⟩
  rw [h]
  exact wt_218
theorem fo_X6_9 {μ : mx_M} (h : (mx_y μ).cls = "LampValley") : mx_flOK μ 9 6 0 (RX6, TX6, 15) := by
  refine ⟨cl_6, by decide, ?_⟩
  rw [h]
  exact wt_345
theorem fo_X6_16 {μ : mx_M} (h : (mx_y μ).cls = "LampValley") : mx_flOK μ 16 6 2 (RX6, TX6, 15) := by
  refine ⟨cl_6, by decide, ?_⟩
  rw [h]
  exact wt_347
theorem fo_X6_20 {μ : mx_M} (h : (mx_y μ).cls = "LampValley") : mx_flOK μ 20 6 3 (RX6, TX6, 15) := by
  refine ⟨cl_6, by decide, ?_⟩
  rw [h]
  exact wt_348
theorem fo_X6_26 {μ : mx_M} (h : (mx_y μ).cls = "LampValley") : mx_flOK μ 26 6 4 (RX6, TX6, 15) := by
  refine ⟨cl_6, by decide, ?_⟩
  rw [h]
  exact wt_349
theorem fo_X6_30 {μ : mx_M} (h : (mx_y μ).cls = "LampValley") : mx_flOK μ 30 6 5 (RX6, TX6, 15) := by
  refine ⟨cl_6, by decide, ?_⟩
  rw [h]
  exact wt_350
theorem fo_X6_34 {μ : mx_M} (h : (mx_y μ).cls = "LampValley") : mx_flOK μ 34 6 6 (RX6, TX6, 15) := by
  refine ⟨cl_6, by decide, ?_⟩
  rw [h]
  exact wt_351
theorem fo_X6_37 {μ : mx_M} (h : (mx_y μ).cls = "LampValley") : mx_flOK μ 37 6 7 (RX6, TX6, 15) := by
  refine ⟨cl_6, by decide, ?_⟩
  rw [h]
  exact wt_352
theorem fo_X6_43 {μ : mx_M} (h : (mx_y μ).cls = "LampValley") : mx_flOK μ 43 6 8 (RX6, TX6, 15) := by
  refine ⟨cl_6, by decide, ?_⟩
  rw [h]
  exact wt_353
theorem fo_X6_50 {μ : mx_M} (h : (mx_y μ).cls = "LampValley") : mx_flOK μ 50 6 10 (RX6, TX6, 15) := by
  refine ⟨cl_6, by decide, ?_⟩
  rw [h]
  exact wt_355
theorem fo_X6_54 {μ : mx_M} (h : (mx_y μ).cls = "LampValley") : mx_flOK μ 54 6 11 (RX6, TX6, 15) := by
  refine ⟨cl_6, by decide, ?_⟩
  rw [h]
  exact wt_356
theorem fo_X6_57 {μ : mx_M} (h : (mx_y μ).cls = "LampValley") : mx_flOK μ 57 6 13 (RX6, TX6, 15) := by
  refine ⟨cl_6, by decide, ?_⟩
  rw [h]
  exact wt_358
theorem fo_X6_66 {μ : mx_M} (h : (mx_y μ).cls = "LampValley") : mx_flOK μ 66 6 1 (RX6, TX6, 15) := by
  refine ⟨cl_6, by decide, ?_⟩
  rw [h]
  exact wt_346
theorem fo_X6_75 {μ : mx_M} (h : (mx_y μ).cls = "LampValley") : mx_flOK μ 75 6 9 (RX6, TX6, 15) := by
  refine ⟨cl_6, by decide, ?_⟩
  rw [h]
  exact wt_354
theorem fo_X6_82 {μ : mx_M} (h : (mx_y μ).cls = "LampValley") : mx_flOK μ 82 6 12 (RX6, TX6, 15) := by
  refine ⟨cl_6, by decide, ?_⟩
  rw [h]
  exact wt_357
theorem fo_X6_96 {μ : mx_M} (h : (mx_y μ).cls = "LampValley") : mx_flOK μ 96 1 1 (RX1, TX1, 10) := by
  refine ⟨cl_1, by decide, ?_⟩
  rw [h]
  exact wt_280
theorem fo_X6_99 {μ : mx_M} (h : (mx_y μ).cls = "LampValley") : mx_flOK μ 99 1 0 (RX1, TX1, 10) := by
  refine ⟨cl_1, by decide, ?_⟩
  rw [h]
  exact wt_278
theorem fo_X6_102 {μ : mx_M} (h : (mx_y μ).cls = "LampValley") : mx_flOK μ 102 3 3 (RX3, TX3, 4) := by
  refine ⟨cl_3, by decide, ?_⟩
  rw [h]
  exact wt_155
theorem fo_X6_105 {μ : mx_M} (h : (mx_y μ).cls = "LampValley") : mx_flOK μ 105 6 14 (RX6, TX6, 15) := by
  refine ⟨cl_6, by decide, ?_⟩
  rw [h]
  exact wt_359
theorem fo_X6_109 {μ : mx_M} (h : (mx_y μ).cls = "LampValley") : mx_flOK μ 109 4 0 (RX4, TX4, 14) := by
  refine ⟨cl_4, by decide, ?_⟩
  rw [h]
  exact wt_201
theorem fo_X6_112 {μ : mx_M} (h : (mx_y μ).cls = "LampValley") : mx_flOK μ 112 4 1 (RX4, TX4, 14) := by
  refine ⟨cl_4, by decide, ?_⟩
  rw [h]
  exact wt_205
theorem fo_X6_115 {μ : mx_M} (h : (mx_y μ).cls = "LampValley") : mx_flOK μ 115 4 2 (RX4, TX4, 14) := by
  refine ⟨cl_4, by decide, ?_⟩
  rw [h]
  exact wt_210
theorem fo_X6_118 {μ : mx_M} (h : (mx_y μ).cls = "LampValley") : mx_flOK μ 118 4 3 (RX4, TX4, 14) := by
  refine ⟨cl_4, by decide, ?_⟩
  rw [h]
  exact wt_213
theorem fo_X6_121 {μ : mx_M} (h : (mx_y μ).cls = "LampValley") : mx_flOK μ 121 4 4 (RX4, TX4, 14) := by
  refine ⟨cl_4, by decide, ?_⟩
  rw [h]
  exact wt_217
theorem fo_X6_124 {μ : mx_M} (h : (mx_y μ).cls = "LampValley") : mx_flOK μ 124 4 5 (RX4, TX4, 14) := by
  refine ⟨cl_4, by decide, ?_⟩
  rw [h]
  exact wt_222
theorem fo_X6_127 {μ : mx_M} (h : (mx_y μ).cls = "LampValley") : mx_flOK μ 127 4 6 (RX4, TX4, 14) := by
  refine ⟨cl_4, by decide, ?_⟩
  rw [h]
  exact wt_225
theorem fo_X6_130 {μ : mx_M} (h : (mx_y μ).cls = "LampValley") : mx_flOK μ 130 3 0 (RX3, TX3, 4) := by
  refine ⟨cl_3, by decide, ?_⟩
  rw [h]
  exact wt_150
theorem fo_X6_133 {μ : mx_M} (h : (mx_y μ).cls = "LampValley") : mx_flOK μ 133 2 3 (RX2, TX2, 6) := by
  refine ⟨cl_2, by decide, ?_⟩
  rw [h]
  exact wt_128
theorem fo_X6_136 {μ : mx_M} (h : (mx_y μ).cls = "LampValley") : mx_flOK μ 136 2 5 (RX2, TX2, 6) := by
  refine ⟨cl_2, by decide, ?_⟩
  rw [h]
  exact wt_134
theorem fo_X6_145 {μ : mx_M} (h : (mx_y μ).cls = "LampValley") : mx_flOK μ 145 4 7 (RX4, TX4, 14) := by
  refine ⟨cl_4, by decide, ?_⟩
  rw [h]
  exact wt_228
theorem fo_X6_148 {μ : mx_M} (h : (mx_y μ).cls = "LampValley") : mx_flOK μ 148 4 8 (RX4, TX4, 14) := by
  refine ⟨cl_4, by decide, ?_⟩
  rw [h]
  exact wt_231
theorem fo_X6_151 {μ : mx_M} (h : (mx_y μ).cls = "LampValley") : mx_flOK μ 151 2 0 (RX2, TX2, 6) := by
  refine ⟨cl_2, by decide, ?_⟩
  rw [h]
  exact wt_118
theorem fo_X6_154 {μ : mx_M} (h : (mx_y μ).cls = "LampValley") : mx_flOK μ 154 4 9 (RX4, TX4, 14) := by
  refine ⟨cl_4, by decide, ?_⟩
  rw [h]
  exact wt_235
theorem fo_X6_157 {μ : mx_M} (h : (mx_y μ).cls = "LampValley") : mx_flOK μ 157 2 1 (RX2, TX2, 6) := by
  refine ⟨cl_2, by decide, ?_⟩
  rw [h]
  exact wt_121
theorem fo_X6_160 {μ : mx_M} (h : (mx_y μ).cls = "LampValley") : mx_flOK μ 160 2 2 (RX2, TX2, 6) := by
  refine ⟨cl_2, by decide, ?_⟩
  rw [h]
  exact wt_124
theorem fo_X6_192 {μ : mx_M} (h : (mx_y μ).cls = "LampValley") : mx_flOK μ 192 3 2 (RX3, TX3, 4) := by
  refine ⟨cl_3, by decide, ?_⟩
  rw [h]
  exact wt_153
theorem fo_X6_213 {μ : mx_M} (h : (mx_y μ).cls = "LampValley") : mx_flOK μ 213 2 4 (RX2, TX2, 6) := by
  refine ⟨cl_2, by decide, ?_⟩
  rw [h]
  exact wt_131
theorem fo_X6_254 {μ : mx_M} (h : (mx_y μ).cls = "LampValley") : mx_flOK μ 254 5 0 (RX5, TX5, 5) := by
  refine ⟨cl_5, by decide, ?_⟩
  rw [h]
  exact wt_317
theorem fo_X7_19 {μ : mx_M} (h : (mx_y μ).cls = "LampValleyModel") : mx_flOK μ 19 7 0 (RX7, TX7, 48) := by
  refine ⟨cl_7, by decide, ?_⟩
  rw [h]
  exact wt_954
theorem fo_X7_33 {μ : mx_M} (h : (mx_y μ).cls = "LampValleyModel") : mx_flOK μ 33 7 1 (RX7, TX7, 48) := by
  refine ⟨cl_7, by decide, ?_⟩
  rw [h]
  exact wt_955
theorem fo_X7_36 {μ : mx_M} (h : (mx_y μ).cls = "LampValleyModel") : mx_flOK μ 36 7 2 (RX7, TX7, 48) := by
  refine ⟨cl_7, by decide, ?_⟩
  rw [h]
  exact wt_956
theorem fo_X7_40 {μ : mx_M} (h : (mx_y μ).cls = "LampValleyModel") : mx_flOK μ 40 7 3 (RX7, TX7, 48) := by
  refine ⟨cl_7, by decide, ?_⟩
  rw [h]
  exact wt_957
theorem fo_X7_43 {μ : mx_M} (h : (mx_y μ).cls = "LampValleyModel") : mx_flOK μ 43 7 5 (RX7, TX7, 48) := by
  refine ⟨cl_7, by decide, ?_⟩
  rw [h]
  exact wt_959
theorem fo_X7_46 {μ : mx_M} (h : (mx_y μ).cls = "LampValleyModel") : mx_flOK μ 46 7 6 (RX7, TX7, 48) := by
  refine ⟨cl_7, by decide, ?_⟩
  rw [h]
  exact wt_960
theorem fo_X7_49 {μ : mx_M} (h : (mx_y μ).cls = "LampValleyModel") : mx_flOK μ 49 7 7 (RX7, TX7, 48) := by
  refine ⟨cl_7, by decide, ?_⟩
  rw [h]
  exact wt_961
theorem fo_X7_52 {μ : mx_M} (h : (mx_y μ).cls = "LampValleyModel") : mx_flOK μ 52 7 8 (RX7, TX7, 48) := by
  refine ⟨cl_7, by decide, ?_⟩
  rw [h]
  exact wt_962
theorem fo_X7_55 {μ : mx_M} (h : (mx_y μ).cls = "LampValleyModel") : mx_flOK μ 55 7 9 (RX7, TX7, 48) := by
  refine ⟨cl_7, by decide, ?_⟩
  rw [h]
  exact wt_963
theorem fo_X7_58 {μ : mx_M} (h : (mx_y μ).cls = "LampValleyModel") : mx_flOK μ 58 7 10 (RX7, TX7, 48) := by
  refine ⟨cl_7, by decide, ?_⟩
  rw [h]
  exact wt_964
theorem fo_X7_61 {μ : mx_M} (h : (mx_y μ).cls = "LampValleyModel") : mx_flOK μ 61 7 11 (RX7, TX7, 48) := by
  refine ⟨cl_7, by decide, ?_⟩
  rw [h]
  exact wt_965
theorem fo_X7_64 {μ : mx_M} (h : (mx_y μ).cls = "LampValleyModel") : mx_flOK μ 64 7 12 (RX7, TX7, 48) := by
  refine ⟨cl_7, by decide, ?_⟩
  rw [h]
  exact wt_966
theorem fo_X7_67 {μ : mx_M} (h : (mx_y μ).cls = "LampValleyModel") : mx_flOK μ 67 7 13 (RX7, TX7, 48) := by
  refine ⟨cl_7, by decide, ?_⟩
  rw [h]
  exact wt_967
theorem fo_X7_70 {μ : mx_M} (h : (mx_y μ).cls = "LampValleyModel") : mx_flOK μ 70 7 14 (RX7, TX7, 48) := by
  refine ⟨cl_7, by decide, ?_⟩
  rw [h]
  exact wt_968
theorem fo_X7_73 {μ : mx_M} (h : (mx_y μ).cls = "LampValleyModel") : mx_flOK μ 73 7 24 (RX7, TX7, 48) := by
  refine ⟨cl_7, by decide, ?_⟩
  rw [h]
  exact wt_978
theorem fo_X7_77 {μ : mx_M} (h : (mx_y μ).cls = "LampValleyModel") : mx_flOK μ 77 7 25 (RX7, TX7, 48) := by
  refine ⟨cl_7, by decide, ?_⟩
  rw [h]
  exact wt_979
theorem fo_X7_80 {μ : mx_M} (h : (mx_y μ).cls = "LampValleyModel") : mx_flOK μ 80 7 26 (RX7, TX7, 48) := by
  refine ⟨cl_7, by decide, ?_⟩
  rw [h]
  exact wt_980
theorem fo_X7_83 {μ : mx_M} (h : (mx_y μ).cls = "LampValleyModel") : mx_flOK μ 83 7 27 (RX7, TX7, 48) := by
  refine ⟨cl_7, by decide, ?_⟩
  rw [h]
  exact wt_981
theorem fo_X7_86 {μ : mx_M} (h : (mx_y μ).cls = "LampValleyModel") : mx_flOK μ 86 7 28 (RX7, TX7, 48) := by
  refine ⟨cl_7, by decide, ?_⟩
  rw [h]
  exact wt_982
theorem fo_X7_89 {μ : mx_M} (h : (mx_y μ).cls = "LampValleyModel") : mx_flOK μ 89 7 30 (RX7, TX7, 48) := by
  refine ⟨cl_7, by decide, ?_⟩
  rw [h]
  exact wt_984
theorem fo_X7_92 {μ : mx_M} (h : (mx_y μ).cls = "LampValleyModel") : mx_flOK μ 92 7 31 (RX7, TX7, 48) := by
  refine ⟨cl_7, by decide, ?_⟩
  rw [h]
  exact wt_985
theorem fo_X7_95 {μ : mx_M} (h : (mx_y μ).cls = "LampValleyModel") : mx_flOK μ 95 7 32 (RX7, TX7, 48) := by
  refine ⟨cl_7, by decide, ?_⟩
  rw [h]
  exact wt_986
theorem fo_X7_98 {μ : mx_M} (h : (mx_y μ).cls = "LampValleyModel") : mx_flOK μ 98 7 33 (RX7, TX7, 48) := by
  refine ⟨cl_7, by decide, ?_⟩
  rw [h]
  exact wt_987
theorem fo_X7_101 {μ : mx_M} (h : (mx_y μ).cls = "LampValleyModel") : mx_flOK μ 101 7 34 (RX7, TX7, 48) := by
  refine ⟨cl_7, by decide, ?_⟩
  rw [h]
  exact wt_988
theorem fo_X7_104 {μ : mx_M} (h : (mx_y μ).cls = "LampValleyModel") : mx_flOK μ 104 7 35 (RX7, TX7, 48) := by
  refine ⟨cl_7, by decide, ?_⟩
  rw [h]
  exact wt_989
theorem fo_X7_107 {μ : mx_M} (h : (mx_y μ).cls = "LampValleyModel") : mx_flOK μ 107 7 36 (RX7, TX7, 48) := by
  refine ⟨cl_7, by decide, ?_⟩
  rw [h]
  exact wt_990
theorem fo_X7_110 {μ : mx_M} (h : (mx_y μ).cls = "LampValleyModel") : mx_flOK μ 110 7 37 (RX7, TX7, 48) := by
  refine ⟨cl_7, by decide, ?_⟩
  rw [h]
  exact wt_991
theorem fo_X7_113 {μ : mx_M} (h : (mx_y μ).cls = "LampValleyModel") : mx_flOK μ 113 7 39 (RX7, TX7, 48) := by
  refine ⟨cl_7, by decide, ?_⟩
  rw [h]
  exact wt_993
theorem fo_X7_116 {μ : mx_M} (h : (mx_y μ).cls = "LampValleyModel") : mx_flOK μ 116 7 43 (RX7, TX7, 48) := by
  refine ⟨cl_7, by decide, ?_⟩
  rw [h]
  exact wt_997
theorem fo_X7_119 {μ : mx_M} (h : (mx_y μ).cls = "LampValleyModel") : mx_flOK μ 119 7 44 (RX7, TX7, 48) := by
  refine ⟨cl_7, by decide, ?_⟩
  rw [h]
  exact wt_998
theorem fo_X7_122 {μ : mx_M} (h : (mx_y μ).cls = "LampValleyModel") : mx_flOK μ 122 7 45 (RX7, TX7, 48) := by
  refine ⟨cl_7, by decide, ?_⟩
  rw [h]
  exact wt_999
theorem fo_X7_125 {μ : mx_M} (h : (mx_y μ).cls = "LampValleyModel") : mx_flOK μ 125 7 46 (RX7, TX7, 48) := by
  refine ⟨cl_7, by decide, ?_⟩
  rw [h]
  exact wt_1000
theorem fo_X7_128 {μ : mx_M} (h : (mx_y μ).cls = "LampValleyModel") : mx_flOK μ 128 7 47 (RX7, TX7, 48) := by
  refine ⟨cl_7, by decide, ?_⟩
  rw [h]
  exact wt_1001
theorem fo_X7_131 {μ : mx_M} (h : (mx_y μ).cls = "LampValleyModel") : mx_flOK μ 131 7 4 (RX7, TX7, 48) := by
  refine ⟨cl_7, by decide, ?_⟩
  rw [h]
  exact wt_958
theorem fo_X7_138 {μ : mx_M} (h : (mx_y μ).cls = "LampValleyModel") : mx_flOK μ 138 7 15 (RX7, TX7, 48) := by
  refine ⟨cl_7, by decide, ?_⟩
  rw [h]
  exact wt_969
theorem fo_X7_141 {μ : mx_M} (h : (mx_y μ).cls = "LampValleyModel") : mx_flOK μ 141 7 17 (RX7, TX7, 48) := by
  refine ⟨cl_7, by decide, ?_⟩
  rw [h]
  exact wt_971
theorem fo_X7_144 {μ : mx_M} (h : (mx_y μ).cls = "LampValleyModel") : mx_flOK μ 144 7 16 (RX7, TX7, 48) := by
  refine ⟨cl_7, by decide, ?_⟩
  rw [h]
  exact wt_970
theorem fo_X7_151 {μ : mx_M} (h : (mx_y μ).cls = "LampValleyModel") : mx_flOK μ 151 7 20 (RX7, TX7, 48) := by
  refine ⟨cl_7, by decide, ?_⟩
  rw [h]
  exact wt_974
theorem fo_X7_154 {μ : mx_M} (h : (mx_y μ).cls = "LampValleyModel") : mx_flOK μ 154 7 18 (RX7, TX7, 48) := by
  refine ⟨cl_7, by decide, ?_⟩
  rw [h]
  exact wt_972
theorem fo_X7_164 {μ : mx_M} (h : (mx_y μ).cls = "LampValleyModel") : mx_flOK μ 164 7 19 (RX7, TX7, 48) := by
  refine ⟨cl_7, by decide, ?_⟩
  rw [h]
  exact wt_973
theorem fo_X7_173 {μ : mx_M} (h : (mx_y μ).cls = "LampValleyModel") : mx_flOK μ 173 7 21 (RX7, TX7, 48) := by
  refine ⟨cl_7, by decide, ?_⟩
  rw [h]
  exact wt_975
theorem fo_X7_176 {μ : mx_M} (h : (mx_y μ).cls = "LampValleyModel") : mx_flOK μ 176 7 22 (RX7, TX7, 48) := by
  refine ⟨cl_7, by decide, ?_⟩
  rw [h]
  exact wt_976
theorem fo_X7_179 {μ : mx_M} (h : (mx_y μ).cls = "LampValleyModel") : mx_flOK μ 179 7 23 (RX7, TX7, 48) := by
  refine ⟨cl_7, by decide, ?_⟩
  rw [h]
  exact wt_977
theorem fo_X7_248 {μ : mx_M} (h : (mx_y μ).cls = "LampValleyModel") : mx_flOK μ 248 7 29 (RX7, TX7, 48) := by
  refine ⟨cl_7, by decide, ?_⟩
  rw [h]
  exact wt_983
theorem fo_X7_254 {μ : mx_M} (h : (mx_y μ).cls = "LampValleyModel") : mx_flOK μ 254 7 41 (RX7, TX7, 48) := by
  refine ⟨cl_7, by decide, ?_⟩
  rw [h]
  exact wt_995
theorem fo_X7_329 {μ : mx_M} (h : (mx_y μ).cls = "LampValleyModel") : mx_flOK μ 329 7 38 (RX7, TX7, 48) := by
  refine ⟨cl_7, by decide, ?_⟩
  rw [h]
  exact wt_992
theorem fo_X7_363 {μ : mx_M} (h : (mx_y μ).cls = "LampValleyModel") : mx_flOK μ 363 7 40 (RX7, TX7, 48) := by
  refine ⟨cl_7, by decide, ?_⟩
  rw [h]
  exact wt_994
theorem fo_X7_370 {μ : mx_M} (h : (mx_y μ).cls = "LampValleyModel") : mx_flOK μ 370 7 42 (RX7, TX7, 48) := by
  refine ⟨cl_7, by decide, ?_⟩
  rw [h]
  exact wt_996
theorem oi_X0_3 {μ : mx_M} (h : (mx_y μ).cls = "LampValley$Council") : Cond.methodLink (mx_y μ).cls 3 Lib.objectInit ∈ mx_T ∧ Cond.instanceMethod Lib.objectInit ∈ mx_T ∧ Cond.code Lib.objectInit ⟨#[0xb1]⟩ 1 none ∈ mx_T := by
  rw [h]
  exact ⟨wt_172, wt_101, wt_102⟩
theorem oi_X1_3 {μ : mx_M} (h : (mx_y μ).cls = "LampValley$Reader") : Cond.methodLink (mx_y μ).cls 3 Lib.objectInit ∈ mx_T ∧ Cond.instanceMethod Lib.objectInit ∈ mx_T ∧ Cond.code Lib.objectInit ⟨#[0xb1]⟩ 1 none ∈ mx_T := by
  rw [h]
  exact ⟨wt_276, wt_101, wt_102⟩
theorem oi_X2_3 {μ : mx_M} (h : (mx_y μ).cls = "LampValley$Scene") : Cond.methodLink (mx_y μ).cls 3 Lib.objectInit ∈ mx_T ∧ Cond.instanceMethod Lib.objectInit ∈ mx_T ∧ Cond.code Lib.objectInit ⟨#[0xb1]⟩ 1 none ∈ mx_T := by
  rw [h]
  exact ⟨wt_114, wt_101, wt_102⟩
theorem oi_X3_3 {μ : mx_M} (h : (mx_y μ).cls = "LampValley$Story") : Cond.methodLink (mx_y μ).cls 3 Lib.objectInit ∈ mx_T ∧ Cond.instanceMethod Lib.objectInit ∈ mx_T ∧ Cond.code Lib.objectInit ⟨#[0xb1]⟩ 1 none ∈ mx_T := by
  rw [h]
  exact ⟨wt_108, wt_101, wt_102⟩
theorem oi_X4_3 {μ : mx_M} (h : (mx_y μ).cls = "LampValley$Told") : Cond.methodLink (mx_y μ).cls 3 Lib.objectInit ∈ mx_T ∧ Cond.instanceMethod Lib.objectInit ∈ mx_T ∧ Cond.code Lib.objectInit ⟨#[0xb1]⟩ 1 none ∈ mx_T := by
  rw [h]
  exact ⟨wt_195, wt_101, wt_102⟩
theorem oi_X5_3 {μ : mx_M} (h : (mx_y μ).cls = "LampValley$Way") : Cond.methodLink (mx_y μ).cls 3 Lib.objectInit ∈ mx_T ∧ Cond.instanceMethod Lib.objectInit ∈ mx_T ∧ Cond.code Lib.objectInit ⟨#[0xb1]⟩ 1 none ∈ mx_T := by
  rw [h]
  exact ⟨wt_315, wt_101, wt_102⟩
theorem oi_X6_1 {μ : mx_M} (h : (mx_y μ).cls = "LampValley") : Cond.methodLink (mx_y μ).cls 1 Lib.objectInit ∈ mx_T ∧ Cond.instanceMethod Lib.objectInit ∈ mx_T ∧ Cond.code Lib.objectInit ⟨#[0xb1]⟩ 1 none ∈ mx_T := by
  rw [h]
  exact ⟨wt_100, wt_101, wt_102⟩
theorem oi_X7_1 {μ : mx_M} (h : (mx_y μ).cls = "LampValleyModel") : Cond.methodLink (mx_y μ).cls 1 Lib.objectInit ∈ mx_T ∧ Cond.instanceMethod Lib.objectInit ∈ mx_T ∧ Cond.code Lib.objectInit ⟨#[0xb1]⟩ 1 none ∈ mx_T := by
  rw [h]
  exact ⟨wt_942, wt_101, wt_102⟩
