section MXS
variable {S : mx_Sc} {μ κ : mx_M} {pc : Nat} {ls : List (Option Value)} {st : List Value} {h : mx_H} {bc bs : Nat} {P : Option Value → mx_H → Prop} {PX : String → mx_H → Prop}
/-- a number of the script -/
def sv (S : mx_Sc) (i : Int) : Int := (S.2 i.toNat).toInt
theorem sv_b (S : mx_Sc) (i : Int) : -2147483648 ≤ sv S i ∧ sv S i ≤ 2147483647 := by
  have h1 := Int32.minValue_le_toInt (S.2 i.toNat)
  have h2 := Int32.toInt_le (S.2 i.toNat)
  have e1 : Int32.minValue.toInt = -2147483648 := by decide
  have e2 : Int32.maxValue.toInt = 2147483647 := by decide
  unfold sv
  omega
theorem ms_sl {i : Int} (hd : decode (mx_b μ) pc = .ok (.iaload, 1)) (kk : mx_E S μ (pc + 1) ls (.int (iI (sv S i)) :: st) h bc bs P PX) (hj0 : 0 ≤ i := by omega) (hj1 : i < S.1 := by omega) : mx_E S μ pc ls (.int (iI i) :: .ref 1000 :: st) h bc bs P PX :=
  ms_sld hd hj0 hj1 (by unfold sv at kk; rw [iI_ti] at kk; exact kk)
/-- more room than is needed -/
theorem ms_room {bc2 bs2 : Nat} {sh : List (Nat × Nat)} {M : Nat → Int → Int} {L : Nat → Nat → Int64} {Rf : Nat → Nat → Option Nat} (a1 : bc2 ≤ bc) (a2 : bs2 ≤ bs) (kk : mx_E S μ pc ls st (false, sh, M, L, Rf) bc2 bs2 P PX) : mx_E S μ pc ls st (false, sh, M, L, Rf) bc bs P PX := by
  intro X C D p l e R s m args below meth c H locs cells slots mc ms lc f0 hI hL hR hS h1 h2 h3 h4 h5
  exact W.widen (k := cells + (bc - bc2)) (n := slots + (bs - bs2)) (by omega) (by omega) (kk X C D p l e R s m args below meth c H locs (cells + (bc - bc2)) (slots + (bs - bs2)) mc ms lc f0 hI hL hR hS (by omega) (by omega) h3 h4 (fun z => by cases z))
theorem and31 (x : Int32) : ∃ w : Int, (0 ≤ w ∧ w < 32) ∧ x &&& iI 31 = iI w := by
  refine ⟨(x &&& iI 31).toInt, ?_, (iI_ti _).symm⟩
  have h1 : (x &&& iI 31).toInt = (x.toBitVec &&& (31#32)).toInt := rfl
  have h2 : (x.toBitVec &&& (31#32)).toNat ≤ 31 := by
    rw [BitVec.toNat_and]
    exact Nat.and_le_right
  rw [h1, BitVec.toInt_eq_toNat_of_lt (by omega)]
  omega
end MXS
/-- the law holds -/
abbrev lwP : Option Value → mx_H → Prop := fun v _ => v = some (.int (iI 1))
def lwL (i : Int) (o5 o6 : Option Value) : List (Option Value) := [some (.ref 1000), some (.ref 0), some (.ref 48), some (.ref 81), some (.int (iI i)), o5, o6]
set_option maxHeartbeats 1000000 in
set_option maxRecDepth 100000 in
theorem lw_feed {S : mx_Sc} {M : Nat → Int → Int} {L : Nat → Nat → Int64} {Rf : Nat → Nat → Option Nat} {it i : Int} {kk : Nat} {o5 o6 : Option Value} (hi0 : 0 ≤ i) (hi6 : i + 6 ≤ S.1) (hit : it ≤ 1000000) (h : rlA M Rf it) (hJ : ∀ (N : Nat → Int → Int) (L2 : Nat → Nat → Int64) (Rf2 : Nat → Nat → Option Nat) (p5 p6 : Option Value), rlA N Rf2 (it + 1) → mx_E S mL_law 1281 [some (.ref 1000), some (.ref 0), some (.ref 48), some (.ref 81), some (.int (iI i)), p5, p6] [] (false, mx_SH, N, L2, Rf2) kk (6 * kk) lwP (fun _ _ => False)) : mx_E S mL_law 136 [some (.ref 1000), some (.ref 0), some (.ref 48), some (.ref 81), some (.int (iI i)), o5, o6] [] (false, mx_SH, M, L, Rf) (kk + 1) (6 * kk + 6) lwP (fun _ _ => False) := by
  have hc : lcA0 S mX6_feed mX7_feed [.int (iI (sv S (i + 1))), .int (iI (sv S (i + 2))), .int (iI (sv S (i + 3))), .int (iI (sv S (i + 4))), .int (iI (sv S (i + 5)))] true M L Rf it := by
    obtain ⟨t, b, h | h⟩ := h
    · exact (lc_feed (a1 := sv S (i + 1)) (a2 := sv S (i + 2)) (a3 := sv S (i + 3)) (a4 := sv S (i + 4)) (a5 := sv S (i + 5)) h).a
    · exact lz_feed (a1 := sv S (i + 1)) (a2 := sv S (i + 2)) (a3 := sv S (i + 3)) (a4 := sv S (i + 4)) (a5 := sv S (i + 5)) h
  obtain ⟨Pk, hC, hPk⟩ := hc
  refine ms_room (bc2 := kk) (bs2 := 6 * kk) (by omega) (by omega) ?_
  refine ms_aload_n dL_law_136 rfl ?_
  refine ms_aload_n dL_law_137 rfl ?_
  refine ms_iload dL_law_138 rfl ?_
  refine mi_iconst dL_law_140 ?_
  refine mi_iadd dL_law_141 ?_
  refine ms_sl dL_law_142 ?_
  refine ms_aload_n dL_law_143 rfl ?_
  refine ms_iload dL_law_144 rfl ?_
  refine mi_iconst dL_law_146 ?_
  refine mi_iadd dL_law_147 ?_
  refine ms_sl dL_law_148 ?_
  refine ms_aload_n dL_law_149 rfl ?_
  refine ms_iload dL_law_150 rfl ?_
  refine mi_iconst dL_law_152 ?_
  refine mi_iadd dL_law_153 ?_
  refine ms_sl dL_law_154 ?_
  refine ms_aload_n dL_law_155 rfl ?_
  refine ms_iload dL_law_156 rfl ?_
  refine mi_iconst dL_law_158 ?_
  refine mi_iadd dL_law_159 ?_
  refine ms_sl dL_law_160 ?_
  refine ms_aload_n dL_law_161 rfl ?_
  refine ms_iload dL_law_162 rfl ?_
  refine mi_iconst dL_law_164 ?_
  refine mi_iadd dL_law_165 ?_
  refine ms_sl dL_law_166 ?_
  refine ms_callV5 (ci := 6) (r := (RX6, TX6, 15)) dL_law_167 cv_L_law_X6_feed (hC) rfl rfl (by first | rfl | assumption) (Nat.le_of_ble_eq_true rfl) rfl (fun _ _ z => z.elim) (fun v9 h9 hp9 => ?_)
  obtain ⟨N1, Rf1, rfl, hR1, hv1, hv2, Pm, hCm, hPm⟩ := hPk v9 h9 hp9
  obtain ⟨y, rfl⟩ := hv1 rfl
  refine ms_aload_n dL_law_170 rfl ?_
  refine ms_aload_n dL_law_171 rfl ?_
  refine ms_iload dL_law_172 rfl ?_
  refine mi_iconst dL_law_174 ?_
  refine mi_iadd dL_law_175 ?_
  refine ms_sl dL_law_176 ?_
  refine ms_aload_n dL_law_177 rfl ?_
  refine ms_iload dL_law_178 rfl ?_
  refine mi_iconst dL_law_180 ?_
  refine mi_iadd dL_law_181 ?_
  refine ms_sl dL_law_182 ?_
  refine ms_aload_n dL_law_183 rfl ?_
  refine ms_iload dL_law_184 rfl ?_
  refine mi_iconst dL_law_186 ?_
  refine mi_iadd dL_law_187 ?_
  refine ms_sl dL_law_188 ?_
  refine ms_aload_n dL_law_189 rfl ?_
  refine ms_iload dL_law_190 rfl ?_
  refine mi_iconst dL_law_192 ?_
  refine mi_iadd dL_law_193 ?_
  refine ms_sl dL_law_194 ?_
  refine ms_aload_n dL_law_195 rfl ?_
  refine ms_iload dL_law_196 rfl ?_
  refine mi_iconst dL_law_198 ?_
  refine mi_iadd dL_law_199 ?_
  refine ms_sl dL_law_200 ?_
  refine ms_callV5 (ci := 7) (r := (RX7, TX7, 48)) dL_law_201 cv_L_law_X7_feed (hCm) rfl rfl (by first | rfl | assumption) (Nat.le_of_ble_eq_true rfl) rfl (fun _ _ z => z.elim) (fun v9 h9 hp9 => ?_)
  obtain ⟨N2, rfl, rfl, hrl⟩ := hPm v9 h9 hp9
  refine ms_icmp_eq (tgt := 1281) dL_law_204 (by decide) (fun _ => ?_) (fun c => absurd rfl c)
  exact hJ _ _ _ _ _ hrl
set_option maxHeartbeats 1000000 in
set_option maxRecDepth 100000 in
theorem lw_valley {S : mx_Sc} {M : Nat → Int → Int} {L : Nat → Nat → Int64} {Rf : Nat → Nat → Option Nat} {it i : Int} {kk : Nat} {o5 o6 : Option Value} (hi0 : 0 ≤ i) (hi6 : i + 6 ≤ S.1) (hit : it ≤ 1000000) (h : rlA M Rf it) (hJ : ∀ (N : Nat → Int → Int) (L2 : Nat → Nat → Int64) (Rf2 : Nat → Nat → Option Nat) (p5 p6 : Option Value), rlA N Rf2 (it + 1) → mx_E S mL_law 1281 [some (.ref 1000), some (.ref 0), some (.ref 48), some (.ref 81), some (.int (iI i)), p5, p6] [] (false, mx_SH, N, L2, Rf2) kk (6 * kk) lwP (fun _ _ => False)) : mx_E S mL_law 209 [some (.ref 1000), some (.ref 0), some (.ref 48), some (.ref 81), some (.int (iI i)), o5, o6] [] (false, mx_SH, M, L, Rf) (kk + 1) (6 * kk + 6) lwP (fun _ _ => False) := by
  have hc : lcA S mL_valley mX7_valley [.int (iI (sv S (i + 1)))] M L Rf it := by
    obtain ⟨t, b, h | h⟩ := h
    · exact (lc_valley h (sv_b S (i + 1)) hit).a
    · exact lz_valley h (sv_b S (i + 1)) hit
  obtain ⟨bc1, bs1, Pk, hb, hC, hPk⟩ := hc
  refine ms_aload_n dL_law_209 rfl ?_
  refine ms_aload_n dL_law_210 rfl ?_
  refine ms_iload dL_law_211 rfl ?_
  refine mi_iconst dL_law_213 ?_
  refine mi_iadd dL_law_214 ?_
  refine ms_sl dL_law_215 ?_
  refine ms_aload_n dL_law_216 rfl ?_
  refine ms_room (bc2 := bc1 + kk) (bs2 := bs1 + 6 * kk) (by omega) (by omega) ?_
  refine ms_callSH (bc := kk) (bs := 6 * kk) (As := [.ref 0, .int (iI (sv S (i + 1))), .ref 81]) dL_law_217 cv_L_law_L_valley (by decide) hC rfl rfl (Nat.le_of_ble_eq_true rfl) (fun v9 h9 hp9 => ?_)
  obtain ⟨N1, L1, Rf1, k, rfl, rfl, hk, hR1, Pm, hCm, hPm⟩ := hPk v9 h9 hp9
  refine ms_istore dL_law_220 (by decide) rfl ?_
  dsimp only [List.set, Nat.reduceAdd]
  refine ms_aload_n dL_law_222 rfl ?_
  refine ms_aload_n dL_law_223 rfl ?_
  refine ms_iload dL_law_224 rfl ?_
  refine mi_iconst dL_law_226 ?_
  refine mi_iadd dL_law_227 ?_
  refine ms_sl dL_law_228 ?_
  refine ms_callV1 (ci := 7) (r := (RX7, TX7, 48)) dL_law_229 cv_L_law_X7_valley (hCm) rfl rfl (by first | rfl | assumption) (Nat.le_of_ble_eq_true rfl) rfl (fun _ _ z => z.elim) (fun v9 h9 hp9 => ?_)
  obtain ⟨N2, z, rfl, rfl, h4, hL, hrl⟩ := hPm v9 h9 hp9
  refine ms_istore dL_law_232 (by decide) rfl ?_
  dsimp only [List.set, Nat.reduceAdd]
  refine ms_aload_n dL_law_234 rfl ?_
  refine ms_callV0 (ci := 7) (r := (RX7, TX7, 48)) dL_law_235 cv_L_law_X7_thrown (k_X7_thrown hR1) rfl rfl (by first | rfl | assumption) (Nat.le_of_ble_eq_true rfl) rfl (fun _ _ z => z.elim) (fun v9 h9 hp9 => ?_)
  obtain ⟨rfl, rfl⟩ := hp9
  rw [h4]
  refine ms_iload dL_law_238 rfl ?_
  refine ms_icmp_eq (tgt := 245) dL_law_240 (by decide) (fun _ => ?_) (fun c => absurd rfl c)
  refine ms_iload dL_law_245 rfl ?_
  refine mi_if_ne (tgt := 262) dL_law_247 (by decide) (fun c_247 => ?_) (fun c_247 => ?_)
  · refine ms_goto (tgt := 1281) dL_law_262 (by decide) ?_
    exact hJ _ _ _ _ _ hrl
  · refine ms_aload_n dL_law_250 rfl ?_
    refine mi_iconst dL_law_251 ?_
    refine ms_lald dL_law_252 (by first | rfl | assumption) ?_
    refine ms_iload dL_law_253 rfl ?_
    refine ms_i2l dL_law_255 ?_
    rw [show L1 81 (Int.toNat 0) = (iI z).toInt64 from hL c_247]
    refine ms_lcmp dL_law_256 ?_
    refine ms_if_eq (tgt := 262) dL_law_257 (by decide) (fun _ => ?_) (fun c => absurd ((lg_cmp_eq _ _).mpr rfl) c)
    refine ms_goto (tgt := 1281) dL_law_262 (by decide) ?_
    exact hJ _ _ _ _ _ hrl
set_option maxHeartbeats 1000000 in
set_option maxRecDepth 100000 in
theorem lw_fault {S : mx_Sc} {M : Nat → Int → Int} {L : Nat → Nat → Int64} {Rf : Nat → Nat → Option Nat} {it i : Int} {kk : Nat} {o5 o6 : Option Value} (hi0 : 0 ≤ i) (hi6 : i + 6 ≤ S.1) (hit : it ≤ 1000000) (h : rlA M Rf it) (hJ : ∀ (N : Nat → Int → Int) (L2 : Nat → Nat → Int64) (Rf2 : Nat → Nat → Option Nat) (p5 p6 : Option Value), rlA N Rf2 (it + 1) → mx_E S mL_law 1281 [some (.ref 1000), some (.ref 0), some (.ref 48), some (.ref 81), some (.int (iI i)), p5, p6] [] (false, mx_SH, N, L2, Rf2) kk (6 * kk) lwP (fun _ _ => False)) : mx_E S mL_law 265 [some (.ref 1000), some (.ref 0), some (.ref 48), some (.ref 81), some (.int (iI i)), o5, o6] [] (false, mx_SH, M, L, Rf) (kk + 1) (6 * kk + 6) lwP (fun _ _ => False) := by
  have hc : lcA0 S mX6_fault mX7_fault [] true M L Rf it := by
    obtain ⟨t, b, h | h⟩ := h
    · exact (lc_fault h).a
    · exact lz_fault h
  obtain ⟨Pk, hC, hPk⟩ := hc
  refine ms_room (bc2 := kk) (bs2 := 6 * kk) (by omega) (by omega) ?_
  refine ms_aload_n dL_law_265 rfl ?_
  refine ms_callV0 (ci := 6) (r := (RX6, TX6, 15)) dL_law_266 cv_L_law_X6_fault (hC) rfl rfl (by first | rfl | assumption) (Nat.le_of_ble_eq_true rfl) rfl (fun _ _ z => z.elim) (fun v9 h9 hp9 => ?_)
  obtain ⟨N1, Rf1, rfl, hR1, hv1, hv2, Pm, hCm, hPm⟩ := hPk v9 h9 hp9
  obtain ⟨y, rfl⟩ := hv1 rfl
  refine ms_aload_n dL_law_269 rfl ?_
  refine ms_callV0 (ci := 7) (r := (RX7, TX7, 48)) dL_law_270 cv_L_law_X7_fault (hCm) rfl rfl (by first | rfl | assumption) (Nat.le_of_ble_eq_true rfl) rfl (fun _ _ z => z.elim) (fun v9 h9 hp9 => ?_)
  obtain ⟨N2, rfl, rfl, hrl⟩ := hPm v9 h9 hp9
  refine ms_icmp_eq (tgt := 1281) dL_law_273 (by decide) (fun _ => ?_) (fun c => absurd rfl c)
  exact hJ _ _ _ _ _ hrl
set_option maxHeartbeats 1000000 in
set_option maxRecDepth 100000 in
theorem lw_count {S : mx_Sc} {M : Nat → Int → Int} {L : Nat → Nat → Int64} {Rf : Nat → Nat → Option Nat} {it i : Int} {kk : Nat} {o5 o6 : Option Value} (hi0 : 0 ≤ i) (hi6 : i + 6 ≤ S.1) (hit : it ≤ 1000000) (h : rlA M Rf it) (hJ : ∀ (N : Nat → Int → Int) (L2 : Nat → Nat → Int64) (Rf2 : Nat → Nat → Option Nat) (p5 p6 : Option Value), rlA N Rf2 (it + 1) → mx_E S mL_law 1281 [some (.ref 1000), some (.ref 0), some (.ref 48), some (.ref 81), some (.int (iI i)), p5, p6] [] (false, mx_SH, N, L2, Rf2) kk (6 * kk) lwP (fun _ _ => False)) : mx_E S mL_law 278 [some (.ref 1000), some (.ref 0), some (.ref 48), some (.ref 81), some (.int (iI i)), o5, o6] [] (false, mx_SH, M, L, Rf) (kk + 1) (6 * kk + 6) lwP (fun _ _ => False) := by
  have hc : lcA S mL_count mX7_count [.int (iI (sv S (i + 1)))] M L Rf it := by
    obtain ⟨t, b, h | h⟩ := h
    · exact (lc_count h (sv_b S (i + 1))).a
    · exact lz_count h (sv_b S (i + 1))
  obtain ⟨bc1, bs1, Pk, hb, hC, hPk⟩ := hc
  refine ms_aload_n dL_law_278 rfl ?_
  refine ms_aload_n dL_law_279 rfl ?_
  refine ms_iload dL_law_280 rfl ?_
  refine mi_iconst dL_law_282 ?_
  refine mi_iadd dL_law_283 ?_
  refine ms_sl dL_law_284 ?_
  refine ms_aload_n dL_law_285 rfl ?_
  refine ms_room (bc2 := bc1 + kk) (bs2 := bs1 + 6 * kk) (by omega) (by omega) ?_
  refine ms_callSH (bc := kk) (bs := 6 * kk) (As := [.ref 0, .int (iI (sv S (i + 1))), .ref 81]) dL_law_286 cv_L_law_L_count (by decide) hC rfl rfl (Nat.le_of_ble_eq_true rfl) (fun v9 h9 hp9 => ?_)
  obtain ⟨N1, L1, Rf1, k, rfl, rfl, hk, hR1, Pm, hCm, hPm⟩ := hPk v9 h9 hp9
  refine ms_istore dL_law_289 (by decide) rfl ?_
  dsimp only [List.set, Nat.reduceAdd]
  refine ms_aload_n dL_law_291 rfl ?_
  refine ms_aload_n dL_law_292 rfl ?_
  refine ms_iload dL_law_293 rfl ?_
  refine mi_iconst dL_law_295 ?_
  refine mi_iadd dL_law_296 ?_
  refine ms_sl dL_law_297 ?_
  refine ms_callV1 (ci := 7) (r := (RX7, TX7, 48)) dL_law_298 cv_L_law_X7_count (hCm) rfl rfl (by first | rfl | assumption) (Nat.le_of_ble_eq_true rfl) rfl (fun _ _ z => z.elim) (fun v9 h9 hp9 => ?_)
  obtain ⟨N2, z, rfl, rfl, h4, hL, hrl⟩ := hPm v9 h9 hp9
  refine ms_istore dL_law_301 (by decide) rfl ?_
  dsimp only [List.set, Nat.reduceAdd]
  refine ms_aload_n dL_law_303 rfl ?_
  refine ms_callV0 (ci := 7) (r := (RX7, TX7, 48)) dL_law_304 cv_L_law_X7_thrown (k_X7_thrown hR1) rfl rfl (by first | rfl | assumption) (Nat.le_of_ble_eq_true rfl) rfl (fun _ _ z => z.elim) (fun v9 h9 hp9 => ?_)
  obtain ⟨rfl, rfl⟩ := hp9
  rw [h4]
  refine ms_iload dL_law_307 rfl ?_
  refine ms_icmp_eq (tgt := 314) dL_law_309 (by decide) (fun _ => ?_) (fun c => absurd rfl c)
  refine ms_iload dL_law_314 rfl ?_
  refine mi_if_ne (tgt := 331) dL_law_316 (by decide) (fun c_316 => ?_) (fun c_316 => ?_)
  · refine ms_goto (tgt := 1281) dL_law_331 (by decide) ?_
    exact hJ _ _ _ _ _ hrl
  · refine ms_aload_n dL_law_319 rfl ?_
    refine mi_iconst dL_law_320 ?_
    refine ms_lald dL_law_321 (by first | rfl | assumption) ?_
    refine ms_iload dL_law_322 rfl ?_
    refine ms_i2l dL_law_324 ?_
    rw [show L1 81 (Int.toNat 0) = (iI z).toInt64 from hL c_316]
    refine ms_lcmp dL_law_325 ?_
    refine ms_if_eq (tgt := 331) dL_law_326 (by decide) (fun _ => ?_) (fun c => absurd ((lg_cmp_eq _ _).mpr rfl) c)
    refine ms_goto (tgt := 1281) dL_law_331 (by decide) ?_
    exact hJ _ _ _ _ _ hrl
set_option maxHeartbeats 1000000 in
set_option maxRecDepth 100000 in
theorem lw_lamp {S : mx_Sc} {M : Nat → Int → Int} {L : Nat → Nat → Int64} {Rf : Nat → Nat → Option Nat} {it i : Int} {kk : Nat} {o5 o6 : Option Value} (hi0 : 0 ≤ i) (hi6 : i + 6 ≤ S.1) (hit : it ≤ 1000000) (h : rlA M Rf it) (hJ : ∀ (N : Nat → Int → Int) (L2 : Nat → Nat → Int64) (Rf2 : Nat → Nat → Option Nat) (p5 p6 : Option Value), rlA N Rf2 (it + 1) → mx_E S mL_law 1281 [some (.ref 1000), some (.ref 0), some (.ref 48), some (.ref 81), some (.int (iI i)), p5, p6] [] (false, mx_SH, N, L2, Rf2) kk (6 * kk) lwP (fun _ _ => False)) : mx_E S mL_law 334 [some (.ref 1000), some (.ref 0), some (.ref 48), some (.ref 81), some (.int (iI i)), o5, o6] [] (false, mx_SH, M, L, Rf) (kk + 1) (6 * kk + 6) lwP (fun _ _ => False) := by
  have hc : lcA S mL_lamp mX7_lamp [.int (iI (sv S (i + 1))), .int (iI (sv S (i + 2)))] M L Rf it := by
    obtain ⟨t, b, h | h⟩ := h
    · exact (lc_lamp h (sv_b S (i + 1)) (sv_b S (i + 2))).a
    · exact lz_lamp h (sv_b S (i + 1)) (sv_b S (i + 2))
  obtain ⟨bc1, bs1, Pk, hb, hC, hPk⟩ := hc
  refine ms_aload_n dL_law_334 rfl ?_
  refine ms_aload_n dL_law_335 rfl ?_
  refine ms_iload dL_law_336 rfl ?_
  refine mi_iconst dL_law_338 ?_
  refine mi_iadd dL_law_339 ?_
  refine ms_sl dL_law_340 ?_
  refine ms_aload_n dL_law_341 rfl ?_
  refine ms_iload dL_law_342 rfl ?_
  refine mi_iconst dL_law_344 ?_
  refine mi_iadd dL_law_345 ?_
  refine ms_sl dL_law_346 ?_
  refine ms_aload_n dL_law_347 rfl ?_
  refine ms_room (bc2 := bc1 + kk) (bs2 := bs1 + 6 * kk) (by omega) (by omega) ?_
  refine ms_callSH (bc := kk) (bs := 6 * kk) (As := [.ref 0, .int (iI (sv S (i + 1))), .int (iI (sv S (i + 2))), .ref 81]) dL_law_348 cv_L_law_L_lamp (by decide) hC rfl rfl (Nat.le_of_ble_eq_true rfl) (fun v9 h9 hp9 => ?_)
  obtain ⟨N1, L1, Rf1, k, rfl, rfl, hk, hR1, Pm, hCm, hPm⟩ := hPk v9 h9 hp9
  refine ms_istore dL_law_351 (by decide) rfl ?_
  dsimp only [List.set, Nat.reduceAdd]
  refine ms_aload_n dL_law_353 rfl ?_
  refine ms_aload_n dL_law_354 rfl ?_
  refine ms_iload dL_law_355 rfl ?_
  refine mi_iconst dL_law_357 ?_
  refine mi_iadd dL_law_358 ?_
  refine ms_sl dL_law_359 ?_
  refine ms_aload_n dL_law_360 rfl ?_
  refine ms_iload dL_law_361 rfl ?_
  refine mi_iconst dL_law_363 ?_
  refine mi_iadd dL_law_364 ?_
  refine ms_sl dL_law_365 ?_
  refine ms_callV2 (ci := 7) (r := (RX7, TX7, 48)) dL_law_366 cv_L_law_X7_lamp (hCm) rfl rfl (by first | rfl | assumption) (Nat.le_of_ble_eq_true rfl) rfl (fun _ _ z => z.elim) (fun v9 h9 hp9 => ?_)
  obtain ⟨N2, z, rfl, rfl, h4, hL, hrl⟩ := hPm v9 h9 hp9
  refine ms_istore dL_law_369 (by decide) rfl ?_
  dsimp only [List.set, Nat.reduceAdd]
  refine ms_aload_n dL_law_371 rfl ?_
  refine ms_callV0 (ci := 7) (r := (RX7, TX7, 48)) dL_law_372 cv_L_law_X7_thrown (k_X7_thrown hR1) rfl rfl (by first | rfl | assumption) (Nat.le_of_ble_eq_true rfl) rfl (fun _ _ z => z.elim) (fun v9 h9 hp9 => ?_)
  obtain ⟨rfl, rfl⟩ := hp9
  rw [h4]
  refine ms_iload dL_law_375 rfl ?_
  refine ms_icmp_eq (tgt := 382) dL_law_377 (by decide) (fun _ => ?_) (fun c => absurd rfl c)
  refine ms_iload dL_law_382 rfl ?_
  refine mi_if_ne (tgt := 399) dL_law_384 (by decide) (fun c_384 => ?_) (fun c_384 => ?_)
  · refine ms_goto (tgt := 1281) dL_law_399 (by decide) ?_
    exact hJ _ _ _ _ _ hrl
  · refine ms_aload_n dL_law_387 rfl ?_
    refine mi_iconst dL_law_388 ?_
    refine ms_lald dL_law_389 (by first | rfl | assumption) ?_
    refine ms_iload dL_law_390 rfl ?_
    refine ms_i2l dL_law_392 ?_
    rw [show L1 81 (Int.toNat 0) = (iI z).toInt64 from hL c_384]
    refine ms_lcmp dL_law_393 ?_
    refine ms_if_eq (tgt := 399) dL_law_394 (by decide) (fun _ => ?_) (fun c => absurd ((lg_cmp_eq _ _).mpr rfl) c)
    refine ms_goto (tgt := 1281) dL_law_399 (by decide) ?_
    exact hJ _ _ _ _ _ hrl
set_option maxHeartbeats 1000000 in
set_option maxRecDepth 100000 in
theorem lw_far {S : mx_Sc} {M : Nat → Int → Int} {L : Nat → Nat → Int64} {Rf : Nat → Nat → Option Nat} {it i : Int} {kk : Nat} {o5 o6 : Option Value} (hi0 : 0 ≤ i) (hi6 : i + 6 ≤ S.1) (hit : it ≤ 1000000) (h : rlA M Rf it) (hJ : ∀ (N : Nat → Int → Int) (L2 : Nat → Nat → Int64) (Rf2 : Nat → Nat → Option Nat) (p5 p6 : Option Value), rlA N Rf2 (it + 1) → mx_E S mL_law 1281 [some (.ref 1000), some (.ref 0), some (.ref 48), some (.ref 81), some (.int (iI i)), p5, p6] [] (false, mx_SH, N, L2, Rf2) kk (6 * kk) lwP (fun _ _ => False)) : mx_E S mL_law 402 [some (.ref 1000), some (.ref 0), some (.ref 48), some (.ref 81), some (.int (iI i)), o5, o6] [] (false, mx_SH, M, L, Rf) (kk + 1) (6 * kk + 6) lwP (fun _ _ => False) := by
  have hc : lcA S mL_far mX7_far [.int (iI (sv S (i + 1))), .int (iI (sv S (i + 2)))] M L Rf it := by
    obtain ⟨t, b, h | h⟩ := h
    · exact (lc_far h (sv_b S (i + 1)) (sv_b S (i + 2))).a
    · exact lz_far h (sv_b S (i + 1)) (sv_b S (i + 2))
  obtain ⟨bc1, bs1, Pk, hb, hC, hPk⟩ := hc
  refine ms_aload_n dL_law_402 rfl ?_
  refine ms_aload_n dL_law_403 rfl ?_
  refine ms_iload dL_law_404 rfl ?_
  refine mi_iconst dL_law_406 ?_
  refine mi_iadd dL_law_407 ?_
  refine ms_sl dL_law_408 ?_
  refine ms_aload_n dL_law_409 rfl ?_
  refine ms_iload dL_law_410 rfl ?_
  refine mi_iconst dL_law_412 ?_
  refine mi_iadd dL_law_413 ?_
  refine ms_sl dL_law_414 ?_
  refine ms_aload_n dL_law_415 rfl ?_
  refine ms_room (bc2 := bc1 + kk) (bs2 := bs1 + 6 * kk) (by omega) (by omega) ?_
  refine ms_callSH (bc := kk) (bs := 6 * kk) (As := [.ref 0, .int (iI (sv S (i + 1))), .int (iI (sv S (i + 2))), .ref 81]) dL_law_416 cv_L_law_L_far (by decide) hC rfl rfl (Nat.le_of_ble_eq_true rfl) (fun v9 h9 hp9 => ?_)
  obtain ⟨N1, L1, Rf1, k, rfl, rfl, hk, hR1, Pm, hCm, hPm⟩ := hPk v9 h9 hp9
  refine ms_istore dL_law_419 (by decide) rfl ?_
  dsimp only [List.set, Nat.reduceAdd]
  refine ms_aload_n dL_law_421 rfl ?_
  refine ms_aload_n dL_law_422 rfl ?_
  refine ms_iload dL_law_423 rfl ?_
  refine mi_iconst dL_law_425 ?_
  refine mi_iadd dL_law_426 ?_
  refine ms_sl dL_law_427 ?_
  refine ms_aload_n dL_law_428 rfl ?_
  refine ms_iload dL_law_429 rfl ?_
  refine mi_iconst dL_law_431 ?_
  refine mi_iadd dL_law_432 ?_
  refine ms_sl dL_law_433 ?_
  refine ms_callV2 (ci := 7) (r := (RX7, TX7, 48)) dL_law_434 cv_L_law_X7_far (hCm) rfl rfl (by first | rfl | assumption) (Nat.le_of_ble_eq_true rfl) rfl (fun _ _ z => z.elim) (fun v9 h9 hp9 => ?_)
  obtain ⟨N2, z, rfl, rfl, h4, hL, hrl⟩ := hPm v9 h9 hp9
  refine ms_istore dL_law_437 (by decide) rfl ?_
  dsimp only [List.set, Nat.reduceAdd]
  refine ms_aload_n dL_law_439 rfl ?_
  refine ms_callV0 (ci := 7) (r := (RX7, TX7, 48)) dL_law_440 cv_L_law_X7_thrown (k_X7_thrown hR1) rfl rfl (by first | rfl | assumption) (Nat.le_of_ble_eq_true rfl) rfl (fun _ _ z => z.elim) (fun v9 h9 hp9 => ?_)
  obtain ⟨rfl, rfl⟩ := hp9
  rw [h4]
  refine ms_iload dL_law_443 rfl ?_
  refine ms_icmp_eq (tgt := 450) dL_law_445 (by decide) (fun _ => ?_) (fun c => absurd rfl c)
  refine ms_iload dL_law_450 rfl ?_
  refine mi_if_ne (tgt := 467) dL_law_452 (by decide) (fun c_452 => ?_) (fun c_452 => ?_)
  · refine ms_goto (tgt := 1281) dL_law_467 (by decide) ?_
    exact hJ _ _ _ _ _ hrl
  · refine ms_aload_n dL_law_455 rfl ?_
    refine mi_iconst dL_law_456 ?_
    refine ms_lald dL_law_457 (by first | rfl | assumption) ?_
    refine ms_iload dL_law_458 rfl ?_
    refine ms_i2l dL_law_460 ?_
    rw [show L1 81 (Int.toNat 0) = (iI z).toInt64 from hL c_452]
    refine ms_lcmp dL_law_461 ?_
    refine ms_if_eq (tgt := 467) dL_law_462 (by decide) (fun _ => ?_) (fun c => absurd ((lg_cmp_eq _ _).mpr rfl) c)
    refine ms_goto (tgt := 1281) dL_law_467 (by decide) ?_
    exact hJ _ _ _ _ _ hrl
set_option maxHeartbeats 1000000 in
set_option maxRecDepth 100000 in
theorem lw_nights {S : mx_Sc} {M : Nat → Int → Int} {L : Nat → Nat → Int64} {Rf : Nat → Nat → Option Nat} {it i : Int} {kk : Nat} {o5 o6 : Option Value} (hi0 : 0 ≤ i) (hi6 : i + 6 ≤ S.1) (hit : it ≤ 1000000) (h : rlA M Rf it) (hJ : ∀ (N : Nat → Int → Int) (L2 : Nat → Nat → Int64) (Rf2 : Nat → Nat → Option Nat) (p5 p6 : Option Value), rlA N Rf2 (it + 1) → mx_E S mL_law 1281 [some (.ref 1000), some (.ref 0), some (.ref 48), some (.ref 81), some (.int (iI i)), p5, p6] [] (false, mx_SH, N, L2, Rf2) kk (6 * kk) lwP (fun _ _ => False)) : mx_E S mL_law 470 [some (.ref 1000), some (.ref 0), some (.ref 48), some (.ref 81), some (.int (iI i)), o5, o6] [] (false, mx_SH, M, L, Rf) (kk + 1) (6 * kk + 6) lwP (fun _ _ => False) := by
  have hc : lcA S mL_nights mX7_nights [.int (iI (sv S (i + 1)))] M L Rf it := by
    obtain ⟨t, b, h | h⟩ := h
    · exact (lc_nights h (sv_b S (i + 1)) hit).a
    · exact lz_nights h (sv_b S (i + 1)) hit
  obtain ⟨bc1, bs1, Pk, hb, hC, hPk⟩ := hc
  refine ms_aload_n dL_law_470 rfl ?_
  refine ms_aload_n dL_law_471 rfl ?_
  refine ms_iload dL_law_472 rfl ?_
  refine mi_iconst dL_law_474 ?_
  refine mi_iadd dL_law_475 ?_
  refine ms_sl dL_law_476 ?_
  refine ms_aload_n dL_law_477 rfl ?_
  refine ms_room (bc2 := bc1 + kk) (bs2 := bs1 + 6 * kk) (by omega) (by omega) ?_
  refine ms_callSH (bc := kk) (bs := 6 * kk) (As := [.ref 0, .int (iI (sv S (i + 1))), .ref 81]) dL_law_478 cv_L_law_L_nights (by decide) hC rfl rfl (Nat.le_of_ble_eq_true rfl) (fun v9 h9 hp9 => ?_)
  obtain ⟨N1, L1, Rf1, k, rfl, rfl, hk, hR1, Pm, hCm, hPm⟩ := hPk v9 h9 hp9
  refine ms_istore dL_law_481 (by decide) rfl ?_
  dsimp only [List.set, Nat.reduceAdd]
  refine ms_aload_n dL_law_483 rfl ?_
  refine ms_aload_n dL_law_484 rfl ?_
  refine ms_iload dL_law_485 rfl ?_
  refine mi_iconst dL_law_487 ?_
  refine mi_iadd dL_law_488 ?_
  refine ms_sl dL_law_489 ?_
  refine ms_callV1 (ci := 7) (r := (RX7, TX7, 48)) dL_law_490 cv_L_law_X7_nights (hCm) rfl rfl (by first | rfl | assumption) (Nat.le_of_ble_eq_true rfl) rfl (fun _ _ z => z.elim) (fun v9 h9 hp9 => ?_)
  obtain ⟨N2, z, rfl, rfl, h4, hL, hrl⟩ := hPm v9 h9 hp9
  refine ms_istore dL_law_493 (by decide) rfl ?_
  dsimp only [List.set, Nat.reduceAdd]
  refine ms_aload_n dL_law_495 rfl ?_
  refine ms_callV0 (ci := 7) (r := (RX7, TX7, 48)) dL_law_496 cv_L_law_X7_thrown (k_X7_thrown hR1) rfl rfl (by first | rfl | assumption) (Nat.le_of_ble_eq_true rfl) rfl (fun _ _ z => z.elim) (fun v9 h9 hp9 => ?_)
  obtain ⟨rfl, rfl⟩ := hp9
  rw [h4]
  refine ms_iload dL_law_499 rfl ?_
  refine ms_icmp_eq (tgt := 506) dL_law_501 (by decide) (fun _ => ?_) (fun c => absurd rfl c)
  refine ms_iload dL_law_506 rfl ?_
  refine mi_if_ne (tgt := 523) dL_law_508 (by decide) (fun c_508 => ?_) (fun c_508 => ?_)
  · refine ms_goto (tgt := 1281) dL_law_523 (by decide) ?_
    exact hJ _ _ _ _ _ hrl
  · refine ms_aload_n dL_law_511 rfl ?_
    refine mi_iconst dL_law_512 ?_
    refine ms_lald dL_law_513 (by first | rfl | assumption) ?_
    refine ms_iload dL_law_514 rfl ?_
    refine ms_i2l dL_law_516 ?_
    rw [show L1 81 (Int.toNat 0) = (iI z).toInt64 from hL c_508]
    refine ms_lcmp dL_law_517 ?_
    refine ms_if_eq (tgt := 523) dL_law_518 (by decide) (fun _ => ?_) (fun c => absurd ((lg_cmp_eq _ _).mpr rfl) c)
    refine ms_goto (tgt := 1281) dL_law_523 (by decide) ?_
    exact hJ _ _ _ _ _ hrl
set_option maxHeartbeats 1000000 in
set_option maxRecDepth 100000 in
theorem lw_undo {S : mx_Sc} {M : Nat → Int → Int} {L : Nat → Nat → Int64} {Rf : Nat → Nat → Option Nat} {it i : Int} {kk : Nat} {o5 o6 : Option Value} (hi0 : 0 ≤ i) (hi6 : i + 6 ≤ S.1) (hit : it ≤ 1000000) (h : rlA M Rf it) (hJ : ∀ (N : Nat → Int → Int) (L2 : Nat → Nat → Int64) (Rf2 : Nat → Nat → Option Nat) (p5 p6 : Option Value), rlA N Rf2 (it + 1) → mx_E S mL_law 1281 [some (.ref 1000), some (.ref 0), some (.ref 48), some (.ref 81), some (.int (iI i)), p5, p6] [] (false, mx_SH, N, L2, Rf2) kk (6 * kk) lwP (fun _ _ => False)) : mx_E S mL_law 526 [some (.ref 1000), some (.ref 0), some (.ref 48), some (.ref 81), some (.int (iI i)), o5, o6] [] (false, mx_SH, M, L, Rf) (kk + 1) (6 * kk + 6) lwP (fun _ _ => False) := by
  have hc : lcA S mL_undo mX7_undo [.int (iI (sv S (i + 1)))] M L Rf it := by
    obtain ⟨t, b, h | h⟩ := h
    · exact (lc_undo h (sv_b S (i + 1))).a
    · exact lz_undo h (sv_b S (i + 1))
  obtain ⟨bc1, bs1, Pk, hb, hC, hPk⟩ := hc
  refine ms_aload_n dL_law_526 rfl ?_
  refine ms_aload_n dL_law_527 rfl ?_
  refine ms_iload dL_law_528 rfl ?_
  refine mi_iconst dL_law_530 ?_
  refine mi_iadd dL_law_531 ?_
  refine ms_sl dL_law_532 ?_
  refine ms_aload_n dL_law_533 rfl ?_
  refine ms_room (bc2 := bc1 + kk) (bs2 := bs1 + 6 * kk) (by omega) (by omega) ?_
  refine ms_callSH (bc := kk) (bs := 6 * kk) (As := [.ref 0, .int (iI (sv S (i + 1))), .ref 81]) dL_law_534 cv_L_law_L_undo (by decide) hC rfl rfl (Nat.le_of_ble_eq_true rfl) (fun v9 h9 hp9 => ?_)
  obtain ⟨N1, L1, Rf1, k, rfl, rfl, hk, hR1, Pm, hCm, hPm⟩ := hPk v9 h9 hp9
  refine ms_istore dL_law_537 (by decide) rfl ?_
  dsimp only [List.set, Nat.reduceAdd]
  refine ms_aload_n dL_law_539 rfl ?_
  refine ms_aload_n dL_law_540 rfl ?_
  refine ms_iload dL_law_541 rfl ?_
  refine mi_iconst dL_law_543 ?_
  refine mi_iadd dL_law_544 ?_
  refine ms_sl dL_law_545 ?_
  refine ms_callV1 (ci := 7) (r := (RX7, TX7, 48)) dL_law_546 cv_L_law_X7_undo (hCm) rfl rfl (by first | rfl | assumption) (Nat.le_of_ble_eq_true rfl) rfl (fun _ _ z => z.elim) (fun v9 h9 hp9 => ?_)
  obtain ⟨N2, z, rfl, rfl, h4, hL, hrl⟩ := hPm v9 h9 hp9
  refine ms_istore dL_law_549 (by decide) rfl ?_
  dsimp only [List.set, Nat.reduceAdd]
  refine ms_aload_n dL_law_551 rfl ?_
  refine ms_callV0 (ci := 7) (r := (RX7, TX7, 48)) dL_law_552 cv_L_law_X7_thrown (k_X7_thrown hR1) rfl rfl (by first | rfl | assumption) (Nat.le_of_ble_eq_true rfl) rfl (fun _ _ z => z.elim) (fun v9 h9 hp9 => ?_)
  obtain ⟨rfl, rfl⟩ := hp9
  rw [h4]
  refine ms_iload dL_law_555 rfl ?_
  refine ms_icmp_eq (tgt := 562) dL_law_557 (by decide) (fun _ => ?_) (fun c => absurd rfl c)
  refine ms_iload dL_law_562 rfl ?_
  refine mi_if_ne (tgt := 579) dL_law_564 (by decide) (fun c_564 => ?_) (fun c_564 => ?_)
  · refine ms_goto (tgt := 1281) dL_law_579 (by decide) ?_
    exact hJ _ _ _ _ _ hrl
  · refine ms_aload_n dL_law_567 rfl ?_
    refine mi_iconst dL_law_568 ?_
    refine ms_lald dL_law_569 (by first | rfl | assumption) ?_
    refine ms_iload dL_law_570 rfl ?_
    refine ms_i2l dL_law_572 ?_
    rw [show L1 81 (Int.toNat 0) = (iI z).toInt64 from hL c_564]
    refine ms_lcmp dL_law_573 ?_
    refine ms_if_eq (tgt := 579) dL_law_574 (by decide) (fun _ => ?_) (fun c => absurd ((lg_cmp_eq _ _).mpr rfl) c)
    refine ms_goto (tgt := 1281) dL_law_579 (by decide) ?_
    exact hJ _ _ _ _ _ hrl
set_option maxHeartbeats 1000000 in
set_option maxRecDepth 100000 in
theorem lw_book {S : mx_Sc} {M : Nat → Int → Int} {L : Nat → Nat → Int64} {Rf : Nat → Nat → Option Nat} {it i : Int} {kk : Nat} {o5 o6 : Option Value} (hi0 : 0 ≤ i) (hi6 : i + 6 ≤ S.1) (hit : it ≤ 1000000) (h : rlA M Rf it) (hJ : ∀ (N : Nat → Int → Int) (L2 : Nat → Nat → Int64) (Rf2 : Nat → Nat → Option Nat) (p5 p6 : Option Value), rlA N Rf2 (it + 1) → mx_E S mL_law 1281 [some (.ref 1000), some (.ref 0), some (.ref 48), some (.ref 81), some (.int (iI i)), p5, p6] [] (false, mx_SH, N, L2, Rf2) kk (6 * kk) lwP (fun _ _ => False)) : mx_E S mL_law 582 [some (.ref 1000), some (.ref 0), some (.ref 48), some (.ref 81), some (.int (iI i)), o5, o6] [] (false, mx_SH, M, L, Rf) (kk + 1) (6 * kk + 6) lwP (fun _ _ => False) := by
  have hc : lcA S mL_book mX7_book [.int (iI (sv S (i + 1))), .int (iI (sv S (i + 2))), .int (iI (sv S (i + 3)))] M L Rf it := by
    obtain ⟨t, b, h | h⟩ := h
    · exact (lc_book h (sv_b S (i + 1)) (sv_b S (i + 2)) (sv_b S (i + 3))).a
    · exact lz_book h (sv_b S (i + 1)) (sv_b S (i + 2)) (sv_b S (i + 3))
  obtain ⟨bc1, bs1, Pk, hb, hC, hPk⟩ := hc
  refine ms_aload_n dL_law_582 rfl ?_
  refine ms_aload_n dL_law_583 rfl ?_
  refine ms_iload dL_law_584 rfl ?_
  refine mi_iconst dL_law_586 ?_
  refine mi_iadd dL_law_587 ?_
  refine ms_sl dL_law_588 ?_
  refine ms_aload_n dL_law_589 rfl ?_
  refine ms_iload dL_law_590 rfl ?_
  refine mi_iconst dL_law_592 ?_
  refine mi_iadd dL_law_593 ?_
  refine ms_sl dL_law_594 ?_
  refine ms_aload_n dL_law_595 rfl ?_
  refine ms_iload dL_law_596 rfl ?_
  refine mi_iconst dL_law_598 ?_
  refine mi_iadd dL_law_599 ?_
  refine ms_sl dL_law_600 ?_
  refine ms_aload_n dL_law_601 rfl ?_
  refine ms_room (bc2 := bc1 + kk) (bs2 := bs1 + 6 * kk) (by omega) (by omega) ?_
  refine ms_callSH (bc := kk) (bs := 6 * kk) (As := [.ref 0, .int (iI (sv S (i + 1))), .int (iI (sv S (i + 2))), .int (iI (sv S (i + 3))), .ref 81]) dL_law_602 cv_L_law_L_book (by decide) hC rfl rfl (Nat.le_of_ble_eq_true rfl) (fun v9 h9 hp9 => ?_)
  obtain ⟨N1, L1, Rf1, k, rfl, rfl, hk, hR1, Pm, hCm, hPm⟩ := hPk v9 h9 hp9
  refine ms_istore dL_law_605 (by decide) rfl ?_
  dsimp only [List.set, Nat.reduceAdd]
  refine ms_aload_n dL_law_607 rfl ?_
  refine ms_aload_n dL_law_608 rfl ?_
  refine ms_iload dL_law_609 rfl ?_
  refine mi_iconst dL_law_611 ?_
  refine mi_iadd dL_law_612 ?_
  refine ms_sl dL_law_613 ?_
  refine ms_aload_n dL_law_614 rfl ?_
  refine ms_iload dL_law_615 rfl ?_
  refine mi_iconst dL_law_617 ?_
  refine mi_iadd dL_law_618 ?_
  refine ms_sl dL_law_619 ?_
  refine ms_aload_n dL_law_620 rfl ?_
  refine ms_iload dL_law_621 rfl ?_
  refine mi_iconst dL_law_623 ?_
  refine mi_iadd dL_law_624 ?_
  refine ms_sl dL_law_625 ?_
  refine ms_callV3 (ci := 7) (r := (RX7, TX7, 48)) dL_law_626 cv_L_law_X7_book (hCm) rfl rfl (by first | rfl | assumption) (Nat.le_of_ble_eq_true rfl) rfl (fun _ _ z => z.elim) (fun v9 h9 hp9 => ?_)
  obtain ⟨N2, z, rfl, rfl, h4, hL, hrl⟩ := hPm v9 h9 hp9
  refine ms_istore dL_law_629 (by decide) rfl ?_
  dsimp only [List.set, Nat.reduceAdd]
  refine ms_aload_n dL_law_631 rfl ?_
  refine ms_callV0 (ci := 7) (r := (RX7, TX7, 48)) dL_law_632 cv_L_law_X7_thrown (k_X7_thrown hR1) rfl rfl (by first | rfl | assumption) (Nat.le_of_ble_eq_true rfl) rfl (fun _ _ z => z.elim) (fun v9 h9 hp9 => ?_)
  obtain ⟨rfl, rfl⟩ := hp9
  rw [h4]
  refine ms_iload dL_law_635 rfl ?_
  refine ms_icmp_eq (tgt := 642) dL_law_637 (by decide) (fun _ => ?_) (fun c => absurd rfl c)
  refine ms_iload dL_law_642 rfl ?_
  refine mi_if_ne (tgt := 659) dL_law_644 (by decide) (fun c_644 => ?_) (fun c_644 => ?_)
  · refine ms_goto (tgt := 1281) dL_law_659 (by decide) ?_
    exact hJ _ _ _ _ _ hrl
  · refine ms_aload_n dL_law_647 rfl ?_
    refine mi_iconst dL_law_648 ?_
    refine ms_lald dL_law_649 (by first | rfl | assumption) ?_
    refine ms_iload dL_law_650 rfl ?_
    refine ms_i2l dL_law_652 ?_
    rw [show L1 81 (Int.toNat 0) = (iI z).toInt64 from hL c_644]
    refine ms_lcmp dL_law_653 ?_
    refine ms_if_eq (tgt := 659) dL_law_654 (by decide) (fun _ => ?_) (fun c => absurd ((lg_cmp_eq _ _).mpr rfl) c)
    refine ms_goto (tgt := 1281) dL_law_659 (by decide) ?_
    exact hJ _ _ _ _ _ hrl
set_option maxHeartbeats 1000000 in
set_option maxRecDepth 100000 in
theorem lw_drop {S : mx_Sc} {M : Nat → Int → Int} {L : Nat → Nat → Int64} {Rf : Nat → Nat → Option Nat} {it i : Int} {kk : Nat} {o5 o6 : Option Value} (hi0 : 0 ≤ i) (hi6 : i + 6 ≤ S.1) (hit : it ≤ 1000000) (h : rlA M Rf it) (hJ : ∀ (N : Nat → Int → Int) (L2 : Nat → Nat → Int64) (Rf2 : Nat → Nat → Option Nat) (p5 p6 : Option Value), rlA N Rf2 (it + 1) → mx_E S mL_law 1281 [some (.ref 1000), some (.ref 0), some (.ref 48), some (.ref 81), some (.int (iI i)), p5, p6] [] (false, mx_SH, N, L2, Rf2) kk (6 * kk) lwP (fun _ _ => False)) : mx_E S mL_law 662 [some (.ref 1000), some (.ref 0), some (.ref 48), some (.ref 81), some (.int (iI i)), o5, o6] [] (false, mx_SH, M, L, Rf) (kk + 1) (6 * kk + 6) lwP (fun _ _ => False) := by
  have hc : lcAD S mL_drop mX7_drop [.int (iI (sv S (i + 1))), .int (iI (sv S (i + 2))), .int (iI (sv S (i + 3)))] M L Rf it := by
    obtain ⟨t, b, h | h⟩ := h
    · exact (lc_drop h (sv_b S (i + 1)) (sv_b S (i + 2)) (sv_b S (i + 3)) hit).a
    · exact lz_drop h (sv_b S (i + 1)) (sv_b S (i + 2)) (sv_b S (i + 3))
  obtain ⟨bc1, bs1, Pk, hb, hC, hPk⟩ := hc
  refine ms_aload_n dL_law_662 rfl ?_
  refine ms_aload_n dL_law_663 rfl ?_
  refine ms_iload dL_law_664 rfl ?_
  refine mi_iconst dL_law_666 ?_
  refine mi_iadd dL_law_667 ?_
  refine ms_sl dL_law_668 ?_
  refine ms_aload_n dL_law_669 rfl ?_
  refine ms_iload dL_law_670 rfl ?_
  refine mi_iconst dL_law_672 ?_
  refine mi_iadd dL_law_673 ?_
  refine ms_sl dL_law_674 ?_
  refine ms_aload_n dL_law_675 rfl ?_
  refine ms_iload dL_law_676 rfl ?_
  refine mi_iconst dL_law_678 ?_
  refine mi_iadd dL_law_679 ?_
  refine ms_sl dL_law_680 ?_
  refine ms_aload_n dL_law_681 rfl ?_
  refine ms_room (bc2 := bc1 + kk) (bs2 := bs1 + 6 * kk) (by omega) (by omega) ?_
  refine ms_callSH (bc := kk) (bs := 6 * kk) (As := [.ref 0, .int (iI (sv S (i + 1))), .int (iI (sv S (i + 2))), .int (iI (sv S (i + 3))), .ref 81]) dL_law_682 cv_L_law_L_drop (by decide) hC rfl rfl (Nat.le_of_ble_eq_true rfl) (fun v9 h9 hp9 => ?_)
  obtain ⟨N1, L1, Rf1, k, rfl, rfl, hk, hR1, Pm, hCm, hPm⟩ := hPk v9 h9 hp9
  refine ms_istore dL_law_685 (by decide) rfl ?_
  dsimp only [List.set, Nat.reduceAdd]
  refine ms_aload_n dL_law_687 rfl ?_
  refine ms_aload_n dL_law_688 rfl ?_
  refine ms_iload dL_law_689 rfl ?_
  refine mi_iconst dL_law_691 ?_
  refine mi_iadd dL_law_692 ?_
  refine ms_sl dL_law_693 ?_
  refine ms_aload_n dL_law_694 rfl ?_
  refine ms_iload dL_law_695 rfl ?_
  refine mi_iconst dL_law_697 ?_
  refine mi_iadd dL_law_698 ?_
  refine ms_sl dL_law_699 ?_
  refine ms_aload_n dL_law_700 rfl ?_
  refine ms_iload dL_law_701 rfl ?_
  refine mi_iconst dL_law_703 ?_
  refine mi_iadd dL_law_704 ?_
  refine ms_sl dL_law_705 ?_
  refine ms_callV3 (ci := 7) (r := (RX7, TX7, 48)) dL_law_706 cv_L_law_X7_drop (hCm) rfl rfl (by first | rfl | assumption) (Nat.le_of_ble_eq_true rfl) rfl (fun _ _ z => z.elim) (fun v9 h9 hp9 => ?_)
  obtain ⟨N2, z, rfl, rfl, h4, hL, hrl⟩ := hPm v9 h9 hp9
  refine ms_istore dL_law_709 (by decide) rfl ?_
  dsimp only [List.set, Nat.reduceAdd]
  refine ms_aload_n dL_law_711 rfl ?_
  refine ms_callV0 (ci := 7) (r := (RX7, TX7, 48)) dL_law_712 cv_L_law_X7_thrown (k_X7_thrown hR1) rfl rfl (by first | rfl | assumption) (Nat.le_of_ble_eq_true rfl) rfl (fun _ _ z => z.elim) (fun v9 h9 hp9 => ?_)
  obtain ⟨rfl, rfl⟩ := hp9
  rw [h4]
  refine ms_iload dL_law_715 rfl ?_
  refine ms_icmp_eq (tgt := 722) dL_law_717 (by decide) (fun _ => ?_) (fun c => absurd rfl c)
  refine ms_iload dL_law_722 rfl ?_
  refine mi_if_ne (tgt := 746) dL_law_724 (by decide) (fun c_724 => ?_) (fun c_724 => ?_)
  · refine ms_goto (tgt := 1281) dL_law_746 (by decide) ?_
    exact hJ _ _ _ _ _ hrl
  · refine ms_aload_n dL_law_727 rfl ?_
    refine mi_iconst dL_law_728 ?_
    refine ms_lald dL_law_729 (by first | rfl | assumption) ?_
    refine ms_iload dL_law_730 rfl ?_
    refine mi_if_eqB (tgt := 739) dL_law_732 (by decide) (fun c_732 => ?_) (fun c_732 => ?_)
    · refine ms_lconst dL_law_739 rfl ?_
      rw [show L1 81 (Int.toNat 0) = if z = true then 1 else 0 from hL c_724]
      first | rw [if_pos c_732] | rw [if_neg (by rw [c_732]; decide)]
      refine ms_lcmp dL_law_740 ?_
      refine ms_if_eq (tgt := 746) dL_law_741 (by decide) (fun _ => ?_) (fun c => absurd ((lg_cmp_eq _ _).mpr rfl) c)
      refine ms_goto (tgt := 1281) dL_law_746 (by decide) ?_
      exact hJ _ _ _ _ _ hrl
    · refine ms_lconst dL_law_735 rfl ?_
      refine ms_goto (tgt := 740) dL_law_736 (by decide) ?_
      rw [show L1 81 (Int.toNat 0) = if z = true then 1 else 0 from hL c_724]
      first | rw [if_pos c_732] | rw [if_neg (by rw [c_732]; decide)]
      refine ms_lcmp dL_law_740 ?_
      refine ms_if_eq (tgt := 746) dL_law_741 (by decide) (fun _ => ?_) (fun c => absurd ((lg_cmp_eq _ _).mpr rfl) c)
      refine ms_goto (tgt := 1281) dL_law_746 (by decide) ?_
      exact hJ _ _ _ _ _ hrl
set_option maxHeartbeats 1000000 in
set_option maxRecDepth 100000 in
theorem lw_end {S : mx_Sc} {M : Nat → Int → Int} {L : Nat → Nat → Int64} {Rf : Nat → Nat → Option Nat} {it i : Int} {kk : Nat} {o5 o6 : Option Value} (hi0 : 0 ≤ i) (hi6 : i + 6 ≤ S.1) (hit : it ≤ 1000000) (h : rlA M Rf it) (hJ : ∀ (N : Nat → Int → Int) (L2 : Nat → Nat → Int64) (Rf2 : Nat → Nat → Option Nat) (p5 p6 : Option Value), rlA N Rf2 (it + 1) → mx_E S mL_law 1281 [some (.ref 1000), some (.ref 0), some (.ref 48), some (.ref 81), some (.int (iI i)), p5, p6] [] (false, mx_SH, N, L2, Rf2) kk (6 * kk) lwP (fun _ _ => False)) : mx_E S mL_law 749 [some (.ref 1000), some (.ref 0), some (.ref 48), some (.ref 81), some (.int (iI i)), o5, o6] [] (false, mx_SH, M, L, Rf) (kk + 1) (6 * kk + 6) lwP (fun _ _ => False) := by
  have hc : lcA S mL_end mX7_end [.int (iI (sv S (i + 1)))] M L Rf it := by
    obtain ⟨t, b, h | h⟩ := h
    · exact (lc_end h (sv_b S (i + 1))).a
    · exact lz_end h (sv_b S (i + 1))
  obtain ⟨bc1, bs1, Pk, hb, hC, hPk⟩ := hc
  refine ms_aload_n dL_law_749 rfl ?_
  refine ms_aload_n dL_law_750 rfl ?_
  refine ms_iload dL_law_751 rfl ?_
  refine mi_iconst dL_law_753 ?_
  refine mi_iadd dL_law_754 ?_
  refine ms_sl dL_law_755 ?_
  refine ms_aload_n dL_law_756 rfl ?_
  refine ms_room (bc2 := bc1 + kk) (bs2 := bs1 + 6 * kk) (by omega) (by omega) ?_
  refine ms_callSH (bc := kk) (bs := 6 * kk) (As := [.ref 0, .int (iI (sv S (i + 1))), .ref 81]) dL_law_757 cv_L_law_L_end (by decide) hC rfl rfl (Nat.le_of_ble_eq_true rfl) (fun v9 h9 hp9 => ?_)
  obtain ⟨N1, L1, Rf1, k, rfl, rfl, hk, hR1, Pm, hCm, hPm⟩ := hPk v9 h9 hp9
  refine ms_istore dL_law_760 (by decide) rfl ?_
  dsimp only [List.set, Nat.reduceAdd]
  refine ms_aload_n dL_law_762 rfl ?_
  refine ms_aload_n dL_law_763 rfl ?_
  refine ms_iload dL_law_764 rfl ?_
  refine mi_iconst dL_law_766 ?_
  refine mi_iadd dL_law_767 ?_
  refine ms_sl dL_law_768 ?_
  refine ms_callV1 (ci := 7) (r := (RX7, TX7, 48)) dL_law_769 cv_L_law_X7_end (hCm) rfl rfl (by first | rfl | assumption) (Nat.le_of_ble_eq_true rfl) rfl (fun _ _ z => z.elim) (fun v9 h9 hp9 => ?_)
  obtain ⟨N2, z, rfl, rfl, h4, hL, hrl⟩ := hPm v9 h9 hp9
  refine ms_istore dL_law_772 (by decide) rfl ?_
  dsimp only [List.set, Nat.reduceAdd]
  refine ms_aload_n dL_law_774 rfl ?_
  refine ms_callV0 (ci := 7) (r := (RX7, TX7, 48)) dL_law_775 cv_L_law_X7_thrown (k_X7_thrown hR1) rfl rfl (by first | rfl | assumption) (Nat.le_of_ble_eq_true rfl) rfl (fun _ _ z => z.elim) (fun v9 h9 hp9 => ?_)
  obtain ⟨rfl, rfl⟩ := hp9
  rw [h4]
  refine ms_iload dL_law_778 rfl ?_
  refine ms_icmp_eq (tgt := 785) dL_law_780 (by decide) (fun _ => ?_) (fun c => absurd rfl c)
  refine ms_iload dL_law_785 rfl ?_
  refine mi_if_ne (tgt := 802) dL_law_787 (by decide) (fun c_787 => ?_) (fun c_787 => ?_)
  · refine ms_goto (tgt := 1281) dL_law_802 (by decide) ?_
    exact hJ _ _ _ _ _ hrl
  · refine ms_aload_n dL_law_790 rfl ?_
    refine mi_iconst dL_law_791 ?_
    refine ms_lald dL_law_792 (by first | rfl | assumption) ?_
    refine ms_iload dL_law_793 rfl ?_
    refine ms_i2l dL_law_795 ?_
    rw [show L1 81 (Int.toNat 0) = (iI z).toInt64 from hL c_787]
    refine ms_lcmp dL_law_796 ?_
    refine ms_if_eq (tgt := 802) dL_law_797 (by decide) (fun _ => ?_) (fun c => absurd ((lg_cmp_eq _ _).mpr rfl) c)
    refine ms_goto (tgt := 1281) dL_law_802 (by decide) ?_
    exact hJ _ _ _ _ _ hrl
set_option maxHeartbeats 1000000 in
set_option maxRecDepth 100000 in
theorem lw_matches {S : mx_Sc} {M : Nat → Int → Int} {L : Nat → Nat → Int64} {Rf : Nat → Nat → Option Nat} {it i : Int} {kk : Nat} {o5 o6 : Option Value} (hi0 : 0 ≤ i) (hi6 : i + 6 ≤ S.1) (hit : it ≤ 1000000) (h : rlA M Rf it) (hJ : ∀ (N : Nat → Int → Int) (L2 : Nat → Nat → Int64) (Rf2 : Nat → Nat → Option Nat) (p5 p6 : Option Value), rlA N Rf2 (it + 1) → mx_E S mL_law 1281 [some (.ref 1000), some (.ref 0), some (.ref 48), some (.ref 81), some (.int (iI i)), p5, p6] [] (false, mx_SH, N, L2, Rf2) kk (6 * kk) lwP (fun _ _ => False)) : mx_E S mL_law 805 [some (.ref 1000), some (.ref 0), some (.ref 48), some (.ref 81), some (.int (iI i)), o5, o6] [] (false, mx_SH, M, L, Rf) (kk + 1) (6 * kk + 6) lwP (fun _ _ => False) := by
  have hc : lcA S mL_matches mX7_matches [.int (iI (sv S (i + 1)))] M L Rf it := by
    obtain ⟨t, b, h | h⟩ := h
    · exact (lc_matches h (sv_b S (i + 1))).a
    · exact lz_matches h (sv_b S (i + 1))
  obtain ⟨bc1, bs1, Pk, hb, hC, hPk⟩ := hc
  refine ms_aload_n dL_law_805 rfl ?_
  refine ms_aload_n dL_law_806 rfl ?_
  refine ms_iload dL_law_807 rfl ?_
  refine mi_iconst dL_law_809 ?_
  refine mi_iadd dL_law_810 ?_
  refine ms_sl dL_law_811 ?_
  refine ms_aload_n dL_law_812 rfl ?_
  refine ms_room (bc2 := bc1 + kk) (bs2 := bs1 + 6 * kk) (by omega) (by omega) ?_
  refine ms_callSH (bc := kk) (bs := 6 * kk) (As := [.ref 0, .int (iI (sv S (i + 1))), .ref 81]) dL_law_813 cv_L_law_L_matches (by decide) hC rfl rfl (Nat.le_of_ble_eq_true rfl) (fun v9 h9 hp9 => ?_)
  obtain ⟨N1, L1, Rf1, k, rfl, rfl, hk, hR1, Pm, hCm, hPm⟩ := hPk v9 h9 hp9
  refine ms_istore dL_law_816 (by decide) rfl ?_
  dsimp only [List.set, Nat.reduceAdd]
  refine ms_aload_n dL_law_818 rfl ?_
  refine ms_aload_n dL_law_819 rfl ?_
  refine ms_iload dL_law_820 rfl ?_
  refine mi_iconst dL_law_822 ?_
  refine mi_iadd dL_law_823 ?_
  refine ms_sl dL_law_824 ?_
  refine ms_callV1 (ci := 7) (r := (RX7, TX7, 48)) dL_law_825 cv_L_law_X7_matches (hCm) rfl rfl (by first | rfl | assumption) (Nat.le_of_ble_eq_true rfl) rfl (fun _ _ z => z.elim) (fun v9 h9 hp9 => ?_)
  obtain ⟨N2, z, rfl, rfl, h4, hL, hrl⟩ := hPm v9 h9 hp9
  refine ms_istore dL_law_828 (by decide) rfl ?_
  dsimp only [List.set, Nat.reduceAdd]
  refine ms_aload_n dL_law_830 rfl ?_
  refine ms_callV0 (ci := 7) (r := (RX7, TX7, 48)) dL_law_831 cv_L_law_X7_thrown (k_X7_thrown hR1) rfl rfl (by first | rfl | assumption) (Nat.le_of_ble_eq_true rfl) rfl (fun _ _ z => z.elim) (fun v9 h9 hp9 => ?_)
  obtain ⟨rfl, rfl⟩ := hp9
  rw [h4]
  refine ms_iload dL_law_834 rfl ?_
  refine ms_icmp_eq (tgt := 841) dL_law_836 (by decide) (fun _ => ?_) (fun c => absurd rfl c)
  refine ms_iload dL_law_841 rfl ?_
  refine mi_if_ne (tgt := 858) dL_law_843 (by decide) (fun c_843 => ?_) (fun c_843 => ?_)
  · refine ms_goto (tgt := 1281) dL_law_858 (by decide) ?_
    exact hJ _ _ _ _ _ hrl
  · refine ms_aload_n dL_law_846 rfl ?_
    refine mi_iconst dL_law_847 ?_
    refine ms_lald dL_law_848 (by first | rfl | assumption) ?_
    refine ms_iload dL_law_849 rfl ?_
    refine ms_i2l dL_law_851 ?_
    rw [show L1 81 (Int.toNat 0) = (iI z).toInt64 from hL c_843]
    refine ms_lcmp dL_law_852 ?_
    refine ms_if_eq (tgt := 858) dL_law_853 (by decide) (fun _ => ?_) (fun c => absurd ((lg_cmp_eq _ _).mpr rfl) c)
    refine ms_goto (tgt := 1281) dL_law_858 (by decide) ?_
    exact hJ _ _ _ _ _ hrl
set_option maxHeartbeats 1000000 in
set_option maxRecDepth 100000 in
theorem lw_mother {S : mx_Sc} {M : Nat → Int → Int} {L : Nat → Nat → Int64} {Rf : Nat → Nat → Option Nat} {it i : Int} {kk : Nat} {o5 o6 : Option Value} (hi0 : 0 ≤ i) (hi6 : i + 6 ≤ S.1) (hit : it ≤ 1000000) (h : rlA M Rf it) (hJ : ∀ (N : Nat → Int → Int) (L2 : Nat → Nat → Int64) (Rf2 : Nat → Nat → Option Nat) (p5 p6 : Option Value), rlA N Rf2 (it + 1) → mx_E S mL_law 1281 [some (.ref 1000), some (.ref 0), some (.ref 48), some (.ref 81), some (.int (iI i)), p5, p6] [] (false, mx_SH, N, L2, Rf2) kk (6 * kk) lwP (fun _ _ => False)) : mx_E S mL_law 861 [some (.ref 1000), some (.ref 0), some (.ref 48), some (.ref 81), some (.int (iI i)), o5, o6] [] (false, mx_SH, M, L, Rf) (kk + 1) (6 * kk + 6) lwP (fun _ _ => False) := by
  have hc : lcA S mL_mother mX7_mother [.int (iI (sv S (i + 1))), .int (iI (sv S (i + 2)))] M L Rf it := by
    obtain ⟨t, b, h | h⟩ := h
    · exact (lc_mother h (sv_b S (i + 1)) (sv_b S (i + 2))).a
    · exact lz_mother h (sv_b S (i + 1)) (sv_b S (i + 2))
  obtain ⟨bc1, bs1, Pk, hb, hC, hPk⟩ := hc
  refine ms_aload_n dL_law_861 rfl ?_
  refine ms_aload_n dL_law_862 rfl ?_
  refine ms_iload dL_law_863 rfl ?_
  refine mi_iconst dL_law_865 ?_
  refine mi_iadd dL_law_866 ?_
  refine ms_sl dL_law_867 ?_
  refine ms_aload_n dL_law_868 rfl ?_
  refine ms_iload dL_law_869 rfl ?_
  refine mi_iconst dL_law_871 ?_
  refine mi_iadd dL_law_872 ?_
  refine ms_sl dL_law_873 ?_
  refine ms_aload_n dL_law_874 rfl ?_
  refine ms_room (bc2 := bc1 + kk) (bs2 := bs1 + 6 * kk) (by omega) (by omega) ?_
  refine ms_callSH (bc := kk) (bs := 6 * kk) (As := [.ref 0, .int (iI (sv S (i + 1))), .int (iI (sv S (i + 2))), .ref 81]) dL_law_875 cv_L_law_L_mother (by decide) hC rfl rfl (Nat.le_of_ble_eq_true rfl) (fun v9 h9 hp9 => ?_)
  obtain ⟨N1, L1, Rf1, k, rfl, rfl, hk, hR1, Pm, hCm, hPm⟩ := hPk v9 h9 hp9
  refine ms_istore dL_law_878 (by decide) rfl ?_
  dsimp only [List.set, Nat.reduceAdd]
  refine ms_aload_n dL_law_880 rfl ?_
  refine ms_aload_n dL_law_881 rfl ?_
  refine ms_iload dL_law_882 rfl ?_
  refine mi_iconst dL_law_884 ?_
  refine mi_iadd dL_law_885 ?_
  refine ms_sl dL_law_886 ?_
  refine ms_aload_n dL_law_887 rfl ?_
  refine ms_iload dL_law_888 rfl ?_
  refine mi_iconst dL_law_890 ?_
  refine mi_iadd dL_law_891 ?_
  refine ms_sl dL_law_892 ?_
  refine ms_callV2 (ci := 7) (r := (RX7, TX7, 48)) dL_law_893 cv_L_law_X7_mother (hCm) rfl rfl (by first | rfl | assumption) (Nat.le_of_ble_eq_true rfl) rfl (fun _ _ z => z.elim) (fun v9 h9 hp9 => ?_)
  obtain ⟨N2, z, rfl, rfl, h4, hL, hrl⟩ := hPm v9 h9 hp9
  refine ms_istore dL_law_896 (by decide) rfl ?_
  dsimp only [List.set, Nat.reduceAdd]
  refine ms_aload_n dL_law_898 rfl ?_
  refine ms_callV0 (ci := 7) (r := (RX7, TX7, 48)) dL_law_899 cv_L_law_X7_thrown (k_X7_thrown hR1) rfl rfl (by first | rfl | assumption) (Nat.le_of_ble_eq_true rfl) rfl (fun _ _ z => z.elim) (fun v9 h9 hp9 => ?_)
  obtain ⟨rfl, rfl⟩ := hp9
  rw [h4]
  refine ms_iload dL_law_902 rfl ?_
  refine ms_icmp_eq (tgt := 909) dL_law_904 (by decide) (fun _ => ?_) (fun c => absurd rfl c)
  refine ms_iload dL_law_909 rfl ?_
  refine mi_if_ne (tgt := 926) dL_law_911 (by decide) (fun c_911 => ?_) (fun c_911 => ?_)
  · refine ms_goto (tgt := 1281) dL_law_926 (by decide) ?_
    exact hJ _ _ _ _ _ hrl
  · refine ms_aload_n dL_law_914 rfl ?_
    refine mi_iconst dL_law_915 ?_
    refine ms_lald dL_law_916 (by first | rfl | assumption) ?_
    refine ms_iload dL_law_917 rfl ?_
    refine ms_i2l dL_law_919 ?_
    rw [show L1 81 (Int.toNat 0) = (iI z).toInt64 from hL c_911]
    refine ms_lcmp dL_law_920 ?_
    refine ms_if_eq (tgt := 926) dL_law_921 (by decide) (fun _ => ?_) (fun c => absurd ((lg_cmp_eq _ _).mpr rfl) c)
    refine ms_goto (tgt := 1281) dL_law_926 (by decide) ?_
    exact hJ _ _ _ _ _ hrl
set_option maxHeartbeats 1000000 in
set_option maxRecDepth 100000 in
theorem lw_mothers {S : mx_Sc} {M : Nat → Int → Int} {L : Nat → Nat → Int64} {Rf : Nat → Nat → Option Nat} {it i : Int} {kk : Nat} {o5 o6 : Option Value} (hi0 : 0 ≤ i) (hi6 : i + 6 ≤ S.1) (hit : it ≤ 1000000) (h : rlA M Rf it) (hJ : ∀ (N : Nat → Int → Int) (L2 : Nat → Nat → Int64) (Rf2 : Nat → Nat → Option Nat) (p5 p6 : Option Value), rlA N Rf2 (it + 1) → mx_E S mL_law 1281 [some (.ref 1000), some (.ref 0), some (.ref 48), some (.ref 81), some (.int (iI i)), p5, p6] [] (false, mx_SH, N, L2, Rf2) kk (6 * kk) lwP (fun _ _ => False)) : mx_E S mL_law 929 [some (.ref 1000), some (.ref 0), some (.ref 48), some (.ref 81), some (.int (iI i)), o5, o6] [] (false, mx_SH, M, L, Rf) (kk + 1) (6 * kk + 6) lwP (fun _ _ => False) := by
  have hc : lcA S mL_mothers mX7_mothers [.int (iI (sv S (i + 1))), .int (iI (sv S (i + 2)))] M L Rf it := by
    obtain ⟨t, b, h | h⟩ := h
    · exact (lc_mothers h (sv_b S (i + 1)) (sv_b S (i + 2))).a
    · exact lz_mothers h (sv_b S (i + 1)) (sv_b S (i + 2))
  obtain ⟨bc1, bs1, Pk, hb, hC, hPk⟩ := hc
  refine ms_aload_n dL_law_929 rfl ?_
  refine ms_aload_n dL_law_930 rfl ?_
  refine ms_iload dL_law_931 rfl ?_
  refine mi_iconst dL_law_933 ?_
  refine mi_iadd dL_law_934 ?_
  refine ms_sl dL_law_935 ?_
  refine ms_aload_n dL_law_936 rfl ?_
  refine ms_iload dL_law_937 rfl ?_
  refine mi_iconst dL_law_939 ?_
  refine mi_iadd dL_law_940 ?_
  refine ms_sl dL_law_941 ?_
  refine ms_aload_n dL_law_942 rfl ?_
  refine ms_room (bc2 := bc1 + kk) (bs2 := bs1 + 6 * kk) (by omega) (by omega) ?_
  refine ms_callSH (bc := kk) (bs := 6 * kk) (As := [.ref 0, .int (iI (sv S (i + 1))), .int (iI (sv S (i + 2))), .ref 81]) dL_law_943 cv_L_law_L_mothers (by decide) hC rfl rfl (Nat.le_of_ble_eq_true rfl) (fun v9 h9 hp9 => ?_)
  obtain ⟨N1, L1, Rf1, k, rfl, rfl, hk, hR1, Pm, hCm, hPm⟩ := hPk v9 h9 hp9
  refine ms_istore dL_law_946 (by decide) rfl ?_
  dsimp only [List.set, Nat.reduceAdd]
  refine ms_aload_n dL_law_948 rfl ?_
  refine ms_aload_n dL_law_949 rfl ?_
  refine ms_iload dL_law_950 rfl ?_
  refine mi_iconst dL_law_952 ?_
  refine mi_iadd dL_law_953 ?_
  refine ms_sl dL_law_954 ?_
  refine ms_aload_n dL_law_955 rfl ?_
  refine ms_iload dL_law_956 rfl ?_
  refine mi_iconst dL_law_958 ?_
  refine mi_iadd dL_law_959 ?_
  refine ms_sl dL_law_960 ?_
  refine ms_callV2 (ci := 7) (r := (RX7, TX7, 48)) dL_law_961 cv_L_law_X7_mothers (hCm) rfl rfl (by first | rfl | assumption) (Nat.le_of_ble_eq_true rfl) rfl (fun _ _ z => z.elim) (fun v9 h9 hp9 => ?_)
  obtain ⟨N2, z, rfl, rfl, h4, hL, hrl⟩ := hPm v9 h9 hp9
  refine ms_istore dL_law_964 (by decide) rfl ?_
  dsimp only [List.set, Nat.reduceAdd]
  refine ms_aload_n dL_law_966 rfl ?_
  refine ms_callV0 (ci := 7) (r := (RX7, TX7, 48)) dL_law_967 cv_L_law_X7_thrown (k_X7_thrown hR1) rfl rfl (by first | rfl | assumption) (Nat.le_of_ble_eq_true rfl) rfl (fun _ _ z => z.elim) (fun v9 h9 hp9 => ?_)
  obtain ⟨rfl, rfl⟩ := hp9
  rw [h4]
  refine ms_iload dL_law_970 rfl ?_
  refine ms_icmp_eq (tgt := 977) dL_law_972 (by decide) (fun _ => ?_) (fun c => absurd rfl c)
  refine ms_iload dL_law_977 rfl ?_
  refine mi_if_ne (tgt := 994) dL_law_979 (by decide) (fun c_979 => ?_) (fun c_979 => ?_)
  · refine ms_goto (tgt := 1281) dL_law_994 (by decide) ?_
    exact hJ _ _ _ _ _ hrl
  · refine ms_aload_n dL_law_982 rfl ?_
    refine mi_iconst dL_law_983 ?_
    refine ms_lald dL_law_984 (by first | rfl | assumption) ?_
    refine ms_iload dL_law_985 rfl ?_
    refine ms_i2l dL_law_987 ?_
    rw [show L1 81 (Int.toNat 0) = (iI z).toInt64 from hL c_979]
    refine ms_lcmp dL_law_988 ?_
    refine ms_if_eq (tgt := 994) dL_law_989 (by decide) (fun _ => ?_) (fun c => absurd ((lg_cmp_eq _ _).mpr rfl) c)
    refine ms_goto (tgt := 1281) dL_law_994 (by decide) ?_
    exact hJ _ _ _ _ _ hrl
set_option maxHeartbeats 1000000 in
set_option maxRecDepth 100000 in
theorem lw_may {S : mx_Sc} {M : Nat → Int → Int} {L : Nat → Nat → Int64} {Rf : Nat → Nat → Option Nat} {it i : Int} {kk : Nat} {o5 o6 : Option Value} (hi0 : 0 ≤ i) (hi6 : i + 6 ≤ S.1) (hit : it ≤ 1000000) (h : rlA M Rf it) (hJ : ∀ (N : Nat → Int → Int) (L2 : Nat → Nat → Int64) (Rf2 : Nat → Nat → Option Nat) (p5 p6 : Option Value), rlA N Rf2 (it + 1) → mx_E S mL_law 1281 [some (.ref 1000), some (.ref 0), some (.ref 48), some (.ref 81), some (.int (iI i)), p5, p6] [] (false, mx_SH, N, L2, Rf2) kk (6 * kk) lwP (fun _ _ => False)) : mx_E S mL_law 997 [some (.ref 1000), some (.ref 0), some (.ref 48), some (.ref 81), some (.int (iI i)), o5, o6] [] (false, mx_SH, M, L, Rf) (kk + 1) (6 * kk + 6) lwP (fun _ _ => False) := by
  have hc : lcA S mL_may mX7_may [.int (iI (sv S (i + 1)))] M L Rf it := by
    obtain ⟨t, b, h | h⟩ := h
    · exact (lc_may h (sv_b S (i + 1))).a
    · exact lz_may h (sv_b S (i + 1))
  obtain ⟨bc1, bs1, Pk, hb, hC, hPk⟩ := hc
  refine ms_aload_n dL_law_997 rfl ?_
  refine ms_aload_n dL_law_998 rfl ?_
  refine ms_iload dL_law_999 rfl ?_
  refine mi_iconst dL_law_1001 ?_
  refine mi_iadd dL_law_1002 ?_
  refine ms_sl dL_law_1003 ?_
  refine ms_aload_n dL_law_1004 rfl ?_
  refine ms_room (bc2 := bc1 + kk) (bs2 := bs1 + 6 * kk) (by omega) (by omega) ?_
  refine ms_callSH (bc := kk) (bs := 6 * kk) (As := [.ref 0, .int (iI (sv S (i + 1))), .ref 81]) dL_law_1005 cv_L_law_L_may (by decide) hC rfl rfl (Nat.le_of_ble_eq_true rfl) (fun v9 h9 hp9 => ?_)
  obtain ⟨N1, L1, Rf1, k, rfl, rfl, hk, hR1, Pm, hCm, hPm⟩ := hPk v9 h9 hp9
  refine ms_istore dL_law_1008 (by decide) rfl ?_
  dsimp only [List.set, Nat.reduceAdd]
  refine ms_aload_n dL_law_1010 rfl ?_
  refine ms_aload_n dL_law_1011 rfl ?_
  refine ms_iload dL_law_1012 rfl ?_
  refine mi_iconst dL_law_1014 ?_
  refine mi_iadd dL_law_1015 ?_
  refine ms_sl dL_law_1016 ?_
  refine ms_callV1 (ci := 7) (r := (RX7, TX7, 48)) dL_law_1017 cv_L_law_X7_may (hCm) rfl rfl (by first | rfl | assumption) (Nat.le_of_ble_eq_true rfl) rfl (fun _ _ z => z.elim) (fun v9 h9 hp9 => ?_)
  obtain ⟨N2, z, rfl, rfl, h4, hL, hrl⟩ := hPm v9 h9 hp9
  refine ms_istore dL_law_1020 (by decide) rfl ?_
  dsimp only [List.set, Nat.reduceAdd]
  refine ms_aload_n dL_law_1022 rfl ?_
  refine ms_callV0 (ci := 7) (r := (RX7, TX7, 48)) dL_law_1023 cv_L_law_X7_thrown (k_X7_thrown hR1) rfl rfl (by first | rfl | assumption) (Nat.le_of_ble_eq_true rfl) rfl (fun _ _ z => z.elim) (fun v9 h9 hp9 => ?_)
  obtain ⟨rfl, rfl⟩ := hp9
  rw [h4]
  refine ms_iload dL_law_1026 rfl ?_
  refine ms_icmp_eq (tgt := 1033) dL_law_1028 (by decide) (fun _ => ?_) (fun c => absurd rfl c)
  refine ms_iload dL_law_1033 rfl ?_
  refine mi_if_ne (tgt := 1050) dL_law_1035 (by decide) (fun c_1035 => ?_) (fun c_1035 => ?_)
  · refine ms_goto (tgt := 1281) dL_law_1050 (by decide) ?_
    exact hJ _ _ _ _ _ hrl
  · refine ms_aload_n dL_law_1038 rfl ?_
    refine mi_iconst dL_law_1039 ?_
    refine ms_lald dL_law_1040 (by first | rfl | assumption) ?_
    refine ms_iload dL_law_1041 rfl ?_
    refine ms_i2l dL_law_1043 ?_
    rw [show L1 81 (Int.toNat 0) = (iI z).toInt64 from hL c_1035]
    refine ms_lcmp dL_law_1044 ?_
    refine ms_if_eq (tgt := 1050) dL_law_1045 (by decide) (fun _ => ?_) (fun c => absurd ((lg_cmp_eq _ _).mpr rfl) c)
    refine ms_goto (tgt := 1281) dL_law_1050 (by decide) ?_
    exact hJ _ _ _ _ _ hrl
set_option maxHeartbeats 1000000 in
set_option maxRecDepth 100000 in
theorem lw_tells {S : mx_Sc} {M : Nat → Int → Int} {L : Nat → Nat → Int64} {Rf : Nat → Nat → Option Nat} {it i : Int} {kk : Nat} {o5 o6 : Option Value} (hi0 : 0 ≤ i) (hi6 : i + 6 ≤ S.1) (hit : it ≤ 1000000) (h : rlA M Rf it) (hJ : ∀ (N : Nat → Int → Int) (L2 : Nat → Nat → Int64) (Rf2 : Nat → Nat → Option Nat) (p5 p6 : Option Value), rlA N Rf2 (it + 1) → mx_E S mL_law 1281 [some (.ref 1000), some (.ref 0), some (.ref 48), some (.ref 81), some (.int (iI i)), p5, p6] [] (false, mx_SH, N, L2, Rf2) kk (6 * kk) lwP (fun _ _ => False)) : mx_E S mL_law 1053 [some (.ref 1000), some (.ref 0), some (.ref 48), some (.ref 81), some (.int (iI i)), o5, o6] [] (false, mx_SH, M, L, Rf) (kk + 1) (6 * kk + 6) lwP (fun _ _ => False) := by
  have hc : lcA S mL_tells mX7_tells [.int (iI (sv S (i + 1))), .int (iI (sv S (i + 2)))] M L Rf it := by
    obtain ⟨t, b, h | h⟩ := h
    · exact (lc_tells h (sv_b S (i + 1)) (sv_b S (i + 2))).a
    · exact lz_tells h (sv_b S (i + 1)) (sv_b S (i + 2))
  obtain ⟨bc1, bs1, Pk, hb, hC, hPk⟩ := hc
  refine ms_aload_n dL_law_1053 rfl ?_
  refine ms_aload_n dL_law_1054 rfl ?_
  refine ms_iload dL_law_1055 rfl ?_
  refine mi_iconst dL_law_1057 ?_
  refine mi_iadd dL_law_1058 ?_
  refine ms_sl dL_law_1059 ?_
  refine ms_aload_n dL_law_1060 rfl ?_
  refine ms_iload dL_law_1061 rfl ?_
  refine mi_iconst dL_law_1063 ?_
  refine mi_iadd dL_law_1064 ?_
  refine ms_sl dL_law_1065 ?_
  refine ms_aload_n dL_law_1066 rfl ?_
  refine ms_room (bc2 := bc1 + kk) (bs2 := bs1 + 6 * kk) (by omega) (by omega) ?_
  refine ms_callSH (bc := kk) (bs := 6 * kk) (As := [.ref 0, .int (iI (sv S (i + 1))), .int (iI (sv S (i + 2))), .ref 81]) dL_law_1067 cv_L_law_L_tells (by decide) hC rfl rfl (Nat.le_of_ble_eq_true rfl) (fun v9 h9 hp9 => ?_)
  obtain ⟨N1, L1, Rf1, k, rfl, rfl, hk, hR1, Pm, hCm, hPm⟩ := hPk v9 h9 hp9
  refine ms_istore dL_law_1070 (by decide) rfl ?_
  dsimp only [List.set, Nat.reduceAdd]
  refine ms_aload_n dL_law_1072 rfl ?_
  refine ms_aload_n dL_law_1073 rfl ?_
  refine ms_iload dL_law_1074 rfl ?_
  refine mi_iconst dL_law_1076 ?_
  refine mi_iadd dL_law_1077 ?_
  refine ms_sl dL_law_1078 ?_
  refine ms_aload_n dL_law_1079 rfl ?_
  refine ms_iload dL_law_1080 rfl ?_
  refine mi_iconst dL_law_1082 ?_
  refine mi_iadd dL_law_1083 ?_
  refine ms_sl dL_law_1084 ?_
  refine ms_callV2 (ci := 7) (r := (RX7, TX7, 48)) dL_law_1085 cv_L_law_X7_tells (hCm) rfl rfl (by first | rfl | assumption) (Nat.le_of_ble_eq_true rfl) rfl (fun _ _ z => z.elim) (fun v9 h9 hp9 => ?_)
  obtain ⟨N2, z, rfl, rfl, h4, hL, hrl⟩ := hPm v9 h9 hp9
  refine ms_istore dL_law_1088 (by decide) rfl ?_
  dsimp only [List.set, Nat.reduceAdd]
  refine ms_aload_n dL_law_1090 rfl ?_
  refine ms_callV0 (ci := 7) (r := (RX7, TX7, 48)) dL_law_1091 cv_L_law_X7_thrown (k_X7_thrown hR1) rfl rfl (by first | rfl | assumption) (Nat.le_of_ble_eq_true rfl) rfl (fun _ _ z => z.elim) (fun v9 h9 hp9 => ?_)
  obtain ⟨rfl, rfl⟩ := hp9
  rw [h4]
  refine ms_iload dL_law_1094 rfl ?_
  refine ms_icmp_eq (tgt := 1101) dL_law_1096 (by decide) (fun _ => ?_) (fun c => absurd rfl c)
  refine ms_iload dL_law_1101 rfl ?_
  refine mi_if_ne (tgt := 1118) dL_law_1103 (by decide) (fun c_1103 => ?_) (fun c_1103 => ?_)
  · refine ms_goto (tgt := 1281) dL_law_1118 (by decide) ?_
    exact hJ _ _ _ _ _ hrl
  · refine ms_aload_n dL_law_1106 rfl ?_
    refine mi_iconst dL_law_1107 ?_
    refine ms_lald dL_law_1108 (by first | rfl | assumption) ?_
    refine ms_iload dL_law_1109 rfl ?_
    refine ms_i2l dL_law_1111 ?_
    rw [show L1 81 (Int.toNat 0) = (iI z).toInt64 from hL c_1103]
    refine ms_lcmp dL_law_1112 ?_
    refine ms_if_eq (tgt := 1118) dL_law_1113 (by decide) (fun _ => ?_) (fun c => absurd ((lg_cmp_eq _ _).mpr rfl) c)
    refine ms_goto (tgt := 1281) dL_law_1118 (by decide) ?_
    exact hJ _ _ _ _ _ hrl
set_option maxHeartbeats 1000000 in
set_option maxRecDepth 100000 in
theorem lw_near {S : mx_Sc} {M : Nat → Int → Int} {L : Nat → Nat → Int64} {Rf : Nat → Nat → Option Nat} {it i : Int} {kk : Nat} {o5 o6 : Option Value} (hi0 : 0 ≤ i) (hi6 : i + 6 ≤ S.1) (hit : it ≤ 1000000) (h : rlA M Rf it) (hJ : ∀ (N : Nat → Int → Int) (L2 : Nat → Nat → Int64) (Rf2 : Nat → Nat → Option Nat) (p5 p6 : Option Value), rlA N Rf2 (it + 1) → mx_E S mL_law 1281 [some (.ref 1000), some (.ref 0), some (.ref 48), some (.ref 81), some (.int (iI i)), p5, p6] [] (false, mx_SH, N, L2, Rf2) kk (6 * kk) lwP (fun _ _ => False)) : mx_E S mL_law 1121 [some (.ref 1000), some (.ref 0), some (.ref 48), some (.ref 81), some (.int (iI i)), o5, o6] [] (false, mx_SH, M, L, Rf) (kk + 1) (6 * kk + 6) lwP (fun _ _ => False) := by
  have hc : lcA S mL_near mX7_near [.int (iI (sv S (i + 1)))] M L Rf it := by
    obtain ⟨t, b, h | h⟩ := h
    · exact (lc_near h (sv_b S (i + 1))).a
    · exact lz_near h (sv_b S (i + 1))
  obtain ⟨bc1, bs1, Pk, hb, hC, hPk⟩ := hc
  refine ms_aload_n dL_law_1121 rfl ?_
  refine ms_aload_n dL_law_1122 rfl ?_
  refine ms_iload dL_law_1123 rfl ?_
  refine mi_iconst dL_law_1125 ?_
  refine mi_iadd dL_law_1126 ?_
  refine ms_sl dL_law_1127 ?_
  refine ms_aload_n dL_law_1128 rfl ?_
  refine ms_room (bc2 := bc1 + kk) (bs2 := bs1 + 6 * kk) (by omega) (by omega) ?_
  refine ms_callSH (bc := kk) (bs := 6 * kk) (As := [.ref 0, .int (iI (sv S (i + 1))), .ref 81]) dL_law_1129 cv_L_law_L_near (by decide) hC rfl rfl (Nat.le_of_ble_eq_true rfl) (fun v9 h9 hp9 => ?_)
  obtain ⟨N1, L1, Rf1, k, rfl, rfl, hk, hR1, Pm, hCm, hPm⟩ := hPk v9 h9 hp9
  refine ms_istore dL_law_1132 (by decide) rfl ?_
  dsimp only [List.set, Nat.reduceAdd]
  refine ms_aload_n dL_law_1134 rfl ?_
  refine ms_aload_n dL_law_1135 rfl ?_
  refine ms_iload dL_law_1136 rfl ?_
  refine mi_iconst dL_law_1138 ?_
  refine mi_iadd dL_law_1139 ?_
  refine ms_sl dL_law_1140 ?_
  refine ms_callV1 (ci := 7) (r := (RX7, TX7, 48)) dL_law_1141 cv_L_law_X7_near (hCm) rfl rfl (by first | rfl | assumption) (Nat.le_of_ble_eq_true rfl) rfl (fun _ _ z => z.elim) (fun v9 h9 hp9 => ?_)
  obtain ⟨N2, z, rfl, rfl, h4, hL, hrl⟩ := hPm v9 h9 hp9
  refine ms_istore dL_law_1144 (by decide) rfl ?_
  dsimp only [List.set, Nat.reduceAdd]
  refine ms_aload_n dL_law_1146 rfl ?_
  refine ms_callV0 (ci := 7) (r := (RX7, TX7, 48)) dL_law_1147 cv_L_law_X7_thrown (k_X7_thrown hR1) rfl rfl (by first | rfl | assumption) (Nat.le_of_ble_eq_true rfl) rfl (fun _ _ z => z.elim) (fun v9 h9 hp9 => ?_)
  obtain ⟨rfl, rfl⟩ := hp9
  rw [h4]
  refine ms_iload dL_law_1150 rfl ?_
  refine ms_icmp_eq (tgt := 1157) dL_law_1152 (by decide) (fun _ => ?_) (fun c => absurd rfl c)
  refine ms_iload dL_law_1157 rfl ?_
  refine mi_if_ne (tgt := 1174) dL_law_1159 (by decide) (fun c_1159 => ?_) (fun c_1159 => ?_)
  · refine ms_goto (tgt := 1281) dL_law_1174 (by decide) ?_
    exact hJ _ _ _ _ _ hrl
  · refine ms_aload_n dL_law_1162 rfl ?_
    refine mi_iconst dL_law_1163 ?_
    refine ms_lald dL_law_1164 (by first | rfl | assumption) ?_
    refine ms_iload dL_law_1165 rfl ?_
    refine ms_i2l dL_law_1167 ?_
    rw [show L1 81 (Int.toNat 0) = (iI z).toInt64 from hL c_1159]
    refine ms_lcmp dL_law_1168 ?_
    refine ms_if_eq (tgt := 1174) dL_law_1169 (by decide) (fun _ => ?_) (fun c => absurd ((lg_cmp_eq _ _).mpr rfl) c)
    refine ms_goto (tgt := 1281) dL_law_1174 (by decide) ?_
    exact hJ _ _ _ _ _ hrl
set_option maxHeartbeats 1000000 in
set_option maxRecDepth 100000 in
theorem lw_years {S : mx_Sc} {M : Nat → Int → Int} {L : Nat → Nat → Int64} {Rf : Nat → Nat → Option Nat} {it i : Int} {kk : Nat} {o5 o6 : Option Value} (hi0 : 0 ≤ i) (hi6 : i + 6 ≤ S.1) (hit : it ≤ 1000000) (h : rlA M Rf it) (hJ : ∀ (N : Nat → Int → Int) (L2 : Nat → Nat → Int64) (Rf2 : Nat → Nat → Option Nat) (p5 p6 : Option Value), rlA N Rf2 (it + 1) → mx_E S mL_law 1281 [some (.ref 1000), some (.ref 0), some (.ref 48), some (.ref 81), some (.int (iI i)), p5, p6] [] (false, mx_SH, N, L2, Rf2) kk (6 * kk) lwP (fun _ _ => False)) : mx_E S mL_law 1177 [some (.ref 1000), some (.ref 0), some (.ref 48), some (.ref 81), some (.int (iI i)), o5, o6] [] (false, mx_SH, M, L, Rf) (kk + 1) (6 * kk + 6) lwP (fun _ _ => False) := by
  have hc : lcA S mL_years mX7_years [.int (iI (sv S (i + 1))), .int (iI (sv S (i + 2))), .int (iI (sv S (i + 3)))] M L Rf it := by
    obtain ⟨t, b, h | h⟩ := h
    · exact (lc_years h (sv_b S (i + 1)) (s := sv S (i + 2)) (sv_b S (i + 3))).a
    · exact lz_years h (sv_b S (i + 1)) (s := sv S (i + 2)) (sv_b S (i + 3))
  obtain ⟨bc1, bs1, Pk, hb, hC, hPk⟩ := hc
  refine ms_aload_n dL_law_1177 rfl ?_
  refine ms_aload_n dL_law_1178 rfl ?_
  refine ms_iload dL_law_1179 rfl ?_
  refine mi_iconst dL_law_1181 ?_
  refine mi_iadd dL_law_1182 ?_
  refine ms_sl dL_law_1183 ?_
  refine ms_aload_n dL_law_1184 rfl ?_
  refine ms_iload dL_law_1185 rfl ?_
  refine mi_iconst dL_law_1187 ?_
  refine mi_iadd dL_law_1188 ?_
  refine ms_sl dL_law_1189 ?_
  refine ms_aload_n dL_law_1190 rfl ?_
  refine ms_iload dL_law_1191 rfl ?_
  refine mi_iconst dL_law_1193 ?_
  refine mi_iadd dL_law_1194 ?_
  refine ms_sl dL_law_1195 ?_
  refine ms_aload_n dL_law_1196 rfl ?_
  refine ms_room (bc2 := bc1 + kk) (bs2 := bs1 + 6 * kk) (by omega) (by omega) ?_
  refine ms_callSH (bc := kk) (bs := 6 * kk) (As := [.ref 0, .int (iI (sv S (i + 1))), .int (iI (sv S (i + 2))), .int (iI (sv S (i + 3))), .ref 81]) dL_law_1197 cv_L_law_L_years (by decide) hC rfl rfl (Nat.le_of_ble_eq_true rfl) (fun v9 h9 hp9 => ?_)
  obtain ⟨N1, L1, Rf1, k, rfl, rfl, hk, hR1, Pm, hCm, hPm⟩ := hPk v9 h9 hp9
  refine ms_istore dL_law_1200 (by decide) rfl ?_
  dsimp only [List.set, Nat.reduceAdd]
  refine ms_aload_n dL_law_1202 rfl ?_
  refine ms_aload_n dL_law_1203 rfl ?_
  refine ms_iload dL_law_1204 rfl ?_
  refine mi_iconst dL_law_1206 ?_
  refine mi_iadd dL_law_1207 ?_
  refine ms_sl dL_law_1208 ?_
  refine ms_aload_n dL_law_1209 rfl ?_
  refine ms_iload dL_law_1210 rfl ?_
  refine mi_iconst dL_law_1212 ?_
  refine mi_iadd dL_law_1213 ?_
  refine ms_sl dL_law_1214 ?_
  refine ms_aload_n dL_law_1215 rfl ?_
  refine ms_iload dL_law_1216 rfl ?_
  refine mi_iconst dL_law_1218 ?_
  refine mi_iadd dL_law_1219 ?_
  refine ms_sl dL_law_1220 ?_
  refine ms_callV3 (ci := 7) (r := (RX7, TX7, 48)) dL_law_1221 cv_L_law_X7_years (hCm) rfl rfl (by first | rfl | assumption) (Nat.le_of_ble_eq_true rfl) rfl (fun _ _ z => z.elim) (fun v9 h9 hp9 => ?_)
  obtain ⟨N2, z, rfl, rfl, h4, hL, hrl⟩ := hPm v9 h9 hp9
  refine ms_istore dL_law_1224 (by decide) rfl ?_
  dsimp only [List.set, Nat.reduceAdd]
  refine ms_aload_n dL_law_1226 rfl ?_
  refine ms_callV0 (ci := 7) (r := (RX7, TX7, 48)) dL_law_1227 cv_L_law_X7_thrown (k_X7_thrown hR1) rfl rfl (by first | rfl | assumption) (Nat.le_of_ble_eq_true rfl) rfl (fun _ _ z => z.elim) (fun v9 h9 hp9 => ?_)
  obtain ⟨rfl, rfl⟩ := hp9
  rw [h4]
  refine ms_iload dL_law_1230 rfl ?_
  refine ms_icmp_eq (tgt := 1237) dL_law_1232 (by decide) (fun _ => ?_) (fun c => absurd rfl c)
  refine ms_iload dL_law_1237 rfl ?_
  refine mi_if_ne (tgt := 1254) dL_law_1239 (by decide) (fun c_1239 => ?_) (fun c_1239 => ?_)
  · refine ms_goto (tgt := 1281) dL_law_1254 (by decide) ?_
    exact hJ _ _ _ _ _ hrl
  · refine ms_aload_n dL_law_1242 rfl ?_
    refine mi_iconst dL_law_1243 ?_
    refine ms_lald dL_law_1244 (by first | rfl | assumption) ?_
    refine ms_iload dL_law_1245 rfl ?_
    refine ms_i2l dL_law_1247 ?_
    rw [show L1 81 (Int.toNat 0) = (iI z).toInt64 from hL c_1239]
    refine ms_lcmp dL_law_1248 ?_
    refine ms_if_eq (tgt := 1254) dL_law_1249 (by decide) (fun _ => ?_) (fun c => absurd ((lg_cmp_eq _ _).mpr rfl) c)
    refine ms_goto (tgt := 1281) dL_law_1254 (by decide) ?_
    exact hJ _ _ _ _ _ hrl
set_option maxHeartbeats 1000000 in
set_option maxRecDepth 100000 in
theorem lw_image {S : mx_Sc} {M : Nat → Int → Int} {L : Nat → Nat → Int64} {Rf : Nat → Nat → Option Nat} {it i : Int} {kk : Nat} {o5 o6 : Option Value} (hi0 : 0 ≤ i) (hi6 : i + 6 ≤ S.1) (hit : it ≤ 1000000) (h : rlA M Rf it) (hJ : ∀ (N : Nat → Int → Int) (L2 : Nat → Nat → Int64) (Rf2 : Nat → Nat → Option Nat) (p5 p6 : Option Value), rlA N Rf2 (it + 1) → mx_E S mL_law 1281 [some (.ref 1000), some (.ref 0), some (.ref 48), some (.ref 81), some (.int (iI i)), p5, p6] [] (false, mx_SH, N, L2, Rf2) kk (6 * kk) lwP (fun _ _ => False)) : mx_E S mL_law 1257 [some (.ref 1000), some (.ref 0), some (.ref 48), some (.ref 81), some (.int (iI i)), o5, o6] [] (false, mx_SH, M, L, Rf) (kk + 1) (6 * kk + 6) lwP (fun _ _ => False) := by
  have hc : lcA0 S mX6_image mX7_image [] false M L Rf it := by
    obtain ⟨t, b, h | h⟩ := h
    · exact (lc_image h).a
    · exact lz_image h
  obtain ⟨Pk, hC, hPk⟩ := hc
  refine ms_room (bc2 := kk) (bs2 := 6 * kk) (by omega) (by omega) ?_
  refine ms_aload_n dL_law_1257 rfl ?_
  refine ms_callV0 (ci := 6) (r := (RX6, TX6, 15)) dL_law_1258 cv_L_law_X6_image (hC) rfl rfl (by first | rfl | assumption) (Nat.le_of_ble_eq_true rfl) rfl (fun _ _ z => z.elim) (fun v9 h9 hp9 => ?_)
  obtain ⟨N1, Rf1, rfl, hR1, hv1, hv2, Pm, hCm, hPm⟩ := hPk v9 h9 hp9
  obtain rfl := hv2 rfl
  refine ms_aload_n dL_law_1261 rfl ?_
  refine ms_callV0 (ci := 7) (r := (RX7, TX7, 48)) dL_law_1262 cv_L_law_X7_image (hCm) rfl rfl (by first | rfl | assumption) (Nat.le_of_ble_eq_true rfl) rfl (fun _ _ z => z.elim) (fun v9 h9 hp9 => ?_)
  obtain ⟨N2, rfl, rfl, hrl⟩ := hPm v9 h9 hp9
  refine ms_goto (tgt := 1281) dL_law_1265 (by decide) ?_
  exact hJ _ _ _ _ _ hrl
set_option maxHeartbeats 1000000 in
set_option maxRecDepth 100000 in
theorem lw_restore {S : mx_Sc} {M : Nat → Int → Int} {L : Nat → Nat → Int64} {Rf : Nat → Nat → Option Nat} {it i : Int} {kk : Nat} {o5 o6 : Option Value} (hi0 : 0 ≤ i) (hi6 : i + 6 ≤ S.1) (hit : it ≤ 1000000) (h : rlA M Rf it) (hJ : ∀ (N : Nat → Int → Int) (L2 : Nat → Nat → Int64) (Rf2 : Nat → Nat → Option Nat) (p5 p6 : Option Value), rlA N Rf2 (it + 1) → mx_E S mL_law 1281 [some (.ref 1000), some (.ref 0), some (.ref 48), some (.ref 81), some (.int (iI i)), p5, p6] [] (false, mx_SH, N, L2, Rf2) kk (6 * kk) lwP (fun _ _ => False)) : mx_E S mL_law 1268 [some (.ref 1000), some (.ref 0), some (.ref 48), some (.ref 81), some (.int (iI i)), o5, o6] [] (false, mx_SH, M, L, Rf) (kk + 1) (6 * kk + 6) lwP (fun _ _ => False) := by
  have hc : lcA0 S mX6_restore mX7_restore [] true M L Rf it := by
    obtain ⟨t, b, h | h⟩ := h
    · exact (lc_restore h).a
    · exact lz_restore h
  obtain ⟨Pk, hC, hPk⟩ := hc
  refine ms_room (bc2 := kk) (bs2 := 6 * kk) (by omega) (by omega) ?_
  refine ms_aload_n dL_law_1268 rfl ?_
  refine ms_callV0 (ci := 6) (r := (RX6, TX6, 15)) dL_law_1269 cv_L_law_X6_restore (hC) rfl rfl (by first | rfl | assumption) (Nat.le_of_ble_eq_true rfl) rfl (fun _ _ z => z.elim) (fun v9 h9 hp9 => ?_)
  obtain ⟨N1, Rf1, rfl, hR1, hv1, hv2, Pm, hCm, hPm⟩ := hPk v9 h9 hp9
  obtain ⟨y, rfl⟩ := hv1 rfl
  refine ms_aload_n dL_law_1272 rfl ?_
  refine ms_callV0 (ci := 7) (r := (RX7, TX7, 48)) dL_law_1273 cv_L_law_X7_restore (hCm) rfl rfl (by first | rfl | assumption) (Nat.le_of_ble_eq_true rfl) rfl (fun _ _ z => z.elim) (fun v9 h9 hp9 => ?_)
  obtain ⟨N2, rfl, rfl, hrl⟩ := hPm v9 h9 hp9
  refine ms_icmp_eq (tgt := 1281) dL_law_1276 (by decide) (fun _ => ?_) (fun c => absurd rfl c)
  exact hJ _ _ _ _ _ hrl
