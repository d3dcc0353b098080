set_option maxHeartbeats 4000000 in
set_option maxRecDepth 100000 in
theorem l_X6_frA {S : mx_Sc} {f : Bool} {M : Nat → Int → Int} {L : Nat → Nat → Int64} {Rf : Nat → Nat → Option Nat} (hR : mx_rf Rf) {t : Nat} (ht : t = 29 ∨ t = 37) (hT : sp_tok (sp_tC M t)) (hto : Rf 0 10 = some t) (hwt : Rf 46 1 = some t) (hwl : Rf 46 2 = some (t + 3)) (hlk : sp_lok (sp_tC M t) (M (t + 3))) (hng : M 46 4 = bI false) (hst : M 46 3 = M t 2) {v J : Int → Int} {n : Int} (hn : 0 ≤ n ∧ n ≤ 99) {P : Option Value → mx_H → Prop} {PX : String → mx_H → Prop} : ∀ (kk : Nat) (k : Nat) (N : Nat → Int → Int), n + k + kk = 100 → frS t M n v J N k → (∀ (N : Nat → Int → Int) (z1 : Int), frS t M n v J N (100 - n + 0).toNat → mx_E S mX6_findRound 65 [some (.ref 0), some (.int (iI z1)), none, none, none] [] (f, mx_SH, N, L, Rf) 0 0 P PX) → mx_E S mX6_findRound 41 [some (.ref 0), some (.int (iI (n + (k : Int)))), none, none, none] [] (f, mx_SH, N, L, Rf) 0 0 P PX := by
  intro kk
  induction kk with
  | zero => 
    intro k N g1 hS hK
    have ht9 : t < 900 := by omega
    have hs_t := tc_s ht
    have hs_t1 := tc_s1 ht
    have hr_t1 := tc_r1 hR ht
    have hs_t2 := tc_s2 ht
    have hr_t2 := tc_r2 hR ht
    have hs_t3 := tc_s3 ht
    have hr_t3 := tc_r3 hR ht
    have hs_t4 := tc_s4 ht
    have hr_t4 := tc_r4 hR ht
    have hs_t5 := tc_s5 ht
    have hr_t5 := tc_r5 hR ht
    have hs_t6 := tc_s6 ht
    have hr_t6 := tc_r6 hR ht
    have hs_t7 := tc_s7 ht
    have hr_t7 := tc_r7 hR ht
    have hT0 : 1 ≤ M t 0 ∧ M t 0 ≤ 30 := hT.1
    have hT1 : 0 ≤ M t 1 ∧ M t 1 ≤ 6 := hT.2.1
    have hT2 : 1 ≤ M t 2 ∧ M t 2 ≤ 9 := hT.2.2.1
    have hT3 : 0 ≤ M t 3 ∧ M t 3 ≤ 9 := hT.2.2.2.1
    have hT4 : 0 ≤ M t 4 ∧ M t 4 ≤ 9 := hT.2.2.2.2.1
    have hT5 : 1 ≤ M t 5 ∧ M t 5 ≤ 99 := hT.2.2.2.2.2.1
    have hT6 : 0 ≤ M t 6 ∧ M t 6 ≤ 10 := hT.2.2.2.2.2.2.1
    have hTn : ((M t 1).toNat : Int) = M t 1 := Int.toNat_of_nonneg hT1.1
    have hTn6 : ((M t 6).toNat : Int) = M t 6 := Int.toNat_of_nonneg hT6.1
    have q1 := hS.1
    have eT : sp_tC N t = sp_tC M t := tC_fr (fun y _ _ => q1 y (by omega) (by omega) (by omega) (by omega) (by omega))
    have eN : ∀ k, N t k = M t k := fun k => by rw [q1 t (by omega) (by omega) (by omega) (by omega) (by omega)]
    have e46 : N 46 = M 46 := q1 46 (by omega) (by omega) (by omega) (by omega) (by omega)
    have ewr : N (t + 3) = M (t + 3) := q1 (t + 3) (by omega) (by omega) (by omega) (by omega) (by omega)
    refine ms_iload_n dX6_findRound_41 rfl ?_
    refine mi_bipush dX6_findRound_42 (by decide) ?_
    refine mi_icmp_ge (tgt := 65) dX6_findRound_44 (by decide) (fun c_44 => ?_) (fun c_44 => ?_)
    · exact hK N _ (by rw [show (100 - n + 0).toNat = k by omega]; exact hS)
    · exact absurd c_44 (by omega)
  | succ kk ih => 
    intro k N g1 hS hK
    have ht9 : t < 900 := by omega
    have hs_t := tc_s ht
    have hs_t1 := tc_s1 ht
    have hr_t1 := tc_r1 hR ht
    have hs_t2 := tc_s2 ht
    have hr_t2 := tc_r2 hR ht
    have hs_t3 := tc_s3 ht
    have hr_t3 := tc_r3 hR ht
    have hs_t4 := tc_s4 ht
    have hr_t4 := tc_r4 hR ht
    have hs_t5 := tc_s5 ht
    have hr_t5 := tc_r5 hR ht
    have hs_t6 := tc_s6 ht
    have hr_t6 := tc_r6 hR ht
    have hs_t7 := tc_s7 ht
    have hr_t7 := tc_r7 hR ht
    have hT0 : 1 ≤ M t 0 ∧ M t 0 ≤ 30 := hT.1
    have hT1 : 0 ≤ M t 1 ∧ M t 1 ≤ 6 := hT.2.1
    have hT2 : 1 ≤ M t 2 ∧ M t 2 ≤ 9 := hT.2.2.1
    have hT3 : 0 ≤ M t 3 ∧ M t 3 ≤ 9 := hT.2.2.2.1
    have hT4 : 0 ≤ M t 4 ∧ M t 4 ≤ 9 := hT.2.2.2.2.1
    have hT5 : 1 ≤ M t 5 ∧ M t 5 ≤ 99 := hT.2.2.2.2.2.1
    have hT6 : 0 ≤ M t 6 ∧ M t 6 ≤ 10 := hT.2.2.2.2.2.2.1
    have hTn : ((M t 1).toNat : Int) = M t 1 := Int.toNat_of_nonneg hT1.1
    have hTn6 : ((M t 6).toNat : Int) = M t 6 := Int.toNat_of_nonneg hT6.1
    have q1 := hS.1
    have eT : sp_tC N t = sp_tC M t := tC_fr (fun y _ _ => q1 y (by omega) (by omega) (by omega) (by omega) (by omega))
    have eN : ∀ k, N t k = M t k := fun k => by rw [q1 t (by omega) (by omega) (by omega) (by omega) (by omega)]
    have e46 : N 46 = M 46 := q1 46 (by omega) (by omega) (by omega) (by omega) (by omega)
    have ewr : N (t + 3) = M (t + 3) := q1 (t + 3) (by omega) (by omega) (by omega) (by omega) (by omega)
    refine ms_iload_n dX6_findRound_41 rfl ?_
    refine mi_bipush dX6_findRound_42 (by decide) ?_
    refine mi_icmp_ge (tgt := 65) dX6_findRound_44 (by decide) (fun c_44 => ?_) (fun c_44 => ?_)
    · exact absurd c_44 (by omega)
    · refine ms_aload_n dX6_findRound_47 rfl ?_
      refine ms_getR dX6_findRound_48 (fo_X6_75 rfl) (by first | rfl | assumption) rfl (by first | assumption | exact rf_0_9 hR ) ?_
      refine ms_aload_n dX6_findRound_51 rfl ?_
      refine ms_getR dX6_findRound_52 (fo_X6_26 rfl) (by first | rfl | assumption) rfl (by first | assumption | exact rf_0_4 hR ) ?_
      refine ms_callV1 (ci := 5) (r := (RX5, TX5, 5)) dX6_findRound_55 cv_X6_findRound_X5_passNight (k_X5_passNight (M := N) (a := 18) (v := sp_run (sp_tC M t) (M (t + 3)) false false n k v) (n := n + (k : Int)) (hf := false) (ng := false) (wr := t + 3) hR ht (by rw [eT]; exact hT) (by omega) hwt (Or.inl rfl) hwl (by rw [eT, ewr]; exact hlk) (by rw [eT]; exact hS.2.2.2.1) (by rw [eT]; exact hS.2.2.2.2) (by omega) (by have := hS.2.1; omega) (by rw [e46]; exact hng) (by rw [e46, eN]; exact hst)) rfl rfl (by first | rfl | assumption) (Nat.le_of_ble_eq_true rfl) rfl (fun _ _ z => z.elim) (fun v9 h9 hp9 => ?_)
      obtain ⟨N2, c, rfl, rfl, y1, y2, y3, y4, y5, y6⟩ := hp9
      rw [eT, ewr] at y4 y5
      have hS2 : frS t M n v J N2 (k + 1) := by
        refine ⟨fun x x1 x2 x3 x4 x5 => by rw [y1 x x1 x2 x3 x4 x5, q1 x x1 x2 x3 x4 x5], by rw [y2]; omega, fun i hi => by rw [y3 i (by rw [eN]; exact hi)]; exact hS.2.2.1 i hi, ?_, ?_⟩
        · show scR (sp_tC M t) N2 18 (sp_night (sp_tC M t) (M (t + 3)) false false (n + ((k : Nat) : Int)) _)
          rw [show n + ((k : Nat) : Int) = n + (k : Int) by omega]
          exact y4
        · show sp_vok (sp_tC M t) (sp_night (sp_tC M t) (M (t + 3)) false false (n + ((k : Nat) : Int)) _)
          rw [show n + ((k : Nat) : Int) = n + (k : Int) by omega]
          exact y5
      refine ms_pop dX6_findRound_58 rfl ?_
      refine mi_iinc dX6_findRound_59 rfl (by decide) rfl ?_
      dsimp only [List.set, Nat.reduceAdd]
      refine ms_goto (tgt := 41) dX6_findRound_62 (by decide) ?_
      have i9 := ih (k + 1) N2 (by omega) hS2 hK
      rw [show n + ((k + 1 : Nat) : Int) = n + (k : Int) + 1 by omega] at i9
      exact i9

set_option maxHeartbeats 4000000 in
set_option maxRecDepth 100000 in
theorem l_X6_frB {S : mx_Sc} {f : Bool} {M : Nat → Int → Int} {L : Nat → Nat → Int64} {Rf : Nat → Nat → Option Nat} (hR : mx_rf Rf) {t : Nat} (ht : t = 29 ∨ t = 37) (hT : sp_tok (sp_tC M t)) (hto : Rf 0 10 = some t) (hwt : Rf 46 1 = some t) (hwl : Rf 46 2 = some (t + 3)) (hlk : sp_lok (sp_tC M t) (M (t + 3))) (hng : M 46 4 = bI false) (hst : M 46 3 = M t 2) {v J : Int → Int} {n : Int} (hn : 0 ≤ n ∧ n ≤ 99) {P : Option Value → mx_H → Prop} {PX : String → mx_H → Prop} (hJ : ∀ i, 0 ≤ i → i < 18 → 0 ≤ J i ∧ J i < 32) (hff : f = false) {N : Nat → Int → Int} {L2 : Nat → Nat → Int64} {d o z3 : Int} (hd : 1 ≤ d ∧ d ≤ 1000) (ho : 0 ≤ o ∧ o ≤ d) (hvr : ∀ j, 0 ≤ j → j ≤ d → sp_vok (sp_tC M t) (rr (sp_tC M t) (M (t + 3)) n v j)) (hcol : (∀ j, 0 ≤ j → j ≤ d → L2 22 j.toNat = pkS (roW t M n v J j) 6)) (hold : (∀ j, o ≤ j → j ≤ d → sp_cnt (sp_tC M t) (rr (sp_tC M t) (M (t + 3)) n v j) = sp_cnt (sp_tC M t) (rr (sp_tC M t) (M (t + 3)) n v d)) ∧ (∀ j, 0 ≤ j → j < o → sp_cnt (sp_tC M t) (rr (sp_tC M t) (M (t + 3)) n v j) < sp_cnt (sp_tC M t) (rr (sp_tC M t) (M (t + 3)) n v d))) : ∀ (kk : Nat) (b : Int), b < d → (d - b) % 2 = 0 → o + 2 * kk ≤ b + 2 → b < o + 2 * kk → (∀ b2, b < b2 → b2 < d → (d - b2) % 2 = 0 → ¬ smP (sp_tC M t) (M (t + 3)) n v b2 d) → ((∀ b2, 0 ≤ b2 → b2 < d → (d - b2) % 2 = 0 → ¬ smP (sp_tC M t) (M (t + 3)) n v b2 d) → ∀ z4 : Int, mx_E S mX6_findRound 174 [some (.ref 0), some (.int (iI o)), some (.int (iI d)), some (.int (iI z3)), some (.int (iI z4))] [] (f, mx_SH, N, L2, Rf) 0 0 P PX) → (∀ b, 0 ≤ b → b < d → (d - b) % 2 = 0 → smP (sp_tC M t) (M (t + 3)) n v b d → (∀ b2, b < b2 → b2 < d → (d - b2) % 2 = 0 → ¬ smP (sp_tC M t) (M (t + 3)) n v b2 d) → P (some (.int (iI (d - b)))) (f, mx_SH, N, L2, Rf)) → mx_E S mX6_findRound 140 [some (.ref 0), some (.int (iI o)), some (.int (iI d)), some (.int (iI z3)), some (.int (iI b))] [] (f, mx_SH, N, L2, Rf) 0 0 P PX := by
  intro kk
  induction kk with
  | zero => 
    intro b g1 g2 g3 g4 hq hK hP
    have ht9 : t < 900 := by omega
    have hs_t := tc_s ht
    have hs_t1 := tc_s1 ht
    have hr_t1 := tc_r1 hR ht
    have hs_t2 := tc_s2 ht
    have hr_t2 := tc_r2 hR ht
    have hs_t3 := tc_s3 ht
    have hr_t3 := tc_r3 hR ht
    have hs_t4 := tc_s4 ht
    have hr_t4 := tc_r4 hR ht
    have hs_t5 := tc_s5 ht
    have hr_t5 := tc_r5 hR ht
    have hs_t6 := tc_s6 ht
    have hr_t6 := tc_r6 hR ht
    have hs_t7 := tc_s7 ht
    have hr_t7 := tc_r7 hR ht
    have hT0 : 1 ≤ M t 0 ∧ M t 0 ≤ 30 := hT.1
    have hT1 : 0 ≤ M t 1 ∧ M t 1 ≤ 6 := hT.2.1
    have hT2 : 1 ≤ M t 2 ∧ M t 2 ≤ 9 := hT.2.2.1
    have hT3 : 0 ≤ M t 3 ∧ M t 3 ≤ 9 := hT.2.2.2.1
    have hT4 : 0 ≤ M t 4 ∧ M t 4 ≤ 9 := hT.2.2.2.2.1
    have hT5 : 1 ≤ M t 5 ∧ M t 5 ≤ 99 := hT.2.2.2.2.2.1
    have hT6 : 0 ≤ M t 6 ∧ M t 6 ≤ 10 := hT.2.2.2.2.2.2.1
    have hTn : ((M t 1).toNat : Int) = M t 1 := Int.toNat_of_nonneg hT1.1
    have hTn6 : ((M t 6).toNat : Int) = M t 6 := Int.toNat_of_nonneg hT6.1
    refine ms_iload dX6_findRound_140 rfl ?_
    refine ms_iload_n dX6_findRound_142 rfl ?_
    refine mi_icmp_lt (tgt := 174) dX6_findRound_143 (by decide) (fun c_143 => ?_) (fun c_143 => ?_)
    · refine hK (fun b2 h0 h1 h2 h3 => ?_) _
      by_cases e : b < b2
      · exact hq b2 e h1 h2 h3
      · have h4 := hold.2 b2 h0 (by omega)
        rw [cnt_cg h3.1] at h4
        omega
    · exact absurd c_143 (by omega)
  | succ kk ih => 
    intro b g1 g2 g3 g4 hq hK hP
    have ht9 : t < 900 := by omega
    have hs_t := tc_s ht
    have hs_t1 := tc_s1 ht
    have hr_t1 := tc_r1 hR ht
    have hs_t2 := tc_s2 ht
    have hr_t2 := tc_r2 hR ht
    have hs_t3 := tc_s3 ht
    have hr_t3 := tc_r3 hR ht
    have hs_t4 := tc_s4 ht
    have hr_t4 := tc_r4 hR ht
    have hs_t5 := tc_s5 ht
    have hr_t5 := tc_r5 hR ht
    have hs_t6 := tc_s6 ht
    have hr_t6 := tc_r6 hR ht
    have hs_t7 := tc_s7 ht
    have hr_t7 := tc_r7 hR ht
    have hT0 : 1 ≤ M t 0 ∧ M t 0 ≤ 30 := hT.1
    have hT1 : 0 ≤ M t 1 ∧ M t 1 ≤ 6 := hT.2.1
    have hT2 : 1 ≤ M t 2 ∧ M t 2 ≤ 9 := hT.2.2.1
    have hT3 : 0 ≤ M t 3 ∧ M t 3 ≤ 9 := hT.2.2.2.1
    have hT4 : 0 ≤ M t 4 ∧ M t 4 ≤ 9 := hT.2.2.2.2.1
    have hT5 : 1 ≤ M t 5 ∧ M t 5 ≤ 99 := hT.2.2.2.2.2.1
    have hT6 : 0 ≤ M t 6 ∧ M t 6 ≤ 10 := hT.2.2.2.2.2.2.1
    have hTn : ((M t 1).toNat : Int) = M t 1 := Int.toNat_of_nonneg hT1.1
    have hTn6 : ((M t 6).toNat : Int) = M t 6 := Int.toNat_of_nonneg hT6.1
    have hb : 0 ≤ b := by omega
    have hL1 := hcol b hb (by omega)
    have hL2 := hcol d (by omega) (by omega)
    have hbd : ∀ j, 0 ≤ j → j ≤ d → ∀ i, 0 ≤ i → i < 18 → 0 ≤ roW t M n v J j i ∧ roW t M n v J j i < 32 := fun j j0 j1 i i0 i1 => by
      unfold roW
      by_cases e : i < 3 * M t 1
      · rw [if_pos e]
        exact vok_b hT (hvr j j0 j1) i0 e
      · rw [if_neg e]
        exact hJ i i0 i1
    refine ms_iload dX6_findRound_140 rfl ?_
    refine ms_iload_n dX6_findRound_142 rfl ?_
    refine mi_icmp_lt (tgt := 174) dX6_findRound_143 (by decide) (fun c_143 => ?_) (fun c_143 => ?_)
    · exact absurd c_143 (by omega)
    · refine ms_aload_n dX6_findRound_146 rfl ?_
      refine ms_getR dX6_findRound_147 (fo_X6_30 rfl) (by first | rfl | assumption) rfl (by first | assumption | exact rf_0_5 hR ) ?_
      refine ms_iload dX6_findRound_150 rfl ?_
      refine ms_lald dX6_findRound_152 (by first | rfl | assumption) ?_
      refine ms_aload_n dX6_findRound_153 rfl ?_
      refine ms_getR dX6_findRound_154 (fo_X6_30 rfl) (by first | rfl | assumption) rfl (by first | assumption | exact rf_0_5 hR ) ?_
      refine ms_iload_n dX6_findRound_157 rfl ?_
      refine ms_lald dX6_findRound_158 (by first | rfl | assumption) ?_
      refine ms_lcmp dX6_findRound_159 ?_
      refine ms_if_ne (tgt := 168) dX6_findRound_160 (by decide) (fun c_160 => ?_) (fun c_160 => ?_)
      · refine mi_iinc dX6_findRound_168 rfl (by decide) rfl ?_
        dsimp only [List.set, Nat.reduceAdd]
        refine ms_goto (tgt := 140) dX6_findRound_171 (by decide) ?_
        refine ih (b + -2) (by omega) (by omega) (by omega) (by omega) (fun b2 h1 h2 h3 => ?_) hK hP
        by_cases e : b < b2
        · exact hq b2 e h2 h3
        · have e2 : b2 = b := by omega
          subst e2
          intro h4
          refine c_160 ((lg_cmp_eq _ _).mpr ?_)
          rw [hL1, hL2]
          refine pkS_congr (fun i i0 i1 => ?_) 6 (Nat.le_refl _)
          unfold roW
          by_cases e : i < 3 * M t 1
          · rw [if_pos e, if_pos e]
            exact h4.2 i i0 e
          · rw [if_neg e, if_neg e]
      have e1 := (lg_cmp_eq _ _).mp c_160
      rw [hL1, hL2] at e1
      have hsm : smP (sp_tC M t) (M (t + 3)) n v b d := by
        refine ⟨fun l l0 l1 => rr_out hT hn hb (by omega) (hold.1 b (by omega) (by omega)) l0 l1, fun i i0 i1 => ?_⟩
        simp only at i1
        have h1 := pkS_inj (hbd b hb (by omega)) (hbd d (by omega) (by omega)) e1 (j := i / 3) (by omega) (by omega)
        have v1 := (hvr b hb (by omega)).1 (i / 3) (by omega) (by simp only; omega)
        have v2 := (hvr d (by omega) (by omega)).1 (i / 3) (by omega) (by simp only; omega)
        unfold roW at h1
        rw [if_pos (by omega), if_pos (by omega), if_pos (by omega), if_pos (by omega)] at h1
        rw [show i / 3 * 3 = 3 * (i / 3) by omega] at h1
        rcases (show i = 3 * (i / 3) ∨ i = 3 * (i / 3) + 1 ∨ i = 3 * (i / 3) + 2 by omega) with e | e | e <;> rw [e] <;> omega
      refine ms_iload_n dX6_findRound_163 rfl ?_
      refine ms_iload dX6_findRound_164 rfl ?_
      refine mi_isub dX6_findRound_166 ?_
      refine ms_ret dX6_findRound_167 rfl (hP b hb g1 g2 hsm hq) (by rw [hff]; simp)

