set_option maxHeartbeats 4000000 in
set_option maxRecDepth 100000 in
theorem l_X5_pnA {S : mx_Sc} {f : Bool} {M : Nat → Int → Int} {L : Nat → Nat → Int64} {Rf : Nat → Nat → Option Nat} (hR : mx_rf Rf) {t : Nat} (ht : t = 29 ∨ t = 37) (hT : sp_tok (sp_tC M t)) {a : Nat} (ha : a = 3 ∨ a = 11 ∨ a = 18) (hwt : Rf 46 1 = some t) {wr : Nat} (hwr : wr = t + 3 ∨ wr = 23) (hwl : Rf 46 2 = some wr) (hlk : sp_lok (sp_tC M t) (M wr)) {v : Int → Int} (hsc : scR (sp_tC M t) M a v) (hv : sp_vok (sp_tC M t) v) {n : Int} (hn : 0 ≤ n ∧ n ≤ 1200) (hnn : M a 3 = n) {hf ng : Bool} (hng : M 46 4 = bI ng) (hst : M 46 3 = (if hf = true then (M t 2 + 1) / 2 else M t 2)) {P : Option Value → mx_H → Prop} {PX : String → mx_H → Prop} {z2 : Int} : ∀ (kk : Nat) (j : Int) (N : Nat → Int → Int), 0 ≤ j → j + kk = M t 1 → (∀ x, x ≠ 47 → N x = M x) → (∀ i, 0 ≤ i → i < 3 * j → N 47 i = sp_mv (sp_tC M t) (M wr) hf ng n v i) → (∀ (N : Nat → Int → Int) (b2 : Int), (∀ x, x ≠ 47 → N x = M x) → (∀ i, 0 ≤ i → i < 3 * M t 1 → N 47 i = sp_mv (sp_tC M t) (M wr) hf ng n v i) → mx_E S mX5_passNight 42 [some (.ref 46), some (.ref a), some (.int (iI z2)), some (.int (iI 0)), some (.int (iI b2))] [] (f, mx_SH, N, L, Rf) 0 0 P PX) → mx_E S mX5_passNight 10 [some (.ref 46), some (.ref a), some (.int (iI z2)), some (.int (iI 0)), some (.int (iI j))] [] (f, mx_SH, N, L, Rf) 0 0 P PX := by
  intro kk
  induction kk with
  | zero => 
    intro j N g0 g1 q1 q2 hK
    have ht9 : t < 900 := by omega
    have hs_t := tc_s ht
    have hs_t1 := tc_s1 ht
    have hr_t1 := tc_r1 hR ht
    have hs_t2 := tc_s2 ht
    have hr_t2 := tc_r2 hR ht
    have hs_t3 := tc_s3 ht
    have hr_t3 := tc_r3 hR ht
    have hs_t4 := tc_s4 ht
    have hr_t4 := tc_r4 hR ht
    have hs_t5 := tc_s5 ht
    have hr_t5 := tc_r5 hR ht
    have hs_t6 := tc_s6 ht
    have hr_t6 := tc_r6 hR ht
    have hs_t7 := tc_s7 ht
    have hr_t7 := tc_r7 hR ht
    have ha9 : a < 900 := by omega
    have hs_a := sc_s ha
    have hs_a1 := sc_s1 ha
    have hr_a1 := sc_r1 hR ha
    have hs_a2 := sc_s2 ha
    have hr_a2 := sc_r2 hR ha
    have hs_a3 := sc_s3 ha
    have hr_a3 := sc_r3 hR ha
    have hT0 : 1 ≤ M t 0 ∧ M t 0 ≤ 30 := hT.1
    have hT1 : 0 ≤ M t 1 ∧ M t 1 ≤ 6 := hT.2.1
    have hT2 : 1 ≤ M t 2 ∧ M t 2 ≤ 9 := hT.2.2.1
    have hT3 : 0 ≤ M t 3 ∧ M t 3 ≤ 9 := hT.2.2.2.1
    have hT4 : 0 ≤ M t 4 ∧ M t 4 ≤ 9 := hT.2.2.2.2.1
    have hT5 : 1 ≤ M t 5 ∧ M t 5 ≤ 99 := hT.2.2.2.2.2.1
    have hT6 : 0 ≤ M t 6 ∧ M t 6 ≤ 10 := hT.2.2.2.2.2.2.1
    have hTn : ((M t 1).toNat : Int) = M t 1 := Int.toNat_of_nonneg hT1.1
    have hTn6 : ((M t 6).toNat : Int) = M t 6 := Int.toNat_of_nonneg hT6.1
    have hs_w : mx_SH[wr]? = some (0, 6) := by rcases hwr with rfl | rfl; exact tc_s3 ht; rfl
    have hw9 : wr < 900 := by omega
    have eT : sp_tC N t = sp_tC M t := tC_fr (fun y _ _ => q1 y (by omega))
    have eN : ∀ k, N t k = M t k := fun k => by rw [q1 t (by omega)]
    have eN1 := eN 1
    refine ms_iload dX5_passNight_10 rfl ?_
    refine ms_aload_n dX5_passNight_12 rfl ?_
    refine ms_getR dX5_passNight_13 (fo_X5_15 rfl) (by first | rfl | assumption) rfl (by first | assumption ) ?_
    refine ms_getI (z := 1) dX5_passNight_16 (fo_X5_62 rfl) (by first | rfl | assumption) rfl rfl ?_
    refine mi_icmp_ge (tgt := 42) dX5_passNight_19 (by decide) (fun c_19 => ?_) (fun c_19 => ?_)
    · exact hK N j q1 (fun i i0 i1 => q2 i i0 (by omega))
    · exact absurd c_19 (by omega)
  | succ kk ih => 
    intro j N g0 g1 q1 q2 hK
    have ht9 : t < 900 := by omega
    have hs_t := tc_s ht
    have hs_t1 := tc_s1 ht
    have hr_t1 := tc_r1 hR ht
    have hs_t2 := tc_s2 ht
    have hr_t2 := tc_r2 hR ht
    have hs_t3 := tc_s3 ht
    have hr_t3 := tc_r3 hR ht
    have hs_t4 := tc_s4 ht
    have hr_t4 := tc_r4 hR ht
    have hs_t5 := tc_s5 ht
    have hr_t5 := tc_r5 hR ht
    have hs_t6 := tc_s6 ht
    have hr_t6 := tc_r6 hR ht
    have hs_t7 := tc_s7 ht
    have hr_t7 := tc_r7 hR ht
    have ha9 : a < 900 := by omega
    have hs_a := sc_s ha
    have hs_a1 := sc_s1 ha
    have hr_a1 := sc_r1 hR ha
    have hs_a2 := sc_s2 ha
    have hr_a2 := sc_r2 hR ha
    have hs_a3 := sc_s3 ha
    have hr_a3 := sc_r3 hR ha
    have hT0 : 1 ≤ M t 0 ∧ M t 0 ≤ 30 := hT.1
    have hT1 : 0 ≤ M t 1 ∧ M t 1 ≤ 6 := hT.2.1
    have hT2 : 1 ≤ M t 2 ∧ M t 2 ≤ 9 := hT.2.2.1
    have hT3 : 0 ≤ M t 3 ∧ M t 3 ≤ 9 := hT.2.2.2.1
    have hT4 : 0 ≤ M t 4 ∧ M t 4 ≤ 9 := hT.2.2.2.2.1
    have hT5 : 1 ≤ M t 5 ∧ M t 5 ≤ 99 := hT.2.2.2.2.2.1
    have hT6 : 0 ≤ M t 6 ∧ M t 6 ≤ 10 := hT.2.2.2.2.2.2.1
    have hTn : ((M t 1).toNat : Int) = M t 1 := Int.toNat_of_nonneg hT1.1
    have hTn6 : ((M t 6).toNat : Int) = M t 6 := Int.toNat_of_nonneg hT6.1
    have hs_w : mx_SH[wr]? = some (0, 6) := by rcases hwr with rfl | rfl; exact tc_s3 ht; rfl
    have hw9 : wr < 900 := by omega
    have eT : sp_tC N t = sp_tC M t := tC_fr (fun y _ _ => q1 y (by omega))
    have eN : ∀ k, N t k = M t k := fun k => by rw [q1 t (by omega)]
    have eN1 := eN 1
    have hwj := hlk j g0 (by show j < M t 1; omega)
    simp only at hwj
    have eW : N wr j = M wr j := by rw [q1 wr (by omega)]
    refine ms_iload dX5_passNight_10 rfl ?_
    refine ms_aload_n dX5_passNight_12 rfl ?_
    refine ms_getR dX5_passNight_13 (fo_X5_15 rfl) (by first | rfl | assumption) rfl (by first | assumption ) ?_
    refine ms_getI (z := 1) dX5_passNight_16 (fo_X5_62 rfl) (by first | rfl | assumption) rfl rfl ?_
    refine mi_icmp_ge (tgt := 42) dX5_passNight_19 (by decide) (fun c_19 => ?_) (fun c_19 => ?_)
    · exact absurd c_19 (by omega)
    · refine ms_aload_n dX5_passNight_22 rfl ?_
      refine ms_aload_n dX5_passNight_23 rfl ?_
      refine ms_iload dX5_passNight_24 rfl ?_
      refine ms_aload_n dX5_passNight_26 rfl ?_
      refine ms_getR dX5_passNight_27 (fo_X5_24 rfl) (by first | rfl | assumption) rfl (by first | assumption ) ?_
      refine ms_iload dX5_passNight_30 rfl ?_
      refine ms_iald dX5_passNight_32 (by first | rfl | assumption) ?_
      refine ms_callV3 (ci := 5) (r := (RX5, TX5, 5)) dX5_passNight_33 cv_X5_passNight_X5_moveLamp (k_X5_moveLamp (M := N) (v := v) (n := n) (hf := hf) (ng := ng) hR ht (by rw [eT]; exact hT) ha hwt (by rw [eT]; exact hsc.fr (q1 _ (by omega)) (q1 _ (by omega)) (q1 _ (by omega)) (q1 _ (by omega))) (by rw [eT]; exact hv) hn (by rw [q1 a (by omega)]; exact hnn) (l := j) (by omega) (w := N wr j) (by rw [eW, eN]; exact hwj) (by rw [q1 46 (by decide)]; exact hng) (by rw [q1 46 (by decide), eN]; exact hst)) rfl rfl (by first | rfl | assumption) (Nat.le_of_ble_eq_true rfl) rfl (fun _ _ z => z.elim) (fun v9 h9 hp9 => ?_)
      obtain ⟨⟨g, rfl, y2, y3⟩, rfl⟩ := hp9
      refine mi_iinc dX5_passNight_36 rfl (by decide) rfl ?_
      dsimp only [List.set, Nat.reduceAdd]
      refine ms_goto (tgt := 10) dX5_passNight_39 (by decide) ?_
      refine ih (j + 1) _ (by omega) (by omega) (fun x hx => by rw [up_n _ _ hx]; exact q1 x hx) (fun i i0 i1 => ?_) hK
      rw [up_s]
      by_cases hi : i < 3 * j
      · rw [y3 i (by omega), q2 i i0 hi]
      · have e1 : i / 3 = j := by omega
        have e2 : i = j * 3 + i % 3 := by omega
        have y4 := y2.at (o := i % 3) (by omega) (by omega)
        rw [← e2, eT, eW] at y4
        rw [y4]
        unfold sp_mv
        rw [e1]
        cases hq : sp_out v j
        · rw [if_neg (by decide), if_pos ⟨i0, by simp only; omega, rfl⟩]
        · rw [if_pos rfl, if_neg (by rintro ⟨_, _, z⟩; cases z)]
          congr 1
          omega

set_option maxHeartbeats 4000000 in
set_option maxRecDepth 100000 in
theorem l_X5_pnB {S : mx_Sc} {f : Bool} {M : Nat → Int → Int} {L : Nat → Nat → Int64} {Rf : Nat → Nat → Option Nat} (hR : mx_rf Rf) {t : Nat} (ht : t = 29 ∨ t = 37) (hT : sp_tok (sp_tC M t)) {a : Nat} (ha : a = 3 ∨ a = 11 ∨ a = 18) (hwt : Rf 46 1 = some t) {P : Option Value → mx_H → Prop} {PX : String → mx_H → Prop} {z2 : Int} (hb1 : ∀ i, 0 ≤ i → i < 3 * M t 1 → (-1000 ≤ M (a + 1) i ∧ M (a + 1) i ≤ 1000) ∧ (-1000 ≤ M 47 i ∧ M 47 i ≤ 1000)) : ∀ (kk : Nat) (i : Int) (N : Nat → Int → Int) (b : Bool), 0 ≤ i → i + kk = 3 * M t 1 → (∀ x, x ≠ a + 1 → N x = M x) → (∀ k, N (a + 1) k = if 0 ≤ k ∧ k < i then M 47 k else M (a + 1) k) → (b = false → ∀ k, 0 ≤ k → k < i → M (a + 1) k = M 47 k) → (∀ (N : Nat → Int → Int) (b : Bool) (b2 : Int), (∀ x, x ≠ a + 1 → N x = M x) → (∀ i, N (a + 1) i = if 0 ≤ i ∧ i < 3 * M t 1 then M 47 i else M (a + 1) i) → (b = false → ∀ i, 0 ≤ i → i < 3 * M t 1 → M (a + 1) i = M 47 i) → mx_E S mX5_passNight 104 [some (.ref 46), some (.ref a), some (.int (iI z2)), some (.int (iI (bI b))), some (.int (iI b2))] [] (f, mx_SH, N, L, Rf) 0 0 P PX) → mx_E S mX5_passNight 45 [some (.ref 46), some (.ref a), some (.int (iI z2)), some (.int (iI (bI b))), some (.int (iI i))] [] (f, mx_SH, N, L, Rf) 0 0 P PX := by
  intro kk
  induction kk with
  | zero => 
    intro i N b g0 g1 q1 q2 q3 hK
    have ht9 : t < 900 := by omega
    have hs_t := tc_s ht
    have hs_t1 := tc_s1 ht
    have hr_t1 := tc_r1 hR ht
    have hs_t2 := tc_s2 ht
    have hr_t2 := tc_r2 hR ht
    have hs_t3 := tc_s3 ht
    have hr_t3 := tc_r3 hR ht
    have hs_t4 := tc_s4 ht
    have hr_t4 := tc_r4 hR ht
    have hs_t5 := tc_s5 ht
    have hr_t5 := tc_r5 hR ht
    have hs_t6 := tc_s6 ht
    have hr_t6 := tc_r6 hR ht
    have hs_t7 := tc_s7 ht
    have hr_t7 := tc_r7 hR ht
    have ha9 : a < 900 := by omega
    have hs_a := sc_s ha
    have hs_a1 := sc_s1 ha
    have hr_a1 := sc_r1 hR ha
    have hs_a2 := sc_s2 ha
    have hr_a2 := sc_r2 hR ha
    have hs_a3 := sc_s3 ha
    have hr_a3 := sc_r3 hR ha
    have hT0 : 1 ≤ M t 0 ∧ M t 0 ≤ 30 := hT.1
    have hT1 : 0 ≤ M t 1 ∧ M t 1 ≤ 6 := hT.2.1
    have hT2 : 1 ≤ M t 2 ∧ M t 2 ≤ 9 := hT.2.2.1
    have hT3 : 0 ≤ M t 3 ∧ M t 3 ≤ 9 := hT.2.2.2.1
    have hT4 : 0 ≤ M t 4 ∧ M t 4 ≤ 9 := hT.2.2.2.2.1
    have hT5 : 1 ≤ M t 5 ∧ M t 5 ≤ 99 := hT.2.2.2.2.2.1
    have hT6 : 0 ≤ M t 6 ∧ M t 6 ≤ 10 := hT.2.2.2.2.2.2.1
    have hTn : ((M t 1).toNat : Int) = M t 1 := Int.toNat_of_nonneg hT1.1
    have hTn6 : ((M t 6).toNat : Int) = M t 6 := Int.toNat_of_nonneg hT6.1
    have eN1 : N t 1 = M t 1 := by rw [q1 t (by omega)]
    have e47 : N 47 i = M 47 i := by rw [q1 47 (by omega)]
    have e48 : N (a + 1) i = M (a + 1) i := by rw [q2 i, if_neg (by omega)]
    have ei : i = 3 * M t 1 := by omega
    refine ms_iload dX5_passNight_45 rfl ?_
    refine ms_aload_n dX5_passNight_47 rfl ?_
    refine ms_getR dX5_passNight_48 (fo_X5_15 rfl) (by first | rfl | assumption) rfl (by first | assumption ) ?_
    refine ms_getI (z := 1) dX5_passNight_51 (fo_X5_62 rfl) (by first | rfl | assumption) rfl rfl ?_
    refine mi_iconst dX5_passNight_54 ?_
    refine mi_imul dX5_passNight_55 ?_
    refine mi_icmp_ge (tgt := 104) dX5_passNight_56 (by decide) (fun c_56 => ?_) (fun c_56 => ?_)
    · exact hK N b i q1 (fun k => by rw [q2 k, ei]) (fun z k k0 k1 => q3 z k k0 (by omega))
    · exact absurd c_56 (by omega)
  | succ kk ih => 
    intro i N b g0 g1 q1 q2 q3 hK
    have ht9 : t < 900 := by omega
    have hs_t := tc_s ht
    have hs_t1 := tc_s1 ht
    have hr_t1 := tc_r1 hR ht
    have hs_t2 := tc_s2 ht
    have hr_t2 := tc_r2 hR ht
    have hs_t3 := tc_s3 ht
    have hr_t3 := tc_r3 hR ht
    have hs_t4 := tc_s4 ht
    have hr_t4 := tc_r4 hR ht
    have hs_t5 := tc_s5 ht
    have hr_t5 := tc_r5 hR ht
    have hs_t6 := tc_s6 ht
    have hr_t6 := tc_r6 hR ht
    have hs_t7 := tc_s7 ht
    have hr_t7 := tc_r7 hR ht
    have ha9 : a < 900 := by omega
    have hs_a := sc_s ha
    have hs_a1 := sc_s1 ha
    have hr_a1 := sc_r1 hR ha
    have hs_a2 := sc_s2 ha
    have hr_a2 := sc_r2 hR ha
    have hs_a3 := sc_s3 ha
    have hr_a3 := sc_r3 hR ha
    have hT0 : 1 ≤ M t 0 ∧ M t 0 ≤ 30 := hT.1
    have hT1 : 0 ≤ M t 1 ∧ M t 1 ≤ 6 := hT.2.1
    have hT2 : 1 ≤ M t 2 ∧ M t 2 ≤ 9 := hT.2.2.1
    have hT3 : 0 ≤ M t 3 ∧ M t 3 ≤ 9 := hT.2.2.2.1
    have hT4 : 0 ≤ M t 4 ∧ M t 4 ≤ 9 := hT.2.2.2.2.1
    have hT5 : 1 ≤ M t 5 ∧ M t 5 ≤ 99 := hT.2.2.2.2.2.1
    have hT6 : 0 ≤ M t 6 ∧ M t 6 ≤ 10 := hT.2.2.2.2.2.2.1
    have hTn : ((M t 1).toNat : Int) = M t 1 := Int.toNat_of_nonneg hT1.1
    have hTn6 : ((M t 6).toNat : Int) = M t 6 := Int.toNat_of_nonneg hT6.1
    have eN1 : N t 1 = M t 1 := by rw [q1 t (by omega)]
    have e47 : N 47 i = M 47 i := by rw [q1 47 (by omega)]
    have e48 : N (a + 1) i = M (a + 1) i := by rw [q2 i, if_neg (by omega)]
    have hbi := hb1 i g0 (by omega)
    refine ms_iload dX5_passNight_45 rfl ?_
    refine ms_aload_n dX5_passNight_47 rfl ?_
    refine ms_getR dX5_passNight_48 (fo_X5_15 rfl) (by first | rfl | assumption) rfl (by first | assumption ) ?_
    refine ms_getI (z := 1) dX5_passNight_51 (fo_X5_62 rfl) (by first | rfl | assumption) rfl rfl ?_
    refine mi_iconst dX5_passNight_54 ?_
    refine mi_imul dX5_passNight_55 ?_
    refine mi_icmp_ge (tgt := 104) dX5_passNight_56 (by decide) (fun c_56 => ?_) (fun c_56 => ?_)
    · exact absurd c_56 (by omega)
    · refine ms_iload_n dX5_passNight_59 rfl ?_
      refine ms_aload_n dX5_passNight_60 rfl ?_
      refine ms_getR dX5_passNight_61 (fo_X5_69 rfl) (by first | rfl | assumption) rfl (by first | assumption | exact rf_3_0 hR | exact rf_11_0 hR | exact rf_18_0 hR ) ?_
      refine ms_iload dX5_passNight_64 rfl ?_
      refine ms_iald dX5_passNight_66 (by first | rfl | assumption) ?_
      refine ms_aload_n dX5_passNight_67 rfl ?_
      refine ms_getR dX5_passNight_68 (fo_X5_9 rfl) (by first | rfl | assumption) rfl (by first | assumption | exact rf_46_0 hR ) ?_
      refine ms_iload dX5_passNight_71 rfl ?_
      refine ms_iald dX5_passNight_73 (by first | rfl | assumption) ?_
      refine mi_icmp_eq (tgt := 81) dX5_passNight_74 (by decide) (fun c_74 => ?_) (fun c_74 => ?_)
      · refine mi_iconst dX5_passNight_81 ?_
        refine mi_ior (bI b) dX5_passNight_82 (by cases b <;> decide) ?_
        refine ms_istore_n dX5_passNight_83 (by decide) rfl ?_
        dsimp only [List.set, Nat.reduceAdd]
        refine ms_aload_n dX5_passNight_84 rfl ?_
        refine ms_getR dX5_passNight_85 (fo_X5_69 rfl) (by first | rfl | assumption) rfl (by first | assumption | exact rf_3_0 hR | exact rf_11_0 hR | exact rf_18_0 hR ) ?_
        refine ms_iload dX5_passNight_88 rfl ?_
        refine ms_aload_n dX5_passNight_90 rfl ?_
        refine ms_getR dX5_passNight_91 (fo_X5_9 rfl) (by first | rfl | assumption) rfl (by first | assumption | exact rf_46_0 hR ) ?_
        refine ms_iload dX5_passNight_94 rfl ?_
        refine ms_iald dX5_passNight_96 (by first | rfl | assumption) ?_
        refine ms_iast dX5_passNight_97 (by first | rfl | assumption) ?_
        refine mi_iinc dX5_passNight_98 rfl (by decide) rfl ?_
        dsimp only [List.set, Nat.reduceAdd]
        refine ms_goto (tgt := 45) dX5_passNight_101 (by decide) ?_
        refine ih (i + 1) _ b (by omega) (by omega) (fun x hx => by rw [up_n _ _ hx]; exact q1 x hx) (fun k => ?_) (fun z k k0 k1 => by by_cases hk : k = i; (subst hk; omega); exact q3 z k k0 (by omega)) hK
        rw [up_s]
        by_cases hk : k = i
        · subst hk
          rw [iu_s, if_pos (by omega), e47]
        · rw [iu_n _ _ hk, q2 k]
          by_cases hk2 : 0 ≤ k ∧ k < i
          · rw [if_pos hk2, if_pos (by omega)]
          · rw [if_neg hk2, if_neg (by omega)]
      · refine mi_iconst dX5_passNight_77 ?_
        refine ms_goto (tgt := 82) dX5_passNight_78 (by decide) ?_
        refine mi_ior (bI true) dX5_passNight_82 (by cases b <;> decide) ?_
        refine ms_istore_n dX5_passNight_83 (by decide) rfl ?_
        dsimp only [List.set, Nat.reduceAdd]
        refine ms_aload_n dX5_passNight_84 rfl ?_
        refine ms_getR dX5_passNight_85 (fo_X5_69 rfl) (by first | rfl | assumption) rfl (by first | assumption | exact rf_3_0 hR | exact rf_11_0 hR | exact rf_18_0 hR ) ?_
        refine ms_iload dX5_passNight_88 rfl ?_
        refine ms_aload_n dX5_passNight_90 rfl ?_
        refine ms_getR dX5_passNight_91 (fo_X5_9 rfl) (by first | rfl | assumption) rfl (by first | assumption | exact rf_46_0 hR ) ?_
        refine ms_iload dX5_passNight_94 rfl ?_
        refine ms_iald dX5_passNight_96 (by first | rfl | assumption) ?_
        refine ms_iast dX5_passNight_97 (by first | rfl | assumption) ?_
        refine mi_iinc dX5_passNight_98 rfl (by decide) rfl ?_
        dsimp only [List.set, Nat.reduceAdd]
        refine ms_goto (tgt := 45) dX5_passNight_101 (by decide) ?_
        refine ih (i + 1) _ true (by omega) (by omega) (fun x hx => by rw [up_n _ _ hx]; exact q1 x hx) (fun k => ?_) (fun z => by cases z) hK
        rw [up_s]
        by_cases hk : k = i
        · subst hk
          rw [iu_s, if_pos (by omega), e47]
        · rw [iu_n _ _ hk, q2 k]
          by_cases hk2 : 0 ≤ k ∧ k < i
          · rw [if_pos hk2, if_pos (by omega)]
          · rw [if_neg hk2, if_neg (by omega)]

/-- no wedding can be -/
def nw (t : sp_T) (v : Int → Int) : Prop := ∀ a b : Int, 0 ≤ a → a < t.1 1 → 0 ≤ b → b < t.1 1 → (b ≤ a ∨ sp_out v a = true ∨ sp_out v b = true ∨ t.2.2.1 a = t.2.2.1 b ∨ t.1 3 < sp_far v a b)
theorem wedA_nw {t : sp_T} (hT : sp_tok t) {n a : Int} (ha : 0 ≤ a ∧ a < t.1 1) {v : Int → Int} : ∀ k : Nat, (k : Int) ≤ t.1 1 → ((∀ b : Int, 0 ≤ b → b < k → (b ≤ a ∨ sp_out v a = true ∨ sp_out v b = true ∨ t.2.2.1 a = t.2.2.1 b ∨ t.1 3 < sp_far v a b)) ∧ itN (fun b v => sp_in t n a b v) k v = v) ∨ sp_cnt t v + 2 ≤ sp_cnt t (itN (fun b v => sp_in t n a b v) k v)
  | 0, _ => Or.inl ⟨fun b b0 b1 => by omega, rfl⟩
  | k + 1, hk => by
    have one : ∀ w : Int → Int, ((((k : Int) ≤ a ∨ sp_out w a = true ∨ sp_out w k = true ∨ t.2.2.1 a = t.2.2.1 k ∨ t.1 3 < sp_far w a k)) ∧ sp_in t n a k w = w) ∨ sp_cnt t (sp_in t n a k w) = sp_cnt t w + 2 := by
      intro w
      by_cases hc : (k : Int) ≤ a ∨ sp_out w a = true ∨ sp_out w k = true ∨ t.2.2.1 a = t.2.2.1 k ∨ t.1 3 < sp_far w a k
      · exact Or.inl ⟨hc, if_pos hc⟩
      · refine Or.inr ?_
        have e : sp_in t n a k w = sp_marry w a k n := if_neg hc
        rw [e]
        refine sp_cnt_marry hT ha ⟨by omega, by omega⟩ (by omega) ?_ ?_
        · cases q : sp_out w a
          · rfl
          · exact absurd (Or.inr (Or.inl q)) hc
        · cases q : sp_out w k
          · rfl
          · exact absurd (Or.inr (Or.inr (Or.inl q))) hc
    simp only [itN]
    rcases wedA_nw hT (n := n) ha (v := v) k (by omega) with ⟨h1, h2⟩ | h
    · rw [h2]
      rcases one v with ⟨h3, h4⟩ | h3
      · refine Or.inl ⟨fun b b0 b1 => ?_, h4⟩
        by_cases hb : b = k
        · subst hb
          exact h3
        · exact h1 b b0 (by omega)
      · exact Or.inr (by omega)
    · rcases one (itN (fun b v => sp_in t n a b v) k v) with ⟨h3, h4⟩ | h3
      · rw [h4]
        exact Or.inr h
      · exact Or.inr (by omega)
theorem wed_nw0 {t : sp_T} (hT : sp_tok t) {n : Int} {v : Int → Int} : ∀ k : Nat, (k : Int) ≤ t.1 1 → ((∀ a b : Int, 0 ≤ a → a < k → 0 ≤ b → b < t.1 1 → (b ≤ a ∨ sp_out v a = true ∨ sp_out v b = true ∨ t.2.2.1 a = t.2.2.1 b ∨ t.1 3 < sp_far v a b)) ∧ itN (fun a v => sp_wedA t n a v) k v = v) ∨ sp_cnt t v + 2 ≤ sp_cnt t (itN (fun a v => sp_wedA t n a v) k v)
  | 0, _ => Or.inl ⟨fun a b b0 b1 => by omega, rfl⟩
  | k + 1, hk => by
    have h6 := hT.2.1
    have one : ∀ w, ((∀ b : Int, 0 ≤ b → b < (t.1 1).toNat → (b ≤ k ∨ sp_out w k = true ∨ sp_out w b = true ∨ t.2.2.1 k = t.2.2.1 b ∨ t.1 3 < sp_far w k b)) ∧ sp_wedA t n k w = w) ∨ sp_cnt t w + 2 ≤ sp_cnt t (sp_wedA t n k w) := fun w => wedA_nw hT (n := n) (a := (k : Int)) ⟨by omega, by omega⟩ (v := w) (t.1 1).toNat (by omega)
    simp only [itN]
    rcases wed_nw0 hT (n := n) (v := v) k (by omega) with ⟨h1, h2⟩ | h
    · rw [h2]
      rcases one v with ⟨h3, h4⟩ | h3
      · refine Or.inl ⟨fun a b a0 a1 b0 b1 => ?_, h4⟩
        by_cases hb : a = k
        · subst hb
          exact h3 b b0 (by omega)
        · exact h1 a b a0 (by omega) b0 b1
      · exact Or.inr h3
    · rcases one (itN (fun a v => sp_wedA t n a v) k v) with ⟨h3, h4⟩ | h3
      · rw [h4]
        exact Or.inr h
      · exact Or.inr (by omega)
theorem wed_nw {t : sp_T} (hT : sp_tok t) (n : Int) (v : Int → Int) : (nw t v ∧ sp_wed t n v = v) ∨ sp_cnt t v + 2 ≤ sp_cnt t (sp_wed t n v) := by
  have h6 := hT.2.1
  rcases wed_nw0 hT (n := n) (v := v) (t.1 1).toNat (by omega) with ⟨h1, h2⟩ | h
  · exact Or.inl ⟨fun a b a0 a1 b0 b1 => h1 a b a0 (by omega) b0 b1, h2⟩
  · exact Or.inr h
theorem nw_wed {t : sp_T} (hT : sp_tok t) (n : Int) {v : Int → Int} (h : nw t v) : sp_wed t n v = v := by
  have h6 := hT.2.1
  have kA : ∀ a : Int, 0 ≤ a → a < t.1 1 → ∀ k : Nat, (k : Int) ≤ t.1 1 → itN (fun b v => sp_in t n a b v) k v = v := by
    intro a a0 a1 k
    induction k with
    | zero => intro _; rfl
    | succ k ih =>
      intro hk
      simp only [itN]
      rw [ih (by omega)]
      exact if_pos (h a k a0 a1 (by omega) (by omega))
  have kO : ∀ k : Nat, (k : Int) ≤ t.1 1 → itN (fun a v => sp_wedA t n a v) k v = v := by
    intro k
    induction k with
    | zero => intro _; rfl
    | succ k ih =>
      intro hk
      simp only [itN]
      rw [ih (by omega)]
      exact kA k (by omega) (by omega) _ (by omega)
  exact kO _ (by omega)
theorem scR.set3 {t : sp_T} {M : Nat → Int → Int} {a : Nat} {v : Int → Int} (h : scR t M a v) (x : Int) : scR t (va_up M a (iu (M a) 3 x)) a v := by
  unfold scR
  rw [up_n _ _ (show a + 1 ≠ a by omega), up_n _ _ (show a + 2 ≠ a by omega), up_n _ _ (show a + 3 ≠ a by omega), up_s, iu_n _ _ (by decide), iu_n _ _ (by decide)]
  exact h

set_option maxHeartbeats 4000000 in
set_option maxRecDepth 100000 in
theorem k_X5_passNight {S : mx_Sc} {f : Bool} {M : Nat → Int → Int} {L : Nat → Nat → Int64} {Rf : Nat → Nat → Option Nat} (hR : mx_rf Rf) {t : Nat} (ht : t = 29 ∨ t = 37) (hT : sp_tok (sp_tC M t)) {a : Nat} (ha : a = 3 ∨ a = 11 ∨ a = 18) (hwt : Rf 46 1 = some t) {wr : Nat} (hwr : wr = t + 3 ∨ wr = 23) (hwl : Rf 46 2 = some wr) (hlk : sp_lok (sp_tC M t) (M wr)) {v : Int → Int} (hsc : scR (sp_tC M t) M a v) (hv : sp_vok (sp_tC M t) v) {n : Int} (hn : 0 ≤ n ∧ n ≤ 1200) (hnn : M a 3 = n) {hf ng : Bool} (hng : M 46 4 = bI ng) (hst : M 46 3 = (if hf = true then (M t 2 + 1) / 2 else M t 2)) : mx_C S mX5_passNight [.ref 46, .ref a] (f, mx_SH, M, L, Rf) 0 0 (fun v9 h9 => ∃ N c, h9 = (f, mx_SH, N, L, Rf) ∧ v9 = some (.int (iI (bI c))) ∧ (∀ x, x ≠ 47 → x ≠ a → x ≠ a + 1 → x ≠ a + 2 → x ≠ a + 3 → N x = M x) ∧ N a 3 = n + 1 ∧ (∀ i, 3 * M t 1 ≤ i → N (a + 1) i = M (a + 1) i) ∧ scR (sp_tC M t) N a (sp_night (sp_tC M t) (M wr) hf ng n v) ∧ sp_vok (sp_tC M t) (sp_night (sp_tC M t) (M wr) hf ng n v) ∧ (c = false → sp_mv (sp_tC M t) (M wr) hf ng n v = v ∧ nw (sp_tC M t) v)) (fun _ _ => False) := by
  refine mx_C_of (by decide) (by simp [Value.category]) (Nat.le_of_ble_eq_true rfl) rfl ?_
  show mx_E S mX5_passNight 0 [some (.ref 46), some (.ref a), none, none, none] [] (f, mx_SH, M, L, Rf) 0 0 _ _
  have ht9 : t < 900 := by omega
  have hs_t := tc_s ht
  have hs_t1 := tc_s1 ht
  have hr_t1 := tc_r1 hR ht
  have hs_t2 := tc_s2 ht
  have hr_t2 := tc_r2 hR ht
  have hs_t3 := tc_s3 ht
  have hr_t3 := tc_r3 hR ht
  have hs_t4 := tc_s4 ht
  have hr_t4 := tc_r4 hR ht
  have hs_t5 := tc_s5 ht
  have hr_t5 := tc_r5 hR ht
  have hs_t6 := tc_s6 ht
  have hr_t6 := tc_r6 hR ht
  have hs_t7 := tc_s7 ht
  have hr_t7 := tc_r7 hR ht
  have ha9 : a < 900 := by omega
  have hs_a := sc_s ha
  have hs_a1 := sc_s1 ha
  have hr_a1 := sc_r1 hR ha
  have hs_a2 := sc_s2 ha
  have hr_a2 := sc_r2 hR ha
  have hs_a3 := sc_s3 ha
  have hr_a3 := sc_r3 hR ha
  have hT0 : 1 ≤ M t 0 ∧ M t 0 ≤ 30 := hT.1
  have hT1 : 0 ≤ M t 1 ∧ M t 1 ≤ 6 := hT.2.1
  have hT2 : 1 ≤ M t 2 ∧ M t 2 ≤ 9 := hT.2.2.1
  have hT3 : 0 ≤ M t 3 ∧ M t 3 ≤ 9 := hT.2.2.2.1
  have hT4 : 0 ≤ M t 4 ∧ M t 4 ≤ 9 := hT.2.2.2.2.1
  have hT5 : 1 ≤ M t 5 ∧ M t 5 ≤ 99 := hT.2.2.2.2.2.1
  have hT6 : 0 ≤ M t 6 ∧ M t 6 ≤ 10 := hT.2.2.2.2.2.2.1
  have hTn : ((M t 1).toNat : Int) = M t 1 := Int.toNat_of_nonneg hT1.1
  have hTn6 : ((M t 6).toNat : Int) = M t 6 := Int.toNat_of_nonneg hT6.1
  have hs_w : mx_SH[wr]? = some (0, 6) := by rcases hwr with rfl | rfl; exact tc_s3 ht; rfl
  have hw9 : wr < 900 := by omega
  refine ms_aload_n dX5_passNight_0 rfl ?_
  refine ms_getI (z := 5) dX5_passNight_1 (fo_X5_59 rfl) (by first | rfl | assumption) rfl rfl ?_
  refine ms_istore_n dX5_passNight_4 (by decide) rfl ?_
  dsimp only [List.set, Nat.reduceAdd]
  refine mi_iconst dX5_passNight_5 ?_
  refine ms_istore_n dX5_passNight_6 (by decide) rfl ?_
  dsimp only [List.set, Nat.reduceAdd]
  refine mi_iconst dX5_passNight_7 ?_
  refine ms_istore dX5_passNight_8 (by decide) rfl ?_
  dsimp only [List.set, Nat.reduceAdd]
  refine l_X5_pnA (S := S) (f := f) (L := L) (n := n) (v := v) (hf := hf) (ng := ng) (P := (fun v9 h9 => ∃ N c, h9 = (f, mx_SH, N, L, Rf) ∧ v9 = some (.int (iI (bI c))) ∧ (∀ x, x ≠ 47 → x ≠ a → x ≠ a + 1 → x ≠ a + 2 → x ≠ a + 3 → N x = M x) ∧ N a 3 = n + 1 ∧ (∀ i, 3 * M t 1 ≤ i → N (a + 1) i = M (a + 1) i) ∧ scR (sp_tC M t) N a (sp_night (sp_tC M t) (M wr) hf ng n v) ∧ sp_vok (sp_tC M t) (sp_night (sp_tC M t) (M wr) hf ng n v) ∧ (c = false → sp_mv (sp_tC M t) (M wr) hf ng n v = v ∧ nw (sp_tC M t) v))) (PX := fun _ _ => False) hR ht hT ha hwt hwr hwl hlk hsc hv hn hnn hng hst (M t 1).toNat 0 M (by omega) (by omega) (fun _ _ => rfl) (fun i i0 i1 => by omega) (fun N b2 q1 q2 => ?_)
  have eM1 : N t 1 = M t 1 := by rw [q1 t (by omega)]
  refine mi_iconst dX5_passNight_42 ?_
  refine ms_istore dX5_passNight_43 (by decide) rfl ?_
  dsimp only [List.set, Nat.reduceAdd]
  have hvo := sp_mv_ok hT hv hlk hf ng n (k := M t 1) (Int.le_refl _)
  refine l_X5_pnB (S := S) (f := f) (L := L) (M := N) (P := (fun v9 h9 => ∃ N c, h9 = (f, mx_SH, N, L, Rf) ∧ v9 = some (.int (iI (bI c))) ∧ (∀ x, x ≠ 47 → x ≠ a → x ≠ a + 1 → x ≠ a + 2 → x ≠ a + 3 → N x = M x) ∧ N a 3 = n + 1 ∧ (∀ i, 3 * M t 1 ≤ i → N (a + 1) i = M (a + 1) i) ∧ scR (sp_tC M t) N a (sp_night (sp_tC M t) (M wr) hf ng n v) ∧ sp_vok (sp_tC M t) (sp_night (sp_tC M t) (M wr) hf ng n v) ∧ (c = false → sp_mv (sp_tC M t) (M wr) hf ng n v = v ∧ nw (sp_tC M t) v))) (PX := fun _ _ => False) hR ht (by rw [tC_fr (fun x _ _ => q1 x (by omega))]; exact hT) ha hwt (fun i i0 i1 => ?_) (3 * M t 1).toNat 0 N false (by omega) (by rw [eM1]; omega) (fun _ _ => rfl) (fun k => by rw [if_neg (by omega)]) (fun _ k k0 k1 => by omega) (fun N2 b b3 p1 p2 p3 => ?_)
  · rw [eM1] at i1
    have h1 := scR.b hT hsc hv (x := i / 3) ⟨by omega, by simp only; omega⟩ (o := i % 3) (by omega) (by omega)
    rw [show i / 3 * 3 + i % 3 = i by omega] at h1
    have h2 := hvo.1 (i / 3) (by omega) (by simp only; omega)
    have h3 := q2 i i0 i1
    rw [q1 (a + 1) (by omega), h3]
    refine ⟨by omega, ?_⟩
    have h4 : (sp_mv (sp_tC M t) (M wr) hf ng n v i = sp_mvk (sp_tC M t) (M wr) hf ng n v (M t 1) (3 * (i / 3))) ∨ (sp_mv (sp_tC M t) (M wr) hf ng n v i = sp_mvk (sp_tC M t) (M wr) hf ng n v (M t 1) (3 * (i / 3) + 1)) ∨ (sp_mv (sp_tC M t) (M wr) hf ng n v i = sp_mvk (sp_tC M t) (M wr) hf ng n v (M t 1) (3 * (i / 3) + 2)) := by
      rcases (show i = 3 * (i / 3) ∨ i = 3 * (i / 3) + 1 ∨ i = 3 * (i / 3) + 2 by omega) with e | e | e
      · exact Or.inl (congrArg (sp_mvk (sp_tC M t) (M wr) hf ng n v (M t 1)) e)
      · exact Or.inr (Or.inl (congrArg (sp_mvk (sp_tC M t) (M wr) hf ng n v (M t 1)) e))
      · exact Or.inr (Or.inr (congrArg (sp_mvk (sp_tC M t) (M wr) hf ng n v (M t 1)) e))
    simp only at h2
    omega
  · have hf1 : ∀ x, x ≠ a + 1 → x ≠ 47 → N2 x = M x := fun x h1 h2 => by rw [p1 x h1, q1 x h2]
    have eT2 : sp_tC N2 t = sp_tC M t := tC_fr (fun x _ _ => hf1 x (by omega) (by omega))
    have hsc2 : scR (sp_tC M t) N2 a (sp_mv (sp_tC M t) (M wr) hf ng n v) := by
      refine ⟨fun i i0 i1 => ?_, fun l l0 l1 => ?_, ?_, fun l l0 l1 => ?_, ?_⟩
      · simp only at i1
        rw [p2 i, if_pos ⟨i0, by rw [eM1]; exact i1⟩, q2 i i0 i1]
      · have h1 := hsc.2.1 l l0 l1
        rw [hf1 (a + 2) (by omega) (by omega), hf1 (a + 3) (by omega) (by omega)]
        unfold sp_mv
        rw [if_neg (by simp only; omega), if_neg (by simp only; omega)]
        exact h1
      · rw [hf1 a (by omega) (by omega)]
        exact hsc.2.2.1
      · rw [hf1 a (by omega) (by omega), hsc.2.2.2.1 l l0 l1]
        unfold sp_out sp_mv
        rw [if_neg (by simp only; omega)]
      · have h1 : sp_cnt (sp_tC M t) (sp_mv (sp_tC M t) (M wr) hf ng n v) = sp_cnt (sp_tC M t) v := sp_cnt_mvk (sp_tC M t) (M wr) hf ng n v (M t 1) (by omega)
        rw [hf1 a (by omega) (by omega), hsc.2.2.2.2, h1]
    have eN2 : N2 a 3 = n := by rw [hf1 a (by omega) (by omega)]; exact hnn
    refine ms_aload_n dX5_passNight_104 rfl ?_
    refine ms_aload_n dX5_passNight_105 rfl ?_
    refine ms_getR dX5_passNight_106 (fo_X5_15 rfl) (by first | rfl | assumption) rfl (by first | assumption ) ?_
    refine ms_callV1 (ci := 2) (r := (RX2, TX2, 6)) dX5_passNight_109 cv_X5_passNight_X2_marryAll (k_X2_marryAll (M := N2) (n := n) (v := sp_mv (sp_tC M t) (M wr) hf ng n v) hR ht (by rw [eT2]; exact hT) ha hn eN2 (by rw [eT2]; exact hsc2) (by rw [eT2]; exact hvo)) rfl rfl (by first | rfl | assumption) (Nat.le_of_ble_eq_true rfl) rfl (fun _ _ z => z.elim) (fun v9 h9 hp9 => ?_)
    obtain ⟨N3, rfl, rfl, z1, z2, z3, z4⟩ := hp9
    rw [eT2] at z3 z4
    have eN3 : N3 a 3 = n := by rw [z2 3 (by decide) (by decide)]; exact eN2
    have ec0 := hsc.2.2.2.2
    have ec3 := z3.2.2.2.2
    have ecl := sp_cnt_le (sp_tC M t) (sp_wed (sp_tC M t) n (sp_mv (sp_tC M t) (M wr) hf ng n v))
    have ecl0 := sp_cnt_le (sp_tC M t) v
    have ec5 : va_up N3 a (iu (N3 a) 3 (N3 a 3 + 1)) a 5 = N3 a 5 := by rw [up_s, iu_n _ _ (by decide)]
    simp only at ecl ecl0
    refine ms_aload_n dX5_passNight_112 rfl ?_
    refine ms_dup dX5_passNight_113 rfl ?_
    refine ms_getI (z := 3) dX5_passNight_114 (fo_X5_38 rfl) (by first | rfl | assumption) rfl rfl ?_
    refine mi_iconst dX5_passNight_117 ?_
    refine mi_iadd dX5_passNight_118 ?_
    refine ms_putI (z := 3) dX5_passNight_119 (fo_X5_38 rfl) (by first | rfl | assumption) rfl rfl rfl ?_
    refine ms_iload_n dX5_passNight_122 rfl ?_
    refine mi_if_neB (tgt := 134) dX5_passNight_123 (by decide) (fun c_123 => ?_) (fun c_123 => ?_)
    · refine mi_iconst dX5_passNight_134 ?_
      refine ms_goto (tgt := 139) dX5_passNight_135 (by decide) ?_
      refine ms_retZ dX5_passNight_139 rfl (by first | exact Or.inl rfl | exact Or.inr rfl) ⟨_, true, rfl, rfl, ?_, ?_, ?_, ?_, ?_, ?_⟩ (by simp)
      · intro x h1 h2 h3 h4 h5
        rw [up_n _ _ h2, z1 x h2 h4 h5, p1 x h3, q1 x h1]
      · rw [up_s, iu_s, eN3]
      · intro i hi
        rw [up_n _ _ (by omega), z1 (a + 1) (by omega) (by omega) (by omega), p2 i, if_neg (by rw [eM1]; omega), q1 _ (by omega)]
      · exact z3.set3 _
      · exact z4
      · intro z
        cases z
    · refine ms_aload_n dX5_passNight_126 rfl ?_
      refine ms_getI (z := 5) dX5_passNight_127 (fo_X5_59 rfl) (by first | rfl | assumption) rfl rfl ?_
      refine ms_iload_n dX5_passNight_130 rfl ?_
      refine mi_icmp_eq (tgt := 138) dX5_passNight_131 (by decide) (fun c_131 => ?_) (fun c_131 => ?_)
      · refine mi_iconst dX5_passNight_138 ?_
        refine ms_retZ dX5_passNight_139 rfl (by first | exact Or.inl rfl | exact Or.inr rfl) ⟨_, false, rfl, rfl, ?_, ?_, ?_, ?_, ?_, ?_⟩ (by simp)
        · intro x h1 h2 h3 h4 h5
          rw [up_n _ _ h2, z1 x h2 h4 h5, p1 x h3, q1 x h1]
        · rw [up_s, iu_s, eN3]
        · intro i hi
          rw [up_n _ _ (by omega), z1 (a + 1) (by omega) (by omega) (by omega), p2 i, if_neg (by rw [eM1]; omega), q1 _ (by omega)]
        · exact z3.set3 _
        · exact z4
        · intro _
          have hb0 := p3 c_123
          have hmv : sp_mv (sp_tC M t) (M wr) hf ng n v = v := by
            funext i
            by_cases hi : 0 ≤ i ∧ i < 3 * M t 1
            · rw [← q2 i hi.1 hi.2, ← hb0 i hi.1 (by rw [eM1]; exact hi.2), q1 (a + 1) (by omega)]
              exact hsc.1 i hi.1 hi.2
            · unfold sp_mv
              rw [if_neg (by simp only; omega)]
          refine ⟨hmv, ?_⟩
          rw [hmv] at ec3
          rcases wed_nw hT n v with h | h
          · exact h.1
          · omega
      · refine mi_iconst dX5_passNight_134 ?_
        refine ms_goto (tgt := 139) dX5_passNight_135 (by decide) ?_
        refine ms_retZ dX5_passNight_139 rfl (by first | exact Or.inl rfl | exact Or.inr rfl) ⟨_, true, rfl, rfl, ?_, ?_, ?_, ?_, ?_, ?_⟩ (by simp)
        · intro x h1 h2 h3 h4 h5
          rw [up_n _ _ h2, z1 x h2 h4 h5, p1 x h3, q1 x h1]
        · rw [up_s, iu_s, eN3]
        · intro i hi
          rw [up_n _ _ (by omega), z1 (a + 1) (by omega) (by omega) (by omega), p2 i, if_neg (by rw [eM1]; omega), q1 _ (by omega)]
        · exact z3.set3 _
        · exact z4
        · intro z
          cases z

