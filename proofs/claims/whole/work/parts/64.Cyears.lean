theorem ob_p20 : ∀ l : Fin 6, ob (2 ^ ((l.val : Int)).toNat) (l.val : Int) = 1 := by decide +kernel
theorem ob_p2 {l : Int} (h : 0 ≤ l ∧ l < 6) : ob (2 ^ l.toNat) l = 1 := fin_of (n := 6) (P := fun l => ob (2 ^ l.toNat) l = 1) ob_p20 h.1 h.2
set_option maxHeartbeats 4000000 in
set_option maxRecDepth 100000 in
theorem l_X6_yr {S : mx_Sc} {f : Bool} {M : Nat → Int → Int} {L : Nat → Nat → Int64} {Rf : Nat → Nat → Option Nat} (hR : mx_rf Rf) {t : Nat} (ht : t = 29 ∨ t = 37) (hT : sp_tok (sp_tC M t)) (hto : Rf 0 10 = some t) (hwt : Rf 46 1 = some t) (hwl : Rf 46 2 = some 23) (hng : M 46 4 = bI false) (hst : M 46 3 = M t 2) {l s u : Int} (hl : 0 ≤ l ∧ l < M t 1) (hu : 0 ≤ u ∧ u ≤ 40) (hv0 : sp_vok (sp_tC M t) (bgv (M (t + 4)))) : ∀ (kk : Nat) (k : Nat) (N : Nat → Int → Int), (k : Int) + kk = u → (∀ x, x ≠ 47 → x ≠ 23 → x ≠ 18 → x ≠ 19 → x ≠ 20 → x ≠ 21 → N x = M x) → mx_E S mX6_years 48 [some (.ref 0), some (.int (iI l)), some (.int (iI s)), some (.int (iI u)), some (.int (iI (yal (sp_tC M t) (M (t + 4)) s l k))), some (.int (iI (ysd (sp_tC M t) s k))), some (.int (iI (k : Int)))] [] (f, mx_SH, N, L, Rf) 0 0 (fun v9 h9 => ∃ N, h9 = (f, mx_SH, N, L, Rf) ∧ v9 = some (.int (iI (yal (sp_tC M t) (M (t + 4)) s l u.toNat))) ∧ (∀ x, x ≠ 47 → x ≠ 23 → x ≠ 18 → x ≠ 19 → x ≠ 20 → x ≠ 21 → N x = M x)) (fun _ _ => False) := by
  intro kk
  induction kk with
  | zero => 
    intro k N g1 q1
    have ht9 : t < 900 := by omega
    have hs_t := tc_s ht
    have hs_t1 := tc_s1 ht
    have hr_t1 := tc_r1 hR ht
    have hs_t2 := tc_s2 ht
    have hr_t2 := tc_r2 hR ht
    have hs_t3 := tc_s3 ht
    have hr_t3 := tc_r3 hR ht
    have hs_t4 := tc_s4 ht
    have hr_t4 := tc_r4 hR ht
    have hs_t5 := tc_s5 ht
    have hr_t5 := tc_r5 hR ht
    have hs_t6 := tc_s6 ht
    have hr_t6 := tc_r6 hR ht
    have hs_t7 := tc_s7 ht
    have hr_t7 := tc_r7 hR ht
    have hT0 : 1 ≤ M t 0 ∧ M t 0 ≤ 30 := hT.1
    have hT1 : 0 ≤ M t 1 ∧ M t 1 ≤ 6 := hT.2.1
    have hT2 : 1 ≤ M t 2 ∧ M t 2 ≤ 9 := hT.2.2.1
    have hT3 : 0 ≤ M t 3 ∧ M t 3 ≤ 9 := hT.2.2.2.1
    have hT4 : 0 ≤ M t 4 ∧ M t 4 ≤ 9 := hT.2.2.2.2.1
    have hT5 : 1 ≤ M t 5 ∧ M t 5 ≤ 99 := hT.2.2.2.2.2.1
    have hT6 : 0 ≤ M t 6 ∧ M t 6 ≤ 10 := hT.2.2.2.2.2.2.1
    have hTn : ((M t 1).toNat : Int) = M t 1 := Int.toNat_of_nonneg hT1.1
    have hTn6 : ((M t 6).toNat : Int) = M t 6 := Int.toNat_of_nonneg hT6.1
    refine ms_iload dX6_years_48 rfl ?_
    refine ms_iload_n dX6_years_50 rfl ?_
    refine mi_icmp_ge (tgt := 107) dX6_years_51 (by decide) (fun c_51 => ?_) (fun c_51 => ?_)
    · refine ms_iload dX6_years_107 rfl ?_
      refine ms_ret dX6_years_109 rfl ⟨N, rfl, by rw [show u.toNat = k by omega], q1⟩ (by simp)
    · exact absurd c_51 (by omega)
  | succ kk ih => 
    intro k N g1 q1
    have ht9 : t < 900 := by omega
    have hs_t := tc_s ht
    have hs_t1 := tc_s1 ht
    have hr_t1 := tc_r1 hR ht
    have hs_t2 := tc_s2 ht
    have hr_t2 := tc_r2 hR ht
    have hs_t3 := tc_s3 ht
    have hr_t3 := tc_r3 hR ht
    have hs_t4 := tc_s4 ht
    have hr_t4 := tc_r4 hR ht
    have hs_t5 := tc_s5 ht
    have hr_t5 := tc_r5 hR ht
    have hs_t6 := tc_s6 ht
    have hr_t6 := tc_r6 hR ht
    have hs_t7 := tc_s7 ht
    have hr_t7 := tc_r7 hR ht
    have hT0 : 1 ≤ M t 0 ∧ M t 0 ≤ 30 := hT.1
    have hT1 : 0 ≤ M t 1 ∧ M t 1 ≤ 6 := hT.2.1
    have hT2 : 1 ≤ M t 2 ∧ M t 2 ≤ 9 := hT.2.2.1
    have hT3 : 0 ≤ M t 3 ∧ M t 3 ≤ 9 := hT.2.2.2.1
    have hT4 : 0 ≤ M t 4 ∧ M t 4 ≤ 9 := hT.2.2.2.2.1
    have hT5 : 1 ≤ M t 5 ∧ M t 5 ≤ 99 := hT.2.2.2.2.2.1
    have hT6 : 0 ≤ M t 6 ∧ M t 6 ≤ 10 := hT.2.2.2.2.2.2.1
    have hTn : ((M t 1).toNat : Int) = M t 1 := Int.toNat_of_nonneg hT1.1
    have hTn6 : ((M t 6).toNat : Int) = M t 6 := Int.toNat_of_nonneg hT6.1
    have eT : sp_tC N t = sp_tC M t := tC_fr (fun y _ _ => q1 y (by omega) (by omega) (by omega) (by omega) (by omega) (by omega))
    have eN : ∀ k, N t k = M t k := fun k => by rw [q1 t (by omega) (by omega) (by omega) (by omega) (by omega) (by omega)]
    have e46 : N 46 = M 46 := q1 46 (by omega) (by omega) (by omega) (by omega) (by omega) (by omega)
    have eoi : N (t + 4) = M (t + 4) := q1 (t + 4) (by omega) (by omega) (by omega) (by omega) (by omega) (by omega)
    have hp2 := p2_lt (l := l) (by omega)
    refine ms_iload dX6_years_48 rfl ?_
    refine ms_iload_n dX6_years_50 rfl ?_
    refine mi_icmp_ge (tgt := 107) dX6_years_51 (by decide) (fun c_51 => ?_) (fun c_51 => ?_)
    · exact absurd c_51 (by omega)
    · refine ms_aload_n dX6_years_54 rfl ?_
      refine ms_iload dX6_years_55 rfl ?_
      refine ms_callV1 (ci := 6) (r := (RX6, TX6, 15)) dX6_years_57 cv_X6_years_X6_drawLikes (k_X6_drawLikes (M := N) (s := ysd (sp_tC M t) s k) hR ht (by rw [eT]; exact hT) hto) rfl rfl (by first | rfl | assumption) (Nat.le_of_ble_eq_true rfl) rfl (fun _ _ z => z.elim) (fun v9 h9 hp9 => ?_)
      obtain ⟨g2, rfl, rfl, d3⟩ := hp9
      rw [eT, eN] at d3
      rw [eT, eN]
      refine ms_istore dX6_years_60 (by decide) rfl ?_
      dsimp only [List.set, Nat.reduceAdd]
      refine ms_aload_n dX6_years_62 rfl ?_
      refine ms_getR dX6_years_63 (fo_X6_26 rfl) (by first | rfl | assumption) rfl (by first | assumption | exact rf_0_4 hR ) ?_
      refine ms_aload_n dX6_years_66 rfl ?_
      refine ms_getR dX6_years_67 (fo_X6_50 rfl) (by first | rfl | assumption) rfl (by first | assumption ) ?_
      refine ms_callV1 (ci := 2) (r := (RX2, TX2, 6)) dX6_years_70 cv_X6_years_X2_begin (k_X2_begin (M := va_up N 23 g2) (a := 18) ht (by omega) hs_t hs_t4 hr_t4 (sc_s (by omega)) (sc_s1 (by omega)) (sc_s2 (by omega)) (sc_s3 (by omega)) (sc_r1 hR (by omega)) (sc_r2 hR (by omega)) (sc_r3 hR (by omega))) rfl rfl (by first | rfl | assumption) (Nat.le_of_ble_eq_true rfl) rfl (fun _ _ z => z.elim) (fun v9 h9 hp9 => ?_)
      obtain ⟨N2, rfl, rfl, z1, z2, z3, z4, z5, z6⟩ := hp9
      have f2 : ∀ x, x ≠ 23 → x ≠ 18 → x ≠ 19 → x ≠ 20 → x ≠ 21 → N2 x = N x := fun x x1 x2 x3 x4 x5 => by rw [z1 x x2 x3 x4 x5, up_n _ _ x1]
      have eT2 : sp_tC N2 t = sp_tC M t := by rw [← eT]; exact tC_fr (fun y _ _ => f2 y (by omega) (by omega) (by omega) (by omega) (by omega))
      have eN2 : ∀ k, N2 t k = M t k := fun k => by rw [f2 t (by omega) (by omega) (by omega) (by omega) (by omega)]; exact eN k
      have e462 : N2 46 = M 46 := by rw [f2 46 (by decide) (by decide) (by decide) (by decide) (by decide)]; exact e46
      have e23 : N2 23 = g2 := by rw [z1 23 (by decide) (by decide) (by decide) (by decide), up_s]
      have hlkc : ∀ x, 0 ≤ x → x < (sp_tC M t).1 1 → N2 23 x = sp_dl (sp_tC M t) (ysd (sp_tC M t) s k) x := fun x x0 x1 => by rw [e23]; exact d3 x x0 x1
      have hs18 : scR (sp_tC M t) N2 18 (bgv (M (t + 4))) := bgv_sc hT (fun i i0 i1 => by rw [z2 i i0 i1, up_n _ _ (by omega), eoi]) z3 z5 z6
      refine ms_aload_n dX6_years_73 rfl ?_
      refine ms_getR dX6_years_74 (fo_X6_75 rfl) (by first | rfl | assumption) rfl (by first | assumption | exact rf_0_9 hR ) ?_
      refine ms_aload_n dX6_years_77 rfl ?_
      refine ms_getR dX6_years_78 (fo_X6_26 rfl) (by first | rfl | assumption) rfl (by first | assumption | exact rf_0_4 hR ) ?_
      refine mi_iconst dX6_years_81 ?_
      refine ms_iload_n dX6_years_82 rfl ?_
      refine mi_ishl (2 ^ l.toNat) dX6_years_83 (p2_shl (by omega)) ?_
      refine ms_callV2 (ci := 5) (r := (RX5, TX5, 5)) dX6_years_84 cv_X6_years_X5_goToEaster (k_X5_goToEaster (M := N2) (a := 18) (v := bgv (M (t + 4))) (n := 0) (hf := false) (ng := false) (wr := 23) (lm := 2 ^ l.toNat) hR ht (by rw [eT2]; exact hT) (by omega) hwt (Or.inr rfl) hwl (by rw [eT2]; exact lok_cg hlkc (dl_lok hT _)) (by rw [eT2]; exact hs18) (by rw [eT2]; exact hv0) (by omega) z4 (by rw [e462]; exact hng) (by rw [e462, eN2]; exact hst) hp2 (by rw [eN2]; omega)) rfl rfl (by first | rfl | assumption) (Nat.le_of_ble_eq_true rfl) rfl (fun _ _ z => z.elim) (fun v9 h9 hp9 => ?_)
      obtain ⟨N3, w, rfl, rfl, y1, y2, y3, y4, y5⟩ := hp9
      rw [eT2] at y3 y4 y5
      have y6 := y5 l (by omega) (by omega) (ob_p2 (by omega))
      rw [run_lk hlkc, eN2, show (M t 5 - 0).toNat = (M t 5).toNat by omega] at y6
      have hoo : sp_out w l = sp_out (sp_run (sp_tC M t) (sp_dl (sp_tC M t) (ysd (sp_tC M t) s k)) false false 0 (M t 5).toNat (bgv (M (t + 4)))) l := by
        unfold sp_out
        rw [y6.1]
      refine ms_aload_n dX6_years_87 rfl ?_
      refine ms_getR dX6_years_88 (fo_X6_26 rfl) (by first | rfl | assumption) rfl (by first | assumption | exact rf_0_4 hR ) ?_
      refine ms_iload_n dX6_years_91 rfl ?_
      refine ms_callV1 (ci := 2) (r := (RX2, TX2, 6)) dX6_years_92 cv_X6_years_X2_isOut (k_X2_isOut (M := N3) (a := 18) (by omega) (l := l) (by omega) y3.2.2.1) rfl rfl (by first | rfl | assumption) (Nat.le_of_ble_eq_true rfl) rfl (fun _ _ z => z.elim) (fun v9 h9 hp9 => ?_)
      obtain ⟨rfl, rfl⟩ := hp9
      rw [y3.2.2.2.1 l (by omega) (by omega)]
      refine mi_if_neB (tgt := 101) dX6_years_95 (by decide) (fun c_95 => ?_) (fun c_95 => ?_)
      · refine mi_iinc dX6_years_101 rfl (by decide) rfl ?_
        dsimp only [List.set, Nat.reduceAdd]
        refine ms_goto (tgt := 48) dX6_years_104 (by decide) ?_
        have i9 := ih (k + 1) N3 (by omega) (fun x x0 x1 x2 x3 x4 x5 => by rw [y1 x x0 x2 x3 x4 x5, z1 x x2 x3 x4 x5, up_n _ _ x1, q1 x x0 x1 x2 x3 x4 x5])
        rw [show ysd (sp_tC M t) s (k + 1) = sp_ds (sp_tC M t) (ysd (sp_tC M t) s k) (M t 1).toNat from rfl, show yal (sp_tC M t) (M (t + 4)) s l (k + 1) = yal (sp_tC M t) (M (t + 4)) s l k from by simp only [yal]; rw [if_pos (by rw [← hoo]; exact c_95), Int.add_zero]] at i9
        exact i9
      · refine mi_iinc dX6_years_98 rfl (by decide) rfl ?_
        dsimp only [List.set, Nat.reduceAdd]
        refine mi_iinc dX6_years_101 rfl (by decide) rfl ?_
        dsimp only [List.set, Nat.reduceAdd]
        refine ms_goto (tgt := 48) dX6_years_104 (by decide) ?_
        have i9 := ih (k + 1) N3 (by omega) (fun x x0 x1 x2 x3 x4 x5 => by rw [y1 x x0 x2 x3 x4 x5, z1 x x2 x3 x4 x5, up_n _ _ x1, q1 x x0 x1 x2 x3 x4 x5])
        rw [show ysd (sp_tC M t) s (k + 1) = sp_ds (sp_tC M t) (ysd (sp_tC M t) s k) (M t 1).toNat from rfl, show yal (sp_tC M t) (M (t + 4)) s l (k + 1) = yal (sp_tC M t) (M (t + 4)) s l k + 1 from by simp only [yal]; rw [if_neg (by rw [← hoo, c_95]; decide)]] at i9
        exact i9

set_option maxHeartbeats 4000000 in
set_option maxRecDepth 100000 in
theorem k_X6_years {S : mx_Sc} {f : Bool} {M : Nat → Int → Int} {L : Nat → Nat → Int64} {Rf : Nat → Nat → Option Nat} (hR : mx_rf Rf) {t : Nat} (ht : t = 29 ∨ t = 37) (hT : sp_tok (sp_tC M t)) (hto : Rf 0 10 = some t) {l : Int} (hl32 : -2147483648 ≤ l ∧ l ≤ 2147483647) {u : Int} (hu32 : -2147483648 ≤ u ∧ u ≤ 2147483647) {s : Int} (hl : 0 ≤ l ∧ l < M t 1) (hu : 0 ≤ u ∧ u ≤ 40) (hv0 : sp_vok (sp_tC M t) (bgv (M (t + 4)))) : mx_C S mX6_years [.ref 0, .int (iI l), .int (iI s), .int (iI u)] (f, mx_SH, M, L, Rf) 0 0 (fun v9 h9 => ∃ N Rf2, h9 = (f, mx_SH, N, L, Rf2) ∧ v9 = some (.int (iI (yal (sp_tC M t) (M (t + 4)) s l u.toNat))) ∧ mx_rf Rf2 ∧ (∀ y, y ≠ 46 → Rf2 y = Rf y) ∧ (∀ x, x ≠ 46 → x ≠ 47 → x ≠ 23 → x ≠ 18 → x ≠ 19 → x ≠ 20 → x ≠ 21 → N x = M x)) (fun _ _ => False) := by
  refine mx_C_of (by decide) (by simp [Value.category]) (Nat.le_of_ble_eq_true rfl) rfl ?_
  show mx_E S mX6_years 0 [some (.ref 0), some (.int (iI l)), some (.int (iI s)), some (.int (iI u)), none, none, none] [] (f, mx_SH, M, L, Rf) 0 0 _ _
  have ht9 : t < 900 := by omega
  have hs_t := tc_s ht
  have hs_t1 := tc_s1 ht
  have hr_t1 := tc_r1 hR ht
  have hs_t2 := tc_s2 ht
  have hr_t2 := tc_r2 hR ht
  have hs_t3 := tc_s3 ht
  have hr_t3 := tc_r3 hR ht
  have hs_t4 := tc_s4 ht
  have hr_t4 := tc_r4 hR ht
  have hs_t5 := tc_s5 ht
  have hr_t5 := tc_r5 hR ht
  have hs_t6 := tc_s6 ht
  have hr_t6 := tc_r6 hR ht
  have hs_t7 := tc_s7 ht
  have hr_t7 := tc_r7 hR ht
  have hT0 : 1 ≤ M t 0 ∧ M t 0 ≤ 30 := hT.1
  have hT1 : 0 ≤ M t 1 ∧ M t 1 ≤ 6 := hT.2.1
  have hT2 : 1 ≤ M t 2 ∧ M t 2 ≤ 9 := hT.2.2.1
  have hT3 : 0 ≤ M t 3 ∧ M t 3 ≤ 9 := hT.2.2.2.1
  have hT4 : 0 ≤ M t 4 ∧ M t 4 ≤ 9 := hT.2.2.2.2.1
  have hT5 : 1 ≤ M t 5 ∧ M t 5 ≤ 99 := hT.2.2.2.2.2.1
  have hT6 : 0 ≤ M t 6 ∧ M t 6 ≤ 10 := hT.2.2.2.2.2.2.1
  have hTn : ((M t 1).toNat : Int) = M t 1 := Int.toNat_of_nonneg hT1.1
  have hTn6 : ((M t 6).toNat : Int) = M t 6 := Int.toNat_of_nonneg hT6.1
  refine ms_aload_n dX6_years_0 rfl ?_
  refine ms_iload_n dX6_years_1 rfl ?_
  refine ms_callV1 (ci := 6) (r := (RX6, TX6, 15)) dX6_years_2 cv_X6_years_X6_requireLamp (k_X6_requireLamp hR ht hT hto hl32 hl) rfl rfl (by first | rfl | assumption) (Nat.le_of_ble_eq_true rfl) rfl (fun _ _ z => z.elim) (fun v9 h9 hp9 => ?_)
  obtain ⟨rfl, rfl⟩ := hp9
  refine ms_iload_n dX6_years_5 rfl ?_
  refine mi_if_lt (tgt := 15) dX6_years_6 (by decide) (fun c_6 => ?_) (fun c_6 => ?_)
  · exact absurd c_6 (by omega)
  · refine ms_iload_n dX6_years_9 rfl ?_
    refine mi_bipush dX6_years_10 (by decide) ?_
    refine mi_icmp_le (tgt := 23) dX6_years_12 (by decide) (fun c_12 => ?_) (fun c_12 => ?_)
    · refine ms_aload_n dX6_years_23 rfl ?_
      refine ms_getR dX6_years_24 (fo_X6_75 rfl) (by first | rfl | assumption) rfl (by first | assumption | exact rf_0_9 hR ) ?_
      refine ms_aload_n dX6_years_27 rfl ?_
      refine ms_getR dX6_years_28 (fo_X6_50 rfl) (by first | rfl | assumption) rfl (by first | assumption ) ?_
      refine ms_aload_n dX6_years_31 rfl ?_
      refine ms_getR dX6_years_32 (fo_X6_34 rfl) (by first | rfl | assumption) rfl (by first | assumption | exact rf_0_6 hR ) ?_
      refine mi_iconst dX6_years_35 ?_
      refine ms_callV3 (ci := 5) (r := (RX5, TX5, 5)) dX6_years_36 cv_X6_years_X5_obey (k_X5_obey (hf := false) (ng := false) (wr := 23) hR ht hT) rfl rfl (by first | rfl | assumption) (Nat.le_of_ble_eq_true rfl) rfl (fun _ _ z => z.elim) (fun v9 h9 hp9 => ?_)
      obtain ⟨N1, Rf2, rfl, rfl, hR, hRx, hR1, hR12, hNx, hN4, hN3⟩ := hp9
      have hto : Rf2 0 10 = some t := by rw [hRx 0 (by decide)]; exact hto
      have eT1 : sp_tC N1 t = sp_tC M t := tC_fr (fun y _ _ => hNx y (by omega))
      have eN1 : ∀ k, N1 t k = M t k := fun k => by rw [hNx t (by omega)]
      have eoi : N1 (t + 4) = M (t + 4) := hNx (t + 4) (by omega)
      refine mi_iconst dX6_years_39 ?_
      refine ms_istore dX6_years_40 (by decide) rfl ?_
      dsimp only [List.set, Nat.reduceAdd]
      refine ms_iload_n dX6_years_42 rfl ?_
      refine ms_istore dX6_years_43 (by decide) rfl ?_
      dsimp only [List.set, Nat.reduceAdd]
      refine mi_iconst dX6_years_45 ?_
      refine ms_istore dX6_years_46 (by decide) rfl ?_
      dsimp only [List.set, Nat.reduceAdd]
      refine ms_conseq (fun v9 h9 hp => ?_) (fun _ _ z => z) (l_X6_yr (S := S) (f := f) (L := L) (M := N1) (l := l) (s := s) (u := u) hR ht (by rw [eT1]; exact hT) hto hR1 hR12 hN4 (by rw [eN1]; exact hN3) (by rw [eN1]; exact hl) hu (by rw [eT1, eoi]; exact hv0) u.toNat 0 N1 (by omega) (fun _ _ _ _ _ _ _ => rfl))
      obtain ⟨N, y1, y2, y3⟩ := hp
      rw [eT1, eoi] at y2
      exact ⟨N, Rf2, y1, y2, hR, hRx, fun x x0 x1 x2 x3 x4 x5 x6 => by rw [y3 x x1 x2 x3 x4 x5 x6, hNx x x0]⟩
    · exact absurd c_12 (by omega)

set_option maxHeartbeats 4000000 in
set_option maxRecDepth 100000 in
theorem k_X6_years_x {S : mx_Sc} {f : Bool} {M : Nat → Int → Int} {L : Nat → Nat → Int64} {Rf : Nat → Nat → Option Nat} (hR : mx_rf Rf) {t : Nat} (ht : t = 29 ∨ t = 37) (hT : sp_tok (sp_tC M t)) (hto : Rf 0 10 = some t) {l : Int} (hl32 : -2147483648 ≤ l ∧ l ≤ 2147483647) {u : Int} (hu32 : -2147483648 ≤ u ∧ u ≤ 2147483647) {s : Int} (hc : ¬ (0 ≤ l ∧ l < M t 1)) : mx_C S mX6_years [.ref 0, .int (iI l), .int (iI s), .int (iI u)] (f, mx_SH, M, L, Rf) 1 6 (fun _ _ => False) (fun e9 h9 => e9 = "java/util/NoSuchElementException" ∧ h9 = (false, mx_SH, M, L, Rf)) := by
  refine mx_C_of (by decide) (by simp [Value.category]) (Nat.le_of_ble_eq_true rfl) rfl ?_
  show mx_E S mX6_years 0 [some (.ref 0), some (.int (iI l)), some (.int (iI s)), some (.int (iI u)), none, none, none] [] (f, mx_SH, M, L, Rf) 1 6 _ _
  have ht9 : t < 900 := by omega
  have hs_t := tc_s ht
  have hs_t1 := tc_s1 ht
  have hr_t1 := tc_r1 hR ht
  have hs_t2 := tc_s2 ht
  have hr_t2 := tc_r2 hR ht
  have hs_t3 := tc_s3 ht
  have hr_t3 := tc_r3 hR ht
  have hs_t4 := tc_s4 ht
  have hr_t4 := tc_r4 hR ht
  have hs_t5 := tc_s5 ht
  have hr_t5 := tc_r5 hR ht
  have hs_t6 := tc_s6 ht
  have hr_t6 := tc_r6 hR ht
  have hs_t7 := tc_s7 ht
  have hr_t7 := tc_r7 hR ht
  have hT0 : 1 ≤ M t 0 ∧ M t 0 ≤ 30 := hT.1
  have hT1 : 0 ≤ M t 1 ∧ M t 1 ≤ 6 := hT.2.1
  have hT2 : 1 ≤ M t 2 ∧ M t 2 ≤ 9 := hT.2.2.1
  have hT3 : 0 ≤ M t 3 ∧ M t 3 ≤ 9 := hT.2.2.2.1
  have hT4 : 0 ≤ M t 4 ∧ M t 4 ≤ 9 := hT.2.2.2.2.1
  have hT5 : 1 ≤ M t 5 ∧ M t 5 ≤ 99 := hT.2.2.2.2.2.1
  have hT6 : 0 ≤ M t 6 ∧ M t 6 ≤ 10 := hT.2.2.2.2.2.2.1
  have hTn : ((M t 1).toNat : Int) = M t 1 := Int.toNat_of_nonneg hT1.1
  have hTn6 : ((M t 6).toNat : Int) = M t 6 := Int.toNat_of_nonneg hT6.1
  by_cases h0 : 0 ≤ l ∧ l < M t 1
  rotate_left 1
  · refine ms_aload_n dX6_years_0 rfl ?_
    refine ms_iload_n dX6_years_1 rfl ?_
    refine ms_callVx1 (bc := 0) (bs := 0) (ci := 6) (r := (RX6, TX6, 15)) dX6_years_2 cv_X6_years_X6_requireLamp (k_X6_requireLamp_x hR ht hT hto hl32 h0) rfl rfl rfl rfl (by first | rfl | assumption) (Nat.le_of_ble_eq_true rfl) rfl (fun _ _ z => by first | exact z.elim | exact z) (fun v9 h9 hp9 => ?_)
    skip
    exact hp9.elim
  exact absurd (by exact h0) hc

set_option maxHeartbeats 4000000 in
set_option maxRecDepth 100000 in
theorem k_X6_years_y {S : mx_Sc} {f : Bool} {M : Nat → Int → Int} {L : Nat → Nat → Int64} {Rf : Nat → Nat → Option Nat} (hR : mx_rf Rf) {t : Nat} (ht : t = 29 ∨ t = 37) (hT : sp_tok (sp_tC M t)) (hto : Rf 0 10 = some t) {l : Int} (hl32 : -2147483648 ≤ l ∧ l ≤ 2147483647) {u : Int} (hu32 : -2147483648 ≤ u ∧ u ≤ 2147483647) {s : Int} (hl : 0 ≤ l ∧ l < M t 1) (hc : ¬ (0 ≤ u ∧ u ≤ 40)) : mx_C S mX6_years [.ref 0, .int (iI l), .int (iI s), .int (iI u)] (f, mx_SH, M, L, Rf) 1 6 (fun _ _ => False) (fun e9 h9 => e9 = "java/lang/IllegalArgumentException" ∧ h9 = (false, mx_SH, M, L, Rf)) := by
  refine mx_C_of (by decide) (by simp [Value.category]) (Nat.le_of_ble_eq_true rfl) rfl ?_
  show mx_E S mX6_years 0 [some (.ref 0), some (.int (iI l)), some (.int (iI s)), some (.int (iI u)), none, none, none] [] (f, mx_SH, M, L, Rf) 1 6 _ _
  have ht9 : t < 900 := by omega
  have hs_t := tc_s ht
  have hs_t1 := tc_s1 ht
  have hr_t1 := tc_r1 hR ht
  have hs_t2 := tc_s2 ht
  have hr_t2 := tc_r2 hR ht
  have hs_t3 := tc_s3 ht
  have hr_t3 := tc_r3 hR ht
  have hs_t4 := tc_s4 ht
  have hr_t4 := tc_r4 hR ht
  have hs_t5 := tc_s5 ht
  have hr_t5 := tc_r5 hR ht
  have hs_t6 := tc_s6 ht
  have hr_t6 := tc_r6 hR ht
  have hs_t7 := tc_s7 ht
  have hr_t7 := tc_r7 hR ht
  have hT0 : 1 ≤ M t 0 ∧ M t 0 ≤ 30 := hT.1
  have hT1 : 0 ≤ M t 1 ∧ M t 1 ≤ 6 := hT.2.1
  have hT2 : 1 ≤ M t 2 ∧ M t 2 ≤ 9 := hT.2.2.1
  have hT3 : 0 ≤ M t 3 ∧ M t 3 ≤ 9 := hT.2.2.2.1
  have hT4 : 0 ≤ M t 4 ∧ M t 4 ≤ 9 := hT.2.2.2.2.1
  have hT5 : 1 ≤ M t 5 ∧ M t 5 ≤ 99 := hT.2.2.2.2.2.1
  have hT6 : 0 ≤ M t 6 ∧ M t 6 ≤ 10 := hT.2.2.2.2.2.2.1
  have hTn : ((M t 1).toNat : Int) = M t 1 := Int.toNat_of_nonneg hT1.1
  have hTn6 : ((M t 6).toNat : Int) = M t 6 := Int.toNat_of_nonneg hT6.1
  refine ms_aload_n dX6_years_0 rfl ?_
  refine ms_iload_n dX6_years_1 rfl ?_
  refine ms_callV1 (ci := 6) (r := (RX6, TX6, 15)) dX6_years_2 cv_X6_years_X6_requireLamp (k_X6_requireLamp hR ht hT hto hl32 hl) rfl rfl (by first | rfl | assumption) (Nat.le_of_ble_eq_true rfl) rfl (fun _ _ z => z.elim) (fun v9 h9 hp9 => ?_)
  obtain ⟨rfl, rfl⟩ := hp9
  refine ms_iload_n dX6_years_5 rfl ?_
  refine mi_if_lt (tgt := 15) dX6_years_6 (by decide) (fun c_6 => ?_) (fun c_6 => ?_)
  · refine ms_throw th_X6_years_I dX6_years_15 dX6_years_18 dX6_years_19 dX6_years_22 (Nat.le_of_ble_eq_true rfl) ⟨rfl, rfl⟩
  · refine ms_iload_n dX6_years_9 rfl ?_
    refine mi_bipush dX6_years_10 (by decide) ?_
    refine mi_icmp_le (tgt := 23) dX6_years_12 (by decide) (fun c_12 => ?_) (fun c_12 => ?_)
    · exact absurd hc (by simp only [Classical.not_not]; omega)
    · refine ms_throw th_X6_years_I dX6_years_15 dX6_years_18 dX6_years_19 dX6_years_22 (Nat.le_of_ble_eq_true rfl) ⟨rfl, rfl⟩

