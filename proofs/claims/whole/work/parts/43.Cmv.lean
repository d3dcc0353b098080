theorem scR.fr {t : sp_T} {M N : Nat → Int → Int} {a : Nat} {v : Int → Int} (h : scR t M a v) (h0 : N a = M a) (h1 : N (a + 1) = M (a + 1)) (h2 : N (a + 2) = M (a + 2)) (h3 : N (a + 3) = M (a + 3)) : scR t N a v := by
  unfold scR
  rw [h0, h1, h2, h3]
  exact h
theorem tC_fr {M N : Nat → Int → Int} {t : Nat} (h : ∀ x, t ≤ x → x ≤ t + 7 → N x = M x) : sp_tC N t = sp_tC M t := by
  simp only [sp_tC]
  rw [h t (by omega) (by omega), h (t + 1) (by omega) (by omega), h (t + 2) (by omega) (by omega), h (t + 5) (by omega) (by omega), h (t + 6) (by omega) (by omega), h (t + 7) (by omega) (by omega)]
theorem e3.w {x y : Int → Int} {k : Int} (h : e3 (fun q => x (k + q)) (fun q => y (k + q))) {i : Int} (h0 : k ≤ i) (h1 : i < k + 3) : x i = y i := by
  rcases (show i = k + 0 ∨ i = k + 1 ∨ i = k + 2 by omega) with rfl | rfl | rfl
  · exact h.1
  · exact h.2.1
  · exact h.2.2
set_option maxHeartbeats 4000000 in
set_option maxRecDepth 100000 in
theorem l_X5_mvC {S : mx_Sc} {f : Bool} {M : Nat → Int → Int} {L : Nat → Nat → Int64} {Rf : Nat → Nat → Option Nat} (hR : mx_rf Rf) {t : Nat} (ht : t = 29 ∨ t = 37) (hT : sp_tok (sp_tC M t)) {a : Nat} (ha : a = 3 ∨ a = 11 ∨ a = 18) (hwt : Rf 46 1 = some t) {l : Int} (hl : 0 ≤ l ∧ l < M t 1) {ng : Bool} (hng : M 46 4 = bI ng) (hx : s3 (M t 0) (fun q => M 47 (l * 3 + q))) {w z4 : Int} : mx_E S mX5_moveLamp 59 [some (.ref 46), some (.ref a), some (.int (iI l)), some (.int (iI w)), some (.int (iI z4))] [] (f, mx_SH, M, L, Rf) 0 0 (fun v9 h9 => (∃ g2, h9 = (f, mx_SH, va_up M 47 g2, L, Rf) ∧ e3 (fun q => g2 (l * 3 + q)) (sp_dk (sp_tC M t) ng l (fun q => M 47 (l * 3 + q))) ∧ ∀ i, (i < l * 3 ∨ l * 3 + 3 ≤ i) → g2 i = M 47 i) ∧ v9 = none) (fun _ _ => False) := by
  have ht9 : t < 900 := by omega
  have hs_t := tc_s ht
  have hs_t1 := tc_s1 ht
  have hr_t1 := tc_r1 hR ht
  have hs_t2 := tc_s2 ht
  have hr_t2 := tc_r2 hR ht
  have hs_t3 := tc_s3 ht
  have hr_t3 := tc_r3 hR ht
  have hs_t4 := tc_s4 ht
  have hr_t4 := tc_r4 hR ht
  have hs_t5 := tc_s5 ht
  have hr_t5 := tc_r5 hR ht
  have hs_t6 := tc_s6 ht
  have hr_t6 := tc_r6 hR ht
  have hs_t7 := tc_s7 ht
  have hr_t7 := tc_r7 hR ht
  have ha9 : a < 900 := by omega
  have hs_a := sc_s ha
  have hs_a1 := sc_s1 ha
  have hr_a1 := sc_r1 hR ha
  have hs_a2 := sc_s2 ha
  have hr_a2 := sc_r2 hR ha
  have hs_a3 := sc_s3 ha
  have hr_a3 := sc_r3 hR ha
  have hT0 : 1 ≤ M t 0 ∧ M t 0 ≤ 30 := hT.1
  have hT1 : 0 ≤ M t 1 ∧ M t 1 ≤ 6 := hT.2.1
  have hT2 : 1 ≤ M t 2 ∧ M t 2 ≤ 9 := hT.2.2.1
  have hT3 : 0 ≤ M t 3 ∧ M t 3 ≤ 9 := hT.2.2.2.1
  have hT4 : 0 ≤ M t 4 ∧ M t 4 ≤ 9 := hT.2.2.2.2.1
  have hT5 : 1 ≤ M t 5 ∧ M t 5 ≤ 99 := hT.2.2.2.2.2.1
  have hT6 : 0 ≤ M t 6 ∧ M t 6 ≤ 10 := hT.2.2.2.2.2.2.1
  have hTn : ((M t 1).toNat : Int) = M t 1 := Int.toNat_of_nonneg hT1.1
  have hTn6 : ((M t 6).toNat : Int) = M t 6 := Int.toNat_of_nonneg hT6.1
  have hkl : 0 ≤ M (t + 1) l ∧ M (t + 1) l ≤ 4 := (hT.2.2.2.2.2.2.2.1 l (by omega) (by show l < M t 1; omega)).1
  refine ms_aload_n dX5_moveLamp_59 rfl ?_
  refine ms_getR dX5_moveLamp_60 (fo_X5_15 rfl) (by first | rfl | assumption) rfl (by first | assumption ) ?_
  refine ms_getR dX5_moveLamp_63 (fo_X5_97 rfl) (by first | rfl | assumption) rfl (by first | assumption | exact rf_29_7 hR | exact rf_37_7 hR ) ?_
  refine ms_iload_n dX5_moveLamp_66 rfl ?_
  refine ms_iald dX5_moveLamp_67 (by first | rfl | assumption) ?_
  refine mi_iconst dX5_moveLamp_68 ?_
  refine mi_icmp_ne (tgt := 77) dX5_moveLamp_69 (by decide) (fun c_69 => ?_) (fun c_69 => ?_)
  · refine ms_retV dX5_moveLamp_77 rfl ⟨⟨M 47, by rw [up_id], by simp only [sp_dk]; rw [if_neg c_69]; exact e3.rf _, fun _ _ => rfl⟩, rfl⟩ (by simp)
  · refine ms_aload_n dX5_moveLamp_72 rfl ?_
    refine ms_iload_n dX5_moveLamp_73 rfl ?_
    refine ms_callV1 (ci := 5) (r := (RX5, TX5, 5)) dX5_moveLamp_74 cv_X5_moveLamp_X5_stagger (k_X5_stagger hR (by omega) hng hT0 hx) rfl rfl (by first | rfl | assumption) (Nat.le_of_ble_eq_true rfl) rfl (fun _ _ z => z.elim) (fun v9 h9 hp9 => ?_)
    obtain ⟨⟨g2, rfl, y2, y3⟩, rfl⟩ := hp9
    refine ms_retV dX5_moveLamp_77 rfl ⟨⟨g2, rfl, by simp only [sp_dk]; rw [if_pos c_69]; exact y2, y3⟩, rfl⟩ (by simp)

set_option maxHeartbeats 4000000 in
set_option maxRecDepth 100000 in
theorem l_X5_mvB {S : mx_Sc} {f : Bool} {M : Nat → Int → Int} {L : Nat → Nat → Int64} {Rf : Nat → Nat → Option Nat} (hR : mx_rf Rf) {t : Nat} (ht : t = 29 ∨ t = 37) (hT : sp_tok (sp_tC M t)) {a : Nat} (ha : a = 3 ∨ a = 11 ∨ a = 18) (hwt : Rf 46 1 = some t) {v : Int → Int} (hsc : scR (sp_tC M t) M a v) (hv : sp_vok (sp_tC M t) v) {n l : Int} (hn : 0 ≤ n ∧ n ≤ 1200) (hnn : M a 3 = n) (hl : 0 ≤ l ∧ l < M t 1) {w : Int} (hw : -1 ≤ w ∧ w < M t 1) {hf ng : Bool} (hng : M 46 4 = bI ng) (hst : M 46 3 = (if hf = true then (M t 2 + 1) / 2 else M t 2)) (hx3 : e3 (fun q => M 47 (l * 3 + q)) (fun q => v (3 * l + q))) : mx_E S mX5_moveLamp 18 [some (.ref 46), some (.ref a), some (.int (iI l)), some (.int (iI w)), none] [] (f, mx_SH, M, L, Rf) 0 0 (fun v9 h9 => (∃ g2, h9 = (f, mx_SH, va_up M 47 g2, L, Rf) ∧ e3 (fun q => g2 (l * 3 + q)) ((if sp_out v l = true then (fun q => v (3 * l + q)) else sp_move (sp_tC M t) v n l w hf ng)) ∧ ∀ i, (i < l * 3 ∨ l * 3 + 3 ≤ i) → g2 i = M 47 i) ∧ v9 = none) (fun _ _ => False) := by
  have ht9 : t < 900 := by omega
  have hs_t := tc_s ht
  have hs_t1 := tc_s1 ht
  have hr_t1 := tc_r1 hR ht
  have hs_t2 := tc_s2 ht
  have hr_t2 := tc_r2 hR ht
  have hs_t3 := tc_s3 ht
  have hr_t3 := tc_r3 hR ht
  have hs_t4 := tc_s4 ht
  have hr_t4 := tc_r4 hR ht
  have hs_t5 := tc_s5 ht
  have hr_t5 := tc_r5 hR ht
  have hs_t6 := tc_s6 ht
  have hr_t6 := tc_r6 hR ht
  have hs_t7 := tc_s7 ht
  have hr_t7 := tc_r7 hR ht
  have ha9 : a < 900 := by omega
  have hs_a := sc_s ha
  have hs_a1 := sc_s1 ha
  have hr_a1 := sc_r1 hR ha
  have hs_a2 := sc_s2 ha
  have hr_a2 := sc_r2 hR ha
  have hs_a3 := sc_s3 ha
  have hr_a3 := sc_r3 hR ha
  have hT0 : 1 ≤ M t 0 ∧ M t 0 ≤ 30 := hT.1
  have hT1 : 0 ≤ M t 1 ∧ M t 1 ≤ 6 := hT.2.1
  have hT2 : 1 ≤ M t 2 ∧ M t 2 ≤ 9 := hT.2.2.1
  have hT3 : 0 ≤ M t 3 ∧ M t 3 ≤ 9 := hT.2.2.2.1
  have hT4 : 0 ≤ M t 4 ∧ M t 4 ≤ 9 := hT.2.2.2.2.1
  have hT5 : 1 ≤ M t 5 ∧ M t 5 ≤ 99 := hT.2.2.2.2.2.1
  have hT6 : 0 ≤ M t 6 ∧ M t 6 ≤ 10 := hT.2.2.2.2.2.2.1
  have hTn : ((M t 1).toNat : Int) = M t 1 := Int.toNat_of_nonneg hT1.1
  have hTn6 : ((M t 6).toNat : Int) = M t 6 := Int.toNat_of_nonneg hT6.1
  have hkl : 0 ≤ M (t + 1) l ∧ M (t + 1) l ≤ 4 := (hT.2.2.2.2.2.2.2.1 l (by omega) (by show l < M t 1; omega)).1
  have hx : s3 (M t 0) (fun q => M 47 (l * 3 + q)) := (hv.s hl.1 hl.2).e hx3
  refine ms_aload_n dX5_moveLamp_18 rfl ?_
  refine ms_iload_n dX5_moveLamp_19 rfl ?_
  refine ms_callV1 (ci := 2) (r := (RX2, TX2, 6)) dX5_moveLamp_20 cv_X5_moveLamp_X2_isOut (k_X2_isOut ha (l := l) (by omega) hsc.2.2.1) rfl rfl (by first | rfl | assumption) (Nat.le_of_ble_eq_true rfl) rfl (fun _ _ z => z.elim) (fun v9 h9 hp9 => ?_)
  obtain ⟨rfl, rfl⟩ := hp9
  rw [hsc.2.2.2.1 l (by omega) (by omega)]
  refine mi_if_neB (tgt := 35) dX5_moveLamp_23 (by decide) (fun c_23 => ?_) (fun c_23 => ?_)
  · refine ms_retV dX5_moveLamp_35 rfl ⟨⟨M 47, by rw [up_id], by first | (rw [if_pos c_23]; exact hx3) | (rw [if_neg (by rw [c_23]; decide)]; unfold sp_move; rw [if_pos c_32]; exact hx3), fun _ _ => rfl⟩, rfl⟩ (by simp)
  · refine ms_aload_n dX5_moveLamp_26 rfl ?_
    refine ms_aload_n dX5_moveLamp_27 rfl ?_
    refine ms_iload_n dX5_moveLamp_28 rfl ?_
    refine ms_callV2 (ci := 5) (r := (RX5, TX5, 5)) dX5_moveLamp_29 cv_X5_moveLamp_X5_isHeld (k_X5_isHeld hR ht hT ha hwt hsc hv hn hnn hl) rfl rfl (by first | rfl | assumption) (Nat.le_of_ble_eq_true rfl) rfl (fun _ _ z => z.elim) (fun v9 h9 hp9 => ?_)
    obtain ⟨rfl, rfl⟩ := hp9
    refine mi_if_eqB (tgt := 36) dX5_moveLamp_32 (by decide) (fun c_32 => ?_) (fun c_32 => ?_)
    · refine ms_aload_n dX5_moveLamp_36 rfl ?_
      refine ms_aload_n dX5_moveLamp_37 rfl ?_
      refine ms_iload_n dX5_moveLamp_38 rfl ?_
      refine ms_iload_n dX5_moveLamp_39 rfl ?_
      refine ms_callV3 (ci := 5) (r := (RX5, TX5, 5)) dX5_moveLamp_40 cv_X5_moveLamp_X5_findGoal (k_X5_findGoal hR ht hT ha hwt hsc hv hn hnn hl hw) rfl rfl (by first | rfl | assumption) (Nat.le_of_ble_eq_true rfl) rfl (fun _ _ z => z.elim) (fun v9 h9 hp9 => ?_)
      obtain ⟨rfl, rfl⟩ := hp9
      have hrn := sp_to_rng (t := sp_tC M t) v n l hw
      simp only at hrn
      refine ms_istore dX5_moveLamp_43 (by decide) rfl ?_
      dsimp only [List.set, Nat.reduceAdd]
      refine ms_iload dX5_moveLamp_45 rfl ?_
      refine mi_iconst dX5_moveLamp_47 ?_
      refine mi_icmp_eq (tgt := 59) dX5_moveLamp_48 (by decide) (fun c_48 => ?_) (fun c_48 => ?_)
      · refine ms_conseq (fun v9 h9 hp => ?_) (fun _ _ z => z) (l_X5_mvC hR ht hT ha hwt hl hng hx)
        obtain ⟨⟨g2, y1, y2, y3⟩, y4⟩ := hp
        refine ⟨⟨g2, y1, y2.tr ?_, y3⟩, y4⟩
        rw [if_neg (by rw [c_23]; decide)]
        unfold sp_move
        rw [if_neg (by rw [c_32]; decide), if_pos c_48]
        exact hx3.dk _ _ _
      · have hgg : e3 (fun q => M (a + 1) ((sp_to (sp_tC M t) v n l w) * 3 + q)) (fun q => v (3 * sp_to (sp_tC M t) v n l w + q)) := by
          refine ⟨?_, ?_, ?_⟩
          all_goals
            dsimp only
            rw [hsc.1 _ (by omega) (by simp only; omega)]
            congr 1
            omega
        refine ms_aload_n dX5_moveLamp_51 rfl ?_
        refine ms_aload_n dX5_moveLamp_52 rfl ?_
        refine ms_iload_n dX5_moveLamp_53 rfl ?_
        refine ms_iload dX5_moveLamp_54 rfl ?_
        refine ms_callV3 (ci := 5) (r := (RX5, TX5, 5)) dX5_moveLamp_56 cv_X5_moveLamp_X5_goTowards (k_X5_goTowards hR ht hT ha hwt (l := l) (g := sp_to (sp_tC M t) v n l w) hl (by omega) hng hst hx ((hv.s (l := sp_to (sp_tC M t) v n l w) (by omega) (by simp only; omega)).e hgg)) rfl rfl (by first | rfl | assumption) (Nat.le_of_ble_eq_true rfl) rfl (fun _ _ z => z.elim) (fun v9 h9 hp9 => ?_)
        obtain ⟨⟨g2, rfl, y2, y3⟩, rfl⟩ := hp9
        refine mx_gen (fun N => N = va_up M 47 g2) rfl (fun N hN => ?_)
        have f1 : ∀ x, x ≠ 47 → N x = M x := fun x hx9 => by rw [hN, up_n _ _ hx9]
        have eT : sp_tC N t = sp_tC M t := tC_fr (fun x _ _ => f1 x (by omega))
        have eN : ∀ k, N t k = M t k := fun k => by rw [f1 t (by omega)]
        have e47 : N 47 = g2 := by rw [hN, up_s]
        have hz : e3 (fun q => N 47 (l * 3 + q)) (sp_go ng (fun q => v (3 * sp_to (sp_tC M t) v n l w + q)) (sp_step (sp_tC M t) hf l).toNat (fun q => v (3 * l + q))) := by
          rw [e47]
          refine y2.tr ?_
          rw [e3.gog hgg]
          exact hx3.go _
        refine ms_conseq (fun v9 h9 hp => ?_) (fun _ _ z => z) (l_X5_mvC (M := N) hR ht (by rw [eT]; exact hT) ha hwt (by rw [eN]; exact hl) (by rw [f1 46 (by decide)]; exact hng) (by rw [eN]; exact (s3.go (hv.s (by omega) (by simp only; omega)) _ (hv.s hl.1 hl.2)).e hz))
        obtain ⟨⟨g3, z1, z2, z3⟩, z4⟩ := hp
        refine ⟨⟨g3, by rw [z1, up_c g3 f1], z2.tr ?_, fun i hi => by rw [z3 i hi, e47, y3 i hi]⟩, z4⟩
        rw [if_neg (by rw [c_23]; decide), eT]
        unfold sp_move
        rw [if_neg (by rw [c_32]; decide), if_neg c_48]
        exact hz.dk _ _ _
    · refine ms_retV dX5_moveLamp_35 rfl ⟨⟨M 47, by rw [up_id], by first | (rw [if_pos c_23]; exact hx3) | (rw [if_neg (by rw [c_23]; decide)]; unfold sp_move; rw [if_pos c_32]; exact hx3), fun _ _ => rfl⟩, rfl⟩ (by simp)

set_option maxHeartbeats 4000000 in
set_option maxRecDepth 100000 in
theorem k_X5_moveLamp {S : mx_Sc} {f : Bool} {M : Nat → Int → Int} {L : Nat → Nat → Int64} {Rf : Nat → Nat → Option Nat} (hR : mx_rf Rf) {t : Nat} (ht : t = 29 ∨ t = 37) (hT : sp_tok (sp_tC M t)) {a : Nat} (ha : a = 3 ∨ a = 11 ∨ a = 18) (hwt : Rf 46 1 = some t) {v : Int → Int} (hsc : scR (sp_tC M t) M a v) (hv : sp_vok (sp_tC M t) v) {n l : Int} (hn : 0 ≤ n ∧ n ≤ 1200) (hnn : M a 3 = n) (hl : 0 ≤ l ∧ l < M t 1) {w : Int} (hw : -1 ≤ w ∧ w < M t 1) {hf ng : Bool} (hng : M 46 4 = bI ng) (hst : M 46 3 = (if hf = true then (M t 2 + 1) / 2 else M t 2)) : mx_C S mX5_moveLamp [.ref 46, .ref a, .int (iI l), .int (iI w)] (f, mx_SH, M, L, Rf) 0 0 (fun v9 h9 => (∃ g2, h9 = (f, mx_SH, va_up M 47 g2, L, Rf) ∧ e3 (fun q => g2 (l * 3 + q)) ((if sp_out v l = true then (fun q => v (3 * l + q)) else sp_move (sp_tC M t) v n l w hf ng)) ∧ ∀ i, (i < l * 3 ∨ l * 3 + 3 ≤ i) → g2 i = M 47 i) ∧ v9 = none) (fun _ _ => False) := by
  refine mx_C_of (by decide) (by simp [Value.category]) (Nat.le_of_ble_eq_true rfl) rfl ?_
  show mx_E S mX5_moveLamp 0 [some (.ref 46), some (.ref a), some (.int (iI l)), some (.int (iI w)), none] [] (f, mx_SH, M, L, Rf) 0 0 _ _
  have ht9 : t < 900 := by omega
  have hs_t := tc_s ht
  have hs_t1 := tc_s1 ht
  have hr_t1 := tc_r1 hR ht
  have hs_t2 := tc_s2 ht
  have hr_t2 := tc_r2 hR ht
  have hs_t3 := tc_s3 ht
  have hr_t3 := tc_r3 hR ht
  have hs_t4 := tc_s4 ht
  have hr_t4 := tc_r4 hR ht
  have hs_t5 := tc_s5 ht
  have hr_t5 := tc_r5 hR ht
  have hs_t6 := tc_s6 ht
  have hr_t6 := tc_r6 hR ht
  have hs_t7 := tc_s7 ht
  have hr_t7 := tc_r7 hR ht
  have ha9 : a < 900 := by omega
  have hs_a := sc_s ha
  have hs_a1 := sc_s1 ha
  have hr_a1 := sc_r1 hR ha
  have hs_a2 := sc_s2 ha
  have hr_a2 := sc_r2 hR ha
  have hs_a3 := sc_s3 ha
  have hr_a3 := sc_r3 hR ha
  have hT0 : 1 ≤ M t 0 ∧ M t 0 ≤ 30 := hT.1
  have hT1 : 0 ≤ M t 1 ∧ M t 1 ≤ 6 := hT.2.1
  have hT2 : 1 ≤ M t 2 ∧ M t 2 ≤ 9 := hT.2.2.1
  have hT3 : 0 ≤ M t 3 ∧ M t 3 ≤ 9 := hT.2.2.2.1
  have hT4 : 0 ≤ M t 4 ∧ M t 4 ≤ 9 := hT.2.2.2.2.1
  have hT5 : 1 ≤ M t 5 ∧ M t 5 ≤ 99 := hT.2.2.2.2.2.1
  have hT6 : 0 ≤ M t 6 ∧ M t 6 ≤ 10 := hT.2.2.2.2.2.2.1
  have hTn : ((M t 1).toNat : Int) = M t 1 := Int.toNat_of_nonneg hT1.1
  have hTn6 : ((M t 6).toNat : Int) = M t 6 := Int.toNat_of_nonneg hT6.1
  refine ms_aload_n dX5_moveLamp_0 rfl ?_
  refine ms_getR dX5_moveLamp_1 (fo_X5_69 rfl) (by first | rfl | assumption) rfl (by first | assumption | exact rf_3_0 hR | exact rf_11_0 hR | exact rf_18_0 hR ) ?_
  refine ms_iload_n dX5_moveLamp_4 rfl ?_
  refine mi_iconst dX5_moveLamp_5 ?_
  refine mi_imul dX5_moveLamp_6 ?_
  refine ms_aload_n dX5_moveLamp_7 rfl ?_
  refine ms_getR dX5_moveLamp_8 (fo_X5_9 rfl) (by first | rfl | assumption) rfl (by first | assumption | exact rf_46_0 hR ) ?_
  refine ms_iload_n dX5_moveLamp_11 rfl ?_
  refine mi_iconst dX5_moveLamp_12 ?_
  refine mi_imul dX5_moveLamp_13 ?_
  refine mi_iconst dX5_moveLamp_14 ?_
  refine ms_acopy dX5_moveLamp_15 ac_X5_moveLamp (by first | rfl | assumption) (by first | rfl | assumption) (Nat.le_of_ble_eq_true rfl) ?_
  refine mx_gen (fun N => (∀ x, x ≠ 47 → N x = M x) ∧ e3 (fun q => N 47 (l * 3 + q)) (fun q => v (3 * l + q)) ∧ ∀ i, (i < l * 3 ∨ l * 3 + 3 ≤ i) → N 47 i = M 47 i) ⟨fun x hx9 => up_n _ _ hx9, ?_, ?_⟩ (fun N hN => ?_)
  · rw [up_s]
    refine ⟨?_, ?_, ?_⟩
    all_goals
      simp only [ic]
      rw [if_pos (by omega), hsc.1 _ (by omega) (by simp only; omega)]
      congr 1
      omega
  · intro i hi
    rw [up_s]
    simp only [ic]
    rw [if_neg (by omega)]
  · have eT : sp_tC N t = sp_tC M t := tC_fr (fun x _ _ => hN.1 x (by omega))
    have eN : ∀ k, N t k = M t k := fun k => by rw [hN.1 t (by omega)]
    refine ms_conseq (fun v9 h9 hp => ?_) (fun _ _ z => z) (l_X5_mvB (M := N) (n := n) (hf := hf) hR ht (by rw [eT]; exact hT) ha hwt (by rw [eT]; exact hsc.fr (hN.1 _ (by omega)) (hN.1 _ (by omega)) (hN.1 _ (by omega)) (hN.1 _ (by omega))) (by rw [eT]; exact hv) hn (by rw [hN.1 a (by omega)]; exact hnn) (by rw [eN]; exact hl) (by rw [eN]; exact hw) (by rw [hN.1 46 (by decide)]; exact hng) (by rw [hN.1 46 (by decide), eN]; exact hst) hN.2.1)
    obtain ⟨⟨g3, z1, z2, z3⟩, z4⟩ := hp
    exact ⟨⟨g3, by rw [z1, up_c g3 hN.1], by rw [eT] at z2; exact z2, fun i hi => by rw [z3 i hi, hN.2.2 i hi]⟩, z4⟩

