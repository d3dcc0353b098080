/-- the class behind k nights -/
def niS (t : Nat) (M : Nat → Int → Int) (n : Int) (v : Int → Int) (N : Nat → Int → Int) (k : Nat) : Prop := (∀ x, x ≠ 47 → x ≠ 3 → x ≠ 4 → x ≠ 5 → x ≠ 6 → x ≠ 7 → x ≠ 8 → N x = M x) ∧ N 3 3 = n + k ∧ (∀ i, 3 * M t 1 ≤ i → N 4 i = M 4 i) ∧ scR (sp_tC M t) N 3 (sp_run (sp_tC M t) (M (t + 3)) false false n k v) ∧ sp_vok (sp_tC M t) (sp_run (sp_tC M t) (M (t + 3)) false false n k v) ∧
  (∀ j, (j < n * 18 ∨ (n + k) * 18 ≤ j) → N 7 j = M 7 j) ∧ (∀ j, (j < (n + 1) * 18 ∨ (n + k + 1) * 18 ≤ j) → N 8 j = M 8 j) ∧
  (∀ (m : Nat) (q : Int), m < k → 0 ≤ q → q < 18 → N 7 ((n + m) * 18 + q) = (if q < 3 * M t 1 then sp_run (sp_tC M t) (M (t + 3)) false false n m v q else M 4 q) ∧ N 8 ((n + m + 1) * 18 + q) = (if q < 3 * M t 1 then sp_run (sp_tC M t) (M (t + 3)) false false n (m + 1) v q else M 4 q))
theorem scR.oils {t : Nat} {M N : Nat → Int → Int} {a : Nat} {w : Int → Int} {g : Int → Int} (h : scR (sp_tC M t) N a w) (hj : ∀ i, 3 * M t 1 ≤ i → N (a + 1) i = g i) {q : Int} (q0 : 0 ≤ q) : N (a + 1) q = if q < 3 * M t 1 then w q else g q := by
  by_cases e : q < 3 * M t 1
  · rw [if_pos e]
    exact h.1 q q0 e
  · rw [if_neg e]
    exact hj q (by omega)
set_option maxHeartbeats 4000000 in
set_option maxRecDepth 100000 in
theorem l_X6_ni {S : mx_Sc} {f : Bool} {M : Nat → Int → Int} {L : Nat → Nat → Int64} {Rf : Nat → Nat → Option Nat} (hR : mx_rf Rf) {t : Nat} (ht : t = 29 ∨ t = 37) (hT : sp_tok (sp_tC M t)) (hto : Rf 0 10 = some t) (hwt : Rf 46 1 = some t) (hwl : Rf 46 2 = some (t + 3)) (hlk : sp_lok (sp_tC M t) (M (t + 3))) (hng : M 46 4 = bI false) (hst : M 46 3 = M t 2) {v : Int → Int} {n u z2 : Int} (hn : 0 ≤ n ∧ n ≤ 99) (hu : 0 ≤ u ∧ n + u ≤ M t 5) : ∀ (kk : Nat) (k : Nat) (N : Nat → Int → Int), (k : Int) + kk = u → niS t M n v N k → mx_E S mX6_nights 87 [some (.ref 0), some (.int (iI u)), some (.int (iI z2)), some (.int (iI (k : Int)))] [] (f, mx_SH, N, L, Rf) 0 0 (fun v9 h9 => ∃ N, h9 = (f, mx_SH, N, L, Rf) ∧ v9 = some (.int (iI (N 3 5 - z2))) ∧ niS t M n v N u.toNat) (fun _ _ => False) := by
  intro kk
  induction kk with
  | zero => 
    intro k N g1 hS
    have ht9 : t < 900 := by omega
    have hs_t := tc_s ht
    have hs_t1 := tc_s1 ht
    have hr_t1 := tc_r1 hR ht
    have hs_t2 := tc_s2 ht
    have hr_t2 := tc_r2 hR ht
    have hs_t3 := tc_s3 ht
    have hr_t3 := tc_r3 hR ht
    have hs_t4 := tc_s4 ht
    have hr_t4 := tc_r4 hR ht
    have hs_t5 := tc_s5 ht
    have hr_t5 := tc_r5 hR ht
    have hs_t6 := tc_s6 ht
    have hr_t6 := tc_r6 hR ht
    have hs_t7 := tc_s7 ht
    have hr_t7 := tc_r7 hR ht
    have hT0 : 1 ≤ M t 0 ∧ M t 0 ≤ 30 := hT.1
    have hT1 : 0 ≤ M t 1 ∧ M t 1 ≤ 6 := hT.2.1
    have hT2 : 1 ≤ M t 2 ∧ M t 2 ≤ 9 := hT.2.2.1
    have hT3 : 0 ≤ M t 3 ∧ M t 3 ≤ 9 := hT.2.2.2.1
    have hT4 : 0 ≤ M t 4 ∧ M t 4 ≤ 9 := hT.2.2.2.2.1
    have hT5 : 1 ≤ M t 5 ∧ M t 5 ≤ 99 := hT.2.2.2.2.2.1
    have hT6 : 0 ≤ M t 6 ∧ M t 6 ≤ 10 := hT.2.2.2.2.2.2.1
    have hTn : ((M t 1).toNat : Int) = M t 1 := Int.toNat_of_nonneg hT1.1
    have hTn6 : ((M t 6).toNat : Int) = M t 6 := Int.toNat_of_nonneg hT6.1
    refine ms_iload_n dX6_nights_87 rfl ?_
    refine ms_iload_n dX6_nights_88 rfl ?_
    refine mi_icmp_ge (tgt := 127) dX6_nights_89 (by decide) (fun c_89 => ?_) (fun c_89 => ?_)
    · refine ms_aload_n dX6_nights_127 rfl ?_
      refine ms_getR dX6_nights_128 (fo_X6_16 rfl) (by first | rfl | assumption) rfl (by first | assumption | exact rf_0_2 hR ) ?_
      refine ms_getR dX6_nights_131 (fo_X6_130 rfl) (by first | rfl | assumption) rfl (by first | assumption | exact rf_2_0 hR | exact rf_10_0 hR ) ?_
      refine ms_getI (z := 5) dX6_nights_134 (fo_X6_136 rfl) (by first | rfl | assumption) rfl rfl ?_
      refine ms_iload_n dX6_nights_137 rfl ?_
      refine mi_isub dX6_nights_138 ?_
      refine ms_ret dX6_nights_139 rfl ⟨N, rfl, rfl, by rw [show u.toNat = k by omega]; exact hS⟩ (by simp)
    · exact absurd c_89 (by omega)
  | succ kk ih => 
    intro k N g1 hS
    have ht9 : t < 900 := by omega
    have hs_t := tc_s ht
    have hs_t1 := tc_s1 ht
    have hr_t1 := tc_r1 hR ht
    have hs_t2 := tc_s2 ht
    have hr_t2 := tc_r2 hR ht
    have hs_t3 := tc_s3 ht
    have hr_t3 := tc_r3 hR ht
    have hs_t4 := tc_s4 ht
    have hr_t4 := tc_r4 hR ht
    have hs_t5 := tc_s5 ht
    have hr_t5 := tc_r5 hR ht
    have hs_t6 := tc_s6 ht
    have hr_t6 := tc_r6 hR ht
    have hs_t7 := tc_s7 ht
    have hr_t7 := tc_r7 hR ht
    have hT0 : 1 ≤ M t 0 ∧ M t 0 ≤ 30 := hT.1
    have hT1 : 0 ≤ M t 1 ∧ M t 1 ≤ 6 := hT.2.1
    have hT2 : 1 ≤ M t 2 ∧ M t 2 ≤ 9 := hT.2.2.1
    have hT3 : 0 ≤ M t 3 ∧ M t 3 ≤ 9 := hT.2.2.2.1
    have hT4 : 0 ≤ M t 4 ∧ M t 4 ≤ 9 := hT.2.2.2.2.1
    have hT5 : 1 ≤ M t 5 ∧ M t 5 ≤ 99 := hT.2.2.2.2.2.1
    have hT6 : 0 ≤ M t 6 ∧ M t 6 ≤ 10 := hT.2.2.2.2.2.2.1
    have hTn : ((M t 1).toNat : Int) = M t 1 := Int.toNat_of_nonneg hT1.1
    have hTn6 : ((M t 6).toNat : Int) = M t 6 := Int.toNat_of_nonneg hT6.1
    obtain ⟨q1, q2, q3, q4, q5, q6, q7, q8⟩ := hS
    have eT : sp_tC N t = sp_tC M t := tC_fr (fun y _ _ => q1 y (by omega) (by omega) (by omega) (by omega) (by omega) (by omega) (by omega))
    have eN : ∀ k, N t k = M t k := fun k => by rw [q1 t (by omega) (by omega) (by omega) (by omega) (by omega) (by omega) (by omega)]
    have e46 : N 46 = M 46 := q1 46 (by omega) (by omega) (by omega) (by omega) (by omega) (by omega) (by omega)
    have ewr : N (t + 3) = M (t + 3) := q1 (t + 3) (by omega) (by omega) (by omega) (by omega) (by omega) (by omega) (by omega)
    have ek5 := hT5
    refine ms_iload_n dX6_nights_87 rfl ?_
    refine ms_iload_n dX6_nights_88 rfl ?_
    refine mi_icmp_ge (tgt := 127) dX6_nights_89 (by decide) (fun c_89 => ?_) (fun c_89 => ?_)
    · exact absurd c_89 (by omega)
    · refine ms_aload_n dX6_nights_92 rfl ?_
      refine ms_getR dX6_nights_93 (fo_X6_16 rfl) (by first | rfl | assumption) rfl (by first | assumption | exact rf_0_2 hR ) ?_
      refine ms_callV0 (ci := 3) (r := (RX3, TX3, 4)) dX6_nights_96 cv_X6_nights_X3_writeDusk (k_X3_writeDusk (M := N) hR (n := n + k) (by omega) q2) rfl rfl (by first | rfl | assumption) (Nat.le_of_ble_eq_true rfl) rfl (fun _ _ z => z.elim) (fun v9 h9 hp9 => ?_)
      obtain ⟨rfl, rfl⟩ := hp9
      refine mx_gen (fun N1 => (∀ x, x ≠ 7 → N1 x = N x) ∧ N1 7 = ic (N 4) (N 7) 0 ((n + k) * 18) 18) ⟨fun x hx => up_n _ _ hx, up_s _ _ _⟩ (fun N1 hN1 => ?_)
      have eT1 : sp_tC N1 t = sp_tC M t := by rw [← eT]; exact tC_fr (fun y _ _ => hN1.1 y (by omega))
      have eN1 : ∀ k, N1 t k = M t k := fun k => by rw [hN1.1 t (by omega)]; exact eN k
      refine ms_aload_n dX6_nights_99 rfl ?_
      refine ms_getR dX6_nights_100 (fo_X6_75 rfl) (by first | rfl | assumption) rfl (by first | assumption | exact rf_0_9 hR ) ?_
      refine ms_aload_n dX6_nights_103 rfl ?_
      refine ms_getR dX6_nights_104 (fo_X6_16 rfl) (by first | rfl | assumption) rfl (by first | assumption | exact rf_0_2 hR ) ?_
      refine ms_getR dX6_nights_107 (fo_X6_130 rfl) (by first | rfl | assumption) rfl (by first | assumption | exact rf_2_0 hR | exact rf_10_0 hR ) ?_
      refine ms_callV1 (ci := 5) (r := (RX5, TX5, 5)) dX6_nights_110 cv_X6_nights_X5_passNight (k_X5_passNight (M := N1) (a := 3) (v := sp_run (sp_tC M t) (M (t + 3)) false false n k v) (n := n + k) (hf := false) (ng := false) (wr := t + 3) hR ht (by rw [eT1]; exact hT) (by omega) hwt (Or.inl rfl) hwl (by rw [eT1, hN1.1 (t + 3) (by omega), ewr]; exact hlk) (by rw [eT1]; exact q4.fr (hN1.1 _ (by decide)) (hN1.1 _ (by decide)) (hN1.1 _ (by decide)) (hN1.1 _ (by decide))) (by rw [eT1]; exact q5) (by omega) (by rw [hN1.1 3 (by decide)]; exact q2) (by rw [hN1.1 46 (by decide), e46]; exact hng) (by rw [hN1.1 46 (by decide), e46, eN1]; exact hst)) rfl rfl (by first | rfl | assumption) (Nat.le_of_ble_eq_true rfl) rfl (fun _ _ z => z.elim) (fun v9 h9 hp9 => ?_)
      obtain ⟨N2, c, rfl, rfl, y1, y2, y3, y4, y5, y6⟩ := hp9
      rw [eT1, hN1.1 (t + 3) (by omega), ewr] at y4 y5
      refine ms_pop dX6_nights_113 rfl ?_
      refine ms_aload_n dX6_nights_114 rfl ?_
      refine ms_getR dX6_nights_115 (fo_X6_16 rfl) (by first | rfl | assumption) rfl (by first | assumption | exact rf_0_2 hR ) ?_
      refine ms_callV0 (ci := 3) (r := (RX3, TX3, 4)) dX6_nights_118 cv_X6_nights_X3_writeDawn (k_X3_writeDawn (M := N2) hR (n := n + k + 1) (by omega) y2) rfl rfl (by first | rfl | assumption) (Nat.le_of_ble_eq_true rfl) rfl (fun _ _ z => z.elim) (fun v9 h9 hp9 => ?_)
      obtain ⟨rfl, rfl⟩ := hp9
      have y4r : scR (sp_tC M t) N2 3 (sp_run (sp_tC M t) (M (t + 3)) false false n (k + 1) v) := y4
      have y5r : sp_vok (sp_tC M t) (sp_run (sp_tC M t) (M (t + 3)) false false n (k + 1) v) := y5
      have y3r : ∀ i, 3 * M t 1 ≤ i → N2 4 i = M 4 i := fun i hi => by
        rw [show N2 4 i = N1 4 i from y3 i (by rw [eN1]; exact hi), hN1.1 4 (by decide)]
        exact q3 i hi
      have e72 : N2 7 = N1 7 := y1 7 (by decide) (by decide) (by decide) (by decide) (by decide)
      have e82 : N2 8 = N 8 := by rw [y1 8 (by decide) (by decide) (by decide) (by decide) (by decide), hN1.1 8 (by decide)]
      refine mi_iinc dX6_nights_121 rfl (by decide) rfl ?_
      dsimp only [List.set, Nat.reduceAdd]
      refine ms_goto (tgt := 87) dX6_nights_124 (by decide) ?_
      refine ih (k + 1) _ (by omega) ⟨fun x x1 x2 x3 x4 x5 x6 x7 => ?_, ?_, fun i hi => ?_, ?_, y5r, fun j hj => ?_, fun j hj => ?_, fun m q m1 r0 r1 => ⟨?_, ?_⟩⟩
      · rw [up_n _ _ x7, y1 x x1 x2 x3 x4 x5, hN1.1 x x6, q1 x x1 x2 x3 x4 x5 x6 x7]
      · rw [up_n _ _ (by decide), y2]
        omega
      · rw [up_n _ _ (by decide)]
        exact y3r i hi
      · exact y4r.fr (up_n _ _ (by decide)) (up_n _ _ (by decide)) (up_n _ _ (by decide)) (up_n _ _ (by decide))
      · rw [up_n _ _ (by decide), e72, hN1.2]
        simp only [ic]
        rw [if_neg (by omega)]
        exact q6 j (by omega)
      · rw [up_s]
        simp only [ic]
        rw [if_neg (by omega), e82]
        exact q7 j (by omega)
      · rw [up_n _ _ (by decide), e72, hN1.2]
        simp only [ic]
        by_cases e : m = k
        · subst e
          rw [if_pos (by omega), show 0 + ((n + (m : Int)) * 18 + q - (n + (m : Int)) * 18) = q by omega]
          exact q4.oils q3 r0
        · rw [if_neg (by omega)]
          exact (q8 m q (by omega) r0 r1).1
      · rw [up_s]
        simp only [ic]
        by_cases e : m = k
        · subst e
          rw [if_pos (by omega), show 0 + ((n + (m : Int) + 1) * 18 + q - (n + (m : Int) + 1) * 18) = q by omega]
          exact y4r.oils y3r r0
        · rw [if_neg (by omega), e82]
          exact (q8 m q (by omega) r0 r1).2

set_option maxHeartbeats 4000000 in
set_option maxRecDepth 100000 in
theorem k_X6_nights {S : mx_Sc} {f : Bool} {M : Nat → Int → Int} {L : Nat → Nat → Int64} {Rf : Nat → Nat → Option Nat} (hR : mx_rf Rf) {t : Nat} (ht : t = 29 ∨ t = 37) (hT : sp_tok (sp_tC M t)) (hto : Rf 0 10 = some t) {v : Int → Int} (hsc : scR (sp_tC M t) M 3 v) (hv : sp_vok (sp_tC M t) v) {n : Int} (hn : 0 ≤ n ∧ n ≤ 99) (hnn : M 3 3 = n) (hlk : sp_lok (sp_tC M t) (M (t + 3))) {u : Int} (hu32 : -2147483648 ≤ u ∧ u ≤ 2147483647) (hc : 0 ≤ u ∧ u ≤ 99) : mx_C S mX6_nights [.ref 0, .int (iI u)] (f, mx_SH, M, L, Rf) 0 0 (fun v9 h9 => (M t 5 < n + u ∧ h9 = (f, mx_SH, va_up M 9 (iu (M 9) 2 (M 9 2 + 1)), L, Rf) ∧ v9 = some (.int (iI (-1)))) ∨ (n + u ≤ M t 5 ∧ ∃ N M2 Rf2, h9 = (f, mx_SH, N, L, Rf2) ∧ v9 = some (.int (iI (N 3 5 - M 3 5))) ∧ mx_rf Rf2 ∧ (∀ y, y ≠ 46 → Rf2 y = Rf y) ∧ (∀ x, x ≠ 46 → M2 x = M x) ∧ niS t M2 n v N u.toNat)) (fun _ _ => False) := by
  refine mx_C_of (by decide) (by simp [Value.category]) (Nat.le_of_ble_eq_true rfl) rfl ?_
  show mx_E S mX6_nights 0 [some (.ref 0), some (.int (iI u)), none, none] [] (f, mx_SH, M, L, Rf) 0 0 _ _
  have ht9 : t < 900 := by omega
  have hs_t := tc_s ht
  have hs_t1 := tc_s1 ht
  have hr_t1 := tc_r1 hR ht
  have hs_t2 := tc_s2 ht
  have hr_t2 := tc_r2 hR ht
  have hs_t3 := tc_s3 ht
  have hr_t3 := tc_r3 hR ht
  have hs_t4 := tc_s4 ht
  have hr_t4 := tc_r4 hR ht
  have hs_t5 := tc_s5 ht
  have hr_t5 := tc_r5 hR ht
  have hs_t6 := tc_s6 ht
  have hr_t6 := tc_r6 hR ht
  have hs_t7 := tc_s7 ht
  have hr_t7 := tc_r7 hR ht
  have hT0 : 1 ≤ M t 0 ∧ M t 0 ≤ 30 := hT.1
  have hT1 : 0 ≤ M t 1 ∧ M t 1 ≤ 6 := hT.2.1
  have hT2 : 1 ≤ M t 2 ∧ M t 2 ≤ 9 := hT.2.2.1
  have hT3 : 0 ≤ M t 3 ∧ M t 3 ≤ 9 := hT.2.2.2.1
  have hT4 : 0 ≤ M t 4 ∧ M t 4 ≤ 9 := hT.2.2.2.2.1
  have hT5 : 1 ≤ M t 5 ∧ M t 5 ≤ 99 := hT.2.2.2.2.2.1
  have hT6 : 0 ≤ M t 6 ∧ M t 6 ≤ 10 := hT.2.2.2.2.2.2.1
  have hTn : ((M t 1).toNat : Int) = M t 1 := Int.toNat_of_nonneg hT1.1
  have hTn6 : ((M t 6).toNat : Int) = M t 6 := Int.toNat_of_nonneg hT6.1
  refine ms_iload_n dX6_nights_0 rfl ?_
  refine mi_if_lt (tgt := 10) dX6_nights_1 (by decide) (fun c_1 => ?_) (fun c_1 => ?_)
  · exact absurd c_1 (by omega)
  · refine ms_iload_n dX6_nights_4 rfl ?_
    refine mi_bipush dX6_nights_5 (by decide) ?_
    refine mi_icmp_le (tgt := 18) dX6_nights_7 (by decide) (fun c_7 => ?_) (fun c_7 => ?_)
    · refine ms_aload_n dX6_nights_18 rfl ?_
      refine ms_getR dX6_nights_19 (fo_X6_16 rfl) (by first | rfl | assumption) rfl (by first | assumption | exact rf_0_2 hR ) ?_
      refine ms_getR dX6_nights_22 (fo_X6_130 rfl) (by first | rfl | assumption) rfl (by first | assumption | exact rf_2_0 hR | exact rf_10_0 hR ) ?_
      refine ms_getI (z := 3) dX6_nights_25 (fo_X6_133 rfl) (by first | rfl | assumption) rfl rfl ?_
      refine ms_iload_n dX6_nights_28 rfl ?_
      refine mi_iadd dX6_nights_29 ?_
      refine ms_aload_n dX6_nights_30 rfl ?_
      refine ms_getR dX6_nights_31 (fo_X6_50 rfl) (by first | rfl | assumption) rfl (by first | assumption ) ?_
      refine ms_getI (z := 5) dX6_nights_34 (fo_X6_124 rfl) (by first | rfl | assumption) rfl rfl ?_
      refine mi_icmp_le (tgt := 55) dX6_nights_37 (by decide) (fun c_37 => ?_) (fun c_37 => ?_)
      · refine ms_aload_n dX6_nights_55 rfl ?_
        refine ms_getR dX6_nights_56 (fo_X6_16 rfl) (by first | rfl | assumption) rfl (by first | assumption | exact rf_0_2 hR ) ?_
        refine ms_getR dX6_nights_59 (fo_X6_130 rfl) (by first | rfl | assumption) rfl (by first | assumption | exact rf_2_0 hR | exact rf_10_0 hR ) ?_
        refine ms_getI (z := 5) dX6_nights_62 (fo_X6_136 rfl) (by first | rfl | assumption) rfl rfl ?_
        refine ms_istore_n dX6_nights_65 (by decide) rfl ?_
        dsimp only [List.set, Nat.reduceAdd]
        refine ms_aload_n dX6_nights_66 rfl ?_
        refine ms_getR dX6_nights_67 (fo_X6_75 rfl) (by first | rfl | assumption) rfl (by first | assumption | exact rf_0_9 hR ) ?_
        refine ms_aload_n dX6_nights_70 rfl ?_
        refine ms_getR dX6_nights_71 (fo_X6_50 rfl) (by first | rfl | assumption) rfl (by first | assumption ) ?_
        refine ms_aload_n dX6_nights_74 rfl ?_
        refine ms_getR dX6_nights_75 (fo_X6_50 rfl) (by first | rfl | assumption) rfl (by first | assumption ) ?_
        refine ms_getR dX6_nights_78 (fo_X6_154 rfl) (by first | rfl | assumption) rfl (by first | assumption | exact rf_29_9 hR | exact rf_37_9 hR ) ?_
        refine mi_iconst dX6_nights_81 ?_
        refine ms_callV3 (ci := 5) (r := (RX5, TX5, 5)) dX6_nights_82 cv_X6_nights_X5_obey (k_X5_obey (hf := false) (ng := false) (wr := t + 3) hR ht hT) rfl rfl (by first | rfl | assumption) (Nat.le_of_ble_eq_true rfl) rfl (fun _ _ z => z.elim) (fun v9 h9 hp9 => ?_)
        obtain ⟨N1, Rf2, rfl, rfl, hR, hRx, hR1, hR12, hNx, hN4, hN3⟩ := hp9
        have hto : Rf2 0 10 = some t := by rw [hRx 0 (by decide)]; exact hto
        have eT1 : sp_tC N1 t = sp_tC M t := tC_fr (fun y _ _ => hNx y (by omega))
        have eN1 : ∀ k, N1 t k = M t k := fun k => by rw [hNx t (by omega)]
        have elk : N1 (t + 3) = M (t + 3) := hNx (t + 3) (by omega)
        refine mi_iconst dX6_nights_85 ?_
        refine ms_istore_n dX6_nights_86 (by decide) rfl ?_
        dsimp only [List.set, Nat.reduceAdd]
        refine ms_conseq (fun v9 h9 hp => ?_) (fun _ _ z => z) (l_X6_ni (S := S) (f := f) (L := L) (M := N1) (v := v) (n := n) (u := u) (z2 := M 3 5) hR ht (by rw [eT1]; exact hT) hto hR1 hR12 (by rw [eT1, elk]; exact hlk) hN4 (by rw [eN1]; exact hN3) hn (by rw [eN1]; omega) u.toNat 0 N1 (by omega) ⟨fun _ _ _ _ _ _ _ _ => rfl, by rw [hNx 3 (by decide), hnn]; omega, fun _ _ => rfl, by rw [eT1]; exact hsc.fr (hNx _ (by decide)) (hNx _ (by decide)) (hNx _ (by decide)) (hNx _ (by decide)), by rw [eT1]; exact hv, fun _ _ => rfl, fun _ _ => rfl, fun m q m1 => by omega⟩)
        obtain ⟨N, y1, y2, y3⟩ := hp
        exact Or.inr ⟨by omega, N, N1, Rf2, y1, y2, hR, hRx, hNx, y3⟩
      · refine ms_aload_n dX6_nights_40 rfl ?_
        refine ms_getR dX6_nights_41 (fo_X6_16 rfl) (by first | rfl | assumption) rfl (by first | assumption | exact rf_0_2 hR ) ?_
        refine ms_getR dX6_nights_44 (fo_X6_102 rfl) (by first | rfl | assumption) rfl (by first | assumption | exact rf_2_3 hR | exact rf_10_3 hR ) ?_
        refine mi_iconst dX6_nights_47 ?_
        refine ms_dup2 dX6_nights_48 rfl rfl ?_
        refine ms_iald dX6_nights_49 (by first | rfl | assumption) ?_
        refine mi_iconst dX6_nights_50 ?_
        refine mi_iadd dX6_nights_51 ?_
        refine ms_iast dX6_nights_52 (by first | rfl | assumption) ?_
        refine mi_iconst dX6_nights_53 ?_
        refine ms_ret dX6_nights_54 rfl (Or.inl ⟨by omega, rfl, rfl⟩) (by simp)
    · exact absurd c_7 (by omega)

set_option maxHeartbeats 4000000 in
set_option maxRecDepth 100000 in
theorem k_X6_nights_x {S : mx_Sc} {f : Bool} {M : Nat → Int → Int} {L : Nat → Nat → Int64} {Rf : Nat → Nat → Option Nat} (hR : mx_rf Rf) {u : Int} (hu32 : -2147483648 ≤ u ∧ u ≤ 2147483647) (hc : ¬ (0 ≤ u ∧ u ≤ 99)) : mx_C S mX6_nights [.ref 0, .int (iI u)] (f, mx_SH, M, L, Rf) 1 6 (fun _ _ => False) (fun e9 h9 => e9 = "java/lang/IllegalArgumentException" ∧ h9 = (false, mx_SH, M, L, Rf)) := by
  refine mx_C_of (by decide) (by simp [Value.category]) (Nat.le_of_ble_eq_true rfl) rfl ?_
  show mx_E S mX6_nights 0 [some (.ref 0), some (.int (iI u)), none, none] [] (f, mx_SH, M, L, Rf) 1 6 _ _
  refine ms_iload_n dX6_nights_0 rfl ?_
  refine mi_if_lt (tgt := 10) dX6_nights_1 (by decide) (fun c_1 => ?_) (fun c_1 => ?_)
  · refine ms_throw th_X6_nights_I dX6_nights_10 dX6_nights_13 dX6_nights_14 dX6_nights_17 (Nat.le_of_ble_eq_true rfl) ⟨rfl, rfl⟩
  · refine ms_iload_n dX6_nights_4 rfl ?_
    refine mi_bipush dX6_nights_5 (by decide) ?_
    refine mi_icmp_le (tgt := 18) dX6_nights_7 (by decide) (fun c_7 => ?_) (fun c_7 => ?_)
    · exact absurd hc (by simp only [Classical.not_not]; omega)
    · refine ms_throw th_X6_nights_I dX6_nights_10 dX6_nights_13 dX6_nights_14 dX6_nights_17 (Nat.le_of_ble_eq_true rfl) ⟨rfl, rfl⟩

