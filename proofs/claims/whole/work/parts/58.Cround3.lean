theorem cnt_night {t : sp_T} (hT : sp_tok t) {lk : Int → Int} {n : Int} (hn : 0 ≤ n ∧ n ≤ 99) {v : Int → Int} {d : Int} (hd : 1 ≤ d) : sp_cnt t (rr t lk n v d) = sp_cnt t (rr t lk n v (d - 1)) ∨ sp_cnt t (rr t lk n v (d - 1)) + 2 ≤ sp_cnt t (rr t lk n v d) := by
  have h6 := hT.2.1
  have e := rr_s (t := t) (lk := lk) hn (v := v) (j := d - 1) (by omega)
  rw [show d - 1 + 1 = d by omega] at e
  rw [e]
  have h1 : sp_cnt t (sp_mv t lk false false (100 + (d - 1)) (rr t lk n v (d - 1))) = sp_cnt t (rr t lk n v (d - 1)) := sp_cnt_mvk t lk false false _ _ (t.1 1) (by omega)
  unfold sp_night
  rcases wed_nw hT (100 + (d - 1)) (sp_mv t lk false false (100 + (d - 1)) (rr t lk n v (d - 1))) with h | h
  · rw [h.2]
    exact Or.inl h1
  · exact Or.inr (by omega)
set_option maxHeartbeats 4000000 in
set_option maxRecDepth 100000 in
theorem l_X6_frC {S : mx_Sc} {f : Bool} {M : Nat → Int → Int} {L : Nat → Nat → Int64} {Rf : Nat → Nat → Option Nat} (hR : mx_rf Rf) {t : Nat} (ht : t = 29 ∨ t = 37) (hT : sp_tok (sp_tC M t)) (hto : Rf 0 10 = some t) (hwt : Rf 46 1 = some t) (hwl : Rf 46 2 = some (t + 3)) (hlk : sp_lok (sp_tC M t) (M (t + 3))) (hng : M 46 4 = bI false) (hst : M 46 3 = M t 2) {v J : Int → Int} {n : Int} (hn : 0 ≤ n ∧ n ≤ 99) (hJ : ∀ i, 0 ≤ i → i < 18 → 0 ≤ J i ∧ J i < 32) (hff : f = false) : ∀ (kk : Nat) (d o : Int) (N : Nat → Int → Int) (L2 : Nat → Nat → Int64) (o3 o4 : Option Value), 1 ≤ d → d + kk = 1001 → (0 ≤ o ∧ o ≤ d - 1) → frS t M n v J N (100 - n + (d - 1)).toNat → (∀ j, 0 ≤ j → j ≤ d - 1 → sp_vok (sp_tC M t) (rr (sp_tC M t) (M (t + 3)) n v j)) → (∀ j, 0 ≤ j → j ≤ d - 1 → L2 22 j.toNat = pkS (roW t M n v J j) 6) → (∀ y, y ≠ 22 → L2 y = L y) → (∀ j, o ≤ j → j ≤ d - 1 → sp_cnt (sp_tC M t) (rr (sp_tC M t) (M (t + 3)) n v j) = sp_cnt (sp_tC M t) (rr (sp_tC M t) (M (t + 3)) n v (d - 1))) ∧ (∀ j, 0 ≤ j → j < o → sp_cnt (sp_tC M t) (rr (sp_tC M t) (M (t + 3)) n v j) < sp_cnt (sp_tC M t) (rr (sp_tC M t) (M (t + 3)) n v (d - 1))) → noR (sp_tC M t) (M (t + 3)) n v d → mx_E S mX6_findRound 82 [some (.ref 0), some (.int (iI o)), some (.int (iI d)), o3, o4] [] (f, mx_SH, N, L2, Rf) 0 0 (fun v9 h9 => ∃ N L3 x w, h9 = (f, mx_SH, N, L3, Rf) ∧ v9 = some (.int (iI x)) ∧ (∀ y, y ≠ 22 → L3 y = L y) ∧ (∀ x, x ≠ 47 → x ≠ 18 → x ≠ 19 → x ≠ 20 → x ≠ 21 → N x = M x) ∧ (x = -1 ∨ scR (sp_tC M t) N 18 w) ∧ frP (sp_tC M t) (M (t + 3)) n v x w) (fun _ _ => False) := by
  intro kk
  induction kk with
  | zero => 
    intro d o N L2 o3 o4 g0 g1 ho hS hvr hcol hL hold hnr
    have ht9 : t < 900 := by omega
    have hs_t := tc_s ht
    have hs_t1 := tc_s1 ht
    have hr_t1 := tc_r1 hR ht
    have hs_t2 := tc_s2 ht
    have hr_t2 := tc_r2 hR ht
    have hs_t3 := tc_s3 ht
    have hr_t3 := tc_r3 hR ht
    have hs_t4 := tc_s4 ht
    have hr_t4 := tc_r4 hR ht
    have hs_t5 := tc_s5 ht
    have hr_t5 := tc_r5 hR ht
    have hs_t6 := tc_s6 ht
    have hr_t6 := tc_r6 hR ht
    have hs_t7 := tc_s7 ht
    have hr_t7 := tc_r7 hR ht
    have hT0 : 1 ≤ M t 0 ∧ M t 0 ≤ 30 := hT.1
    have hT1 : 0 ≤ M t 1 ∧ M t 1 ≤ 6 := hT.2.1
    have hT2 : 1 ≤ M t 2 ∧ M t 2 ≤ 9 := hT.2.2.1
    have hT3 : 0 ≤ M t 3 ∧ M t 3 ≤ 9 := hT.2.2.2.1
    have hT4 : 0 ≤ M t 4 ∧ M t 4 ≤ 9 := hT.2.2.2.2.1
    have hT5 : 1 ≤ M t 5 ∧ M t 5 ≤ 99 := hT.2.2.2.2.2.1
    have hT6 : 0 ≤ M t 6 ∧ M t 6 ≤ 10 := hT.2.2.2.2.2.2.1
    have hTn : ((M t 1).toNat : Int) = M t 1 := Int.toNat_of_nonneg hT1.1
    have hTn6 : ((M t 6).toNat : Int) = M t 6 := Int.toNat_of_nonneg hT6.1
    refine ms_iload_n dX6_findRound_82 rfl ?_
    refine mi_sipush dX6_findRound_83 (by decide) ?_
    refine mi_icmp_gt (tgt := 180) dX6_findRound_86 (by decide) (fun c_86 => ?_) (fun c_86 => ?_)
    · refine mi_iconst dX6_findRound_180 ?_
      refine ms_ret dX6_findRound_181 rfl ⟨N, L2, -1, v, rfl, rfl, hL, hS.1, Or.inl rfl, Or.inr ⟨by rw [show (1001 : Int) = d by omega]; exact hnr, rfl⟩⟩ (by rw [hff]; simp)
    · exact absurd c_86 (by omega)
  | succ kk ih => 
    intro d o N L2 o3 o4 g0 g1 ho hS hvr hcol hL hold hnr
    have ht9 : t < 900 := by omega
    have hs_t := tc_s ht
    have hs_t1 := tc_s1 ht
    have hr_t1 := tc_r1 hR ht
    have hs_t2 := tc_s2 ht
    have hr_t2 := tc_r2 hR ht
    have hs_t3 := tc_s3 ht
    have hr_t3 := tc_r3 hR ht
    have hs_t4 := tc_s4 ht
    have hr_t4 := tc_r4 hR ht
    have hs_t5 := tc_s5 ht
    have hr_t5 := tc_r5 hR ht
    have hs_t6 := tc_s6 ht
    have hr_t6 := tc_r6 hR ht
    have hs_t7 := tc_s7 ht
    have hr_t7 := tc_r7 hR ht
    have hT0 : 1 ≤ M t 0 ∧ M t 0 ≤ 30 := hT.1
    have hT1 : 0 ≤ M t 1 ∧ M t 1 ≤ 6 := hT.2.1
    have hT2 : 1 ≤ M t 2 ∧ M t 2 ≤ 9 := hT.2.2.1
    have hT3 : 0 ≤ M t 3 ∧ M t 3 ≤ 9 := hT.2.2.2.1
    have hT4 : 0 ≤ M t 4 ∧ M t 4 ≤ 9 := hT.2.2.2.2.1
    have hT5 : 1 ≤ M t 5 ∧ M t 5 ≤ 99 := hT.2.2.2.2.2.1
    have hT6 : 0 ≤ M t 6 ∧ M t 6 ≤ 10 := hT.2.2.2.2.2.2.1
    have hTn : ((M t 1).toNat : Int) = M t 1 := Int.toNat_of_nonneg hT1.1
    have hTn6 : ((M t 6).toNat : Int) = M t 6 := Int.toNat_of_nonneg hT6.1
    have q1 := hS.1
    have eT : sp_tC N t = sp_tC M t := tC_fr (fun y _ _ => q1 y (by omega) (by omega) (by omega) (by omega) (by omega))
    have eN : ∀ k, N t k = M t k := fun k => by rw [q1 t (by omega) (by omega) (by omega) (by omega) (by omega)]
    have e46 : N 46 = M 46 := q1 46 (by omega) (by omega) (by omega) (by omega) (by omega)
    have ewr : N (t + 3) = M (t + 3) := q1 (t + 3) (by omega) (by omega) (by omega) (by omega) (by omega)
    have hSk : (100 - n + d).toNat = (100 - n + (d - 1)).toNat + 1 := by omega
    have hc1 := hS.2.2.2.1.2.2.2.2
    have hcl1 := sp_cnt_le (sp_tC M t) (rr (sp_tC M t) (M (t + 3)) n v (d - 1))
    have hcl2 := sp_cnt_le (sp_tC M t) (rr (sp_tC M t) (M (t + 3)) n v d)
    have hcn := cnt_night hT (lk := M (t + 3)) hn (v := v) (d := d) g0
    simp only at hcl1 hcl2
    refine ms_iload_n dX6_findRound_82 rfl ?_
    refine mi_sipush dX6_findRound_83 (by decide) ?_
    refine mi_icmp_gt (tgt := 180) dX6_findRound_86 (by decide) (fun c_86 => ?_) (fun c_86 => ?_)
    · exact absurd c_86 (by omega)
    · refine ms_aload_n dX6_findRound_89 rfl ?_
      refine ms_getR dX6_findRound_90 (fo_X6_26 rfl) (by first | rfl | assumption) rfl (by first | assumption | exact rf_0_4 hR ) ?_
      refine ms_getI (z := 5) dX6_findRound_93 (fo_X6_136 rfl) (by first | rfl | assumption) rfl rfl ?_
      refine ms_istore_n dX6_findRound_96 (by decide) rfl ?_
      dsimp only [List.set, Nat.reduceAdd]
      refine ms_aload_n dX6_findRound_97 rfl ?_
      refine ms_getR dX6_findRound_98 (fo_X6_75 rfl) (by first | rfl | assumption) rfl (by first | assumption | exact rf_0_9 hR ) ?_
      refine ms_aload_n dX6_findRound_101 rfl ?_
      refine ms_getR dX6_findRound_102 (fo_X6_26 rfl) (by first | rfl | assumption) rfl (by first | assumption | exact rf_0_4 hR ) ?_
      refine ms_callV1 (ci := 5) (r := (RX5, TX5, 5)) dX6_findRound_105 cv_X6_findRound_X5_passNight (k_X5_passNight (M := N) (a := 18) (v := sp_run (sp_tC M t) (M (t + 3)) false false n (100 - n + (d - 1)).toNat v) (n := 100 + (d - 1)) (hf := false) (ng := false) (wr := t + 3) hR ht (by rw [eT]; exact hT) (by omega) hwt (Or.inl rfl) hwl (by rw [eT, ewr]; exact hlk) (by rw [eT]; exact hS.2.2.2.1) (by rw [eT]; exact hS.2.2.2.2) (by omega) (by have := hS.2.1; omega) (by rw [e46]; exact hng) (by rw [e46, eN]; exact hst)) rfl rfl (by first | rfl | assumption) (Nat.le_of_ble_eq_true rfl) rfl (fun _ _ z => z.elim) (fun v9 h9 hp9 => ?_)
      obtain ⟨N2, c, rfl, rfl, y1, y2, y3, y4, y5, y6⟩ := hp9
      rw [eT, ewr] at y4 y5
      have hS2 : frS t M n v J N2 ((100 - n + (d - 1)).toNat + 1) := by
        refine ⟨fun x x1 x2 x3 x4 x5 => by rw [y1 x x1 x2 x3 x4 x5, q1 x x1 x2 x3 x4 x5], by rw [y2]; omega, fun i hi => by rw [y3 i (by rw [eN]; exact hi)]; exact hS.2.2.1 i hi, ?_, ?_⟩
        · show scR (sp_tC M t) N2 18 (sp_night (sp_tC M t) (M (t + 3)) false false (n + (((100 - n + (d - 1)).toNat : Nat) : Int)) _)
          rw [show n + (((100 - n + (d - 1)).toNat : Nat) : Int) = 100 + (d - 1) by omega]
          exact y4
        · show sp_vok (sp_tC M t) (sp_night (sp_tC M t) (M (t + 3)) false false (n + (((100 - n + (d - 1)).toNat : Nat) : Int)) _)
          rw [show n + (((100 - n + (d - 1)).toNat : Nat) : Int) = 100 + (d - 1) by omega]
          exact y5
      have hS3 : frS t M n v J N2 (100 - n + d).toNat := by rw [hSk]; exact hS2
      have hc2 : N2 18 5 = sp_cnt (sp_tC M t) (rr (sp_tC M t) (M (t + 3)) n v d) / 2 := hS3.2.2.2.1.2.2.2.2
      have hc3 : N 18 5 = sp_cnt (sp_tC M t) (rr (sp_tC M t) (M (t + 3)) n v (d - 1)) / 2 := hc1
      have hvr2 : ∀ j, 0 ≤ j → j ≤ d → sp_vok (sp_tC M t) (rr (sp_tC M t) (M (t + 3)) n v j) := fun j j0 j1 => by
        by_cases e : j = d
        · rw [e]
          exact hS3.2.2.2.2
        · exact hvr j j0 (by omega)
      have hbd : ∀ j, 0 ≤ j → j ≤ d → ∀ i, 0 ≤ i → i < 18 → 0 ≤ roW t M n v J j i ∧ roW t M n v J j i < 32 := fun j j0 j1 i i0 i1 => by
        unfold roW
        by_cases e : i < 3 * M t 1
        · rw [if_pos e]
          exact vok_b hT (hvr2 j j0 j1) i0 e
        · rw [if_neg e]
          exact hJ i i0 i1
      refine ms_pop dX6_findRound_108 rfl ?_
      refine ms_aload_n dX6_findRound_109 rfl ?_
      refine ms_getR dX6_findRound_110 (fo_X6_26 rfl) (by first | rfl | assumption) rfl (by first | assumption | exact rf_0_4 hR ) ?_
      refine ms_getI (z := 5) dX6_findRound_113 (fo_X6_136 rfl) (by first | rfl | assumption) rfl rfl ?_
      refine ms_iload_n dX6_findRound_116 rfl ?_
      refine mi_icmp_eq (tgt := 122) dX6_findRound_117 (by decide) (fun c_117 => ?_) (fun c_117 => ?_)
      · have hold2 : (∀ j, o ≤ j → j ≤ d → sp_cnt (sp_tC M t) (rr (sp_tC M t) (M (t + 3)) n v j) = sp_cnt (sp_tC M t) (rr (sp_tC M t) (M (t + 3)) n v d)) ∧ (∀ j, 0 ≤ j → j < o → sp_cnt (sp_tC M t) (rr (sp_tC M t) (M (t + 3)) n v j) < sp_cnt (sp_tC M t) (rr (sp_tC M t) (M (t + 3)) n v d)) := ⟨fun j j0 j1 => by
          by_cases e : j = d
          · rw [e]
          · rw [hold.1 j j0 (by omega)]
            omega, fun j j0 j1 => by
          have h1 := hold.2 j j0 j1
          omega⟩
        refine ms_aload_n dX6_findRound_122 rfl ?_
        refine ms_getR dX6_findRound_123 (fo_X6_30 rfl) (by first | rfl | assumption) rfl (by first | assumption | exact rf_0_5 hR ) ?_
        refine ms_iload_n dX6_findRound_126 rfl ?_
        refine ms_aload_n dX6_findRound_127 rfl ?_
        refine ms_getR dX6_findRound_128 (fo_X6_26 rfl) (by first | rfl | assumption) rfl (by first | assumption | exact rf_0_4 hR ) ?_
        refine ms_callV0 (ci := 2) (r := (RX2, TX2, 6)) dX6_findRound_131 cv_X6_findRound_X2_packColours (k_X2_packColours (M := N2) hR (a := 18) (by omega) (fun i i0 i1 => by rw [hS3.toRo i0]; exact hbd d (by omega) (by omega) i i0 i1)) rfl rfl (by first | rfl | assumption) (Nat.le_of_ble_eq_true rfl) rfl (fun _ _ z => z.elim) (fun v9 h9 hp9 => ?_)
        obtain ⟨rfl, rfl⟩ := hp9
        refine ms_last dX6_findRound_134 (by first | rfl | assumption) ?_
        refine ms_iload_n dX6_findRound_135 rfl ?_
        refine mi_iconst dX6_findRound_136 ?_
        refine mi_isub dX6_findRound_137 ?_
        refine ms_istore dX6_findRound_138 (by decide) rfl ?_
        dsimp only [List.set, Nat.reduceAdd]
        have hcol2 : ∀ j, 0 ≤ j → j ≤ d → va_up L2 22 (va_up (L2 22) d.toNat (pkS (N2 (18 + 1)) 6)) 22 j.toNat = pkS (roW t M n v J j) 6 := fun j j0 j1 => by
          rw [up_s]
          by_cases e : j = d
          · rw [e, up_s]
            exact pkS_congr (fun i i0 i1 => hS3.toRo i0) 6 (Nat.le_refl _)
          · rw [up_n _ _ (by omega)]
            exact hcol j j0 (by omega)
        refine l_X6_frB (S := S) (L := L) (M := M) (P := (fun v9 h9 => ∃ N L3 x w, h9 = (f, mx_SH, N, L3, Rf) ∧ v9 = some (.int (iI x)) ∧ (∀ y, y ≠ 22 → L3 y = L y) ∧ (∀ x, x ≠ 47 → x ≠ 18 → x ≠ 19 → x ≠ 20 → x ≠ 21 → N x = M x) ∧ (x = -1 ∨ scR (sp_tC M t) N 18 w) ∧ frP (sp_tC M t) (M (t + 3)) n v x w)) (PX := fun _ _ => False) hR ht hT hto hwt hwl hlk hng hst hn hJ hff (N := N2) (d := d) (o := o) (by omega) (by omega) hvr2 hcol2 hold2 ((d - o) / 2).toNat (d - 2) (by omega) (by omega) (by omega) (by omega) (fun b2 h1 h2 h3 => by omega) (fun hno z4 => ?_) (fun b b0 b1 b2 b3 b4 => ?_)
        · refine mi_iinc dX6_findRound_174 rfl (by decide) rfl ?_
          dsimp only [List.set, Nat.reduceAdd]
          refine ms_goto (tgt := 82) dX6_findRound_177 (by decide) ?_
          refine ih (d + 1) o N2 _ _ _ (by omega) (by omega) (by omega) (by rw [show d + 1 - 1 = d by omega]; exact hS3) (by rw [show d + 1 - 1 = d by omega]; exact hvr2) (by rw [show d + 1 - 1 = d by omega]; exact hcol2) (fun y hy => by rw [up_n _ _ hy]; exact hL y hy) (by rw [show d + 1 - 1 = d by omega]; exact hold2) (fun d2 b2 h1 h2 h3 h4 h5 => ?_)
          by_cases e : d2 = d
          · subst e
            exact hno b2 h3 h4 h5
          · exact hnr d2 b2 h1 (by omega) h3 h4 h5
        · exact ⟨N2, _, d - b, rr (sp_tC M t) (M (t + 3)) n v d, rfl, rfl, fun y hy => by rw [up_n _ _ hy]; exact hL y hy, hS3.1, Or.inr hS3.2.2.2.1, Or.inl ⟨d, b, by omega, by omega, b0, b1, b2, b3, b4, hnr, rfl, rfl⟩⟩
      · refine ms_iload_n dX6_findRound_120 rfl ?_
        refine ms_istore_n dX6_findRound_121 (by decide) rfl ?_
        dsimp only [List.set, Nat.reduceAdd]
        have hold2 : (∀ j, d ≤ j → j ≤ d → sp_cnt (sp_tC M t) (rr (sp_tC M t) (M (t + 3)) n v j) = sp_cnt (sp_tC M t) (rr (sp_tC M t) (M (t + 3)) n v d)) ∧ (∀ j, 0 ≤ j → j < d → sp_cnt (sp_tC M t) (rr (sp_tC M t) (M (t + 3)) n v j) < sp_cnt (sp_tC M t) (rr (sp_tC M t) (M (t + 3)) n v d)) := ⟨fun j j0 j1 => by rw [show j = d by omega], fun j j0 j1 => by
          by_cases e : o ≤ j
          · rw [hold.1 j e (by omega)]
            omega
          · have h1 := hold.2 j j0 (by omega)
            omega⟩
        refine ms_aload_n dX6_findRound_122 rfl ?_
        refine ms_getR dX6_findRound_123 (fo_X6_30 rfl) (by first | rfl | assumption) rfl (by first | assumption | exact rf_0_5 hR ) ?_
        refine ms_iload_n dX6_findRound_126 rfl ?_
        refine ms_aload_n dX6_findRound_127 rfl ?_
        refine ms_getR dX6_findRound_128 (fo_X6_26 rfl) (by first | rfl | assumption) rfl (by first | assumption | exact rf_0_4 hR ) ?_
        refine ms_callV0 (ci := 2) (r := (RX2, TX2, 6)) dX6_findRound_131 cv_X6_findRound_X2_packColours (k_X2_packColours (M := N2) hR (a := 18) (by omega) (fun i i0 i1 => by rw [hS3.toRo i0]; exact hbd d (by omega) (by omega) i i0 i1)) rfl rfl (by first | rfl | assumption) (Nat.le_of_ble_eq_true rfl) rfl (fun _ _ z => z.elim) (fun v9 h9 hp9 => ?_)
        obtain ⟨rfl, rfl⟩ := hp9
        refine ms_last dX6_findRound_134 (by first | rfl | assumption) ?_
        refine ms_iload_n dX6_findRound_135 rfl ?_
        refine mi_iconst dX6_findRound_136 ?_
        refine mi_isub dX6_findRound_137 ?_
        refine ms_istore dX6_findRound_138 (by decide) rfl ?_
        dsimp only [List.set, Nat.reduceAdd]
        have hcol2 : ∀ j, 0 ≤ j → j ≤ d → va_up L2 22 (va_up (L2 22) d.toNat (pkS (N2 (18 + 1)) 6)) 22 j.toNat = pkS (roW t M n v J j) 6 := fun j j0 j1 => by
          rw [up_s]
          by_cases e : j = d
          · rw [e, up_s]
            exact pkS_congr (fun i i0 i1 => hS3.toRo i0) 6 (Nat.le_refl _)
          · rw [up_n _ _ (by omega)]
            exact hcol j j0 (by omega)
        refine l_X6_frB (S := S) (L := L) (M := M) (P := (fun v9 h9 => ∃ N L3 x w, h9 = (f, mx_SH, N, L3, Rf) ∧ v9 = some (.int (iI x)) ∧ (∀ y, y ≠ 22 → L3 y = L y) ∧ (∀ x, x ≠ 47 → x ≠ 18 → x ≠ 19 → x ≠ 20 → x ≠ 21 → N x = M x) ∧ (x = -1 ∨ scR (sp_tC M t) N 18 w) ∧ frP (sp_tC M t) (M (t + 3)) n v x w)) (PX := fun _ _ => False) hR ht hT hto hwt hwl hlk hng hst hn hJ hff (N := N2) (d := d) (o := d) (by omega) (by omega) hvr2 hcol2 hold2 ((d - d) / 2).toNat (d - 2) (by omega) (by omega) (by omega) (by omega) (fun b2 h1 h2 h3 => by omega) (fun hno z4 => ?_) (fun b b0 b1 b2 b3 b4 => ?_)
        · refine mi_iinc dX6_findRound_174 rfl (by decide) rfl ?_
          dsimp only [List.set, Nat.reduceAdd]
          refine ms_goto (tgt := 82) dX6_findRound_177 (by decide) ?_
          refine ih (d + 1) d N2 _ _ _ (by omega) (by omega) (by omega) (by rw [show d + 1 - 1 = d by omega]; exact hS3) (by rw [show d + 1 - 1 = d by omega]; exact hvr2) (by rw [show d + 1 - 1 = d by omega]; exact hcol2) (fun y hy => by rw [up_n _ _ hy]; exact hL y hy) (by rw [show d + 1 - 1 = d by omega]; exact hold2) (fun d2 b2 h1 h2 h3 h4 h5 => ?_)
          by_cases e : d2 = d
          · subst e
            exact hno b2 h3 h4 h5
          · exact hnr d2 b2 h1 (by omega) h3 h4 h5
        · exact ⟨N2, _, d - b, rr (sp_tC M t) (M (t + 3)) n v d, rfl, rfl, fun y hy => by rw [up_n _ _ hy]; exact hL y hy, hS3.1, Or.inr hS3.2.2.2.1, Or.inl ⟨d, b, by omega, by omega, b0, b1, b2, b3, b4, hnr, rfl, rfl⟩⟩

