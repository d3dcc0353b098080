set_option maxHeartbeats 4000000 in
set_option maxRecDepth 100000 in
theorem k_X6_findRound {S : mx_Sc} {f : Bool} {M : Nat → Int → Int} {L : Nat → Nat → Int64} {Rf : Nat → Nat → Option Nat} (hR : mx_rf Rf) {t : Nat} (ht : t = 29 ∨ t = 37) (hT : sp_tok (sp_tC M t)) (hto : Rf 0 10 = some t) {v : Int → Int} (hsc : scR (sp_tC M t) M 3 v) (hv : sp_vok (sp_tC M t) v) {n : Int} (hn : 0 ≤ n ∧ n ≤ 99) (hnn : M 3 3 = n) (hlk : sp_lok (sp_tC M t) (M (t + 3))) (hJ : ∀ i, 0 ≤ i → i < 18 → 0 ≤ M 4 i ∧ M 4 i < 32) (hff : f = false) : mx_C S mX6_findRound [.ref 0] (f, mx_SH, M, L, Rf) 0 0 (fun v9 h9 => ∃ N L3 Rf2 x w, h9 = (f, mx_SH, N, L3, Rf2) ∧ v9 = some (.int (iI x)) ∧ mx_rf Rf2 ∧ (∀ y, y ≠ 46 → Rf2 y = Rf y) ∧ (∀ y, y ≠ 22 → L3 y = L y) ∧ (∀ x, x ≠ 46 → x ≠ 47 → x ≠ 18 → x ≠ 19 → x ≠ 20 → x ≠ 21 → N x = M x) ∧ (x = -1 ∨ scR (sp_tC M t) N 18 w) ∧ frP (sp_tC M t) (M (t + 3)) n v x w) (fun _ _ => False) := by
  refine mx_C_of (by decide) (by simp [Value.category]) (Nat.le_of_ble_eq_true rfl) rfl ?_
  show mx_E S mX6_findRound 0 [some (.ref 0), none, none, none, none] [] (f, mx_SH, M, L, Rf) 0 0 _ _
  have ht9 : t < 900 := by omega
  have hs_t := tc_s ht
  have hs_t1 := tc_s1 ht
  have hr_t1 := tc_r1 hR ht
  have hs_t2 := tc_s2 ht
  have hr_t2 := tc_r2 hR ht
  have hs_t3 := tc_s3 ht
  have hr_t3 := tc_r3 hR ht
  have hs_t4 := tc_s4 ht
  have hr_t4 := tc_r4 hR ht
  have hs_t5 := tc_s5 ht
  have hr_t5 := tc_r5 hR ht
  have hs_t6 := tc_s6 ht
  have hr_t6 := tc_r6 hR ht
  have hs_t7 := tc_s7 ht
  have hr_t7 := tc_r7 hR ht
  have hT0 : 1 ≤ M t 0 ∧ M t 0 ≤ 30 := hT.1
  have hT1 : 0 ≤ M t 1 ∧ M t 1 ≤ 6 := hT.2.1
  have hT2 : 1 ≤ M t 2 ∧ M t 2 ≤ 9 := hT.2.2.1
  have hT3 : 0 ≤ M t 3 ∧ M t 3 ≤ 9 := hT.2.2.2.1
  have hT4 : 0 ≤ M t 4 ∧ M t 4 ≤ 9 := hT.2.2.2.2.1
  have hT5 : 1 ≤ M t 5 ∧ M t 5 ≤ 99 := hT.2.2.2.2.2.1
  have hT6 : 0 ≤ M t 6 ∧ M t 6 ≤ 10 := hT.2.2.2.2.2.2.1
  have hTn : ((M t 1).toNat : Int) = M t 1 := Int.toNat_of_nonneg hT1.1
  have hTn6 : ((M t 6).toNat : Int) = M t 6 := Int.toNat_of_nonneg hT6.1
  refine ms_aload_n dX6_findRound_0 rfl ?_
  refine ms_getR dX6_findRound_1 (fo_X6_75 rfl) (by first | rfl | assumption) rfl (by first | assumption | exact rf_0_9 hR ) ?_
  refine ms_aload_n dX6_findRound_4 rfl ?_
  refine ms_getR dX6_findRound_5 (fo_X6_50 rfl) (by first | rfl | assumption) rfl (by first | assumption ) ?_
  refine ms_aload_n dX6_findRound_8 rfl ?_
  refine ms_getR dX6_findRound_9 (fo_X6_50 rfl) (by first | rfl | assumption) rfl (by first | assumption ) ?_
  refine ms_getR dX6_findRound_12 (fo_X6_154 rfl) (by first | rfl | assumption) rfl (by first | assumption | exact rf_29_9 hR | exact rf_37_9 hR ) ?_
  refine mi_iconst dX6_findRound_15 ?_
  refine ms_callV3 (ci := 5) (r := (RX5, TX5, 5)) dX6_findRound_16 cv_X6_findRound_X5_obey (k_X5_obey (hf := false) (ng := false) (wr := t + 3) hR ht hT) rfl rfl (by first | rfl | assumption) (Nat.le_of_ble_eq_true rfl) rfl (fun _ _ z => z.elim) (fun v9 h9 hp9 => ?_)
  obtain ⟨N1, Rf2, rfl, rfl, hR, hRx, hR1, hR12, hNx, hN4, hN3⟩ := hp9
  have hto : Rf2 0 10 = some t := by rw [hRx 0 (by decide)]; exact hto
  refine ms_aload_n dX6_findRound_19 rfl ?_
  refine ms_getR dX6_findRound_20 (fo_X6_26 rfl) (by first | rfl | assumption) rfl (by first | assumption | exact rf_0_4 hR ) ?_
  refine ms_aload_n dX6_findRound_23 rfl ?_
  refine ms_getR dX6_findRound_24 (fo_X6_16 rfl) (by first | rfl | assumption) rfl (by first | assumption | exact rf_0_2 hR ) ?_
  refine ms_getR dX6_findRound_27 (fo_X6_130 rfl) (by first | rfl | assumption) rfl (by first | assumption | exact rf_2_0 hR | exact rf_10_0 hR ) ?_
  refine ms_callV1 (ci := 2) (r := (RX2, TX2, 6)) dX6_findRound_30 cv_X6_findRound_X2_take (k_X2_take (M := N1) (a := 18) (b := 3) hR (by omega) (by omega) (by decide)) rfl rfl (by first | rfl | assumption) (Nat.le_of_ble_eq_true rfl) rfl (fun _ _ z => z.elim) (fun v9 h9 hp9 => ?_)
  obtain ⟨N2, rfl, rfl, z1, z2, z3⟩ := hp9
  have fx : ∀ x, x ≠ 46 → x ≠ 18 → x ≠ 19 → x ≠ 20 → x ≠ 21 → N2 x = M x := fun x x0 x1 x2 x3 x4 => by rw [z1 x x1 x2 x3 x4, hNx x x0]
  have eT2 : sp_tC N2 t = sp_tC M t := tC_fr (fun y _ _ => fx y (by omega) (by omega) (by omega) (by omega) (by omega))
  have eN2 : ∀ k, N2 t k = M t k := fun k => by rw [fx t (by omega) (by omega) (by omega) (by omega) (by omega)]
  have elk : N2 (t + 3) = M (t + 3) := fx (t + 3) (by omega) (by omega) (by omega) (by omega) (by omega)
  have e18 : N2 18 3 = n := by rw [z2.2.2.1, hNx 3 (by decide)]; exact hnn
  have hs18 : scR (sp_tC M t) N2 18 v := z2.sc hT (hsc.fr (hNx _ (by decide)) (hNx _ (by decide)) (hNx _ (by decide)) (hNx _ (by decide)))
  have e46a : N2 46 = N1 46 := z1 46 (by decide) (by decide) (by decide) (by decide)
  refine ms_aload_n dX6_findRound_33 rfl ?_
  refine ms_getR dX6_findRound_34 (fo_X6_26 rfl) (by first | rfl | assumption) rfl (by first | assumption | exact rf_0_4 hR ) ?_
  refine ms_getI (z := 3) dX6_findRound_37 (fo_X6_133 rfl) (by first | rfl | assumption) rfl rfl ?_
  refine ms_istore_n dX6_findRound_40 (by decide) rfl ?_
  dsimp only [List.set, Nat.reduceAdd]
  have hT2 : sp_tok (sp_tC N2 t) := by rw [eT2]; exact hT
  have hlk2 : sp_lok (sp_tC N2 t) (N2 (t + 3)) := by rw [eT2, elk]; exact hlk
  have hng2 : N2 46 4 = bI false := by rw [e46a]; exact hN4
  have hst2 : N2 46 3 = N2 t 2 := by rw [e46a, eN2]; exact hN3
  have hJ2 : ∀ i, 0 ≤ i → i < 18 → 0 ≤ N2 19 i ∧ N2 19 i < 32 := fun i i0 i1 => by
    have h9 := z2.1 i i0 i1
    rw [show N2 19 i = N1 4 i from h9, hNx 4 (by decide)]
    exact hJ i i0 i1
  refine ms_conseq (P2 := (fun v9 h9 => ∃ N L3 x w, h9 = (f, mx_SH, N, L3, Rf2) ∧ v9 = some (.int (iI x)) ∧ (∀ y, y ≠ 22 → L3 y = L y) ∧ (∀ x, x ≠ 47 → x ≠ 18 → x ≠ 19 → x ≠ 20 → x ≠ 21 → N x = N2 x) ∧ (x = -1 ∨ scR (sp_tC N2 t) N 18 w) ∧ frP (sp_tC N2 t) (N2 (t + 3)) n v x w)) (fun v9 h9 hp => ?_) (fun _ _ z => z) ?_
  · obtain ⟨N, L3, x, w, y1, y2, y3, y4, y5, y6⟩ := hp
    rw [eT2, elk] at y6
    rw [eT2] at y5
    exact ⟨N, L3, Rf2, x, w, y1, y2, hR, hRx, y3, fun x x0 x1 x2 x3 x4 x5 => by rw [y4 x x1 x2 x3 x4 x5, fx x x0 x2 x3 x4 x5], y5, y6⟩
  have hS0 : frS t N2 n v (N2 19) N2 0 := ⟨fun _ _ _ _ _ _ => rfl, by rw [e18]; omega, fun _ _ => rfl, by rw [eT2]; exact hs18, by rw [eT2]; exact hv⟩
  have i9 := l_X6_frA (S := S) (f := f) (L := L) (P := (fun v9 h9 => ∃ N L3 x w, h9 = (f, mx_SH, N, L3, Rf2) ∧ v9 = some (.int (iI x)) ∧ (∀ y, y ≠ 22 → L3 y = L y) ∧ (∀ x, x ≠ 47 → x ≠ 18 → x ≠ 19 → x ≠ 20 → x ≠ 21 → N x = N2 x) ∧ (x = -1 ∨ scR (sp_tC N2 t) N 18 w) ∧ frP (sp_tC N2 t) (N2 (t + 3)) n v x w)) (PX := fun _ _ => False) hR ht hT2 hto hR1 hR12 hlk2 hng2 hst2 (v := v) (J := N2 19) hn (100 - n).toNat 0 N2 (by omega) hS0
  rw [show n + ((0 : Nat) : Int) = N2 18 3 by rw [e18]; omega] at i9
  refine i9 (fun N3 z1 hS => ?_)
  have hv0 : sp_vok (sp_tC N2 t) (rr (sp_tC N2 t) (N2 (t + 3)) n v 0) := hS.2.2.2.2
  have hb0 : ∀ i, 0 ≤ i → i < 18 → 0 ≤ N3 19 i ∧ N3 19 i < 32 := fun i i0 i1 => by
    rw [hS.toRo i0]
    unfold roW
    by_cases e : i < 3 * N2 t 1
    · rw [if_pos e]
      exact vok_b hT2 hv0 i0 e
    · rw [if_neg e]
      exact hJ2 i i0 i1
  refine ms_aload_n dX6_findRound_65 rfl ?_
  refine ms_getR dX6_findRound_66 (fo_X6_30 rfl) (by first | rfl | assumption) rfl (by first | assumption | exact rf_0_5 hR ) ?_
  refine mi_iconst dX6_findRound_69 ?_
  refine ms_aload_n dX6_findRound_70 rfl ?_
  refine ms_getR dX6_findRound_71 (fo_X6_26 rfl) (by first | rfl | assumption) rfl (by first | assumption | exact rf_0_4 hR ) ?_
  refine ms_callV0 (ci := 2) (r := (RX2, TX2, 6)) dX6_findRound_74 cv_X6_findRound_X2_packColours (k_X2_packColours (M := N3) hR (a := 18) (by omega) hb0) rfl rfl (by first | rfl | assumption) (Nat.le_of_ble_eq_true rfl) rfl (fun _ _ z => z.elim) (fun v9 h9 hp9 => ?_)
  obtain ⟨rfl, rfl⟩ := hp9
  refine ms_last dX6_findRound_77 (by first | rfl | assumption) ?_
  refine mi_iconst dX6_findRound_78 ?_
  refine ms_istore_n dX6_findRound_79 (by decide) rfl ?_
  dsimp only [List.set, Nat.reduceAdd]
  refine mi_iconst dX6_findRound_80 ?_
  refine ms_istore_n dX6_findRound_81 (by decide) rfl ?_
  dsimp only [List.set, Nat.reduceAdd]
  exact l_X6_frC (S := S) (f := f) (L := L) hR ht hT2 hto hR1 hR12 hlk2 hng2 hst2 (v := v) (J := N2 19) hn hJ2 hff 1000 1 0 N3 _ _ _ (by omega) (by omega) (by omega) (by rw [show (1 : Int) - 1 = 0 from rfl]; exact hS) (fun j j0 j1 => by rw [show j = 0 by omega]; exact hv0) (fun j j0 j1 => by rw [show j = 0 by omega]; exact (show va_up L 22 _ 22 0 = _ by rw [up_s, show Int.toNat 0 = 0 from rfl, up_s]; exact pkS_congr (fun i i0 i1 => hS.toRo i0) 6 (Nat.le_refl _))) (fun y hy => up_n _ _ hy) ⟨fun j j0 j1 => by rw [show j = 1 - 1 by omega], fun j j0 j1 => by omega⟩ (fun d2 b2 h1 h2 => by omega)

