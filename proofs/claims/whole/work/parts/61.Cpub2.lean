set_option maxHeartbeats 4000000 in
set_option maxRecDepth 100000 in
theorem k_X6_matches {S : mx_Sc} {f : Bool} {M : Nat → Int → Int} {L : Nat → Nat → Int64} {Rf : Nat → Nat → Option Nat} (hR : mx_rf Rf) {t : Nat} (ht : t = 29 ∨ t = 37) (hT : sp_tok (sp_tC M t)) (hto : Rf 0 10 = some t) {v : Int → Int} (hsc : scR (sp_tC M t) M 3 v) (hv : sp_vok (sp_tC M t) v) {n : Int} (hn : 0 ≤ n ∧ n ≤ 99) (hnn : M 3 3 = n) (hlk : sp_lok (sp_tC M t) (M (t + 3))) (hne : n ≤ M t 5) {hf ng : Bool} : mx_C S mX6_matches [.ref 0, .int (iI (bI hf + 2 * bI ng))] (f, mx_SH, M, L, Rf) 0 0 (fun v9 h9 => ∃ N Rf2, h9 = (f, mx_SH, N, L, Rf2) ∧ v9 = some (.int (iI (sp_cnt (sp_tC M t) (sp_run (sp_tC M t) (M (t + 3)) hf ng n (M t 5 - n).toNat v) / 2))) ∧ mx_rf Rf2 ∧ (∀ y, y ≠ 46 → Rf2 y = Rf y) ∧ (∀ x, x ≠ 46 → x ≠ 47 → x ≠ 18 → x ≠ 19 → x ≠ 20 → x ≠ 21 → N x = M x)) (fun _ _ => False) := by
  refine mx_C_of (by decide) (by simp [Value.category]) (Nat.le_of_ble_eq_true rfl) rfl ?_
  show mx_E S mX6_matches 0 [some (.ref 0), some (.int (iI (bI hf + 2 * bI ng)))] [] (f, mx_SH, M, L, Rf) 0 0 _ _
  have ht9 : t < 900 := by omega
  have hs_t := tc_s ht
  have hs_t1 := tc_s1 ht
  have hr_t1 := tc_r1 hR ht
  have hs_t2 := tc_s2 ht
  have hr_t2 := tc_r2 hR ht
  have hs_t3 := tc_s3 ht
  have hr_t3 := tc_r3 hR ht
  have hs_t4 := tc_s4 ht
  have hr_t4 := tc_r4 hR ht
  have hs_t5 := tc_s5 ht
  have hr_t5 := tc_r5 hR ht
  have hs_t6 := tc_s6 ht
  have hr_t6 := tc_r6 hR ht
  have hs_t7 := tc_s7 ht
  have hr_t7 := tc_r7 hR ht
  have hT0 : 1 ≤ M t 0 ∧ M t 0 ≤ 30 := hT.1
  have hT1 : 0 ≤ M t 1 ∧ M t 1 ≤ 6 := hT.2.1
  have hT2 : 1 ≤ M t 2 ∧ M t 2 ≤ 9 := hT.2.2.1
  have hT3 : 0 ≤ M t 3 ∧ M t 3 ≤ 9 := hT.2.2.2.1
  have hT4 : 0 ≤ M t 4 ∧ M t 4 ≤ 9 := hT.2.2.2.2.1
  have hT5 : 1 ≤ M t 5 ∧ M t 5 ≤ 99 := hT.2.2.2.2.2.1
  have hT6 : 0 ≤ M t 6 ∧ M t 6 ≤ 10 := hT.2.2.2.2.2.2.1
  have hTn : ((M t 1).toNat : Int) = M t 1 := Int.toNat_of_nonneg hT1.1
  have hTn6 : ((M t 6).toNat : Int) = M t 6 := Int.toNat_of_nonneg hT6.1
  have hbn := bI_01 ng
  have hbh := bI_01 hf
  refine ms_iload_n dX6_matches_0 rfl ?_
  refine mi_if_lt (tgt := 9) dX6_matches_1 (by decide) (fun c_1 => ?_) (fun c_1 => ?_)
  · exact absurd c_1 (by omega)
  · refine ms_iload_n dX6_matches_4 rfl ?_
    refine mi_iconst dX6_matches_5 ?_
    refine mi_icmp_le (tgt := 17) dX6_matches_6 (by decide) (fun c_6 => ?_) (fun c_6 => ?_)
    · refine ms_aload_n dX6_matches_17 rfl ?_
      refine ms_getR dX6_matches_18 (fo_X6_75 rfl) (by first | rfl | assumption) rfl (by first | assumption | exact rf_0_9 hR ) ?_
      refine ms_aload_n dX6_matches_21 rfl ?_
      refine ms_getR dX6_matches_22 (fo_X6_50 rfl) (by first | rfl | assumption) rfl (by first | assumption ) ?_
      refine ms_aload_n dX6_matches_25 rfl ?_
      refine ms_getR dX6_matches_26 (fo_X6_50 rfl) (by first | rfl | assumption) rfl (by first | assumption ) ?_
      refine ms_getR dX6_matches_29 (fo_X6_154 rfl) (by first | rfl | assumption) rfl (by first | assumption | exact rf_29_9 hR | exact rf_37_9 hR ) ?_
      refine ms_iload_n dX6_matches_32 rfl ?_
      refine ms_callV3 (ci := 5) (r := (RX5, TX5, 5)) dX6_matches_33 cv_X6_matches_X5_obey (k_X5_obey (hf := hf) (ng := ng) (wr := t + 3) hR ht hT) rfl rfl (by first | rfl | assumption) (Nat.le_of_ble_eq_true rfl) rfl (fun _ _ z => z.elim) (fun v9 h9 hp9 => ?_)
      obtain ⟨N1, Rf2, rfl, rfl, hR, hRx, hR1, hR12, hNx, hN4, hN3⟩ := hp9
      have hto : Rf2 0 10 = some t := by rw [hRx 0 (by decide)]; exact hto
      refine ms_aload_n dX6_matches_36 rfl ?_
      refine ms_getR dX6_matches_37 (fo_X6_26 rfl) (by first | rfl | assumption) rfl (by first | assumption | exact rf_0_4 hR ) ?_
      refine ms_aload_n dX6_matches_40 rfl ?_
      refine ms_getR dX6_matches_41 (fo_X6_16 rfl) (by first | rfl | assumption) rfl (by first | assumption | exact rf_0_2 hR ) ?_
      refine ms_getR dX6_matches_44 (fo_X6_130 rfl) (by first | rfl | assumption) rfl (by first | assumption | exact rf_2_0 hR | exact rf_10_0 hR ) ?_
      refine ms_callV1 (ci := 2) (r := (RX2, TX2, 6)) dX6_matches_47 cv_X6_matches_X2_take (k_X2_take (M := N1) (a := 18) (b := 3) hR (by omega) (by omega) (by decide)) rfl rfl (by first | rfl | assumption) (Nat.le_of_ble_eq_true rfl) rfl (fun _ _ z => z.elim) (fun v9 h9 hp9 => ?_)
      obtain ⟨N2, rfl, rfl, z1, z2, z3⟩ := hp9
      have fx : ∀ x, x ≠ 46 → x ≠ 18 → x ≠ 19 → x ≠ 20 → x ≠ 21 → N2 x = M x := fun x x0 x1 x2 x3 x4 => by rw [z1 x x1 x2 x3 x4, hNx x x0]
      have eT2 : sp_tC N2 t = sp_tC M t := tC_fr (fun y _ _ => fx y (by omega) (by omega) (by omega) (by omega) (by omega))
      have eN2 : ∀ k, N2 t k = M t k := fun k => by rw [fx t (by omega) (by omega) (by omega) (by omega) (by omega)]
      have elk : N2 (t + 3) = M (t + 3) := fx (t + 3) (by omega) (by omega) (by omega) (by omega) (by omega)
      have e18 : N2 18 3 = n := by rw [z2.2.2.1, hNx 3 (by decide)]; exact hnn
      have hs18 : scR (sp_tC M t) N2 18 v := z2.sc hT (hsc.fr (hNx _ (by decide)) (hNx _ (by decide)) (hNx _ (by decide)) (hNx _ (by decide)))
      have e46a : N2 46 = N1 46 := z1 46 (by decide) (by decide) (by decide) (by decide)
      have hal := al_lt (l := M t 1) (by omega)
      refine ms_aload_n dX6_matches_50 rfl ?_
      refine ms_getR dX6_matches_51 (fo_X6_75 rfl) (by first | rfl | assumption) rfl (by first | assumption | exact rf_0_9 hR ) ?_
      refine ms_aload_n dX6_matches_54 rfl ?_
      refine ms_getR dX6_matches_55 (fo_X6_26 rfl) (by first | rfl | assumption) rfl (by first | assumption | exact rf_0_4 hR ) ?_
      refine ms_aload_n dX6_matches_58 rfl ?_
      refine ms_callV0 (ci := 6) (r := (RX6, TX6, 15)) dX6_matches_59 cv_X6_matches_X6_allLamps (k_X6_allLamps (M := N2) hR ht (by rw [eT2]; exact hT) hto) rfl rfl (by first | rfl | assumption) (Nat.le_of_ble_eq_true rfl) rfl (fun _ _ z => z.elim) (fun v9 h9 hp9 => ?_)
      obtain ⟨rfl, rfl⟩ := hp9
      rw [eN2]
      refine ms_callV2 (ci := 5) (r := (RX5, TX5, 5)) dX6_matches_62 cv_X6_matches_X5_goToEaster (k_X5_goToEaster (M := N2) (a := 18) (v := v) (n := n) (hf := hf) (ng := ng) (wr := t + 3) (lm := 2 ^ (M t 1).toNat - 1) hR ht (by rw [eT2]; exact hT) (by omega) hR1 (Or.inl rfl) hR12 (by rw [eT2, elk]; exact hlk) (by rw [eT2]; exact hs18) (by rw [eT2]; exact hv) (by omega) e18 (by rw [e46a]; exact hN4) (by rw [e46a, eN2]; exact hN3) hal (by rw [eN2]; exact hne)) rfl rfl (by first | rfl | assumption) (Nat.le_of_ble_eq_true rfl) rfl (fun _ _ z => z.elim) (fun v9 h9 hp9 => ?_)
      obtain ⟨N, w, rfl, rfl, y1, y2, y3, y4, y5⟩ := hp9
      rw [eT2] at y3 y4 y5
      rw [elk, eN2] at y5
      have hcw : sp_cnt (sp_tC M t) w = sp_cnt (sp_tC M t) (sp_run (sp_tC M t) (M (t + 3)) hf ng n (M t 5 - n).toNat v) := cnt_cg (fun l l0 l1 => by
        simp only at l1
        have h1 := (y5 l l0 (by omega) (by rw [ob_al (by omega) ⟨l0, by omega⟩, if_pos l1])).1
        unfold sp_out
        rw [h1])
      refine ms_aload_n dX6_matches_65 rfl ?_
      refine ms_getR dX6_matches_66 (fo_X6_26 rfl) (by first | rfl | assumption) rfl (by first | assumption | exact rf_0_4 hR ) ?_
      refine ms_getI (z := 5) dX6_matches_69 (fo_X6_136 rfl) (by first | rfl | assumption) rfl rfl ?_
      refine ms_ret dX6_matches_72 rfl ⟨N, Rf2, rfl, by rw [show N 18 5 = _ from y3.2.2.2.2, hcw], hR, hRx, fun x x0 x1 x2 x3 x4 x5 => by rw [y1 x x1 x2 x3 x4 x5, fx x x0 x2 x3 x4 x5]⟩ (by simp)
    · exact absurd c_6 (by omega)

set_option maxHeartbeats 4000000 in
set_option maxRecDepth 100000 in
theorem k_X6_matches_x {S : mx_Sc} {f : Bool} {M : Nat → Int → Int} {L : Nat → Nat → Int64} {Rf : Nat → Nat → Option Nat} (hR : mx_rf Rf) {k : Int} (hk32 : -2147483648 ≤ k ∧ k ≤ 2147483647) (hc : ¬ (0 ≤ k ∧ k ≤ 3)) : mx_C S mX6_matches [.ref 0, .int (iI k)] (f, mx_SH, M, L, Rf) 1 6 (fun _ _ => False) (fun e9 h9 => e9 = "java/lang/IllegalArgumentException" ∧ h9 = (false, mx_SH, M, L, Rf)) := by
  refine mx_C_of (by decide) (by simp [Value.category]) (Nat.le_of_ble_eq_true rfl) rfl ?_
  show mx_E S mX6_matches 0 [some (.ref 0), some (.int (iI k))] [] (f, mx_SH, M, L, Rf) 1 6 _ _
  refine ms_iload_n dX6_matches_0 rfl ?_
  refine mi_if_lt (tgt := 9) dX6_matches_1 (by decide) (fun c_1 => ?_) (fun c_1 => ?_)
  · refine ms_throw th_X6_matches_I dX6_matches_9 dX6_matches_12 dX6_matches_13 dX6_matches_16 (Nat.le_of_ble_eq_true rfl) ⟨rfl, rfl⟩
  · refine ms_iload_n dX6_matches_4 rfl ?_
    refine mi_iconst dX6_matches_5 ?_
    refine mi_icmp_le (tgt := 17) dX6_matches_6 (by decide) (fun c_6 => ?_) (fun c_6 => ?_)
    · exact absurd hc (by simp only [Classical.not_not]; omega)
    · refine ms_throw th_X6_matches_I dX6_matches_9 dX6_matches_12 dX6_matches_13 dX6_matches_16 (Nat.le_of_ble_eq_true rfl) ⟨rfl, rfl⟩

set_option maxHeartbeats 4000000 in
set_option maxRecDepth 100000 in
theorem k_X6_may {S : mx_Sc} {f : Bool} {M : Nat → Int → Int} {L : Nat → Nat → Int64} {Rf : Nat → Nat → Option Nat} (hR : mx_rf Rf) {t : Nat} (ht : t = 29 ∨ t = 37) (hT : sp_tok (sp_tC M t)) (hto : Rf 0 10 = some t) {v : Int → Int} (hsc : scR (sp_tC M t) M 3 v) (hv : sp_vok (sp_tC M t) v) (hz : ∀ l, M t 1 ≤ l → l < 6 → sp_out v l = false) {n l : Int} (hn : 0 ≤ n ∧ n ≤ 99) (hnn : M 3 3 = n) (hl : 0 ≤ l ∧ l < M t 1) (hdk : ∀ j, 0 ≤ j → j < n → sp_vok (sp_tC M t) (bk_v (M 7) v j)) (hdw : ∀ i, 0 ≤ i → i < 1800 → -1000 ≤ M 8 i ∧ M 8 i ≤ 1000) (hl32 : -2147483648 ≤ l ∧ l ≤ 2147483647) : mx_C S mX6_may [.ref 0, .int (iI l)] (f, mx_SH, M, L, Rf) 0 0 (fun v9 h9 => ∃ N r Rf2, h9 = (f, mx_SH, N, L, Rf2) ∧ v9 = some (.int (iI r)) ∧ mx_rf Rf2 ∧ (∀ x, x ≠ 46 → Rf2 x = Rf x) ∧ Rf2 46 1 = some t ∧ Rf2 46 2 = some (t + 3) ∧ (∀ x, x ≠ 46 → x ≠ 47 → x ≠ 18 → x ≠ 19 → x ≠ 20 → x ≠ 21 → x ≠ 24 → N x = M x) ∧ N 46 4 = bI false ∧ N 46 3 = M t 2 ∧ (0 ≤ r ∧ r < 128) ∧ ∀ k, 0 ≤ k → k < 7 → ob r k = if k ≠ l ∧ (k = 6 ∨ k < M t 1) ∧ bk_all (sp_tC M t) (M 7) (M 8) v l n.toNat k = true then 1 else 0) (fun _ _ => False) := by
  refine mx_C_of (by decide) (by simp [Value.category]) (Nat.le_of_ble_eq_true rfl) rfl ?_
  show mx_E S mX6_may 0 [some (.ref 0), some (.int (iI l))] [] (f, mx_SH, M, L, Rf) 0 0 _ _
  refine ms_aload_n dX6_may_0 rfl ?_
  refine ms_iload_n dX6_may_1 rfl ?_
  refine ms_callV1 (ci := 6) (r := (RX6, TX6, 15)) dX6_may_2 cv_X6_may_X6_requireLamp (k_X6_requireLamp hR ht hT hto hl32 hl) rfl rfl (by first | rfl | assumption) (Nat.le_of_ble_eq_true rfl) rfl (fun _ _ z => z.elim) (fun v9 h9 hp9 => ?_)
  obtain ⟨rfl, rfl⟩ := hp9
  refine ms_aload_n dX6_may_5 rfl ?_
  refine ms_iload_n dX6_may_6 rfl ?_
  refine ms_callV1 (ci := 6) (r := (RX6, TX6, 15)) dX6_may_7 cv_X6_may_X6_leftByBook (k_X6_leftByBook hR ht hT hto hsc hv hz hn hnn hl hdk hdw) rfl rfl (by first | rfl | assumption) (Nat.le_of_ble_eq_true rfl) rfl (fun _ _ z => z.elim) (fun v9 h9 hp9 => ?_)
  obtain ⟨N, r, Rf2, rfl, rfl, hb9⟩ := hp9
  refine ms_ret dX6_may_10 rfl ⟨N, r, Rf2, rfl, rfl, hb9⟩ (by simp)

set_option maxHeartbeats 4000000 in
set_option maxRecDepth 100000 in
theorem k_X6_may_x {S : mx_Sc} {f : Bool} {M : Nat → Int → Int} {L : Nat → Nat → Int64} {Rf : Nat → Nat → Option Nat} (hR : mx_rf Rf) {t : Nat} (ht : t = 29 ∨ t = 37) (hT : sp_tok (sp_tC M t)) (hto : Rf 0 10 = some t) {l : Int} (hl32 : -2147483648 ≤ l ∧ l ≤ 2147483647) (hc : ¬ (0 ≤ l ∧ l < M t 1)) : mx_C S mX6_may [.ref 0, .int (iI l)] (f, mx_SH, M, L, Rf) 1 6 (fun _ _ => False) (fun e9 h9 => e9 = "java/util/NoSuchElementException" ∧ h9 = (false, mx_SH, M, L, Rf)) := by
  refine mx_C_of (by decide) (by simp [Value.category]) (Nat.le_of_ble_eq_true rfl) rfl ?_
  show mx_E S mX6_may 0 [some (.ref 0), some (.int (iI l))] [] (f, mx_SH, M, L, Rf) 1 6 _ _
  have ht9 : t < 900 := by omega
  have hs_t := tc_s ht
  have hs_t1 := tc_s1 ht
  have hr_t1 := tc_r1 hR ht
  have hs_t2 := tc_s2 ht
  have hr_t2 := tc_r2 hR ht
  have hs_t3 := tc_s3 ht
  have hr_t3 := tc_r3 hR ht
  have hs_t4 := tc_s4 ht
  have hr_t4 := tc_r4 hR ht
  have hs_t5 := tc_s5 ht
  have hr_t5 := tc_r5 hR ht
  have hs_t6 := tc_s6 ht
  have hr_t6 := tc_r6 hR ht
  have hs_t7 := tc_s7 ht
  have hr_t7 := tc_r7 hR ht
  have hT0 : 1 ≤ M t 0 ∧ M t 0 ≤ 30 := hT.1
  have hT1 : 0 ≤ M t 1 ∧ M t 1 ≤ 6 := hT.2.1
  have hT2 : 1 ≤ M t 2 ∧ M t 2 ≤ 9 := hT.2.2.1
  have hT3 : 0 ≤ M t 3 ∧ M t 3 ≤ 9 := hT.2.2.2.1
  have hT4 : 0 ≤ M t 4 ∧ M t 4 ≤ 9 := hT.2.2.2.2.1
  have hT5 : 1 ≤ M t 5 ∧ M t 5 ≤ 99 := hT.2.2.2.2.2.1
  have hT6 : 0 ≤ M t 6 ∧ M t 6 ≤ 10 := hT.2.2.2.2.2.2.1
  have hTn : ((M t 1).toNat : Int) = M t 1 := Int.toNat_of_nonneg hT1.1
  have hTn6 : ((M t 6).toNat : Int) = M t 6 := Int.toNat_of_nonneg hT6.1
  by_cases h0 : 0 ≤ l ∧ l < M t 1
  rotate_left 1
  · refine ms_aload_n dX6_may_0 rfl ?_
    refine ms_iload_n dX6_may_1 rfl ?_
    refine ms_callVx1 (bc := 0) (bs := 0) (ci := 6) (r := (RX6, TX6, 15)) dX6_may_2 cv_X6_may_X6_requireLamp (k_X6_requireLamp_x hR ht hT hto hl32 h0) rfl rfl rfl rfl (by first | rfl | assumption) (Nat.le_of_ble_eq_true rfl) rfl (fun _ _ z => by first | exact z.elim | exact z) (fun v9 h9 hp9 => ?_)
    skip
    exact hp9.elim
  exact absurd (by exact h0) hc

set_option maxHeartbeats 4000000 in
set_option maxRecDepth 100000 in
theorem k_X6_image {S : mx_Sc} {f : Bool} {M : Nat → Int → Int} {L : Nat → Nat → Int64} {Rf : Nat → Nat → Option Nat} (hR : mx_rf Rf) : mx_C S mX6_image [.ref 0] (f, mx_SH, M, L, Rf) 0 0 (fun v9 h9 => ∃ N, h9 = (f, mx_SH, N, L, Rf) ∧ v9 = none ∧ (∀ x, (x < 10 + 1 ∨ 10 + 7 < x) → x ≠ 0 → N x = M x) ∧ (∀ k, k ≠ 14 → N 0 k = M 0 k) ∧ N 0 14 = 1 ∧ scE M N 3 11 ∧ (∀ i, 0 ≤ i → i < 1782 → N 15 i = M 7 i) ∧ (∀ i, 0 ≤ i → i < 1800 → N 16 i = M 8 i) ∧ (∀ i, 0 ≤ i → i < 3 → N 17 i = M 9 i)) (fun _ _ => False) := by
  refine mx_C_of (by decide) (by simp [Value.category]) (Nat.le_of_ble_eq_true rfl) rfl ?_
  show mx_E S mX6_image 0 [some (.ref 0)] [] (f, mx_SH, M, L, Rf) 0 0 _ _
  refine ms_aload_n dX6_image_0 rfl ?_
  refine ms_getR dX6_image_1 (fo_X6_20 rfl) (by first | rfl | assumption) rfl (by first | assumption | exact rf_0_3 hR ) ?_
  refine ms_aload_n dX6_image_4 rfl ?_
  refine ms_getR dX6_image_5 (fo_X6_16 rfl) (by first | rfl | assumption) rfl (by first | assumption | exact rf_0_2 hR ) ?_
  refine ms_callV1 (ci := 3) (r := (RX3, TX3, 4)) dX6_image_8 cv_X6_image_X3_take (k_X3_take (s := 10) (b := 2) hR (by omega) (by omega) (by decide)) rfl rfl (by first | rfl | assumption) (Nat.le_of_ble_eq_true rfl) rfl (fun _ _ z => z.elim) (fun v9 h9 hp9 => ?_)
  obtain ⟨N, rfl, rfl, z1, z2, z3, z4, z5⟩ := hp9
  have e0 : N 0 = M 0 := z1 0 (by omega)
  refine ms_aload_n dX6_image_11 rfl ?_
  refine mi_iconst dX6_image_12 ?_
  refine ms_putZ (z := 14) (Or.inr rfl) dX6_image_13 (fo_X6_105 rfl) (by first | rfl | assumption) rfl rfl rfl ?_
  refine ms_retV dX6_image_16 rfl ⟨_, rfl, rfl, fun x hx h0 => by rw [up_n _ _ h0]; exact z1 x hx, fun k hk => by rw [up_s, iu_n _ _ hk, e0], by rw [up_s, iu_s], ?_, fun i i0 i1 => by rw [up_n _ _ (by decide)]; exact z3 i i0 i1, fun i i0 i1 => by rw [up_n _ _ (by decide)]; exact z4 i i0 i1, fun i i0 i1 => by rw [up_n _ _ (by decide)]; exact z5 i i0 i1⟩ (by simp)
  refine ⟨fun i i0 i1 => by rw [up_n _ _ (by decide)]; exact z2.1 i i0 i1, fun l l0 l1 => by rw [up_n _ _ (by decide), up_n _ _ (by decide)]; exact z2.2.1 l l0 l1, by rw [up_n _ _ (by decide)]; exact z2.2.2.1, by rw [up_n _ _ (by decide)]; exact z2.2.2.2.1, by rw [up_n _ _ (by decide)]; exact z2.2.2.2.2⟩

set_option maxHeartbeats 4000000 in
set_option maxRecDepth 100000 in
theorem k_X6_restore {S : mx_Sc} {f : Bool} {M : Nat → Int → Int} {L : Nat → Nat → Int64} {Rf : Nat → Nat → Option Nat} (hR : mx_rf Rf) {b : Bool} (hb : M 0 14 = bI b) : mx_C S mX6_restore [.ref 0] (f, mx_SH, M, L, Rf) 0 0 (fun v9 h9 => ∃ N, h9 = (f, mx_SH, N, L, Rf) ∧ v9 = some (.int (iI (bI b))) ∧ ((b = false ∧ N = M) ∨ (b = true ∧ (∀ x, (x < 2 + 1 ∨ 2 + 7 < x) → N x = M x) ∧ scE M N 11 3 ∧ (∀ i, 0 ≤ i → i < 1782 → N 7 i = M 15 i) ∧ (∀ i, 0 ≤ i → i < 1800 → N 8 i = M 16 i) ∧ (∀ i, 0 ≤ i → i < 3 → N 9 i = M 17 i)))) (fun _ _ => False) := by
  refine mx_C_of (by decide) (by simp [Value.category]) (Nat.le_of_ble_eq_true rfl) rfl ?_
  show mx_E S mX6_restore 0 [some (.ref 0)] [] (f, mx_SH, M, L, Rf) 0 0 _ _
  refine ms_aload_n dX6_restore_0 rfl ?_
  refine ms_getI (z := 14) dX6_restore_1 (fo_X6_105 rfl) (by first | rfl | assumption) rfl rfl ?_
  rw [hb]
  refine mi_if_eqB (tgt := 18) dX6_restore_4 (by decide) (fun c_4 => ?_) (fun c_4 => ?_)
  · refine ms_aload_n dX6_restore_18 rfl ?_
    refine ms_getI (z := 14) dX6_restore_19 (fo_X6_105 rfl) (by first | rfl | assumption) rfl rfl ?_
    rw [hb]
    refine ms_retZ dX6_restore_22 rfl (bI_z b) ⟨M, rfl, rfl, Or.inl ⟨c_4, rfl⟩⟩ (by simp)
  · refine ms_aload_n dX6_restore_7 rfl ?_
    refine ms_getR dX6_restore_8 (fo_X6_16 rfl) (by first | rfl | assumption) rfl (by first | assumption | exact rf_0_2 hR ) ?_
    refine ms_aload_n dX6_restore_11 rfl ?_
    refine ms_getR dX6_restore_12 (fo_X6_20 rfl) (by first | rfl | assumption) rfl (by first | assumption | exact rf_0_3 hR ) ?_
    refine ms_callV1 (ci := 3) (r := (RX3, TX3, 4)) dX6_restore_15 cv_X6_restore_X3_take (k_X3_take (s := 2) (b := 10) hR (by omega) (by omega) (by decide)) rfl rfl (by first | rfl | assumption) (Nat.le_of_ble_eq_true rfl) rfl (fun _ _ z => z.elim) (fun v9 h9 hp9 => ?_)
    obtain ⟨N, rfl, rfl, z1, z2, z3, z4, z5⟩ := hp9
    have e0 : N 0 14 = bI b := by rw [z1 0 (by omega)]; exact hb
    refine ms_aload_n dX6_restore_18 rfl ?_
    refine ms_getI (z := 14) dX6_restore_19 (fo_X6_105 rfl) (by first | rfl | assumption) rfl rfl ?_
    rw [e0]
    exact ms_retZ dX6_restore_22 rfl (bI_z b) ⟨N, rfl, rfl, Or.inr ⟨c_4, z1, z2, z3, z4, z5⟩⟩ (by simp)

