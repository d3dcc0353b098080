theorem bl_p2 {l : Int} (h : 0 ≤ l ∧ l < 6) : bl (2 ^ l.toNat) = [l] := fin_of (n := 6) (P := fun l => bl (2 ^ l.toNat) = [l]) (by decide +kernel) h.1 h.2
theorem ob_p2e {l k : Int} (h : 0 ≤ l ∧ l < 6) (hk : 0 ≤ k ∧ k < 6) (e : ob (2 ^ l.toNat) k = 1) : k = l := fin_of (n := 6) (P := fun l => ob (2 ^ l.toNat) k = 1 → k = l) (fun i => fin_of (n := 6) (P := fun k => ob (2 ^ ((i.val : Int)).toNat) k = 1 → k = (i.val : Int)) (fun j => (by decide +kernel : ∀ i j : Fin 6, ob (2 ^ ((i.val : Int)).toNat) (j.val : Int) = 1 → (j.val : Int) = (i.val : Int)) i j) hk.1 hk.2) h.1 h.2 e
theorem vl_b {t : sp_T} (hT : sp_tok t) {lk : Int → Int} (hlk : sp_lok t lk) {n : Int} (hn : 0 ≤ n ∧ n ≤ 99) {v : Int → Int} (hv : sp_vok t v) {c : Nat → Int} {m : Nat} (hc : ∀ j, j < m → 0 ≤ c j ∧ c j < t.1 1) {w : Int} {j : Nat} (hj : j < m) : 0 ≤ vlR t lk n v c m w j ∧ vlR t lk n v c m w j ≤ 1200 := by
  have h6 := hT.2.1
  have h5 := hT.2.2.2.2.2.1
  unfold vlR
  cases e : gvR c (fun j => mx_dz (chR w j)) v m with
  | none => exact ⟨(by decide : (0 : Int) ≤ 1001), (by decide : (1001 : Int) ≤ 1200)⟩
  | some u =>
    have hu := gvR_vok hT hv hc (fun j _ => dz_b (by unfold chR; omega)) m (Nat.le_refl _) u e
    have hr := run_vok hT hlk false false hn.1 hu (t.1 5 - n).toNat (by omega)
    have h9 := hr.2 (c j) (hc j hj).1 (by have := (hc j hj).2; omega)
    show 0 ≤ wdV true lk (sp_run t lk false false n (t.1 5 - n).toNat u) (c j) ∧ wdV true lk (sp_run t lk false false n (t.1 5 - n).toNat u) (c j) ≤ 1200
    have hw : -1 ≤ wdF lk (sp_run t lk false false n (t.1 5 - n).toNat u) (c j) ∧ wdF lk (sp_run t lk false false n (t.1 5 - n).toNat u) (c j) ≤ 1200 := by
      unfold wdF
      split <;> omega
    unfold wdV
    rw [if_pos rfl]
    split <;> omega
theorem gv_c {c c2 d : Nat → Int} {v : Int → Int} : ∀ m : Nat, (∀ j, j < m → c j = c2 j) → gvR c d v m = gvR c2 d v m
  | 0, _ => rfl
  | m + 1, h => by
    show (gvR c d v m).bind _ = (gvR c2 d v m).bind _
    rw [gv_c m (fun j hj => h j (by omega)), h m (by omega)]
theorem vl_c {t : sp_T} {lk : Int → Int} {n : Int} {v : Int → Int} {c c2 : Nat → Int} {w : Int} (h : ∀ j, j < 1 → c j = c2 j) : vlR t lk n v c 1 w 0 = vlR t lk n v c2 1 w 0 := by
  unfold vlR
  rw [gv_c 1 h, h 0 (by omega)]
set_option maxHeartbeats 4000000 in
set_option maxRecDepth 100000 in
theorem k_X6_mother {S : mx_Sc} {f : Bool} {M : Nat → Int → Int} {L : Nat → Nat → Int64} {Rf : Nat → Nat → Option Nat} (hR : mx_rf Rf) {t : Nat} (ht : t = 29 ∨ t = 37) (hT : sp_tok (sp_tC M t)) (hto : Rf 0 10 = some t) {v : Int → Int} (hsc : scR (sp_tC M t) M 3 v) (hv : sp_vok (sp_tC M t) v) {n : Int} (hn : 0 ≤ n ∧ n ≤ 99) (hnn : M 3 3 = n) (hlk : sp_lok (sp_tC M t) (M (t + 3))) (hne : n ≤ M t 5) {l : Int} (hl32 : -2147483648 ≤ l ∧ l ≤ 2147483647) {k : Int} (hk32 : -2147483648 ≤ k ∧ k ≤ 2147483647) (hl : 0 ≤ l ∧ l < M t 1) (hc : 0 ≤ k ∧ k < 2) : mx_C S mX6_mother [.ref 0, .int (iI l), .int (iI k)] (f, mx_SH, M, L, Rf) 0 0 (fun v9 h9 => (sp_out v l = true ∧ h9 = (f, mx_SH, M, L, Rf) ∧ v9 = some (.int (iI (-1)))) ∨ (sp_out v l = false ∧ ∃ N Rf2, h9 = (f, mx_SH, N, L, Rf2) ∧ mx_rf Rf2 ∧ (∀ y, y ≠ 46 → Rf2 y = Rf y) ∧ (∀ x, x ≠ 46 → x ≠ 25 → x ≠ 26 → x ≠ 27 → x ≠ 28 → x ≠ 18 → x ≠ 19 → x ≠ 20 → x ≠ 21 → x ≠ 47 → N x = M x) ∧ (∀ w : Int, 0 ≤ w → w < 7 → N 28 (w * 3) = vlR (sp_tC M t) (M (t + 3)) n v (fun _ => l) 1 w 0) ∧ v9 = some (.int (iI (if k = 0 then mx_dz (bst (N 28) 6) else if N 28 (bst (N 28) 6 * 3) = 1000 then -1 else N 28 (bst (N 28) 6 * 3)))))) (fun _ _ => False) := by
  refine mx_C_of (by decide) (by simp [Value.category]) (Nat.le_of_ble_eq_true rfl) rfl ?_
  show mx_E S mX6_mother 0 [some (.ref 0), some (.int (iI l)), some (.int (iI k)), none] [] (f, mx_SH, M, L, Rf) 0 0 _ _
  have ht9 : t < 900 := by omega
  have hs_t := tc_s ht
  have hs_t1 := tc_s1 ht
  have hr_t1 := tc_r1 hR ht
  have hs_t2 := tc_s2 ht
  have hr_t2 := tc_r2 hR ht
  have hs_t3 := tc_s3 ht
  have hr_t3 := tc_r3 hR ht
  have hs_t4 := tc_s4 ht
  have hr_t4 := tc_r4 hR ht
  have hs_t5 := tc_s5 ht
  have hr_t5 := tc_r5 hR ht
  have hs_t6 := tc_s6 ht
  have hr_t6 := tc_r6 hR ht
  have hs_t7 := tc_s7 ht
  have hr_t7 := tc_r7 hR ht
  have hT0 : 1 ≤ M t 0 ∧ M t 0 ≤ 30 := hT.1
  have hT1 : 0 ≤ M t 1 ∧ M t 1 ≤ 6 := hT.2.1
  have hT2 : 1 ≤ M t 2 ∧ M t 2 ≤ 9 := hT.2.2.1
  have hT3 : 0 ≤ M t 3 ∧ M t 3 ≤ 9 := hT.2.2.2.1
  have hT4 : 0 ≤ M t 4 ∧ M t 4 ≤ 9 := hT.2.2.2.2.1
  have hT5 : 1 ≤ M t 5 ∧ M t 5 ≤ 99 := hT.2.2.2.2.2.1
  have hT6 : 0 ≤ M t 6 ∧ M t 6 ≤ 10 := hT.2.2.2.2.2.2.1
  have hTn : ((M t 1).toNat : Int) = M t 1 := Int.toNat_of_nonneg hT1.1
  have hTn6 : ((M t 6).toNat : Int) = M t 6 := Int.toNat_of_nonneg hT6.1
  refine ms_aload_n dX6_mother_0 rfl ?_
  refine ms_iload_n dX6_mother_1 rfl ?_
  refine ms_callV1 (ci := 6) (r := (RX6, TX6, 15)) dX6_mother_2 cv_X6_mother_X6_requireLamp (k_X6_requireLamp hR ht hT hto hl32 hl) rfl rfl (by first | rfl | assumption) (Nat.le_of_ble_eq_true rfl) rfl (fun _ _ z => z.elim) (fun v9 h9 hp9 => ?_)
  obtain ⟨rfl, rfl⟩ := hp9
  refine ms_iload_n dX6_mother_5 rfl ?_
  refine ms_callS1 dX6_mother_6 cv_X6_mother_X6_requireFirstOrSecond (k_X6_requireFS hR hk32 hc) (Nat.le_of_ble_eq_true rfl) rfl (fun _ _ z => z.elim) (fun v9 h9 hp9 => ?_)
  obtain ⟨rfl, rfl⟩ := hp9
  refine ms_aload_n dX6_mother_9 rfl ?_
  refine ms_getR dX6_mother_10 (fo_X6_16 rfl) (by first | rfl | assumption) rfl (by first | assumption | exact rf_0_2 hR ) ?_
  refine ms_getR dX6_mother_13 (fo_X6_130 rfl) (by first | rfl | assumption) rfl (by first | assumption | exact rf_2_0 hR | exact rf_10_0 hR ) ?_
  refine ms_iload_n dX6_mother_16 rfl ?_
  refine ms_callV1 (ci := 2) (r := (RX2, TX2, 6)) dX6_mother_17 cv_X6_mother_X2_isOut (k_X2_isOut (a := 3) (Or.inl rfl) (l := l) (by omega) hsc.2.2.1) rfl rfl (by first | rfl | assumption) (Nat.le_of_ble_eq_true rfl) rfl (fun _ _ z => z.elim) (fun v9 h9 hp9 => ?_)
  obtain ⟨rfl, rfl⟩ := hp9
  rw [hsc.2.2.2.1 l (by omega) (by omega)]
  refine mi_if_eqB (tgt := 25) dX6_mother_20 (by decide) (fun c_20 => ?_) (fun c_20 => ?_)
  · refine ms_aload_n dX6_mother_25 rfl ?_
    refine ms_getR dX6_mother_26 (fo_X6_75 rfl) (by first | rfl | assumption) rfl (by first | assumption | exact rf_0_9 hR ) ?_
    refine ms_aload_n dX6_mother_29 rfl ?_
    refine ms_getR dX6_mother_30 (fo_X6_50 rfl) (by first | rfl | assumption) rfl (by first | assumption ) ?_
    refine ms_aload_n dX6_mother_33 rfl ?_
    refine ms_getR dX6_mother_34 (fo_X6_50 rfl) (by first | rfl | assumption) rfl (by first | assumption ) ?_
    refine ms_getR dX6_mother_37 (fo_X6_154 rfl) (by first | rfl | assumption) rfl (by first | assumption | exact rf_29_9 hR | exact rf_37_9 hR ) ?_
    refine mi_iconst dX6_mother_40 ?_
    refine ms_callV3 (ci := 5) (r := (RX5, TX5, 5)) dX6_mother_41 cv_X6_mother_X5_obey (k_X5_obey (hf := false) (ng := false) (wr := t + 3) hR ht hT) rfl rfl (by first | rfl | assumption) (Nat.le_of_ble_eq_true rfl) rfl (fun _ _ z => z.elim) (fun v9 h9 hp9 => ?_)
    obtain ⟨N1, Rf2, rfl, rfl, hR, hRx, hR1, hR12, hNx, hN4, hN3⟩ := hp9
    have hto : Rf2 0 10 = some t := by rw [hRx 0 (by decide)]; exact hto
    have eT1 : sp_tC N1 t = sp_tC M t := tC_fr (fun y _ _ => hNx y (by omega))
    have eN1 : ∀ k, N1 t k = M t k := fun k => by rw [hNx t (by omega)]
    have elk : N1 (t + 3) = M (t + 3) := hNx (t + 3) (by omega)
    have hbl := bl_p2 (l := l) (by omega)
    refine ms_aload_n dX6_mother_44 rfl ?_
    refine ms_getR dX6_mother_45 (fo_X6_43 rfl) (by first | rfl | assumption) rfl (by first | assumption | exact rf_0_8 hR ) ?_
    refine ms_aload_n dX6_mother_48 rfl ?_
    refine ms_getR dX6_mother_49 (fo_X6_75 rfl) (by first | rfl | assumption) rfl (by first | assumption | exact rf_0_9 hR ) ?_
    refine ms_aload_n dX6_mother_52 rfl ?_
    refine ms_getR dX6_mother_53 (fo_X6_16 rfl) (by first | rfl | assumption) rfl (by first | assumption | exact rf_0_2 hR ) ?_
    refine ms_getR dX6_mother_56 (fo_X6_130 rfl) (by first | rfl | assumption) rfl (by first | assumption | exact rf_2_0 hR | exact rf_10_0 hR ) ?_
    refine ms_aload_n dX6_mother_59 rfl ?_
    refine ms_getR dX6_mother_60 (fo_X6_26 rfl) (by first | rfl | assumption) rfl (by first | assumption | exact rf_0_4 hR ) ?_
    refine mi_iconst dX6_mother_63 ?_
    refine ms_iload_n dX6_mother_64 rfl ?_
    refine mi_ishl (2 ^ l.toNat) dX6_mother_65 (p2_shl (by omega)) ?_
    refine ms_callV4 (ci := 0) (r := (RX0, TX0, 5)) dX6_mother_66 cv_X6_mother_X0_hear (k_X0_hear (M := N1) (v := v) (n := n) (lm := 2 ^ l.toNat) hR ht (by rw [eT1]; exact hT) hR1 hR12 (by rw [eT1, elk]; exact hlk) hN4 (by rw [eN1]; exact hN3) (by rw [eT1]; exact hsc.fr (hNx _ (by decide)) (hNx _ (by decide)) (hNx _ (by decide)) (hNx _ (by decide))) (by rw [eT1]; exact hv) hn (by rw [hNx 3 (by decide)]; exact hnn) (by rw [eN1]; exact hne) (p2_lt (by omega)) (by rw [hbl]; exact Nat.le_of_ble_eq_true rfl) (fun k k0 k1 k2 => by rw [eN1, ob_p2e (by omega) ⟨k0, k1⟩ k2]; exact hl.2)) rfl rfl (by first | rfl | assumption) (Nat.le_of_ble_eq_true rfl) rfl (fun _ _ z => z.elim) (fun v9 h9 hp9 => ?_)
    obtain ⟨N, rfl, rfl, w1, w2, w3, w4, w5⟩ := hp9
    rw [hbl, eT1, elk] at w5
    have hN28 : ∀ w : Int, 0 ≤ w → w < 7 → N 28 (w * 3) = vlR (sp_tC M t) (M (t + 3)) n v (fun _ => l) 1 w 0 := fun w w0 w1 => by
      have h9 := w5 w.toNat 0 (by show ((w.toNat : Nat) : Int) < 7 ^ 1; omega) (by show (0 : Nat) < 1; omega)
      rw [show ((w.toNat : Nat) : Int) = w by omega, show w * 3 + ((0 : Nat) : Int) = w * 3 by omega] at h9
      rw [h9]
      exact vl_c (fun j hj => by rw [show j = 0 by omega]; rfl)
    have hwb : ∀ c, 0 ≤ c → c < 7 → 0 ≤ N 28 (c * 3) ∧ N 28 (c * 3) ≤ 1200 := fun c c0 c1 => by
      rw [hN28 c c0 c1]
      exact vl_b hT hlk hn hv (fun _ _ => hl) (by omega)
    have hbb := bst_b (N 28) 6
    refine ms_aload_n dX6_mother_69 rfl ?_
    refine ms_getR dX6_mother_70 (fo_X6_43 rfl) (by first | rfl | assumption) rfl (by first | assumption | exact rf_0_8 hR ) ?_
    refine ms_callV0 (ci := 0) (r := (RX0, TX0, 5)) dX6_mother_73 cv_X6_mother_X0_bestOfOne (k_X0_bestOfOne (M := N) hR hwb) rfl rfl (by first | rfl | assumption) (Nat.le_of_ble_eq_true rfl) rfl (fun _ _ z => z.elim) (fun v9 h9 hp9 => ?_)
    obtain ⟨rfl, rfl⟩ := hp9
    refine ms_istore_n dX6_mother_76 (by decide) rfl ?_
    dsimp only [List.set, Nat.reduceAdd]
    refine ms_iload_n dX6_mother_77 rfl ?_
    refine mi_if_ne (tgt := 90) dX6_mother_78 (by decide) (fun c_78 => ?_) (fun c_78 => ?_)
    · refine ms_aload_n dX6_mother_90 rfl ?_
      refine ms_getR dX6_mother_91 (fo_X6_43 rfl) (by first | rfl | assumption) rfl (by first | assumption | exact rf_0_8 hR ) ?_
      refine ms_iload_n dX6_mother_94 rfl ?_
      refine ms_callV1 (ci := 0) (r := (RX0, TX0, 5)) dX6_mother_95 cv_X6_mother_X0_weddingOf (k_X0_weddingOf (M := N) hR hwb (c := bst (N 28) 6) (by omega)) rfl rfl (by first | rfl | assumption) (Nat.le_of_ble_eq_true rfl) rfl (fun _ _ z => z.elim) (fun v9 h9 hp9 => ?_)
      obtain ⟨rfl, rfl⟩ := hp9
      refine ms_ret dX6_mother_98 rfl (Or.inr ⟨c_20, N, Rf2, rfl, hR, hRx, fun x x0 x1 x2 x3 x4 x5 x6 x7 x8 x9 => by rw [w1 x x1 x2 x3 x4 x5 x6 x7 x8 x9, hNx x x0], hN28, by rw [if_neg c_78]⟩) (by simp)
    · refine ms_aload_n dX6_mother_81 rfl ?_
      refine ms_getR dX6_mother_82 (fo_X6_43 rfl) (by first | rfl | assumption) rfl (by first | assumption | exact rf_0_8 hR ) ?_
      refine ms_iload_n dX6_mother_85 rfl ?_
      refine ms_callV1 (ci := 0) (r := (RX0, TX0, 5)) dX6_mother_86 cv_X6_mother_X0_dropOf (k_X0_dropOf (M := N) hR (c := bst (N 28) 6) (by omega)) rfl rfl (by first | rfl | assumption) (Nat.le_of_ble_eq_true rfl) rfl (fun _ _ z => z.elim) (fun v9 h9 hp9 => ?_)
      obtain ⟨rfl, rfl⟩ := hp9
      refine ms_ret dX6_mother_89 rfl (Or.inr ⟨c_20, N, Rf2, rfl, hR, hRx, fun x x0 x1 x2 x3 x4 x5 x6 x7 x8 x9 => by rw [w1 x x1 x2 x3 x4 x5 x6 x7 x8 x9, hNx x x0], hN28, by rw [if_pos c_78]⟩) (by simp)
  · refine mi_iconst dX6_mother_23 ?_
    refine ms_ret dX6_mother_24 rfl (Or.inl ⟨c_20, rfl, rfl⟩) (by simp)

set_option maxHeartbeats 4000000 in
set_option maxRecDepth 100000 in
theorem k_X6_mother_x {S : mx_Sc} {f : Bool} {M : Nat → Int → Int} {L : Nat → Nat → Int64} {Rf : Nat → Nat → Option Nat} (hR : mx_rf Rf) {t : Nat} (ht : t = 29 ∨ t = 37) (hT : sp_tok (sp_tC M t)) (hto : Rf 0 10 = some t) {l : Int} (hl32 : -2147483648 ≤ l ∧ l ≤ 2147483647) {k : Int} (hk32 : -2147483648 ≤ k ∧ k ≤ 2147483647) (hc : ¬ ((0 ≤ l ∧ l < M t 1) ∧ (0 ≤ k ∧ k < 2))) : mx_C S mX6_mother [.ref 0, .int (iI l), .int (iI k)] (f, mx_SH, M, L, Rf) 1 6 (fun _ _ => False) (fun e9 h9 => e9 = "java/util/NoSuchElementException" ∧ h9 = (false, mx_SH, M, L, Rf)) := by
  refine mx_C_of (by decide) (by simp [Value.category]) (Nat.le_of_ble_eq_true rfl) rfl ?_
  show mx_E S mX6_mother 0 [some (.ref 0), some (.int (iI l)), some (.int (iI k)), none] [] (f, mx_SH, M, L, Rf) 1 6 _ _
  have ht9 : t < 900 := by omega
  have hs_t := tc_s ht
  have hs_t1 := tc_s1 ht
  have hr_t1 := tc_r1 hR ht
  have hs_t2 := tc_s2 ht
  have hr_t2 := tc_r2 hR ht
  have hs_t3 := tc_s3 ht
  have hr_t3 := tc_r3 hR ht
  have hs_t4 := tc_s4 ht
  have hr_t4 := tc_r4 hR ht
  have hs_t5 := tc_s5 ht
  have hr_t5 := tc_r5 hR ht
  have hs_t6 := tc_s6 ht
  have hr_t6 := tc_r6 hR ht
  have hs_t7 := tc_s7 ht
  have hr_t7 := tc_r7 hR ht
  have hT0 : 1 ≤ M t 0 ∧ M t 0 ≤ 30 := hT.1
  have hT1 : 0 ≤ M t 1 ∧ M t 1 ≤ 6 := hT.2.1
  have hT2 : 1 ≤ M t 2 ∧ M t 2 ≤ 9 := hT.2.2.1
  have hT3 : 0 ≤ M t 3 ∧ M t 3 ≤ 9 := hT.2.2.2.1
  have hT4 : 0 ≤ M t 4 ∧ M t 4 ≤ 9 := hT.2.2.2.2.1
  have hT5 : 1 ≤ M t 5 ∧ M t 5 ≤ 99 := hT.2.2.2.2.2.1
  have hT6 : 0 ≤ M t 6 ∧ M t 6 ≤ 10 := hT.2.2.2.2.2.2.1
  have hTn : ((M t 1).toNat : Int) = M t 1 := Int.toNat_of_nonneg hT1.1
  have hTn6 : ((M t 6).toNat : Int) = M t 6 := Int.toNat_of_nonneg hT6.1
  by_cases h0 : 0 ≤ l ∧ l < M t 1
  rotate_left 1
  · refine ms_aload_n dX6_mother_0 rfl ?_
    refine ms_iload_n dX6_mother_1 rfl ?_
    refine ms_callVx1 (bc := 0) (bs := 0) (ci := 6) (r := (RX6, TX6, 15)) dX6_mother_2 cv_X6_mother_X6_requireLamp (k_X6_requireLamp_x hR ht hT hto hl32 h0) rfl rfl rfl rfl (by first | rfl | assumption) (Nat.le_of_ble_eq_true rfl) rfl (fun _ _ z => by first | exact z.elim | exact z) (fun v9 h9 hp9 => ?_)
    skip
    exact hp9.elim
  by_cases h1 : 0 ≤ k ∧ k < 2
  rotate_left 1
  · refine ms_aload_n dX6_mother_0 rfl ?_
    refine ms_iload_n dX6_mother_1 rfl ?_
    refine ms_callV1 (ci := 6) (r := (RX6, TX6, 15)) dX6_mother_2 cv_X6_mother_X6_requireLamp (k_X6_requireLamp hR ht hT hto hl32 h0) rfl rfl (by first | rfl | assumption) (Nat.le_of_ble_eq_true rfl) rfl (fun _ _ z => by first | exact z.elim | exact z) (fun v9 h9 hp9 => ?_)
    obtain ⟨rfl, rfl⟩ := hp9
    refine ms_iload_n dX6_mother_5 rfl ?_
    refine ms_callSx1 (bc := 0) (bs := 0) dX6_mother_6 cv_X6_mother_X6_requireFirstOrSecond (k_X6_requireFS_x hR hk32 h1) rfl rfl (Nat.le_of_ble_eq_true rfl) rfl (fun _ _ z => by first | exact z.elim | exact z) (fun v9 h9 hp9 => ?_)
    skip
    exact hp9.elim
  exact absurd (by exact ⟨h0, h1⟩) hc

