/-- the dusk of a night in the book -/
def bk_v (D v : Int → Int) (n : Int) : Int → Int := sp_oil D (sp_part v n) (n * 18)
def bk_ft (t : sp_T) (D W v : Int → Int) (l n k : Int) : Bool := sp_ft t (bk_v D v n) n l (fun q => W ((n + 1) * 18 + l * 3 + q)) k
def bk_all (t : sp_T) (D W v : Int → Int) (l : Int) : Nat → Int → Bool
  | 0, _ => true
  | n + 1, k => bk_all t D W v l n k && bk_ft t D W v l n k
theorem sp_ft_g {t : sp_T} {v g g2 : Int → Int} {n l k : Int} (h : e3 g g2) : sp_ft t v n l g k = sp_ft t v n l g2 k := by
  unfold sp_ft
  rw [h.1, h.2.1, h.2.2]
set_option maxHeartbeats 4000000 in
set_option maxRecDepth 100000 in
theorem l_X6_lbb {S : mx_Sc} {f : Bool} {M : Nat → Int → Int} {L : Nat → Nat → Int64} {Rf : Nat → Nat → Option Nat} (hR : mx_rf Rf) {t : Nat} (ht : t = 29 ∨ t = 37) (hT : sp_tok (sp_tC M t)) (hto : Rf 0 10 = some t) {v : Int → Int} (hsc : scR (sp_tC M t) M 3 v) (hv : sp_vok (sp_tC M t) v) (hz : ∀ l, M t 1 ≤ l → l < 6 → sp_out v l = false) {n l : Int} (hn : 0 ≤ n ∧ n ≤ 99) (hnn : M 3 3 = n) (hl : 0 ≤ l ∧ l < M t 1) (hdk : ∀ j, 0 ≤ j → j < n → sp_vok (sp_tC M t) (bk_v (M 7) v j)) (hdw : ∀ i, 0 ≤ i → i < 1800 → -1000 ≤ M 8 i ∧ M 8 i ≤ 1000) (hwt : Rf 46 1 = some t) (hng : M 46 4 = bI false) (hst : M 46 3 = M t 2) {b : Int} (hb : 0 ≤ b ∧ b < 128) (hbk : ∀ k, 0 ≤ k → k < 6 → ob b k = 1 → k < M t 1) : ∀ (kk : Nat) (i : Nat) (N : Nat → Int → Int) (r : Int), (i : Int) + kk = n → (∀ x, x ≠ 47 → x ≠ 18 → x ≠ 19 → x ≠ 20 → x ≠ 21 → x ≠ 24 → N x = M x) → (0 ≤ r ∧ r < 128) → (∀ k, 0 ≤ k → k < 7 → ob r k = if bk_all (sp_tC M t) (M 7) (M 8) v l i k = true then ob b k else 0) → mx_E S mX6_leftByBook 35 [some (.ref 0), some (.int (iI l)), some (.int (iI r)), some (.int (iI (i : Int)))] [] (f, mx_SH, N, L, Rf) 0 0 (fun v9 h9 => ∃ N r, h9 = (f, mx_SH, N, L, Rf) ∧ v9 = some (.int (iI r)) ∧ (∀ x, x ≠ 47 → x ≠ 18 → x ≠ 19 → x ≠ 20 → x ≠ 21 → x ≠ 24 → N x = M x) ∧ (0 ≤ r ∧ r < 128) ∧ ∀ k, 0 ≤ k → k < 7 → ob r k = if bk_all (sp_tC M t) (M 7) (M 8) v l n.toNat k = true then ob b k else 0) (fun _ _ => False) := by
  intro kk
  induction kk with
  | zero => 
    intro i N r g1 q1 hr q3
    have ht9 : t < 900 := by omega
    have hs_t := tc_s ht
    have hs_t1 := tc_s1 ht
    have hr_t1 := tc_r1 hR ht
    have hs_t2 := tc_s2 ht
    have hr_t2 := tc_r2 hR ht
    have hs_t3 := tc_s3 ht
    have hr_t3 := tc_r3 hR ht
    have hs_t4 := tc_s4 ht
    have hr_t4 := tc_r4 hR ht
    have hs_t5 := tc_s5 ht
    have hr_t5 := tc_r5 hR ht
    have hs_t6 := tc_s6 ht
    have hr_t6 := tc_r6 hR ht
    have hs_t7 := tc_s7 ht
    have hr_t7 := tc_r7 hR ht
    have hT0 : 1 ≤ M t 0 ∧ M t 0 ≤ 30 := hT.1
    have hT1 : 0 ≤ M t 1 ∧ M t 1 ≤ 6 := hT.2.1
    have hT2 : 1 ≤ M t 2 ∧ M t 2 ≤ 9 := hT.2.2.1
    have hT3 : 0 ≤ M t 3 ∧ M t 3 ≤ 9 := hT.2.2.2.1
    have hT4 : 0 ≤ M t 4 ∧ M t 4 ≤ 9 := hT.2.2.2.2.1
    have hT5 : 1 ≤ M t 5 ∧ M t 5 ≤ 99 := hT.2.2.2.2.2.1
    have hT6 : 0 ≤ M t 6 ∧ M t 6 ≤ 10 := hT.2.2.2.2.2.2.1
    have hTn : ((M t 1).toNat : Int) = M t 1 := Int.toNat_of_nonneg hT1.1
    have hTn6 : ((M t 6).toNat : Int) = M t 6 := Int.toNat_of_nonneg hT6.1
    have eT : sp_tC N t = sp_tC M t := tC_fr (fun y _ _ => q1 y (by omega) (by omega) (by omega) (by omega) (by omega) (by omega))
    have eN : ∀ k, N t k = M t k := fun k => by rw [q1 t (by omega) (by omega) (by omega) (by omega) (by omega) (by omega)]
    have e3x : N 3 = M 3 := q1 3 (by omega) (by omega) (by omega) (by omega) (by omega) (by omega)
    have e33 : N 3 3 = n := by rw [e3x]; exact hnn
    have e7 : N 7 = M 7 := q1 7 (by omega) (by omega) (by omega) (by omega) (by omega) (by omega)
    have e8 : N 8 = M 8 := q1 8 (by omega) (by omega) (by omega) (by omega) (by omega) (by omega)
    have e46 : N 46 = M 46 := q1 46 (by omega) (by omega) (by omega) (by omega) (by omega) (by omega)
    have hsc2 : scR (sp_tC M t) N 3 v := hsc.fr e3x (q1 _ (by omega) (by omega) (by omega) (by omega) (by omega) (by omega)) (q1 _ (by omega) (by omega) (by omega) (by omega) (by omega) (by omega)) (q1 _ (by omega) (by omega) (by omega) (by omega) (by omega) (by omega))
    refine ms_iload_n dX6_leftByBook_35 rfl ?_
    refine ms_aload_n dX6_leftByBook_36 rfl ?_
    refine ms_getR dX6_leftByBook_37 (fo_X6_16 rfl) (by first | rfl | assumption) rfl (by first | assumption | exact rf_0_2 hR ) ?_
    refine ms_getR dX6_leftByBook_40 (fo_X6_130 rfl) (by first | rfl | assumption) rfl (by first | assumption | exact rf_2_0 hR | exact rf_10_0 hR ) ?_
    refine ms_getI (z := 3) dX6_leftByBook_43 (fo_X6_133 rfl) (by first | rfl | assumption) rfl rfl ?_
    refine mi_icmp_ge (tgt := 87) dX6_leftByBook_46 (by decide) (fun c_46 => ?_) (fun c_46 => ?_)
    · refine ms_iload_n dX6_leftByBook_87 rfl ?_
      refine ms_ret dX6_leftByBook_88 rfl ⟨N, r, rfl, rfl, q1, hr, fun k k0 k1 => by rw [q3 k k0 k1, show n.toNat = i by omega]⟩ (by simp)
    · exact absurd c_46 (by omega)
  | succ kk ih => 
    intro i N r g1 q1 hr q3
    have ht9 : t < 900 := by omega
    have hs_t := tc_s ht
    have hs_t1 := tc_s1 ht
    have hr_t1 := tc_r1 hR ht
    have hs_t2 := tc_s2 ht
    have hr_t2 := tc_r2 hR ht
    have hs_t3 := tc_s3 ht
    have hr_t3 := tc_r3 hR ht
    have hs_t4 := tc_s4 ht
    have hr_t4 := tc_r4 hR ht
    have hs_t5 := tc_s5 ht
    have hr_t5 := tc_r5 hR ht
    have hs_t6 := tc_s6 ht
    have hr_t6 := tc_r6 hR ht
    have hs_t7 := tc_s7 ht
    have hr_t7 := tc_r7 hR ht
    have hT0 : 1 ≤ M t 0 ∧ M t 0 ≤ 30 := hT.1
    have hT1 : 0 ≤ M t 1 ∧ M t 1 ≤ 6 := hT.2.1
    have hT2 : 1 ≤ M t 2 ∧ M t 2 ≤ 9 := hT.2.2.1
    have hT3 : 0 ≤ M t 3 ∧ M t 3 ≤ 9 := hT.2.2.2.1
    have hT4 : 0 ≤ M t 4 ∧ M t 4 ≤ 9 := hT.2.2.2.2.1
    have hT5 : 1 ≤ M t 5 ∧ M t 5 ≤ 99 := hT.2.2.2.2.2.1
    have hT6 : 0 ≤ M t 6 ∧ M t 6 ≤ 10 := hT.2.2.2.2.2.2.1
    have hTn : ((M t 1).toNat : Int) = M t 1 := Int.toNat_of_nonneg hT1.1
    have hTn6 : ((M t 6).toNat : Int) = M t 6 := Int.toNat_of_nonneg hT6.1
    have eT : sp_tC N t = sp_tC M t := tC_fr (fun y _ _ => q1 y (by omega) (by omega) (by omega) (by omega) (by omega) (by omega))
    have eN : ∀ k, N t k = M t k := fun k => by rw [q1 t (by omega) (by omega) (by omega) (by omega) (by omega) (by omega)]
    have e3x : N 3 = M 3 := q1 3 (by omega) (by omega) (by omega) (by omega) (by omega) (by omega)
    have e33 : N 3 3 = n := by rw [e3x]; exact hnn
    have e7 : N 7 = M 7 := q1 7 (by omega) (by omega) (by omega) (by omega) (by omega) (by omega)
    have e8 : N 8 = M 8 := q1 8 (by omega) (by omega) (by omega) (by omega) (by omega) (by omega)
    have e46 : N 46 = M 46 := q1 46 (by omega) (by omega) (by omega) (by omega) (by omega) (by omega)
    have hsc2 : scR (sp_tC M t) N 3 v := hsc.fr e3x (q1 _ (by omega) (by omega) (by omega) (by omega) (by omega) (by omega)) (q1 _ (by omega) (by omega) (by omega) (by omega) (by omega) (by omega)) (q1 _ (by omega) (by omega) (by omega) (by omega) (by omega) (by omega))
    refine ms_iload_n dX6_leftByBook_35 rfl ?_
    refine ms_aload_n dX6_leftByBook_36 rfl ?_
    refine ms_getR dX6_leftByBook_37 (fo_X6_16 rfl) (by first | rfl | assumption) rfl (by first | assumption | exact rf_0_2 hR ) ?_
    refine ms_getR dX6_leftByBook_40 (fo_X6_130 rfl) (by first | rfl | assumption) rfl (by first | assumption | exact rf_2_0 hR | exact rf_10_0 hR ) ?_
    refine ms_getI (z := 3) dX6_leftByBook_43 (fo_X6_133 rfl) (by first | rfl | assumption) rfl rfl ?_
    refine mi_icmp_ge (tgt := 87) dX6_leftByBook_46 (by decide) (fun c_46 => ?_) (fun c_46 => ?_)
    · exact absurd c_46 (by omega)
    · refine ms_aload_n dX6_leftByBook_49 rfl ?_
      refine ms_getR dX6_leftByBook_50 (fo_X6_16 rfl) (by first | rfl | assumption) rfl (by first | assumption | exact rf_0_2 hR ) ?_
      refine ms_iload_n dX6_leftByBook_53 rfl ?_
      refine ms_aload_n dX6_leftByBook_54 rfl ?_
      refine ms_getR dX6_leftByBook_55 (fo_X6_26 rfl) (by first | rfl | assumption) rfl (by first | assumption | exact rf_0_4 hR ) ?_
      refine ms_callV2 (ci := 3) (r := (RX3, TX3, 4)) dX6_leftByBook_58 cv_X6_leftByBook_X3_readDusk (k_X3_readDusk (M := N) hR hT hsc2 hv hz (k := (i : Int)) (by omega)) rfl rfl (by first | rfl | assumption) (Nat.le_of_ble_eq_true rfl) rfl (fun _ _ z => z.elim) (fun v9 h9 hp9 => ?_)
      obtain ⟨N2, rfl, rfl, y1, y2, y3⟩ := hp9
      have f2 : ∀ x, x ≠ 18 → x ≠ 19 → x ≠ 20 → x ≠ 21 → N2 x = N x := y1
      have e82 : N2 8 = M 8 := by rw [y1 8 (by decide) (by decide) (by decide) (by decide)]; exact e8
      rw [e7] at y2
      refine ms_aload_n dX6_leftByBook_61 rfl ?_
      refine ms_getR dX6_leftByBook_62 (fo_X6_16 rfl) (by first | rfl | assumption) rfl (by first | assumption | exact rf_0_2 hR ) ?_
      refine ms_iload_n dX6_leftByBook_65 rfl ?_
      refine ms_iload_n dX6_leftByBook_66 rfl ?_
      refine ms_aload_n dX6_leftByBook_67 rfl ?_
      refine ms_getR dX6_leftByBook_68 (fo_X6_37 rfl) (by first | rfl | assumption) rfl (by first | assumption | exact rf_0_7 hR ) ?_
      refine ms_callV3 (ci := 3) (r := (RX3, TX3, 4)) dX6_leftByBook_71 cv_X6_leftByBook_X3_readDawn (k_X3_readDawn (M := N2) hR (k := (i : Int)) (l := l) (by omega) (by omega)) rfl rfl (by first | rfl | assumption) (Nat.le_of_ble_eq_true rfl) rfl (fun _ _ z => z.elim) (fun v9 h9 hp9 => ?_)
      obtain ⟨rfl, rfl⟩ := hp9
      have e24 : e3 (ic (N2 8) (N2 24) (((i : Int) + 1) * 18 + l * 3) 0 3) (fun q => M 8 (((i : Int) + 1) * 18 + l * 3 + q)) := by
        rw [e82]
        refine ⟨?_, ?_, ?_⟩ <;> simp [ic]
      refine mx_gen (fun N3 => (∀ x, x ≠ 24 → N3 x = N2 x) ∧ e3 (N3 24) (fun q => M 8 (((i : Int) + 1) * 18 + l * 3 + q))) ⟨fun x hx => up_n _ _ hx, by rw [up_s]; exact e24⟩ (fun N3 hN3 => ?_)
      have f3 : ∀ x, x ≠ 18 → x ≠ 19 → x ≠ 20 → x ≠ 21 → x ≠ 24 → N3 x = N x := fun x x1 x2 x3 x4 x5 => by rw [hN3.1 x x5, y1 x x1 x2 x3 x4]
      have eT3 : sp_tC N3 t = sp_tC M t := by rw [← eT]; exact tC_fr (fun y _ _ => f3 y (by omega) (by omega) (by omega) (by omega) (by omega))
      have eN3 : ∀ k, N3 t k = M t k := fun k => by rw [f3 t (by omega) (by omega) (by omega) (by omega) (by omega)]; exact eN k
      have e463 : N3 46 = M 46 := by rw [f3 46 (by decide) (by decide) (by decide) (by decide) (by decide)]; exact e46
      have y2c : scR (sp_tC M t) N3 18 (bk_v (M 7) v (i : Int)) := y2.fr (hN3.1 _ (by decide)) (hN3.1 _ (by decide)) (hN3.1 _ (by decide)) (hN3.1 _ (by decide))
      have hbi : ∀ k, 0 ≤ k → k < 6 → ob r k = 1 → k < M t 1 := fun k k0 k1 k2 => by
        rw [q3 k k0 (by omega)] at k2
        refine hbk k k0 k1 ?_
        by_cases z : bk_all (sp_tC M t) (M 7) (M 8) v l i k = true
        · rw [if_pos z] at k2
          exact k2
        · rw [if_neg z] at k2
          cases k2
      refine ms_aload_n dX6_leftByBook_74 rfl ?_
      refine ms_iload_n dX6_leftByBook_75 rfl ?_
      refine ms_iload_n dX6_leftByBook_76 rfl ?_
      refine ms_callV2 (ci := 6) (r := (RX6, TX6, 15)) dX6_leftByBook_77 cv_X6_leftByBook_X6_leftByNight (k_X6_leftByNight (M := N3) (v := bk_v (M 7) v (i : Int)) (n := (i : Int)) hR ht (by rw [eT3]; exact hT) hwt (by rw [eT3]; exact y2c) (by rw [eT3]; exact hdk i (by omega) (by omega)) (by omega) (by rw [hN3.1 18 (by decide)]; exact y3) (l := l) (by rw [eN3]; exact hl) (by rw [e463]; exact hng) (by rw [e463, eN3]; exact hst) (fun q q0 q1 => by rw [hN3.2.at q0 q1]; exact hdw _ (by omega) (by omega)) (b := r) hr (fun k k0 k1 k2 => by rw [eN3]; exact hbi k k0 k1 k2)) rfl rfl (by first | rfl | assumption) (Nat.le_of_ble_eq_true rfl) rfl (fun _ _ z => z.elim) (fun v9 h9 hp9 => ?_)
      obtain ⟨g4, r2, rfl, rfl, w1, w2⟩ := hp9
      rw [eT3] at w2
      refine ms_istore_n dX6_leftByBook_80 (by decide) rfl ?_
      dsimp only [List.set, Nat.reduceAdd]
      refine mi_iinc dX6_leftByBook_81 rfl (by decide) rfl ?_
      dsimp only [List.set, Nat.reduceAdd]
      refine ms_goto (tgt := 35) dX6_leftByBook_84 (by decide) ?_
      refine ih (i + 1) _ r2 (by omega) (fun x x1 x2 x3 x4 x5 x6 => by rw [up_n _ _ x1, f3 x x2 x3 x4 x5 x6, q1 x x1 x2 x3 x4 x5 x6]) w1 (fun k k0 k1 => ?_)
      rw [w2 k k0 k1, sp_ft_g hN3.2, q3 k k0 k1]
      show (if bk_ft (sp_tC M t) (M 7) (M 8) v l (i : Int) k = true then _ else _) = if (bk_all (sp_tC M t) (M 7) (M 8) v l i k && bk_ft (sp_tC M t) (M 7) (M 8) v l (i : Int) k) = true then _ else _
      cases bk_ft (sp_tC M t) (M 7) (M 8) v l (i : Int) k
      · rw [Bool.and_false]; rfl
      · rw [Bool.and_true]; rfl

set_option maxHeartbeats 4000000 in
set_option maxRecDepth 100000 in
theorem k_X6_leftByBook {S : mx_Sc} {f : Bool} {M : Nat → Int → Int} {L : Nat → Nat → Int64} {Rf : Nat → Nat → Option Nat} (hR : mx_rf Rf) {t : Nat} (ht : t = 29 ∨ t = 37) (hT : sp_tok (sp_tC M t)) (hto : Rf 0 10 = some t) {v : Int → Int} (hsc : scR (sp_tC M t) M 3 v) (hv : sp_vok (sp_tC M t) v) (hz : ∀ l, M t 1 ≤ l → l < 6 → sp_out v l = false) {n l : Int} (hn : 0 ≤ n ∧ n ≤ 99) (hnn : M 3 3 = n) (hl : 0 ≤ l ∧ l < M t 1) (hdk : ∀ j, 0 ≤ j → j < n → sp_vok (sp_tC M t) (bk_v (M 7) v j)) (hdw : ∀ i, 0 ≤ i → i < 1800 → -1000 ≤ M 8 i ∧ M 8 i ≤ 1000) : mx_C S mX6_leftByBook [.ref 0, .int (iI l)] (f, mx_SH, M, L, Rf) 0 0 (fun v9 h9 => ∃ N r Rf2, h9 = (f, mx_SH, N, L, Rf2) ∧ v9 = some (.int (iI r)) ∧ mx_rf Rf2 ∧ (∀ x, x ≠ 46 → Rf2 x = Rf x) ∧ Rf2 46 1 = some t ∧ Rf2 46 2 = some (t + 3) ∧ (∀ x, x ≠ 46 → x ≠ 47 → x ≠ 18 → x ≠ 19 → x ≠ 20 → x ≠ 21 → x ≠ 24 → N x = M x) ∧ N 46 4 = bI false ∧ N 46 3 = M t 2 ∧ (0 ≤ r ∧ r < 128) ∧ ∀ k, 0 ≤ k → k < 7 → ob r k = if k ≠ l ∧ (k = 6 ∨ k < M t 1) ∧ bk_all (sp_tC M t) (M 7) (M 8) v l n.toNat k = true then 1 else 0) (fun _ _ => False) := by
  refine mx_C_of (by decide) (by simp [Value.category]) (Nat.le_of_ble_eq_true rfl) rfl ?_
  show mx_E S mX6_leftByBook 0 [some (.ref 0), some (.int (iI l)), none, none] [] (f, mx_SH, M, L, Rf) 0 0 _ _
  have ht9 : t < 900 := by omega
  have hs_t := tc_s ht
  have hs_t1 := tc_s1 ht
  have hr_t1 := tc_r1 hR ht
  have hs_t2 := tc_s2 ht
  have hr_t2 := tc_r2 hR ht
  have hs_t3 := tc_s3 ht
  have hr_t3 := tc_r3 hR ht
  have hs_t4 := tc_s4 ht
  have hr_t4 := tc_r4 hR ht
  have hs_t5 := tc_s5 ht
  have hr_t5 := tc_r5 hR ht
  have hs_t6 := tc_s6 ht
  have hr_t6 := tc_r6 hR ht
  have hs_t7 := tc_s7 ht
  have hr_t7 := tc_r7 hR ht
  have hT0 : 1 ≤ M t 0 ∧ M t 0 ≤ 30 := hT.1
  have hT1 : 0 ≤ M t 1 ∧ M t 1 ≤ 6 := hT.2.1
  have hT2 : 1 ≤ M t 2 ∧ M t 2 ≤ 9 := hT.2.2.1
  have hT3 : 0 ≤ M t 3 ∧ M t 3 ≤ 9 := hT.2.2.2.1
  have hT4 : 0 ≤ M t 4 ∧ M t 4 ≤ 9 := hT.2.2.2.2.1
  have hT5 : 1 ≤ M t 5 ∧ M t 5 ≤ 99 := hT.2.2.2.2.2.1
  have hT6 : 0 ≤ M t 6 ∧ M t 6 ≤ 10 := hT.2.2.2.2.2.2.1
  have hTn : ((M t 1).toNat : Int) = M t 1 := Int.toNat_of_nonneg hT1.1
  have hTn6 : ((M t 6).toNat : Int) = M t 6 := Int.toNat_of_nonneg hT6.1
  have hal := al_lt (l := M t 1) (by omega)
  have hpl := p2_lt (l := l) (by omega)
  have hod := odf_e hal hpl
  have hod0 : 0 ≤ (odf (2 ^ (M t 1).toNat - 1) (2 ^ l.toNat)) := Int.natCast_nonneg _
  refine ms_aload_n dX6_leftByBook_0 rfl ?_
  refine ms_getR dX6_leftByBook_1 (fo_X6_75 rfl) (by first | rfl | assumption) rfl (by first | assumption | exact rf_0_9 hR ) ?_
  refine ms_aload_n dX6_leftByBook_4 rfl ?_
  refine ms_getR dX6_leftByBook_5 (fo_X6_50 rfl) (by first | rfl | assumption) rfl (by first | assumption ) ?_
  refine ms_aload_n dX6_leftByBook_8 rfl ?_
  refine ms_getR dX6_leftByBook_9 (fo_X6_50 rfl) (by first | rfl | assumption) rfl (by first | assumption ) ?_
  refine ms_getR dX6_leftByBook_12 (fo_X6_154 rfl) (by first | rfl | assumption) rfl (by first | assumption | exact rf_29_9 hR | exact rf_37_9 hR ) ?_
  refine mi_iconst dX6_leftByBook_15 ?_
  refine ms_callV3 (ci := 5) (r := (RX5, TX5, 5)) dX6_leftByBook_16 cv_X6_leftByBook_X5_obey (k_X5_obey (hf := false) (ng := false) (wr := t + 3) hR ht hT) rfl rfl (by first | rfl | assumption) (Nat.le_of_ble_eq_true rfl) rfl (fun _ _ z => z.elim) (fun v9 h9 hp9 => ?_)
  obtain ⟨N, Rf2, rfl, rfl, hR, hRx, hR1, hR12, hNx, hN4, hN3⟩ := hp9
  have hto : Rf2 0 10 = some t := by rw [hRx 0 (by decide)]; exact hto
  have eT : sp_tC N t = sp_tC M t := tC_fr (fun y _ _ => hNx y (by omega))
  have eN : ∀ k, N t k = M t k := fun k => by rw [hNx t (by omega)]
  refine ms_aload_n dX6_leftByBook_19 rfl ?_
  refine ms_callV0 (ci := 6) (r := (RX6, TX6, 15)) dX6_leftByBook_20 cv_X6_leftByBook_X6_allLamps (k_X6_allLamps (M := N) hR ht (by rw [eT]; exact hT) hto) rfl rfl (by first | rfl | assumption) (Nat.le_of_ble_eq_true rfl) rfl (fun _ _ z => z.elim) (fun v9 h9 hp9 => ?_)
  obtain ⟨rfl, rfl⟩ := hp9
  rw [eN]
  refine mi_iconst dX6_leftByBook_23 ?_
  refine ms_iload_n dX6_leftByBook_24 rfl ?_
  refine mi_ishl (2 ^ l.toNat) dX6_leftByBook_25 (p2_shl (by omega)) ?_
  refine mi_iconst dX6_leftByBook_26 ?_
  refine mi_ixor (-1 - 2 ^ l.toNat) dX6_leftByBook_27 (oxm7 (by omega)) ?_
  refine mi_iand ((odf (2 ^ (M t 1).toNat - 1) (2 ^ l.toNat))) dX6_leftByBook_28 hod.1 ?_
  refine mi_bipush dX6_leftByBook_29 (by decide) ?_
  refine mi_ior ((odf (2 ^ (M t 1).toNat - 1) (2 ^ l.toNat)) + 64) dX6_leftByBook_31 (or64 (k := 0) ⟨hod0, hod.2⟩ (by omega)).1 ?_
  refine ms_istore_n dX6_leftByBook_32 (by decide) rfl ?_
  dsimp only [List.set, Nat.reduceAdd]
  refine mi_iconst dX6_leftByBook_33 ?_
  refine ms_istore_n dX6_leftByBook_34 (by decide) rfl ?_
  dsimp only [List.set, Nat.reduceAdd]
  have hbb : ∀ k, 0 ≤ k → k < 7 → ob ((odf (2 ^ (M t 1).toNat - 1) (2 ^ l.toNat)) + 64) k = if k ≠ l ∧ (k = 6 ∨ k < M t 1) then 1 else 0 := fun k k0 k1 => by
    rw [(or64 ⟨hod0, hod.2⟩ ⟨k0, k1⟩).2]
    by_cases e6 : k = 6
    · rw [if_pos e6, if_pos ⟨by omega, Or.inl e6⟩]
    · rw [if_neg e6, ob_cl hal (by omega) ⟨k0, by omega⟩]
      by_cases e : k = l
      · rw [if_pos e, if_neg (by rintro ⟨z, _⟩; exact z e)]
      · rw [if_neg e, ob_al (by omega) ⟨k0, by omega⟩]
        by_cases e2 : k < M t 1
        · rw [if_pos e2, if_pos ⟨e, Or.inr e2⟩]
        · rw [if_neg e2, if_neg (by rintro ⟨_, z | z⟩; exact e6 z; exact e2 z)]
  have e7 : N 7 = M 7 := hNx 7 (by decide)
  have e8 : N 8 = M 8 := hNx 8 (by decide)
  refine ms_conseq (fun v9 h9 hp => ?_) (fun _ _ z => z) (l_X6_lbb (M := N) (v := v) (n := n) (l := l) (b := (odf (2 ^ (M t 1).toNat - 1) (2 ^ l.toNat)) + 64) hR ht (by rw [eT]; exact hT) hto (by rw [eT]; exact hsc.fr (hNx _ (by decide)) (hNx _ (by decide)) (hNx _ (by decide)) (hNx _ (by decide))) (by rw [eT]; exact hv) (by rw [eN]; exact hz) hn (by rw [hNx 3 (by decide)]; exact hnn) (by rw [eN]; exact hl) (by rw [eT, e7]; exact hdk) (by rw [e8]; exact hdw) hR1 hN4 (by rw [eN]; exact hN3) (by omega) (fun k k0 k1 k2 => by rw [hbb k k0 (by omega)] at k2; rw [eN]; by_cases z : k ≠ l ∧ (k = 6 ∨ k < M t 1); omega; (rw [if_neg z] at k2; cases k2)) n.toNat 0 N ((odf (2 ^ (M t 1).toNat - 1) (2 ^ l.toNat)) + 64) (by omega) (fun _ _ _ _ _ _ _ => rfl) (by omega) (fun k k0 k1 => (if_pos rfl).symm))
  obtain ⟨N2, r, z1, z2, z3, z4, z5⟩ := hp
  rw [eT, e7, e8] at z5
  refine ⟨N2, r, Rf2, z1, z2, hR, hRx, hR1, hR12, fun x x0 x1 x2 x3 x4 x5 x6 => by rw [z3 x x1 x2 x3 x4 x5 x6, hNx x x0], by rw [z3 46 (by decide) (by decide) (by decide) (by decide) (by decide) (by decide)]; exact hN4, by rw [z3 46 (by decide) (by decide) (by decide) (by decide) (by decide) (by decide)]; exact hN3, z4, fun k k0 k1 => ?_⟩
  rw [z5 k k0 k1, hbb k k0 k1]
  by_cases z8 : bk_all (sp_tC M t) (M 7) (M 8) v l n.toNat k = true
  · rw [if_pos z8]
    by_cases z9 : k ≠ l ∧ (k = 6 ∨ k < M t 1)
    · rw [if_pos z9, if_pos ⟨z9.1, z9.2, z8⟩]
    · rw [if_neg z9, if_neg (by rintro ⟨w1, w2, w3⟩; exact z9 ⟨w1, w2⟩)]
  · rw [if_neg z8, if_neg (by rintro ⟨w1, w2, w3⟩; exact z8 w3)]

