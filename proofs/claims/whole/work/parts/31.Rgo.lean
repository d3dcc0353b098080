theorem sp_stays_f {t : sp_T} {v : Int → Int} {n l : Int} (h4 : ¬ t.2.1 l = 4) (h1 : ¬ (t.2.1 l = 1 ∧ n % 2 = 0)) (hw : ∀ w, 0 ≤ w → w < ((t.1 1).toNat : Int) → (fun w => decide (w ≠ l ∧ t.2.1 w = 4 ∧ sp_out v w = false ∧ sp_far v l w ≤ t.1 4)) w = false) : sp_stays t v n l = false := by
  unfold sp_stays
  rw [anyN_false hw, decide_eq_false h4, ← Bool.decide_and, decide_eq_false h1]
  rfl
theorem sp_stays_1 {t : sp_T} {v : Int → Int} {n l : Int} (h4 : t.2.1 l = 4) : sp_stays t v n l = true := by
  simp [sp_stays, h4]
theorem sp_stays_2 {t : sp_T} {v : Int → Int} {n l : Int} (h4 : t.2.1 l = 1) (h1 : n % 2 = 0) : sp_stays t v n l = true := by
  simp [sp_stays, h4, h1]
theorem sp_stays_3 {t : sp_T} {v : Int → Int} {n l : Int} {w : Int} (h0 : 0 ≤ w) (h1 : w < ((t.1 1).toNat : Int)) (h2 : w ≠ l ∧ t.2.1 w = 4 ∧ sp_out v w = false ∧ sp_far v l w ≤ t.1 4) : sp_stays t v n l = true := by
  unfold sp_stays
  rw [anyN_true (p := fun w => decide (w ≠ l ∧ t.2.1 w = 4 ∧ sp_out v w = false ∧ sp_far v l w ≤ t.1 4)) h0 h1 (decide_eq_true h2), Bool.or_true]
set_option maxHeartbeats 4000000 in
set_option maxRecDepth 100000 in
theorem l_X7_stays {S : mx_Sc} {f : Bool} {M : Nat → Int → Int} {L : Nat → Nat → Int64} {Rf : Nat → Nat → Option Nat} (hR : mx_rf Rf) (hT : sp_tok (sp_tR M)) {r : Nat} (hr9 : r < 900) (hs : mx_SH[r]? = some (0, 30)) (hv : sp_vok (sp_tR M) (M r)) {n l : Int} (hn : 0 ≤ n ∧ n ≤ 5000) (hl : 0 ≤ l ∧ l < M 53 1) (h4 : ¬ M 54 l = 4) (h1 : ¬ (M 54 l = 1 ∧ n % 2 = 0)) : ∀ (kk : Nat) (i : Int), 0 ≤ i → i + kk = M 53 1 → (∀ j, 0 ≤ j → j < i → (fun w => decide (w ≠ l ∧ M 54 w = 4 ∧ sp_out (M r) w = false ∧ sp_far (M r) l w ≤ M 53 4)) j = false) → mx_E S mX7_stays 31 [some (.ref 48), some (.ref r), some (.int (iI n)), some (.int (iI l)), some (.int (iI i))] [] (f, mx_SH, M, L, Rf) 0 0 (fun v9 h9 => h9 = (f, mx_SH, M, L, Rf) ∧ v9 = some (.int (iI (bI (sp_stays (sp_tR M) (M r) n l))))) (fun _ _ => False) := by
  intro kk
  induction kk with
  | zero => 
    intro i g0 g1 hq
    have hT0 : 1 ≤ M 53 0 ∧ M 53 0 ≤ 30 := hT.1
    have hT1 : 0 ≤ M 53 1 ∧ M 53 1 ≤ 6 := hT.2.1
    have hT2 : 1 ≤ M 53 2 ∧ M 53 2 ≤ 9 := hT.2.2.1
    have hT3 : 0 ≤ M 53 3 ∧ M 53 3 ≤ 9 := hT.2.2.2.1
    have hT4 : 0 ≤ M 53 4 ∧ M 53 4 ≤ 9 := hT.2.2.2.2.1
    have hT5 : 1 ≤ M 53 5 ∧ M 53 5 ≤ 99 := hT.2.2.2.2.2.1
    have hT6 : 0 ≤ M 53 6 ∧ M 53 6 ≤ 10 := hT.2.2.2.2.2.2.1
    have hTn : ((M 53 1).toNat : Int) = M 53 1 := Int.toNat_of_nonneg hT1.1
    refine ms_iload dX7_stays_31 rfl ?_
    refine ms_aload_n dX7_stays_33 rfl ?_
    refine ms_getR dX7_stays_34 (fo_X7_43 rfl) (by first | rfl | assumption) rfl (by first | assumption | exact rf_48_5 hR ) ?_
    refine mi_iconst dX7_stays_37 ?_
    refine ms_iald dX7_stays_38 (by first | rfl | assumption) ?_
    refine mi_icmp_ge (tgt := 92) dX7_stays_39 (by decide) (fun c_39 => ?_) (fun c_39 => ?_)
    · refine mi_iconst dX7_stays_92 ?_
      refine ms_retZ dX7_stays_93 rfl (by first | exact Or.inl rfl | exact Or.inr rfl) ⟨rfl, by rw [sp_stays_f (t := sp_tR M) h4 h1 (fun w w0 w1 => hq w w0 (by simp only at w1; omega))]; rfl⟩ (by simp)
    · exact absurd c_39 (by omega)
  | succ kk ih => 
    intro i g0 g1 hq
    have hT0 : 1 ≤ M 53 0 ∧ M 53 0 ≤ 30 := hT.1
    have hT1 : 0 ≤ M 53 1 ∧ M 53 1 ≤ 6 := hT.2.1
    have hT2 : 1 ≤ M 53 2 ∧ M 53 2 ≤ 9 := hT.2.2.1
    have hT3 : 0 ≤ M 53 3 ∧ M 53 3 ≤ 9 := hT.2.2.2.1
    have hT4 : 0 ≤ M 53 4 ∧ M 53 4 ≤ 9 := hT.2.2.2.2.1
    have hT5 : 1 ≤ M 53 5 ∧ M 53 5 ≤ 99 := hT.2.2.2.2.2.1
    have hT6 : 0 ≤ M 53 6 ∧ M 53 6 ≤ 10 := hT.2.2.2.2.2.2.1
    have hTn : ((M 53 1).toNat : Int) = M 53 1 := Int.toNat_of_nonneg hT1.1
    have hki : 0 ≤ M 54 i ∧ M 54 i ≤ 4 := (hT.2.2.2.2.2.2.2.1 i (by omega) (by show i < M 53 1; omega)).1
    have hfar := sp_far_le (t := sp_tR M) hv (a := l) (b := i) hl ⟨g0, by show i < M 53 1; omega⟩
    simp only at hfar
    refine ms_iload dX7_stays_31 rfl ?_
    refine ms_aload_n dX7_stays_33 rfl ?_
    refine ms_getR dX7_stays_34 (fo_X7_43 rfl) (by first | rfl | assumption) rfl (by first | assumption | exact rf_48_5 hR ) ?_
    refine mi_iconst dX7_stays_37 ?_
    refine ms_iald dX7_stays_38 (by first | rfl | assumption) ?_
    refine mi_icmp_ge (tgt := 92) dX7_stays_39 (by decide) (fun c_39 => ?_) (fun c_39 => ?_)
    · exact absurd c_39 (by omega)
    · refine ms_iload dX7_stays_42 rfl ?_
      refine ms_iload_n dX7_stays_44 rfl ?_
      refine mi_icmp_eq (tgt := 86) dX7_stays_45 (by decide) (fun c_45 => ?_) (fun c_45 => ?_)
      · refine mi_iinc dX7_stays_86 rfl (by decide) rfl ?_
        dsimp only [List.set, Nat.reduceAdd]
        refine ms_goto (tgt := 31) dX7_stays_89 (by decide) ?_
        exact ih (i + 1) (by omega) (by omega) (lt_st hq (decide_eq_false (by rintro ⟨q1, q2, q3, q4⟩; first | omega | exact q1 c_45 | (rw [c_65] at q3; cases q3))))
      · refine ms_aload_n dX7_stays_48 rfl ?_
        refine ms_getR dX7_stays_49 (fo_X7_46 rfl) (by first | rfl | assumption) rfl (by first | assumption | exact rf_48_6 hR ) ?_
        refine ms_iload dX7_stays_52 rfl ?_
        refine ms_iald dX7_stays_54 (by first | rfl | assumption) ?_
        refine mi_iconst dX7_stays_55 ?_
        refine mi_icmp_ne (tgt := 86) dX7_stays_56 (by decide) (fun c_56 => ?_) (fun c_56 => ?_)
        · refine mi_iinc dX7_stays_86 rfl (by decide) rfl ?_
          dsimp only [List.set, Nat.reduceAdd]
          refine ms_goto (tgt := 31) dX7_stays_89 (by decide) ?_
          exact ih (i + 1) (by omega) (by omega) (lt_st hq (decide_eq_false (by rintro ⟨q1, q2, q3, q4⟩; first | omega | exact q1 c_45 | (rw [c_65] at q3; cases q3))))
        · refine ms_aload_n dX7_stays_59 rfl ?_
          refine ms_iload dX7_stays_60 rfl ?_
          refine ms_callS2 dX7_stays_62 cv_X7_stays_X7_isOut (k_X7_isOut hr9 hs (l := i) (by omega) (hv.2 i (by omega) (by omega)).1) (Nat.le_of_ble_eq_true rfl) rfl (fun _ _ z => z.elim) (fun v9 h9 hp9 => ?_)
          obtain ⟨rfl, rfl⟩ := hp9
          refine mi_if_neB (tgt := 86) dX7_stays_65 (by decide) (fun c_65 => ?_) (fun c_65 => ?_)
          · refine mi_iinc dX7_stays_86 rfl (by decide) rfl ?_
            dsimp only [List.set, Nat.reduceAdd]
            refine ms_goto (tgt := 31) dX7_stays_89 (by decide) ?_
            exact ih (i + 1) (by omega) (by omega) (lt_st hq (decide_eq_false (by rintro ⟨q1, q2, q3, q4⟩; first | omega | exact q1 c_45 | (rw [c_65] at q3; cases q3))))
          · refine ms_aload_n dX7_stays_68 rfl ?_
            refine ms_iload_n dX7_stays_69 rfl ?_
            refine ms_iload dX7_stays_70 rfl ?_
            refine ms_callS3 dX7_stays_72 cv_X7_stays_X7_farOf (k_X7_farOf hr9 hs hT hv (a := l) (b := i) hl ⟨g0, by show i < M 53 1; omega⟩) (Nat.le_of_ble_eq_true rfl) rfl (fun _ _ z => z.elim) (fun v9 h9 hp9 => ?_)
            obtain ⟨rfl, rfl⟩ := hp9
            refine ms_aload_n dX7_stays_75 rfl ?_
            refine ms_getR dX7_stays_76 (fo_X7_43 rfl) (by first | rfl | assumption) rfl (by first | assumption | exact rf_48_5 hR ) ?_
            refine mi_iconst dX7_stays_79 ?_
            refine ms_iald dX7_stays_80 (by first | rfl | assumption) ?_
            refine mi_icmp_gt (tgt := 86) dX7_stays_81 (by decide) (fun c_81 => ?_) (fun c_81 => ?_)
            · refine mi_iinc dX7_stays_86 rfl (by decide) rfl ?_
              dsimp only [List.set, Nat.reduceAdd]
              refine ms_goto (tgt := 31) dX7_stays_89 (by decide) ?_
              exact ih (i + 1) (by omega) (by omega) (lt_st hq (decide_eq_false (by rintro ⟨q1, q2, q3, q4⟩; first | omega | exact q1 c_45 | (rw [c_65] at q3; cases q3))))
            · refine mi_iconst dX7_stays_84 ?_
              refine ms_retZ dX7_stays_85 rfl (by first | exact Or.inl rfl | exact Or.inr rfl) ⟨rfl, by rw [sp_stays_3 (t := sp_tR M) (w := i) g0 (by simp only; omega) ⟨c_45, c_56, c_65, by simp only; omega⟩]; rfl⟩ (by simp)

set_option maxHeartbeats 4000000 in
set_option maxRecDepth 100000 in
theorem k_X7_stays {S : mx_Sc} {f : Bool} {M : Nat → Int → Int} {L : Nat → Nat → Int64} {Rf : Nat → Nat → Option Nat} (hR : mx_rf Rf) (hT : sp_tok (sp_tR M)) {r : Nat} (hr9 : r < 900) (hs : mx_SH[r]? = some (0, 30)) (hv : sp_vok (sp_tR M) (M r)) {n l : Int} (hn : 0 ≤ n ∧ n ≤ 5000) (hl : 0 ≤ l ∧ l < M 53 1) : mx_C S mX7_stays [.ref 48, .ref r, .int (iI n), .int (iI l)] (f, mx_SH, M, L, Rf) 0 0 (fun v9 h9 => h9 = (f, mx_SH, M, L, Rf) ∧ v9 = some (.int (iI (bI (sp_stays (sp_tR M) (M r) n l))))) (fun _ _ => False) := by
  refine mx_C_of (by decide) (by simp [Value.category]) (Nat.le_of_ble_eq_true rfl) rfl ?_
  show mx_E S mX7_stays 0 [some (.ref 48), some (.ref r), some (.int (iI n)), some (.int (iI l)), none] [] (f, mx_SH, M, L, Rf) 0 0 _ _
  have hT0 : 1 ≤ M 53 0 ∧ M 53 0 ≤ 30 := hT.1
  have hT1 : 0 ≤ M 53 1 ∧ M 53 1 ≤ 6 := hT.2.1
  have hT2 : 1 ≤ M 53 2 ∧ M 53 2 ≤ 9 := hT.2.2.1
  have hT3 : 0 ≤ M 53 3 ∧ M 53 3 ≤ 9 := hT.2.2.2.1
  have hT4 : 0 ≤ M 53 4 ∧ M 53 4 ≤ 9 := hT.2.2.2.2.1
  have hT5 : 1 ≤ M 53 5 ∧ M 53 5 ≤ 99 := hT.2.2.2.2.2.1
  have hT6 : 0 ≤ M 53 6 ∧ M 53 6 ≤ 10 := hT.2.2.2.2.2.2.1
  have hTn : ((M 53 1).toNat : Int) = M 53 1 := Int.toNat_of_nonneg hT1.1
  have hkl : 0 ≤ M 54 l ∧ M 54 l ≤ 4 := (hT.2.2.2.2.2.2.2.1 l (by omega) (by show l < M 53 1; omega)).1
  refine ms_aload_n dX7_stays_0 rfl ?_
  refine ms_getR dX7_stays_1 (fo_X7_46 rfl) (by first | rfl | assumption) rfl (by first | assumption | exact rf_48_6 hR ) ?_
  refine ms_iload_n dX7_stays_4 rfl ?_
  refine ms_iald dX7_stays_5 (by first | rfl | assumption) ?_
  refine mi_iconst dX7_stays_6 ?_
  refine mi_icmp_eq (tgt := 26) dX7_stays_7 (by decide) (fun c_7 => ?_) (fun c_7 => ?_)
  · refine mi_iconst dX7_stays_26 ?_
    refine ms_retZ dX7_stays_27 rfl (by first | exact Or.inl rfl | exact Or.inr rfl) ⟨rfl, by first | (rw [sp_stays_1 (t := sp_tR M) c_7]; rfl) | (rw [sp_stays_2 (t := sp_tR M) c_17 c_23]; rfl)⟩ (by simp)
  · refine ms_aload_n dX7_stays_10 rfl ?_
    refine ms_getR dX7_stays_11 (fo_X7_46 rfl) (by first | rfl | assumption) rfl (by first | assumption | exact rf_48_6 hR ) ?_
    refine ms_iload_n dX7_stays_14 rfl ?_
    refine ms_iald dX7_stays_15 (by first | rfl | assumption) ?_
    refine mi_iconst dX7_stays_16 ?_
    refine mi_icmp_ne (tgt := 28) dX7_stays_17 (by decide) (fun c_17 => ?_) (fun c_17 => ?_)
    · refine mi_iconst dX7_stays_28 ?_
      refine ms_istore dX7_stays_29 (by decide) rfl ?_
      dsimp only [List.set, Nat.reduceAdd]
      exact l_X7_stays hR hT hr9 hs hv hn hl (by omega) (by omega) (M 53 1).toNat 0 (by omega) (by omega) (fun j g0 g1 => by omega)
    · refine ms_iload_n dX7_stays_20 rfl ?_
      refine mi_iconst dX7_stays_21 ?_
      refine mi_irem dX7_stays_22 ?_
      refine mi_if_ne (tgt := 28) dX7_stays_23 (by decide) (fun c_23 => ?_) (fun c_23 => ?_)
      · refine mi_iconst dX7_stays_28 ?_
        refine ms_istore dX7_stays_29 (by decide) rfl ?_
        dsimp only [List.set, Nat.reduceAdd]
        exact l_X7_stays hR hT hr9 hs hv hn hl (by omega) (by omega) (M 53 1).toNat 0 (by omega) (by omega) (fun j g0 g1 => by omega)
      · refine mi_iconst dX7_stays_26 ?_
        refine ms_retZ dX7_stays_27 rfl (by first | exact Or.inl rfl | exact Or.inr rfl) ⟨rfl, by first | (rw [sp_stays_1 (t := sp_tR M) c_7]; rfl) | (rw [sp_stays_2 (t := sp_tR M) c_17 c_23]; rfl)⟩ (by simp)

set_option maxHeartbeats 4000000 in
set_option maxRecDepth 100000 in
theorem l_X7_towards {S : mx_Sc} {f : Bool} {M : Nat → Int → Int} {L : Nat → Nat → Int64} {Rf : Nat → Nat → Option Nat} (hR : mx_rf Rf) (hT : sp_tok (sp_tR M)) {r : Nat} (hr9 : r < 900) (hs : mx_SH[r]? = some (0, 30)) (hv : sp_vok (sp_tR M) (M r)) {n l : Int} (hn : 0 ≤ n ∧ n ≤ 5000) (hl : 0 ≤ l ∧ l < M 53 1) {w : Int} (hw : -1 ≤ w ∧ w < M 53 1) : ∀ (kk : Nat) (j : Nat), j + kk = M 53 1 → mx_E S mX7_towards 37 [some (.ref 48), some (.ref r), some (.int (iI n)), some (.int (iI l)), some (.int (iI w)), some (.int (iI (sp_best (sp_tR M) (M r) n l j))), some (.int (iI (j : Int)))] [] (f, mx_SH, M, L, Rf) 0 0 (fun v9 h9 => h9 = (f, mx_SH, M, L, Rf) ∧ v9 = some (.int (iI (sp_best (sp_tR M) (M r) n l (M 53 1).toNat)))) (fun _ _ => False) := by
  intro kk
  induction kk with
  | zero => 
    intro j g1
    have hT0 : 1 ≤ M 53 0 ∧ M 53 0 ≤ 30 := hT.1
    have hT1 : 0 ≤ M 53 1 ∧ M 53 1 ≤ 6 := hT.2.1
    have hT2 : 1 ≤ M 53 2 ∧ M 53 2 ≤ 9 := hT.2.2.1
    have hT3 : 0 ≤ M 53 3 ∧ M 53 3 ≤ 9 := hT.2.2.2.1
    have hT4 : 0 ≤ M 53 4 ∧ M 53 4 ≤ 9 := hT.2.2.2.2.1
    have hT5 : 1 ≤ M 53 5 ∧ M 53 5 ≤ 99 := hT.2.2.2.2.2.1
    have hT6 : 0 ≤ M 53 6 ∧ M 53 6 ≤ 10 := hT.2.2.2.2.2.2.1
    have hTn : ((M 53 1).toNat : Int) = M 53 1 := Int.toNat_of_nonneg hT1.1
    have hb := sp_best_rng (sp_tR M) (M r) n l j
    refine ms_iload dX7_towards_37 rfl ?_
    refine ms_aload_n dX7_towards_39 rfl ?_
    refine ms_getR dX7_towards_40 (fo_X7_43 rfl) (by first | rfl | assumption) rfl (by first | assumption | exact rf_48_5 hR ) ?_
    refine mi_iconst dX7_towards_43 ?_
    refine ms_iald dX7_towards_44 (by first | rfl | assumption) ?_
    refine mi_icmp_ge (tgt := 107) dX7_towards_45 (by decide) (fun c_45 => ?_) (fun c_45 => ?_)
    · refine ms_iload dX7_towards_107 rfl ?_
      refine ms_ret dX7_towards_109 rfl ⟨rfl, by rw [show (M 53 1).toNat = j by omega]⟩ (by simp)
    · exact absurd c_45 (by omega)
  | succ kk ih => 
    intro j g1
    have hT0 : 1 ≤ M 53 0 ∧ M 53 0 ≤ 30 := hT.1
    have hT1 : 0 ≤ M 53 1 ∧ M 53 1 ≤ 6 := hT.2.1
    have hT2 : 1 ≤ M 53 2 ∧ M 53 2 ≤ 9 := hT.2.2.1
    have hT3 : 0 ≤ M 53 3 ∧ M 53 3 ≤ 9 := hT.2.2.2.1
    have hT4 : 0 ≤ M 53 4 ∧ M 53 4 ≤ 9 := hT.2.2.2.2.1
    have hT5 : 1 ≤ M 53 5 ∧ M 53 5 ≤ 99 := hT.2.2.2.2.2.1
    have hT6 : 0 ≤ M 53 6 ∧ M 53 6 ≤ 10 := hT.2.2.2.2.2.2.1
    have hTn : ((M 53 1).toNat : Int) = M 53 1 := Int.toNat_of_nonneg hT1.1
    have hb := sp_best_rng (sp_tR M) (M r) n l j
    have hfar := sp_far_le (t := sp_tR M) hv (a := l) (b := (j : Int)) hl ⟨by omega, by show (j : Int) < M 53 1; omega⟩
    simp only at hfar
    refine ms_iload dX7_towards_37 rfl ?_
    refine ms_aload_n dX7_towards_39 rfl ?_
    refine ms_getR dX7_towards_40 (fo_X7_43 rfl) (by first | rfl | assumption) rfl (by first | assumption | exact rf_48_5 hR ) ?_
    refine mi_iconst dX7_towards_43 ?_
    refine ms_iald dX7_towards_44 (by first | rfl | assumption) ?_
    refine mi_icmp_ge (tgt := 107) dX7_towards_45 (by decide) (fun c_45 => ?_) (fun c_45 => ?_)
    · exact absurd c_45 (by omega)
    · refine ms_iload dX7_towards_48 rfl ?_
      refine ms_iload_n dX7_towards_50 rfl ?_
      refine mi_icmp_eq (tgt := 101) dX7_towards_51 (by decide) (fun c_51 => ?_) (fun c_51 => ?_)
      · refine mi_iinc dX7_towards_101 rfl (by decide) rfl ?_
        refine ms_goto (tgt := 37) dX7_towards_104 (by decide) ?_
        have i9 := ih (j + 1) (by omega)
        rw [show sp_best (sp_tR M) (M r) n l (j + 1) = sp_best (sp_tR M) (M r) n l j from if_neg (fun g => g.1.1 c_51)] at i9
        exact i9
      · refine ms_aload_n dX7_towards_54 rfl ?_
        refine ms_iload dX7_towards_55 rfl ?_
        refine ms_callS2 dX7_towards_57 cv_X7_towards_X7_isOut (k_X7_isOut hr9 hs (l := (j : Int)) (by omega) (hv.2 (j : Int) (by omega) (by omega)).1) (Nat.le_of_ble_eq_true rfl) rfl (fun _ _ z => z.elim) (fun v9 h9 hp9 => ?_)
        obtain ⟨rfl, rfl⟩ := hp9
        refine mi_if_neB (tgt := 101) dX7_towards_60 (by decide) (fun c_60 => ?_) (fun c_60 => ?_)
        · refine mi_iinc dX7_towards_101 rfl (by decide) rfl ?_
          refine ms_goto (tgt := 37) dX7_towards_104 (by decide) ?_
          have i9 := ih (j + 1) (by omega)
          rw [show sp_best (sp_tR M) (M r) n l (j + 1) = sp_best (sp_tR M) (M r) n l j from if_neg (fun g => by rw [c_60] at g; exact absurd g.1.2.1 (by decide))] at i9
          exact i9
        · refine ms_aload_n dX7_towards_63 rfl ?_
          refine ms_iload_n dX7_towards_64 rfl ?_
          refine ms_iload_n dX7_towards_65 rfl ?_
          refine ms_iload dX7_towards_66 rfl ?_
          refine ms_callV3 (ci := 7) (r := (RX7, TX7, 48)) dX7_towards_68 cv_X7_towards_X7_hides (k_X7_hides hR hT (n := n) (a := l) (b := (j : Int)) (by omega) (by omega) (by omega)) rfl rfl (by first | rfl | assumption) (Nat.le_of_ble_eq_true rfl) rfl (fun _ _ z => z.elim) (fun v9 h9 hp9 => ?_)
          obtain ⟨rfl, rfl⟩ := hp9
          refine mi_if_neB (tgt := 101) dX7_towards_71 (by decide) (fun c_71 => ?_) (fun c_71 => ?_)
          · refine mi_iinc dX7_towards_101 rfl (by decide) rfl ?_
            refine ms_goto (tgt := 37) dX7_towards_104 (by decide) ?_
            have i9 := ih (j + 1) (by omega)
            rw [show sp_best (sp_tR M) (M r) n l (j + 1) = sp_best (sp_tR M) (M r) n l j from if_neg (fun g => by rw [c_71] at g; exact absurd g.1.2.2 (by decide))] at i9
            exact i9
          · refine ms_iload dX7_towards_74 rfl ?_
            refine mi_iconst dX7_towards_76 ?_
            refine mi_icmp_eq (tgt := 97) dX7_towards_77 (by decide) (fun c_77 => ?_) (fun c_77 => ?_)
            · refine ms_iload dX7_towards_97 rfl ?_
              refine ms_istore dX7_towards_99 (by decide) rfl ?_
              dsimp only [List.set, Nat.reduceAdd]
              refine mi_iinc dX7_towards_101 rfl (by decide) rfl ?_
              refine ms_goto (tgt := 37) dX7_towards_104 (by decide) ?_
              have i9 := ih (j + 1) (by omega)
              rw [show sp_best (sp_tR M) (M r) n l (j + 1) = (j : Int) from if_pos ⟨⟨c_51, c_60, c_71⟩, by first | exact Or.inl c_77 | exact Or.inr (by omega)⟩] at i9
              exact i9
            · refine ms_aload_n dX7_towards_80 rfl ?_
              refine ms_iload_n dX7_towards_81 rfl ?_
              refine ms_iload dX7_towards_82 rfl ?_
              refine ms_callS3 dX7_towards_84 cv_X7_towards_X7_farOf (k_X7_farOf hr9 hs hT hv (a := l) (b := (j : Int)) hl ⟨by omega, by show (j : Int) < M 53 1; omega⟩) (Nat.le_of_ble_eq_true rfl) rfl (fun _ _ z => z.elim) (fun v9 h9 hp9 => ?_)
              obtain ⟨rfl, rfl⟩ := hp9
              refine ms_aload_n dX7_towards_87 rfl ?_
              refine ms_iload_n dX7_towards_88 rfl ?_
              refine ms_iload dX7_towards_89 rfl ?_
              refine ms_callS3 dX7_towards_91 cv_X7_towards_X7_farOf (k_X7_farOf hr9 hs hT hv (a := l) (b := sp_best (sp_tR M) (M r) n l j) hl ⟨by omega, by show _ < M 53 1; omega⟩) (Nat.le_of_ble_eq_true rfl) rfl (fun _ _ z => z.elim) (fun v9 h9 hp9 => ?_)
              obtain ⟨rfl, rfl⟩ := hp9
              have hfar2 := sp_far_le (t := sp_tR M) hv (a := l) (b := sp_best (sp_tR M) (M r) n l j) hl ⟨by omega, by show _ < M 53 1; omega⟩
              simp only at hfar2
              refine mi_icmp_ge (tgt := 101) dX7_towards_94 (by decide) (fun c_94 => ?_) (fun c_94 => ?_)
              · refine mi_iinc dX7_towards_101 rfl (by decide) rfl ?_
                refine ms_goto (tgt := 37) dX7_towards_104 (by decide) ?_
                have i9 := ih (j + 1) (by omega)
                rw [show sp_best (sp_tR M) (M r) n l (j + 1) = sp_best (sp_tR M) (M r) n l j from if_neg (fun g => g.2.elim c_77 (fun q => absurd q (by omega)))] at i9
                exact i9
              · refine ms_iload dX7_towards_97 rfl ?_
                refine ms_istore dX7_towards_99 (by decide) rfl ?_
                dsimp only [List.set, Nat.reduceAdd]
                refine mi_iinc dX7_towards_101 rfl (by decide) rfl ?_
                refine ms_goto (tgt := 37) dX7_towards_104 (by decide) ?_
                have i9 := ih (j + 1) (by omega)
                rw [show sp_best (sp_tR M) (M r) n l (j + 1) = (j : Int) from if_pos ⟨⟨c_51, c_60, c_71⟩, by first | exact Or.inl c_77 | exact Or.inr (by omega)⟩] at i9
                exact i9

set_option maxHeartbeats 4000000 in
set_option maxRecDepth 100000 in
theorem k_X7_towards {S : mx_Sc} {f : Bool} {M : Nat → Int → Int} {L : Nat → Nat → Int64} {Rf : Nat → Nat → Option Nat} (hR : mx_rf Rf) (hT : sp_tok (sp_tR M)) {r : Nat} (hr9 : r < 900) (hs : mx_SH[r]? = some (0, 30)) (hv : sp_vok (sp_tR M) (M r)) {n l : Int} (hn : 0 ≤ n ∧ n ≤ 5000) (hl : 0 ≤ l ∧ l < M 53 1) {w : Int} (hw : -1 ≤ w ∧ w < M 53 1) : mx_C S mX7_towards [.ref 48, .ref r, .int (iI n), .int (iI l), .int (iI w)] (f, mx_SH, M, L, Rf) 0 0 (fun v9 h9 => h9 = (f, mx_SH, M, L, Rf) ∧ v9 = some (.int (iI (sp_to (sp_tR M) (M r) n l w)))) (fun _ _ => False) := by
  refine mx_C_of (by decide) (by simp [Value.category]) (Nat.le_of_ble_eq_true rfl) rfl ?_
  show mx_E S mX7_towards 0 [some (.ref 48), some (.ref r), some (.int (iI n)), some (.int (iI l)), some (.int (iI w)), none, none] [] (f, mx_SH, M, L, Rf) 0 0 _ _
  have hT0 : 1 ≤ M 53 0 ∧ M 53 0 ≤ 30 := hT.1
  have hT1 : 0 ≤ M 53 1 ∧ M 53 1 ≤ 6 := hT.2.1
  have hT2 : 1 ≤ M 53 2 ∧ M 53 2 ≤ 9 := hT.2.2.1
  have hT3 : 0 ≤ M 53 3 ∧ M 53 3 ≤ 9 := hT.2.2.2.1
  have hT4 : 0 ≤ M 53 4 ∧ M 53 4 ≤ 9 := hT.2.2.2.2.1
  have hT5 : 1 ≤ M 53 5 ∧ M 53 5 ≤ 99 := hT.2.2.2.2.2.1
  have hT6 : 0 ≤ M 53 6 ∧ M 53 6 ≤ 10 := hT.2.2.2.2.2.2.1
  have hTn : ((M 53 1).toNat : Int) = M 53 1 := Int.toNat_of_nonneg hT1.1
  refine ms_iload dX7_towards_0 rfl ?_
  refine mi_iconst dX7_towards_2 ?_
  refine mi_icmp_eq (tgt := 15) dX7_towards_3 (by decide) (fun c_3 => ?_) (fun c_3 => ?_)
  · refine mi_iconst dX7_towards_15 ?_
    refine ms_ret dX7_towards_16 rfl ⟨rfl, by first | (rw [show sp_to (sp_tR M) (M r) n l w = -1 from if_pos (Or.inl c_3)]) | (rw [show sp_to (sp_tR M) (M r) n l w = -1 from if_pos (Or.inr c_12)])⟩ (by simp)
  · refine ms_aload_n dX7_towards_6 rfl ?_
    refine ms_iload dX7_towards_7 rfl ?_
    refine ms_callS2 dX7_towards_9 cv_X7_towards_X7_isOut (k_X7_isOut hr9 hs (l := w) (by omega) (hv.2 w (by omega) (by omega)).1) (Nat.le_of_ble_eq_true rfl) rfl (fun _ _ z => z.elim) (fun v9 h9 hp9 => ?_)
    obtain ⟨rfl, rfl⟩ := hp9
    refine mi_if_eqB (tgt := 17) dX7_towards_12 (by decide) (fun c_12 => ?_) (fun c_12 => ?_)
    · refine ms_aload_n dX7_towards_17 rfl ?_
      refine ms_iload_n dX7_towards_18 rfl ?_
      refine ms_iload_n dX7_towards_19 rfl ?_
      refine ms_iload dX7_towards_20 rfl ?_
      refine ms_callV3 (ci := 7) (r := (RX7, TX7, 48)) dX7_towards_22 cv_X7_towards_X7_hides (k_X7_hides hR hT (n := n) (a := l) (b := w) (by omega) (by omega) (by omega)) rfl rfl (by first | rfl | assumption) (Nat.le_of_ble_eq_true rfl) rfl (fun _ _ z => z.elim) (fun v9 h9 hp9 => ?_)
      obtain ⟨rfl, rfl⟩ := hp9
      refine mi_if_neB (tgt := 31) dX7_towards_25 (by decide) (fun c_25 => ?_) (fun c_25 => ?_)
      · refine mi_iconst dX7_towards_31 ?_
        refine ms_istore dX7_towards_32 (by decide) rfl ?_
        dsimp only [List.set, Nat.reduceAdd]
        refine mi_iconst dX7_towards_34 ?_
        refine ms_istore dX7_towards_35 (by decide) rfl ?_
        dsimp only [List.set, Nat.reduceAdd]
        refine ms_conseq (fun v9 h9 hp => ?_) (fun _ _ z => z) (l_X7_towards hR hT hr9 hs hv hn hl hw (M 53 1).toNat 0 (by omega))
        refine ⟨hp.1, ?_⟩
        rw [hp.2]
        simp only [sp_to, c_12, c_25, if_neg c_3]
        simp [c_3]
      · refine ms_iload dX7_towards_28 rfl ?_
        refine ms_ret dX7_towards_30 rfl ⟨rfl, by simp [sp_to, c_3, c_12, c_25]⟩ (by simp)
    · refine mi_iconst dX7_towards_15 ?_
      refine ms_ret dX7_towards_16 rfl ⟨rfl, by first | (rw [show sp_to (sp_tR M) (M r) n l w = -1 from if_pos (Or.inl c_3)]) | (rw [show sp_to (sp_tR M) (M r) n l w = -1 from if_pos (Or.inr c_12)])⟩ (by simp)

set_option maxHeartbeats 4000000 in
set_option maxRecDepth 100000 in
theorem l_X7_be {S : mx_Sc} {f : Bool} {M : Nat → Int → Int} {L : Nat → Nat → Int64} {Rf : Nat → Nat → Option Nat} {a b n n2 : Nat} (ha : a < 900) (hb : b < 900) (hs : mx_SH[a]? = some (0, n)) (hs2 : mx_SH[b]? = some (0, n2)) (hn : n ≤ n2) (hn2 : n2 < 20000) (hab : a ≠ b) : ∀ (kk : Nat) (i : Int) (N : Nat → Int → Int), 0 ≤ i → i + kk = n → (∀ x, x ≠ a → N x = M x) → (∀ j, N a j = ic (M b) (M a) 0 0 i j) → mx_E S mX7_be 2 [some (.ref a), some (.ref b), some (.int (iI i))] [] (f, mx_SH, N, L, Rf) 0 0 (fun v9 h9 => h9 = (f, mx_SH, va_up M a (ic (M b) (M a) 0 0 n), L, Rf) ∧ v9 = none) (fun _ _ => False) := by
  intro kk
  induction kk with
  | zero => 
    intro i N g0 g1 q1 q2
    refine ms_iload_n dX7_be_2 rfl ?_
    refine ms_aload_n dX7_be_3 rfl ?_
    refine ms_alen dX7_be_4 (by first | rfl | assumption) (by decide) rfl ?_
    refine mi_icmp_ge (tgt := 20) dX7_be_5 (by decide) (fun c_5 => ?_) (fun c_5 => ?_)
    · refine ms_retV dX7_be_20 rfl ⟨by rw [up_ext q1 (funext q2), show i = (n : Int) by omega], rfl⟩ (by simp)
    · exact absurd c_5 (by omega)
  | succ kk ih => 
    intro i N g0 g1 q1 q2
    refine ms_iload_n dX7_be_2 rfl ?_
    refine ms_aload_n dX7_be_3 rfl ?_
    refine ms_alen dX7_be_4 (by first | rfl | assumption) (by decide) rfl ?_
    refine mi_icmp_ge (tgt := 20) dX7_be_5 (by decide) (fun c_5 => ?_) (fun c_5 => ?_)
    · exact absurd c_5 (by omega)
    · refine ms_aload_n dX7_be_8 rfl ?_
      refine ms_iload_n dX7_be_9 rfl ?_
      refine ms_aload_n dX7_be_10 rfl ?_
      refine ms_iload_n dX7_be_11 rfl ?_
      refine ms_iald dX7_be_12 (by first | rfl | assumption) ?_
      refine ms_iast dX7_be_13 (by first | rfl | assumption) ?_
      refine mi_iinc dX7_be_14 rfl (by decide) rfl ?_
      dsimp only [List.set, Nat.reduceAdd]
      refine ms_goto (tgt := 2) dX7_be_17 (by decide) ?_
      refine ih (i + 1) _ (by omega) (by omega) (fun x hx => by rw [up_n _ _ hx]; exact q1 x hx) (fun j => ?_)
      rw [up_s]
      by_cases hj : j = i
      · subst hj
        rw [iu_s, q1 b (Ne.symm hab)]
        simp only [ic]
        rw [if_pos (by omega)]
        congr 1
        omega
      · rw [iu_n _ _ hj, q2 j]
        simp only [ic]
        by_cases h9 : 0 ≤ j ∧ j < 0 + i
        · rw [if_pos h9, if_pos (by omega)]
        · rw [if_neg h9, if_neg (by omega)]

set_option maxHeartbeats 4000000 in
set_option maxRecDepth 100000 in
theorem k_X7_be {S : mx_Sc} {f : Bool} {M : Nat → Int → Int} {L : Nat → Nat → Int64} {Rf : Nat → Nat → Option Nat} {a b n n2 : Nat} (ha : a < 900) (hb : b < 900) (hs : mx_SH[a]? = some (0, n)) (hs2 : mx_SH[b]? = some (0, n2)) (hn : n ≤ n2) (hn2 : n2 < 20000) (hab : a ≠ b) : mx_C S mX7_be [.ref a, .ref b] (f, mx_SH, M, L, Rf) 0 0 (fun v9 h9 => h9 = (f, mx_SH, va_up M a (ic (M b) (M a) 0 0 n), L, Rf) ∧ v9 = none) (fun _ _ => False) := by
  refine mx_C_of (by decide) (by simp [Value.category]) (Nat.le_of_ble_eq_true rfl) rfl ?_
  show mx_E S mX7_be 0 [some (.ref a), some (.ref b), none] [] (f, mx_SH, M, L, Rf) 0 0 _ _
  refine mi_iconst dX7_be_0 ?_
  refine ms_istore_n dX7_be_1 (by decide) rfl ?_
  dsimp only [List.set, Nat.reduceAdd]
  exact l_X7_be ha hb hs hs2 hn hn2 hab n 0 M (by omega) (by omega) (fun _ _ => rfl) (fun j => by simp only [ic]; rw [if_neg (by omega)])

