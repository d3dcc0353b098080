/-- only the code -/
def cdP (M N : Nat → Int → Int) (c : Int) : Prop := (∀ x, x ≠ 48 → N x = M x) ∧ N 48 4 = c ∧ ∀ k, k ≠ 4 → N 48 k = M 48 k
theorem cdP.mk' {M : Nat → Int → Int} {e : Int} : cdP M (va_up M 48 (iu (M 48) 4 e)) e := ⟨fun x hx => up_n _ _ hx, by rw [up_s, iu_s], fun k hk => by rw [up_s, iu_n _ _ hk]⟩
theorem cdP.set {M N : Nat → Int → Int} {c e : Int} (h : cdP M N c) : cdP M (va_up N 48 (iu (N 48) 4 e)) e := ⟨fun x hx => by rw [up_n _ _ hx]; exact h.1 x hx, by rw [up_s, iu_s], fun k hk => by rw [up_s, iu_n _ _ hk]; exact h.2.2 k hk⟩
/-- the lamps that are out, as bits -/
def ooN (v : Int → Int) : Nat → Int
  | 0 => 0
  | k + 1 => if sp_out v k = true then oor (ooN v k) (2 ^ k) else ooN v k
theorem ooN_b (v : Int → Int) : ∀ k : Nat, k ≤ 6 → (0 ≤ ooN v k ∧ ooN v k < 64) ∧ ∀ l, 0 ≤ l → l < 6 → ob (ooN v k) l = if l < k then bI (sp_out v l) else 0
  | 0, _ => ⟨by unfold ooN; decide, fun l l0 l1 => by rw [if_neg (by omega)]; unfold ooN ob; rw [Int.zero_ediv]; rfl⟩
  | k + 1, h => by
    have ih := ooN_b v k (by omega)
    have hp := p2_lt (l := (k : Int)) (by omega)
    rw [Int.toNat_natCast] at hp
    simp only [ooN]
    by_cases e : sp_out v k = true
    · rw [if_pos e]
      refine ⟨oor_b ih.1 hp, fun l l0 l1 => ?_⟩
      have h9 := ob_oor (a := ooN v k) (l := (k : Int)) (y := l) ih.1 (by omega) (by omega)
      rw [Int.toNat_natCast] at h9
      rw [h9]
      by_cases e2 : l = (k : Int)
      · rw [if_pos e2, if_pos (by omega), e2, e]; rfl
      · rw [if_neg e2, ih.2 l l0 l1]
        by_cases e3 : l < k
        · rw [if_pos e3, if_pos (by omega)]
        · rw [if_neg e3, if_neg (by omega)]
    · rw [if_neg e]
      refine ⟨ih.1, fun l l0 l1 => ?_⟩
      rw [ih.2 l l0 l1]
      by_cases e2 : l = (k : Int)
      · rw [if_neg (by omega), if_pos (by omega), e2]
        cases e5 : sp_out v k
        · rfl
        · exact absurd e5 e
      · by_cases e3 : l < k
        · rw [if_pos e3, if_pos (by omega)]
        · rw [if_neg e3, if_neg (by omega)]
set_option maxHeartbeats 4000000 in
set_option maxRecDepth 100000 in
theorem l_X7_couples {S : mx_Sc} {f : Bool} {M : Nat → Int → Int} {L : Nat → Nat → Int64} {Rf : Nat → Nat → Option Nat} (hR : mx_rf Rf) (hT : sp_tok (sp_tR M)) {r : Nat} (hr9 : r < 900) (hs : mx_SH[r]? = some (0, 30)) (hv : sp_vok (sp_tR M) (M r)) : ∀ (kk : Nat) (k : Nat), k + kk = M 53 1 → 0 ≤ itN (fun l c => c + bI (sp_out (M r) l)) k (0 : Int) → itN (fun l c => c + bI (sp_out (M r) l)) k (0 : Int) ≤ k → mx_E S mX7_couples 4 [some (.ref 48), some (.ref r), some (.int (iI (itN (fun l c => c + bI (sp_out (M r) l)) k (0 : Int)))), some (.int (iI (k : Int)))] [] (f, mx_SH, M, L, Rf) 0 0 (fun v9 h9 => h9 = (f, mx_SH, M, L, Rf) ∧ v9 = some (.int (iI (sp_cnt (sp_tR M) (M r) / 2)))) (fun _ _ => False) := by
  intro kk
  induction kk with
  | zero => 
    intro k g1 q0 q1
    have hT0 : 1 ≤ M 53 0 ∧ M 53 0 ≤ 30 := hT.1
    have hT1 : 0 ≤ M 53 1 ∧ M 53 1 ≤ 6 := hT.2.1
    have hT5 : 1 ≤ M 53 5 ∧ M 53 5 ≤ 99 := hT.2.2.2.2.2.1
    have hT6 : 0 ≤ M 53 6 ∧ M 53 6 ≤ 10 := hT.2.2.2.2.2.2.1
    refine ms_iload_n dX7_couples_4 rfl ?_
    refine ms_aload_n dX7_couples_5 rfl ?_
    refine ms_getR dX7_couples_6 (fo_X7_43 rfl) (by first | rfl | assumption) rfl (by first | assumption | exact rf_48_5 hR ) ?_
    refine mi_iconst dX7_couples_9 ?_
    refine ms_iald dX7_couples_10 (by first | rfl | assumption) ?_
    refine mi_icmp_ge (tgt := 36) dX7_couples_11 (by decide) (fun c_11 => ?_) (fun c_11 => ?_)
    · refine ms_iload_n dX7_couples_36 rfl ?_
      refine mi_iconst dX7_couples_37 ?_
      refine mi_idiv dX7_couples_38 ?_
      refine ms_ret dX7_couples_39 rfl ⟨rfl, by unfold sp_cnt; simp only; rw [show (M 53 1).toNat = k by omega]⟩ (by simp)
    · exact absurd c_11 (by omega)
  | succ kk ih => 
    intro k g1 q0 q1
    have hT0 : 1 ≤ M 53 0 ∧ M 53 0 ≤ 30 := hT.1
    have hT1 : 0 ≤ M 53 1 ∧ M 53 1 ≤ 6 := hT.2.1
    have hT5 : 1 ≤ M 53 5 ∧ M 53 5 ≤ 99 := hT.2.2.2.2.2.1
    have hT6 : 0 ≤ M 53 6 ∧ M 53 6 ≤ 10 := hT.2.2.2.2.2.2.1
    have hoo := (hv.2 (k : Int) (by omega) (by omega)).1
    have hbi := bI_01 (sp_out (M r) (k : Int))
    refine ms_iload_n dX7_couples_4 rfl ?_
    refine ms_aload_n dX7_couples_5 rfl ?_
    refine ms_getR dX7_couples_6 (fo_X7_43 rfl) (by first | rfl | assumption) rfl (by first | assumption | exact rf_48_5 hR ) ?_
    refine mi_iconst dX7_couples_9 ?_
    refine ms_iald dX7_couples_10 (by first | rfl | assumption) ?_
    refine mi_icmp_ge (tgt := 36) dX7_couples_11 (by decide) (fun c_11 => ?_) (fun c_11 => ?_)
    · exact absurd c_11 (by omega)
    · refine ms_iload_n dX7_couples_14 rfl ?_
      refine ms_aload_n dX7_couples_15 rfl ?_
      refine ms_iload_n dX7_couples_16 rfl ?_
      refine ms_callS2 dX7_couples_17 cv_X7_couples_X7_isOut (k_X7_isOut hr9 hs (l := (k : Int)) (by omega) hoo) (Nat.le_of_ble_eq_true rfl) rfl (fun _ _ z => z.elim) (fun v9 h9 hp9 => ?_)
      obtain ⟨rfl, rfl⟩ := hp9
      refine mi_if_eqB (tgt := 27) dX7_couples_20 (by decide) (fun c_20 => ?_) (fun c_20 => ?_)
      · refine mi_iconst dX7_couples_27 ?_
        refine mi_iadd dX7_couples_28 ?_
        refine ms_istore_n dX7_couples_29 (by decide) rfl ?_
        dsimp only [List.set, Nat.reduceAdd]
        refine mi_iinc dX7_couples_30 rfl (by decide) rfl ?_
        dsimp only [List.set, Nat.reduceAdd]
        refine ms_goto (tgt := 4) dX7_couples_33 (by decide) ?_
        have i9 := ih (k + 1) (by omega) (by simp only [itN]; omega) (by simp only [itN]; omega)
        simp only [itN] at i9
        rw [c_20] at i9
        exact i9
      · refine mi_iconst dX7_couples_23 ?_
        refine ms_goto (tgt := 28) dX7_couples_24 (by decide) ?_
        refine mi_iadd dX7_couples_28 ?_
        refine ms_istore_n dX7_couples_29 (by decide) rfl ?_
        dsimp only [List.set, Nat.reduceAdd]
        refine mi_iinc dX7_couples_30 rfl (by decide) rfl ?_
        dsimp only [List.set, Nat.reduceAdd]
        refine ms_goto (tgt := 4) dX7_couples_33 (by decide) ?_
        have i9 := ih (k + 1) (by omega) (by simp only [itN]; omega) (by simp only [itN]; omega)
        simp only [itN] at i9
        rw [c_20] at i9
        exact i9

set_option maxHeartbeats 4000000 in
set_option maxRecDepth 100000 in
theorem k_X7_couples {S : mx_Sc} {f : Bool} {M : Nat → Int → Int} {L : Nat → Nat → Int64} {Rf : Nat → Nat → Option Nat} (hR : mx_rf Rf) (hT : sp_tok (sp_tR M)) {r : Nat} (hr9 : r < 900) (hs : mx_SH[r]? = some (0, 30)) (hv : sp_vok (sp_tR M) (M r)) : mx_C S mX7_couples [.ref 48, .ref r] (f, mx_SH, M, L, Rf) 0 0 (fun v9 h9 => h9 = (f, mx_SH, M, L, Rf) ∧ v9 = some (.int (iI (sp_cnt (sp_tR M) (M r) / 2)))) (fun _ _ => False) := by
  refine mx_C_of (by decide) (by simp [Value.category]) (Nat.le_of_ble_eq_true rfl) rfl ?_
  show mx_E S mX7_couples 0 [some (.ref 48), some (.ref r), none, none] [] (f, mx_SH, M, L, Rf) 0 0 _ _
  have hT0 : 1 ≤ M 53 0 ∧ M 53 0 ≤ 30 := hT.1
  have hT1 : 0 ≤ M 53 1 ∧ M 53 1 ≤ 6 := hT.2.1
  have hT5 : 1 ≤ M 53 5 ∧ M 53 5 ≤ 99 := hT.2.2.2.2.2.1
  have hT6 : 0 ≤ M 53 6 ∧ M 53 6 ≤ 10 := hT.2.2.2.2.2.2.1
  refine mi_iconst dX7_couples_0 ?_
  refine ms_istore_n dX7_couples_1 (by decide) rfl ?_
  dsimp only [List.set, Nat.reduceAdd]
  refine mi_iconst dX7_couples_2 ?_
  refine ms_istore_n dX7_couples_3 (by decide) rfl ?_
  dsimp only [List.set, Nat.reduceAdd]
  exact l_X7_couples (S := S) (f := f) (L := L) hR hT hr9 hs hv (M 53 1).toNat 0 (by omega) (Int.le_refl _) (Int.le_refl _)

set_option maxHeartbeats 4000000 in
set_option maxRecDepth 100000 in
theorem l_X7_outOf {S : mx_Sc} {f : Bool} {M : Nat → Int → Int} {L : Nat → Nat → Int64} {Rf : Nat → Nat → Option Nat} (hR : mx_rf Rf) (hT : sp_tok (sp_tR M)) {r : Nat} (hr9 : r < 900) (hs : mx_SH[r]? = some (0, 30)) (hv : sp_vok (sp_tR M) (M r)) : ∀ (kk : Nat) (k : Nat), k + kk = M 53 1 → mx_E S mX7_outOf 4 [some (.ref 48), some (.ref r), some (.int (iI (ooN (M r) k))), some (.int (iI (k : Int)))] [] (f, mx_SH, M, L, Rf) 0 0 (fun v9 h9 => h9 = (f, mx_SH, M, L, Rf) ∧ v9 = some (.int (iI (ooN (M r) (M 53 1).toNat)))) (fun _ _ => False) := by
  intro kk
  induction kk with
  | zero => 
    intro k g1
    have hT0 : 1 ≤ M 53 0 ∧ M 53 0 ≤ 30 := hT.1
    have hT1 : 0 ≤ M 53 1 ∧ M 53 1 ≤ 6 := hT.2.1
    have hT5 : 1 ≤ M 53 5 ∧ M 53 5 ≤ 99 := hT.2.2.2.2.2.1
    have hT6 : 0 ≤ M 53 6 ∧ M 53 6 ≤ 10 := hT.2.2.2.2.2.2.1
    refine ms_iload_n dX7_outOf_4 rfl ?_
    refine ms_aload_n dX7_outOf_5 rfl ?_
    refine ms_getR dX7_outOf_6 (fo_X7_43 rfl) (by first | rfl | assumption) rfl (by first | assumption | exact rf_48_5 hR ) ?_
    refine mi_iconst dX7_outOf_9 ?_
    refine ms_iald dX7_outOf_10 (by first | rfl | assumption) ?_
    refine mi_icmp_ge (tgt := 38) dX7_outOf_11 (by decide) (fun c_11 => ?_) (fun c_11 => ?_)
    · refine ms_iload_n dX7_outOf_38 rfl ?_
      refine ms_ret dX7_outOf_39 rfl ⟨rfl, by rw [show (M 53 1).toNat = k by omega]⟩ (by simp)
    · exact absurd c_11 (by omega)
  | succ kk ih => 
    intro k g1
    have hT0 : 1 ≤ M 53 0 ∧ M 53 0 ≤ 30 := hT.1
    have hT1 : 0 ≤ M 53 1 ∧ M 53 1 ≤ 6 := hT.2.1
    have hT5 : 1 ≤ M 53 5 ∧ M 53 5 ≤ 99 := hT.2.2.2.2.2.1
    have hT6 : 0 ≤ M 53 6 ∧ M 53 6 ≤ 10 := hT.2.2.2.2.2.2.1
    have hoo := (hv.2 (k : Int) (by omega) (by omega)).1
    have hob := (ooN_b (M r) k (by omega)).1
    have hp := p2_lt (l := (k : Int)) (by omega)
    rw [Int.toNat_natCast] at hp
    refine ms_iload_n dX7_outOf_4 rfl ?_
    refine ms_aload_n dX7_outOf_5 rfl ?_
    refine ms_getR dX7_outOf_6 (fo_X7_43 rfl) (by first | rfl | assumption) rfl (by first | assumption | exact rf_48_5 hR ) ?_
    refine mi_iconst dX7_outOf_9 ?_
    refine ms_iald dX7_outOf_10 (by first | rfl | assumption) ?_
    refine mi_icmp_ge (tgt := 38) dX7_outOf_11 (by decide) (fun c_11 => ?_) (fun c_11 => ?_)
    · exact absurd c_11 (by omega)
    · refine ms_iload_n dX7_outOf_14 rfl ?_
      refine ms_aload_n dX7_outOf_15 rfl ?_
      refine ms_iload_n dX7_outOf_16 rfl ?_
      refine ms_callS2 dX7_outOf_17 cv_X7_outOf_X7_isOut (k_X7_isOut hr9 hs (l := (k : Int)) (by omega) hoo) (Nat.le_of_ble_eq_true rfl) rfl (fun _ _ z => z.elim) (fun v9 h9 hp9 => ?_)
      obtain ⟨rfl, rfl⟩ := hp9
      refine mi_if_eqB (tgt := 29) dX7_outOf_20 (by decide) (fun c_20 => ?_) (fun c_20 => ?_)
      · refine mi_iconst dX7_outOf_29 ?_
        refine mi_ior (ooN (M r) k) dX7_outOf_30 (by rw [oor_e hob (by decide)]; congr 1; unfold oor; rw [show (0 : Int).toNat = 0 from rfl, Nat.or_zero]; omega) ?_
        refine ms_istore_n dX7_outOf_31 (by decide) rfl ?_
        dsimp only [List.set, Nat.reduceAdd]
        refine mi_iinc dX7_outOf_32 rfl (by decide) rfl ?_
        dsimp only [List.set, Nat.reduceAdd]
        refine ms_goto (tgt := 4) dX7_outOf_35 (by decide) ?_
        have i9 := ih (k + 1) (by omega)
        simp only [ooN] at i9
        rw [if_neg (by rw [c_20]; decide)] at i9
        exact i9
      · refine mi_iconst dX7_outOf_23 ?_
        refine ms_iload_n dX7_outOf_24 rfl ?_
        refine mi_ishl (2 ^ k) dX7_outOf_25 (by have := p2_shl (l := (k : Int)) (by omega); rw [Int.toNat_natCast] at this; exact this) ?_
        refine ms_goto (tgt := 30) dX7_outOf_26 (by decide) ?_
        refine mi_ior (oor (ooN (M r) k) (2 ^ k)) dX7_outOf_30 (oor_e hob hp) ?_
        refine ms_istore_n dX7_outOf_31 (by decide) rfl ?_
        dsimp only [List.set, Nat.reduceAdd]
        refine mi_iinc dX7_outOf_32 rfl (by decide) rfl ?_
        dsimp only [List.set, Nat.reduceAdd]
        refine ms_goto (tgt := 4) dX7_outOf_35 (by decide) ?_
        have i9 := ih (k + 1) (by omega)
        simp only [ooN] at i9
        rw [if_pos c_20] at i9
        exact i9

set_option maxHeartbeats 4000000 in
set_option maxRecDepth 100000 in
theorem k_X7_outOf {S : mx_Sc} {f : Bool} {M : Nat → Int → Int} {L : Nat → Nat → Int64} {Rf : Nat → Nat → Option Nat} (hR : mx_rf Rf) (hT : sp_tok (sp_tR M)) {r : Nat} (hr9 : r < 900) (hs : mx_SH[r]? = some (0, 30)) (hv : sp_vok (sp_tR M) (M r)) : mx_C S mX7_outOf [.ref 48, .ref r] (f, mx_SH, M, L, Rf) 0 0 (fun v9 h9 => h9 = (f, mx_SH, M, L, Rf) ∧ v9 = some (.int (iI (ooN (M r) (M 53 1).toNat)))) (fun _ _ => False) := by
  refine mx_C_of (by decide) (by simp [Value.category]) (Nat.le_of_ble_eq_true rfl) rfl ?_
  show mx_E S mX7_outOf 0 [some (.ref 48), some (.ref r), none, none] [] (f, mx_SH, M, L, Rf) 0 0 _ _
  have hT0 : 1 ≤ M 53 0 ∧ M 53 0 ≤ 30 := hT.1
  have hT1 : 0 ≤ M 53 1 ∧ M 53 1 ≤ 6 := hT.2.1
  have hT5 : 1 ≤ M 53 5 ∧ M 53 5 ≤ 99 := hT.2.2.2.2.2.1
  have hT6 : 0 ≤ M 53 6 ∧ M 53 6 ≤ 10 := hT.2.2.2.2.2.2.1
  refine mi_iconst dX7_outOf_0 ?_
  refine ms_istore_n dX7_outOf_1 (by decide) rfl ?_
  dsimp only [List.set, Nat.reduceAdd]
  refine mi_iconst dX7_outOf_2 ?_
  refine ms_istore_n dX7_outOf_3 (by decide) rfl ?_
  dsimp only [List.set, Nat.reduceAdd]
  exact l_X7_outOf (S := S) (f := f) (L := L) hR hT hr9 hs hv (M 53 1).toNat 0 (by omega)

set_option maxHeartbeats 4000000 in
set_option maxRecDepth 100000 in
theorem k_X7_count {S : mx_Sc} {f : Bool} {M : Nat → Int → Int} {L : Nat → Nat → Int64} {Rf : Nat → Nat → Option Nat} (hR : mx_rf Rf) (hT : sp_tok (sp_tR M)) (hv : sp_vok (sp_tR M) (M 63)) {k : Int} (hk32 : -2147483648 ≤ k ∧ k ≤ 2147483647) (hc : 0 ≤ k ∧ k ≤ 12) : mx_C S mX7_count [.ref 48, .int (iI k)] (f, mx_SH, M, L, Rf) 0 0 (fun v9 h9 => ∃ N, h9 = (f, mx_SH, N, L, Rf) ∧ cdP M N 0 ∧ v9 = some (.int (iI (if k < 7 then M 53 k else if k = 7 then M 48 29 else if k = 8 then sp_cnt (sp_tR M) (M 63) / 2 else if k = 9 then M 48 15 else M 61 (k - 10))))) (fun _ _ => False) := by
  refine mx_C_of (by decide) (by simp [Value.category]) (Nat.le_of_ble_eq_true rfl) rfl ?_
  show mx_E S mX7_count 0 [some (.ref 48), some (.int (iI k))] [] (f, mx_SH, M, L, Rf) 0 0 _ _
  refine ms_aload_n dX7_count_0 rfl ?_
  refine mi_iconst dX7_count_1 ?_
  refine ms_putI (z := 4) dX7_count_2 (fo_X7_131 rfl) (by first | rfl | assumption) rfl rfl rfl ?_
  refine mx_gen (fun N => cdP M N 0) cdP.mk' (fun N hN => ?_)
  have e53 : N 53 = M 53 := hN.1 53 (by decide)
  have e63 : N 63 = M 63 := hN.1 63 (by decide)
  have eTR : sp_tR N = sp_tR M := by simp only [sp_tR, hN.1 53 (by decide), hN.1 54 (by decide), hN.1 55 (by decide), hN.1 58 (by decide), hN.1 59 (by decide), hN.1 60 (by decide)]
  refine ms_iload_n dX7_count_5 rfl ?_
  refine mi_iconst dX7_count_6 ?_
  refine mi_bipush dX7_count_7 (by decide) ?_
  refine ms_callS3 dX7_count_9 cv_X7_count_X7_isIn (k_X7_isIn (f := f) (M := N) (L := L) (Rf := Rf) hk32 (a := 0) (b := 6) (by decide) (by decide)) (Nat.le_of_ble_eq_true rfl) rfl (fun _ _ z => z.elim) (fun v9 h9 hp9 => ?_)
  obtain ⟨rfl, rfl⟩ := hp9
  refine mi_if_eqB (tgt := 22) dX7_count_12 (by decide) (fun c_12 => ?_) (fun c_12 => ?_)
  · refine ms_iload_n dX7_count_22 rfl ?_
    have h7 := of_decide_eq_false c_12
    rcases (show k = 7 ∨ k = 8 ∨ k = 9 ∨ k = 10 ∨ k = 11 ∨ k = 12 by omega) with rfl | rfl | rfl | rfl | rfl | rfl
    · refine ms_tabIn (tgt := 60) dX7_count_23 (by decide) (by decide) rfl (by decide) ?_
      refine ms_aload_n dX7_count_60 rfl ?_
      refine ms_getI (z := 29) dX7_count_61 (fo_X7_248 rfl) (by first | rfl | assumption) rfl rfl ?_
      refine ms_ret dX7_count_64 rfl ⟨N, rfl, hN, by rw [hN.2.2 29 (by decide)]; rfl⟩ (by simp)
    · refine ms_tabIn (tgt := 65) dX7_count_23 (by decide) (by decide) rfl (by decide) ?_
      refine ms_aload_n dX7_count_65 rfl ?_
      refine ms_aload_n dX7_count_66 rfl ?_
      refine ms_getR dX7_count_67 (fo_X7_77 rfl) (by first | rfl | assumption) rfl (by first | assumption | exact rf_48_25 hR ) ?_
      refine ms_callV1 (ci := 7) (r := (RX7, TX7, 48)) dX7_count_70 cv_X7_count_X7_couples (k_X7_couples (M := N) hR (by rw [eTR]; exact hT) (r := 63) (by decide) rfl (by rw [eTR, e63]; exact hv)) rfl rfl (by first | rfl | assumption) (Nat.le_of_ble_eq_true rfl) rfl (fun _ _ z => z.elim) (fun v9 h9 hp9 => ?_)
      obtain ⟨rfl, rfl⟩ := hp9
      refine ms_ret dX7_count_73 rfl ⟨N, rfl, hN, by rw [eTR, e63]; rfl⟩ (by simp)
    · refine ms_tabIn (tgt := 74) dX7_count_23 (by decide) (by decide) rfl (by decide) ?_
      refine ms_aload_n dX7_count_74 rfl ?_
      refine ms_getI (z := 15) dX7_count_75 (fo_X7_138 rfl) (by first | rfl | assumption) rfl rfl ?_
      refine ms_ret dX7_count_78 rfl ⟨N, rfl, hN, by rw [hN.2.2 15 (by decide)]; rfl⟩ (by simp)
    · refine ms_tabIn (tgt := 79) dX7_count_23 (by decide) (by decide) rfl (by decide) ?_
      refine ms_aload_n dX7_count_79 rfl ?_
      refine ms_getR dX7_count_80 (fo_X7_67 rfl) (by first | rfl | assumption) rfl (by first | assumption | exact rf_48_13 hR ) ?_
      refine ms_iload_n dX7_count_83 rfl ?_
      refine mi_bipush dX7_count_84 (by decide) ?_
      refine mi_isub dX7_count_86 ?_
      refine ms_iald dX7_count_87 (by first | rfl | assumption) ?_
      refine ms_ret dX7_count_88 rfl ⟨N, rfl, hN, by rw [hN.1 61 (by decide)]; rfl⟩ (by simp)
    · refine ms_tabIn (tgt := 79) dX7_count_23 (by decide) (by decide) rfl (by decide) ?_
      refine ms_aload_n dX7_count_79 rfl ?_
      refine ms_getR dX7_count_80 (fo_X7_67 rfl) (by first | rfl | assumption) rfl (by first | assumption | exact rf_48_13 hR ) ?_
      refine ms_iload_n dX7_count_83 rfl ?_
      refine mi_bipush dX7_count_84 (by decide) ?_
      refine mi_isub dX7_count_86 ?_
      refine ms_iald dX7_count_87 (by first | rfl | assumption) ?_
      refine ms_ret dX7_count_88 rfl ⟨N, rfl, hN, by rw [hN.1 61 (by decide)]; rfl⟩ (by simp)
    · refine ms_tabIn (tgt := 79) dX7_count_23 (by decide) (by decide) rfl (by decide) ?_
      refine ms_aload_n dX7_count_79 rfl ?_
      refine ms_getR dX7_count_80 (fo_X7_67 rfl) (by first | rfl | assumption) rfl (by first | assumption | exact rf_48_13 hR ) ?_
      refine ms_iload_n dX7_count_83 rfl ?_
      refine mi_bipush dX7_count_84 (by decide) ?_
      refine mi_isub dX7_count_86 ?_
      refine ms_iald dX7_count_87 (by first | rfl | assumption) ?_
      refine ms_ret dX7_count_88 rfl ⟨N, rfl, hN, by rw [hN.1 61 (by decide)]; rfl⟩ (by simp)
  · have h7 := of_decide_eq_true c_12
    refine ms_aload_n dX7_count_15 rfl ?_
    refine ms_getR dX7_count_16 (fo_X7_43 rfl) (by first | rfl | assumption) rfl (by first | assumption | exact rf_48_5 hR ) ?_
    refine ms_iload_n dX7_count_19 rfl ?_
    refine ms_iald dX7_count_20 (by first | rfl | assumption) ?_
    refine ms_ret dX7_count_21 rfl ⟨N, rfl, hN, by rw [if_pos (by omega), e53]⟩ (by simp)

set_option maxHeartbeats 4000000 in
set_option maxRecDepth 100000 in
theorem k_X7_count_x {S : mx_Sc} {f : Bool} {M : Nat → Int → Int} {L : Nat → Nat → Int64} {Rf : Nat → Nat → Option Nat} (hR : mx_rf Rf) {k : Int} (hk32 : -2147483648 ≤ k ∧ k ≤ 2147483647) (hc : ¬ (0 ≤ k ∧ k ≤ 12)) : mx_C S mX7_count [.ref 48, .int (iI k)] (f, mx_SH, M, L, Rf) 0 0 (fun v9 h9 => ∃ N, h9 = (f, mx_SH, N, L, Rf) ∧ cdP M N 1 ∧ v9 = some (.int (iI (0)))) (fun _ _ => False) := by
  refine mx_C_of (by decide) (by simp [Value.category]) (Nat.le_of_ble_eq_true rfl) rfl ?_
  show mx_E S mX7_count 0 [some (.ref 48), some (.int (iI k))] [] (f, mx_SH, M, L, Rf) 0 0 _ _
  refine ms_aload_n dX7_count_0 rfl ?_
  refine mi_iconst dX7_count_1 ?_
  refine ms_putI (z := 4) dX7_count_2 (fo_X7_131 rfl) (by first | rfl | assumption) rfl rfl rfl ?_
  refine mx_gen (fun N => cdP M N 0) cdP.mk' (fun N hN => ?_)
  have e53 : N 53 = M 53 := hN.1 53 (by decide)
  have e63 : N 63 = M 63 := hN.1 63 (by decide)
  have eTR : sp_tR N = sp_tR M := by simp only [sp_tR, hN.1 53 (by decide), hN.1 54 (by decide), hN.1 55 (by decide), hN.1 58 (by decide), hN.1 59 (by decide), hN.1 60 (by decide)]
  refine ms_iload_n dX7_count_5 rfl ?_
  refine mi_iconst dX7_count_6 ?_
  refine mi_bipush dX7_count_7 (by decide) ?_
  refine ms_callS3 dX7_count_9 cv_X7_count_X7_isIn (k_X7_isIn (f := f) (M := N) (L := L) (Rf := Rf) hk32 (a := 0) (b := 6) (by decide) (by decide)) (Nat.le_of_ble_eq_true rfl) rfl (fun _ _ z => z.elim) (fun v9 h9 hp9 => ?_)
  obtain ⟨rfl, rfl⟩ := hp9
  refine mi_if_eqB (tgt := 22) dX7_count_12 (by decide) (fun c_12 => ?_) (fun c_12 => ?_)
  · refine ms_iload_n dX7_count_22 rfl ?_
    refine ms_tabOut (tgt := 89) dX7_count_23 (by rw [iI_toInt (by omega) (by omega)]; omega) (by decide) ?_
    refine ms_aload_n dX7_count_89 rfl ?_
    refine mi_iconst dX7_count_90 ?_
    refine ms_callV1 (ci := 7) (r := (RX7, TX7, 48)) dX7_count_91 cv_X7_count_X7_fail (k_X7_fail (M := N) hR) rfl rfl (by first | rfl | assumption) (Nat.le_of_ble_eq_true rfl) rfl (fun _ _ z => z.elim) (fun v9 h9 hp9 => ?_)
    obtain ⟨rfl, rfl⟩ := hp9
    refine ms_ret dX7_count_94 rfl ⟨_, rfl, hN.set, rfl⟩ (by simp)
  · exact absurd (of_decide_eq_true c_12) (by omega)

set_option maxHeartbeats 4000000 in
set_option maxRecDepth 100000 in
theorem k_X7_lamp {S : mx_Sc} {f : Bool} {M : Nat → Int → Int} {L : Nat → Nat → Int64} {Rf : Nat → Nat → Option Nat} (hR : mx_rf Rf) (hT : sp_tok (sp_tR M)) {l : Int} (hl32 : -2147483648 ≤ l ∧ l ≤ 2147483647) {k : Int} (hk32 : -2147483648 ≤ k ∧ k ≤ 2147483647) (hc : (0 ≤ l ∧ l < M 53 1) ∧ (0 ≤ k ∧ k ≤ 7)) : mx_C S mX7_lamp [.ref 48, .int (iI l), .int (iI k)] (f, mx_SH, M, L, Rf) 0 0 (fun v9 h9 => ∃ N, h9 = (f, mx_SH, N, L, Rf) ∧ cdP M N 0 ∧ v9 = some (.int (iI (if k = 0 then M 54 l else if k = 1 then M 55 l else if k = 2 then M 63 (3 * l) else if k = 3 then M 63 (3 * l + 1) else if k = 4 then M 63 (3 * l + 2) else if k = 5 then M 57 l else if k = 6 then M 63 (18 + l) else if k = 7 then M 63 (24 + l) else 0)))) (fun _ _ => False) := by
  refine mx_C_of (by decide) (by simp [Value.category]) (Nat.le_of_ble_eq_true rfl) rfl ?_
  show mx_E S mX7_lamp 0 [some (.ref 48), some (.int (iI l)), some (.int (iI k))] [] (f, mx_SH, M, L, Rf) 0 0 _ _
  have hT0 : 1 ≤ M 53 0 ∧ M 53 0 ≤ 30 := hT.1
  have hT1 : 0 ≤ M 53 1 ∧ M 53 1 ≤ 6 := hT.2.1
  have hT5 : 1 ≤ M 53 5 ∧ M 53 5 ≤ 99 := hT.2.2.2.2.2.1
  have hT6 : 0 ≤ M 53 6 ∧ M 53 6 ≤ 10 := hT.2.2.2.2.2.2.1
  refine ms_aload_n dX7_lamp_0 rfl ?_
  refine mi_iconst dX7_lamp_1 ?_
  refine ms_putI (z := 4) dX7_lamp_2 (fo_X7_131 rfl) (by first | rfl | assumption) rfl rfl rfl ?_
  refine mx_gen (fun N => cdP M N 0) cdP.mk' (fun N hN => ?_)
  have e53 : N 53 = M 53 := hN.1 53 (by decide)
  have e63 : N 63 = M 63 := hN.1 63 (by decide)
  have eTR : sp_tR N = sp_tR M := by simp only [sp_tR, hN.1 53 (by decide), hN.1 54 (by decide), hN.1 55 (by decide), hN.1 58 (by decide), hN.1 59 (by decide), hN.1 60 (by decide)]
  have e54 : N 54 = M 54 := hN.1 54 (by decide)
  have e55 : N 55 = M 55 := hN.1 55 (by decide)
  have e57 : N 57 = M 57 := hN.1 57 (by decide)
  refine ms_aload_n dX7_lamp_5 rfl ?_
  refine ms_iload_n dX7_lamp_6 rfl ?_
  refine ms_callV1 (ci := 7) (r := (RX7, TX7, 48)) dX7_lamp_7 cv_X7_lamp_X7_isLamp (k_X7_isLamp (M := N) hR (by rw [e53]; exact hT1) hl32) rfl rfl (by first | rfl | assumption) (Nat.le_of_ble_eq_true rfl) rfl (fun _ _ z => z.elim) (fun v9 h9 hp9 => ?_)
  obtain ⟨rfl, rfl⟩ := hp9
  rw [e53]
  refine mi_if_neB (tgt := 19) dX7_lamp_10 (by decide) (fun c_10 => ?_) (fun c_10 => ?_)
  · refine ms_iload_n dX7_lamp_19 rfl ?_
    refine mi_iconst dX7_lamp_20 ?_
    refine mi_iconst dX7_lamp_21 ?_
    refine ms_callS3 dX7_lamp_22 cv_X7_lamp_X7_isIn (k_X7_isIn (f := f) (M := N) (L := L) (Rf := Rf) hk32 (a := 2) (b := 4) (by decide) (by decide)) (Nat.le_of_ble_eq_true rfl) rfl (fun _ _ z => z.elim) (fun v9 h9 hp9 => ?_)
    obtain ⟨rfl, rfl⟩ := hp9
    refine mi_if_eqB (tgt := 41) dX7_lamp_25 (by decide) (fun c_25 => ?_) (fun c_25 => ?_)
    · have h7 := of_decide_eq_false c_25
      refine ms_iload_n dX7_lamp_41 rfl ?_
      refine mi_if_ne (tgt := 54) dX7_lamp_42 (by decide) (fun c_42 => ?_) (fun c_42 => ?_)
      · refine ms_iload_n dX7_lamp_54 rfl ?_
        refine mi_iconst dX7_lamp_55 ?_
        refine mi_icmp_ne (tgt := 68) dX7_lamp_56 (by decide) (fun c_56 => ?_) (fun c_56 => ?_)
        · refine ms_iload_n dX7_lamp_68 rfl ?_
          refine mi_iconst dX7_lamp_69 ?_
          refine mi_icmp_ne (tgt := 82) dX7_lamp_70 (by decide) (fun c_70 => ?_) (fun c_70 => ?_)
          · refine ms_iload_n dX7_lamp_82 rfl ?_
            refine mi_bipush dX7_lamp_83 (by decide) ?_
            refine mi_icmp_ne (tgt := 100) dX7_lamp_85 (by decide) (fun c_85 => ?_) (fun c_85 => ?_)
            · refine ms_iload_n dX7_lamp_100 rfl ?_
              refine mi_bipush dX7_lamp_101 (by decide) ?_
              refine mi_icmp_ne (tgt := 118) dX7_lamp_103 (by decide) (fun c_103 => ?_) (fun c_103 => ?_)
              · exact absurd hc (by omega)
              · refine ms_aload_n dX7_lamp_106 rfl ?_
                refine ms_getR dX7_lamp_107 (fo_X7_77 rfl) (by first | rfl | assumption) rfl (by first | assumption | exact rf_48_25 hR ) ?_
                refine mi_bipush dX7_lamp_110 (by decide) ?_
                refine ms_iload_n dX7_lamp_112 rfl ?_
                refine mi_iadd dX7_lamp_113 ?_
                refine ms_iald dX7_lamp_114 (by first | rfl | assumption) ?_
                refine ms_goto (tgt := 123) dX7_lamp_115 (by decide) ?_
                refine ms_ret dX7_lamp_123 rfl ⟨N, rfl, hN, by rw [c_103, e63]; rfl⟩ (by simp)
            · refine ms_aload_n dX7_lamp_88 rfl ?_
              refine ms_getR dX7_lamp_89 (fo_X7_77 rfl) (by first | rfl | assumption) rfl (by first | assumption | exact rf_48_25 hR ) ?_
              refine mi_bipush dX7_lamp_92 (by decide) ?_
              refine ms_iload_n dX7_lamp_94 rfl ?_
              refine mi_iadd dX7_lamp_95 ?_
              refine ms_iald dX7_lamp_96 (by first | rfl | assumption) ?_
              refine ms_goto (tgt := 123) dX7_lamp_97 (by decide) ?_
              refine ms_ret dX7_lamp_123 rfl ⟨N, rfl, hN, by rw [c_85, e63]; rfl⟩ (by simp)
          · refine ms_aload_n dX7_lamp_73 rfl ?_
            refine ms_getR dX7_lamp_74 (fo_X7_55 rfl) (by first | rfl | assumption) rfl (by first | assumption | exact rf_48_9 hR ) ?_
            refine ms_iload_n dX7_lamp_77 rfl ?_
            refine ms_iald dX7_lamp_78 (by first | rfl | assumption) ?_
            refine ms_goto (tgt := 123) dX7_lamp_79 (by decide) ?_
            refine ms_ret dX7_lamp_123 rfl ⟨N, rfl, hN, by rw [c_70, e57]; rfl⟩ (by simp)
        · refine ms_aload_n dX7_lamp_59 rfl ?_
          refine ms_getR dX7_lamp_60 (fo_X7_49 rfl) (by first | rfl | assumption) rfl (by first | assumption | exact rf_48_7 hR ) ?_
          refine ms_iload_n dX7_lamp_63 rfl ?_
          refine ms_iald dX7_lamp_64 (by first | rfl | assumption) ?_
          refine ms_goto (tgt := 123) dX7_lamp_65 (by decide) ?_
          refine ms_ret dX7_lamp_123 rfl ⟨N, rfl, hN, by rw [c_56, e55]; rfl⟩ (by simp)
      · refine ms_aload_n dX7_lamp_45 rfl ?_
        refine ms_getR dX7_lamp_46 (fo_X7_46 rfl) (by first | rfl | assumption) rfl (by first | assumption | exact rf_48_6 hR ) ?_
        refine ms_iload_n dX7_lamp_49 rfl ?_
        refine ms_iald dX7_lamp_50 (by first | rfl | assumption) ?_
        refine ms_goto (tgt := 123) dX7_lamp_51 (by decide) ?_
        refine ms_ret dX7_lamp_123 rfl ⟨N, rfl, hN, by rw [if_pos c_42, e54]⟩ (by simp)
    · have h7 := of_decide_eq_true c_25
      refine ms_aload_n dX7_lamp_28 rfl ?_
      refine ms_getR dX7_lamp_29 (fo_X7_77 rfl) (by first | rfl | assumption) rfl (by first | assumption | exact rf_48_25 hR ) ?_
      refine mi_iconst dX7_lamp_32 ?_
      refine ms_iload_n dX7_lamp_33 rfl ?_
      refine mi_imul dX7_lamp_34 ?_
      refine ms_iload_n dX7_lamp_35 rfl ?_
      refine mi_iadd dX7_lamp_36 ?_
      refine mi_iconst dX7_lamp_37 ?_
      refine mi_isub dX7_lamp_38 ?_
      refine ms_iald dX7_lamp_39 (by first | rfl | assumption) ?_
      refine ms_ret dX7_lamp_40 rfl ⟨N, rfl, hN, ?_⟩ (by simp)
      rw [e63]
      rcases (show k = 2 ∨ k = 3 ∨ k = 4 by omega) with rfl | rfl | rfl
      · rw [show 3 * l + 2 - 2 = 3 * l by omega]; rfl
      · rw [show 3 * l + 3 - 2 = 3 * l + 1 by omega]; rfl
      · rw [show 3 * l + 4 - 2 = 3 * l + 2 by omega]; rfl
  · exact absurd (of_decide_eq_false c_10) (by omega)

set_option maxHeartbeats 4000000 in
set_option maxRecDepth 100000 in
theorem k_X7_lamp_x {S : mx_Sc} {f : Bool} {M : Nat → Int → Int} {L : Nat → Nat → Int64} {Rf : Nat → Nat → Option Nat} (hR : mx_rf Rf) (hT : sp_tok (sp_tR M)) {l : Int} (hl32 : -2147483648 ≤ l ∧ l ≤ 2147483647) {k : Int} (hk32 : -2147483648 ≤ k ∧ k ≤ 2147483647) (hc : ¬ ((0 ≤ l ∧ l < M 53 1) ∧ (0 ≤ k ∧ k ≤ 7))) : mx_C S mX7_lamp [.ref 48, .int (iI l), .int (iI k)] (f, mx_SH, M, L, Rf) 0 0 (fun v9 h9 => ∃ N, h9 = (f, mx_SH, N, L, Rf) ∧ cdP M N 1 ∧ v9 = some (.int (iI (0)))) (fun _ _ => False) := by
  refine mx_C_of (by decide) (by simp [Value.category]) (Nat.le_of_ble_eq_true rfl) rfl ?_
  show mx_E S mX7_lamp 0 [some (.ref 48), some (.int (iI l)), some (.int (iI k))] [] (f, mx_SH, M, L, Rf) 0 0 _ _
  have hT0 : 1 ≤ M 53 0 ∧ M 53 0 ≤ 30 := hT.1
  have hT1 : 0 ≤ M 53 1 ∧ M 53 1 ≤ 6 := hT.2.1
  have hT5 : 1 ≤ M 53 5 ∧ M 53 5 ≤ 99 := hT.2.2.2.2.2.1
  have hT6 : 0 ≤ M 53 6 ∧ M 53 6 ≤ 10 := hT.2.2.2.2.2.2.1
  refine ms_aload_n dX7_lamp_0 rfl ?_
  refine mi_iconst dX7_lamp_1 ?_
  refine ms_putI (z := 4) dX7_lamp_2 (fo_X7_131 rfl) (by first | rfl | assumption) rfl rfl rfl ?_
  refine mx_gen (fun N => cdP M N 0) cdP.mk' (fun N hN => ?_)
  have e53 : N 53 = M 53 := hN.1 53 (by decide)
  have e63 : N 63 = M 63 := hN.1 63 (by decide)
  have eTR : sp_tR N = sp_tR M := by simp only [sp_tR, hN.1 53 (by decide), hN.1 54 (by decide), hN.1 55 (by decide), hN.1 58 (by decide), hN.1 59 (by decide), hN.1 60 (by decide)]
  have e54 : N 54 = M 54 := hN.1 54 (by decide)
  have e55 : N 55 = M 55 := hN.1 55 (by decide)
  have e57 : N 57 = M 57 := hN.1 57 (by decide)
  refine ms_aload_n dX7_lamp_5 rfl ?_
  refine ms_iload_n dX7_lamp_6 rfl ?_
  refine ms_callV1 (ci := 7) (r := (RX7, TX7, 48)) dX7_lamp_7 cv_X7_lamp_X7_isLamp (k_X7_isLamp (M := N) hR (by rw [e53]; exact hT1) hl32) rfl rfl (by first | rfl | assumption) (Nat.le_of_ble_eq_true rfl) rfl (fun _ _ z => z.elim) (fun v9 h9 hp9 => ?_)
  obtain ⟨rfl, rfl⟩ := hp9
  rw [e53]
  refine mi_if_neB (tgt := 19) dX7_lamp_10 (by decide) (fun c_10 => ?_) (fun c_10 => ?_)
  · refine ms_iload_n dX7_lamp_19 rfl ?_
    refine mi_iconst dX7_lamp_20 ?_
    refine mi_iconst dX7_lamp_21 ?_
    refine ms_callS3 dX7_lamp_22 cv_X7_lamp_X7_isIn (k_X7_isIn (f := f) (M := N) (L := L) (Rf := Rf) hk32 (a := 2) (b := 4) (by decide) (by decide)) (Nat.le_of_ble_eq_true rfl) rfl (fun _ _ z => z.elim) (fun v9 h9 hp9 => ?_)
    obtain ⟨rfl, rfl⟩ := hp9
    refine mi_if_eqB (tgt := 41) dX7_lamp_25 (by decide) (fun c_25 => ?_) (fun c_25 => ?_)
    · refine ms_iload_n dX7_lamp_41 rfl ?_
      refine mi_if_ne (tgt := 54) dX7_lamp_42 (by decide) (fun c_42 => ?_) (fun c_42 => ?_)
      · refine ms_iload_n dX7_lamp_54 rfl ?_
        refine mi_iconst dX7_lamp_55 ?_
        refine mi_icmp_ne (tgt := 68) dX7_lamp_56 (by decide) (fun c_56 => ?_) (fun c_56 => ?_)
        · refine ms_iload_n dX7_lamp_68 rfl ?_
          refine mi_iconst dX7_lamp_69 ?_
          refine mi_icmp_ne (tgt := 82) dX7_lamp_70 (by decide) (fun c_70 => ?_) (fun c_70 => ?_)
          · refine ms_iload_n dX7_lamp_82 rfl ?_
            refine mi_bipush dX7_lamp_83 (by decide) ?_
            refine mi_icmp_ne (tgt := 100) dX7_lamp_85 (by decide) (fun c_85 => ?_) (fun c_85 => ?_)
            · refine ms_iload_n dX7_lamp_100 rfl ?_
              refine mi_bipush dX7_lamp_101 (by decide) ?_
              refine mi_icmp_ne (tgt := 118) dX7_lamp_103 (by decide) (fun c_103 => ?_) (fun c_103 => ?_)
              · refine ms_aload_n dX7_lamp_118 rfl ?_
                refine mi_iconst dX7_lamp_119 ?_
                refine ms_callV1 (ci := 7) (r := (RX7, TX7, 48)) dX7_lamp_120 cv_X7_lamp_X7_fail (k_X7_fail (M := N) hR) rfl rfl (by first | rfl | assumption) (Nat.le_of_ble_eq_true rfl) rfl (fun _ _ z => z.elim) (fun v9 h9 hp9 => ?_)
                obtain ⟨rfl, rfl⟩ := hp9
                refine ms_ret dX7_lamp_123 rfl ⟨_, rfl, hN.set, rfl⟩ (by simp)
              · exact absurd ⟨of_decide_eq_true c_10, by omega⟩ hc
            · exact absurd ⟨of_decide_eq_true c_10, by omega⟩ hc
          · exact absurd ⟨of_decide_eq_true c_10, by omega⟩ hc
        · exact absurd ⟨of_decide_eq_true c_10, by omega⟩ hc
      · exact absurd ⟨of_decide_eq_true c_10, by omega⟩ hc
    · exact absurd ⟨of_decide_eq_true c_10, by have := of_decide_eq_true c_25; omega⟩ hc
  · refine ms_aload_n dX7_lamp_13 rfl ?_
    refine mi_iconst dX7_lamp_14 ?_
    refine ms_callV1 (ci := 7) (r := (RX7, TX7, 48)) dX7_lamp_15 cv_X7_lamp_X7_fail (k_X7_fail (M := N) hR) rfl rfl (by first | rfl | assumption) (Nat.le_of_ble_eq_true rfl) rfl (fun _ _ z => z.elim) (fun v9 h9 hp9 => ?_)
    obtain ⟨rfl, rfl⟩ := hp9
    refine ms_ret dX7_lamp_18 rfl ⟨_, rfl, hN.set, rfl⟩ (by simp)

set_option maxHeartbeats 4000000 in
set_option maxRecDepth 100000 in
theorem k_X7_far {S : mx_Sc} {f : Bool} {M : Nat → Int → Int} {L : Nat → Nat → Int64} {Rf : Nat → Nat → Option Nat} (hR : mx_rf Rf) (hT : sp_tok (sp_tR M)) (hv : sp_vok (sp_tR M) (M 63)) {l : Int} (hl32 : -2147483648 ≤ l ∧ l ≤ 2147483647) {o : Int} (ho32 : -2147483648 ≤ o ∧ o ≤ 2147483647) (hc : (0 ≤ l ∧ l < M 53 1) ∧ (0 ≤ o ∧ o < M 53 1)) : mx_C S mX7_far [.ref 48, .int (iI l), .int (iI o)] (f, mx_SH, M, L, Rf) 0 0 (fun v9 h9 => ∃ N, h9 = (f, mx_SH, N, L, Rf) ∧ cdP M N 0 ∧ v9 = some (.int (iI (sp_far (M 63) l o)))) (fun _ _ => False) := by
  refine mx_C_of (by decide) (by simp [Value.category]) (Nat.le_of_ble_eq_true rfl) rfl ?_
  show mx_E S mX7_far 0 [some (.ref 48), some (.int (iI l)), some (.int (iI o))] [] (f, mx_SH, M, L, Rf) 0 0 _ _
  have hT0 : 1 ≤ M 53 0 ∧ M 53 0 ≤ 30 := hT.1
  have hT1 : 0 ≤ M 53 1 ∧ M 53 1 ≤ 6 := hT.2.1
  have hT5 : 1 ≤ M 53 5 ∧ M 53 5 ≤ 99 := hT.2.2.2.2.2.1
  have hT6 : 0 ≤ M 53 6 ∧ M 53 6 ≤ 10 := hT.2.2.2.2.2.2.1
  refine ms_aload_n dX7_far_0 rfl ?_
  refine mi_iconst dX7_far_1 ?_
  refine ms_putI (z := 4) dX7_far_2 (fo_X7_131 rfl) (by first | rfl | assumption) rfl rfl rfl ?_
  refine mx_gen (fun N => cdP M N 0) cdP.mk' (fun N hN => ?_)
  have e53 : N 53 = M 53 := hN.1 53 (by decide)
  have e63 : N 63 = M 63 := hN.1 63 (by decide)
  have eTR : sp_tR N = sp_tR M := by simp only [sp_tR, hN.1 53 (by decide), hN.1 54 (by decide), hN.1 55 (by decide), hN.1 58 (by decide), hN.1 59 (by decide), hN.1 60 (by decide)]
  refine ms_aload_n dX7_far_5 rfl ?_
  refine ms_iload_n dX7_far_6 rfl ?_
  refine ms_callV1 (ci := 7) (r := (RX7, TX7, 48)) dX7_far_7 cv_X7_far_X7_isLamp (k_X7_isLamp (M := N) hR (by rw [e53]; exact hT1) hl32) rfl rfl (by first | rfl | assumption) (Nat.le_of_ble_eq_true rfl) rfl (fun _ _ z => z.elim) (fun v9 h9 hp9 => ?_)
  obtain ⟨rfl, rfl⟩ := hp9
  rw [e53]
  refine mi_if_eqB (tgt := 33) dX7_far_10 (by decide) (fun c_10 => ?_) (fun c_10 => ?_)
  · exact absurd (of_decide_eq_false c_10) (by omega)
  · refine ms_aload_n dX7_far_13 rfl ?_
    refine ms_iload_n dX7_far_14 rfl ?_
    refine ms_callV1 (ci := 7) (r := (RX7, TX7, 48)) dX7_far_15 cv_X7_far_X7_isLamp (k_X7_isLamp (M := N) hR (by rw [e53]; exact hT1) ho32) rfl rfl (by first | rfl | assumption) (Nat.le_of_ble_eq_true rfl) rfl (fun _ _ z => z.elim) (fun v9 h9 hp9 => ?_)
    obtain ⟨rfl, rfl⟩ := hp9
    rw [e53]
    refine mi_if_eqB (tgt := 33) dX7_far_18 (by decide) (fun c_18 => ?_) (fun c_18 => ?_)
    · exact absurd (of_decide_eq_false c_18) (by omega)
    · refine ms_aload_n dX7_far_21 rfl ?_
      refine ms_getR dX7_far_22 (fo_X7_77 rfl) (by first | rfl | assumption) rfl (by first | assumption | exact rf_48_25 hR ) ?_
      refine ms_iload_n dX7_far_25 rfl ?_
      refine ms_iload_n dX7_far_26 rfl ?_
      refine ms_callS3 dX7_far_27 cv_X7_far_X7_farOf (k_X7_farOf (M := N) (r := 63) (by decide) rfl hT (by rw [e63]; exact hv) hc.1 hc.2) (Nat.le_of_ble_eq_true rfl) rfl (fun _ _ z => z.elim) (fun v9 h9 hp9 => ?_)
      obtain ⟨rfl, rfl⟩ := hp9
      refine ms_goto (tgt := 38) dX7_far_30 (by decide) ?_
      refine ms_ret dX7_far_38 rfl ⟨N, rfl, hN, by rw [e63]⟩ (by simp)

set_option maxHeartbeats 4000000 in
set_option maxRecDepth 100000 in
theorem k_X7_far_x {S : mx_Sc} {f : Bool} {M : Nat → Int → Int} {L : Nat → Nat → Int64} {Rf : Nat → Nat → Option Nat} (hR : mx_rf Rf) (hT : sp_tok (sp_tR M)) {l : Int} (hl32 : -2147483648 ≤ l ∧ l ≤ 2147483647) {o : Int} (ho32 : -2147483648 ≤ o ∧ o ≤ 2147483647) (hc : ¬ ((0 ≤ l ∧ l < M 53 1) ∧ (0 ≤ o ∧ o < M 53 1))) : mx_C S mX7_far [.ref 48, .int (iI l), .int (iI o)] (f, mx_SH, M, L, Rf) 0 0 (fun v9 h9 => ∃ N, h9 = (f, mx_SH, N, L, Rf) ∧ cdP M N 1 ∧ v9 = some (.int (iI (0)))) (fun _ _ => False) := by
  refine mx_C_of (by decide) (by simp [Value.category]) (Nat.le_of_ble_eq_true rfl) rfl ?_
  show mx_E S mX7_far 0 [some (.ref 48), some (.int (iI l)), some (.int (iI o))] [] (f, mx_SH, M, L, Rf) 0 0 _ _
  have hT0 : 1 ≤ M 53 0 ∧ M 53 0 ≤ 30 := hT.1
  have hT1 : 0 ≤ M 53 1 ∧ M 53 1 ≤ 6 := hT.2.1
  have hT5 : 1 ≤ M 53 5 ∧ M 53 5 ≤ 99 := hT.2.2.2.2.2.1
  have hT6 : 0 ≤ M 53 6 ∧ M 53 6 ≤ 10 := hT.2.2.2.2.2.2.1
  refine ms_aload_n dX7_far_0 rfl ?_
  refine mi_iconst dX7_far_1 ?_
  refine ms_putI (z := 4) dX7_far_2 (fo_X7_131 rfl) (by first | rfl | assumption) rfl rfl rfl ?_
  refine mx_gen (fun N => cdP M N 0) cdP.mk' (fun N hN => ?_)
  have e53 : N 53 = M 53 := hN.1 53 (by decide)
  have e63 : N 63 = M 63 := hN.1 63 (by decide)
  have eTR : sp_tR N = sp_tR M := by simp only [sp_tR, hN.1 53 (by decide), hN.1 54 (by decide), hN.1 55 (by decide), hN.1 58 (by decide), hN.1 59 (by decide), hN.1 60 (by decide)]
  refine ms_aload_n dX7_far_5 rfl ?_
  refine ms_iload_n dX7_far_6 rfl ?_
  refine ms_callV1 (ci := 7) (r := (RX7, TX7, 48)) dX7_far_7 cv_X7_far_X7_isLamp (k_X7_isLamp (M := N) hR (by rw [e53]; exact hT1) hl32) rfl rfl (by first | rfl | assumption) (Nat.le_of_ble_eq_true rfl) rfl (fun _ _ z => z.elim) (fun v9 h9 hp9 => ?_)
  obtain ⟨rfl, rfl⟩ := hp9
  rw [e53]
  refine mi_if_eqB (tgt := 33) dX7_far_10 (by decide) (fun c_10 => ?_) (fun c_10 => ?_)
  · refine ms_aload_n dX7_far_33 rfl ?_
    refine mi_iconst dX7_far_34 ?_
    refine ms_callV1 (ci := 7) (r := (RX7, TX7, 48)) dX7_far_35 cv_X7_far_X7_fail (k_X7_fail (M := N) hR) rfl rfl (by first | rfl | assumption) (Nat.le_of_ble_eq_true rfl) rfl (fun _ _ z => z.elim) (fun v9 h9 hp9 => ?_)
    obtain ⟨rfl, rfl⟩ := hp9
    refine ms_ret dX7_far_38 rfl ⟨_, rfl, hN.set, rfl⟩ (by simp)
  · refine ms_aload_n dX7_far_13 rfl ?_
    refine ms_iload_n dX7_far_14 rfl ?_
    refine ms_callV1 (ci := 7) (r := (RX7, TX7, 48)) dX7_far_15 cv_X7_far_X7_isLamp (k_X7_isLamp (M := N) hR (by rw [e53]; exact hT1) ho32) rfl rfl (by first | rfl | assumption) (Nat.le_of_ble_eq_true rfl) rfl (fun _ _ z => z.elim) (fun v9 h9 hp9 => ?_)
    obtain ⟨rfl, rfl⟩ := hp9
    rw [e53]
    refine mi_if_eqB (tgt := 33) dX7_far_18 (by decide) (fun c_18 => ?_) (fun c_18 => ?_)
    · refine ms_aload_n dX7_far_33 rfl ?_
      refine mi_iconst dX7_far_34 ?_
      refine ms_callV1 (ci := 7) (r := (RX7, TX7, 48)) dX7_far_35 cv_X7_far_X7_fail (k_X7_fail (M := N) hR) rfl rfl (by first | rfl | assumption) (Nat.le_of_ble_eq_true rfl) rfl (fun _ _ z => z.elim) (fun v9 h9 hp9 => ?_)
      obtain ⟨rfl, rfl⟩ := hp9
      refine ms_ret dX7_far_38 rfl ⟨_, rfl, hN.set, rfl⟩ (by simp)
    · exact absurd ⟨of_decide_eq_true c_10, of_decide_eq_true c_18⟩ hc

set_option maxHeartbeats 4000000 in
set_option maxRecDepth 100000 in
theorem k_X7_book {S : mx_Sc} {f : Bool} {M : Nat → Int → Int} {L : Nat → Nat → Int64} {Rf : Nat → Nat → Option Nat} (hR : mx_rf Rf) (hT : sp_tok (sp_tR M)) {n : Int} (hn : 0 ≤ n ∧ n ≤ 99) (hnn : M 48 29 = n) {k : Int} (hk32 : -2147483648 ≤ k ∧ k ≤ 2147483647) {l : Int} (hl32 : -2147483648 ≤ l ∧ l ≤ 2147483647) {o : Int} (ho32 : -2147483648 ≤ o ∧ o ≤ 2147483647) (hc : (0 ≤ l ∧ l < M 53 1) ∧ (0 ≤ o ∧ o < 3) ∧ (0 ≤ k ∧ k ≤ n)) : mx_C S mX7_book [.ref 48, .int (iI k), .int (iI l), .int (iI o)] (f, mx_SH, M, L, Rf) 0 0 (fun v9 h9 => ∃ N, h9 = (f, mx_SH, N, L, Rf) ∧ cdP M N 0 ∧ v9 = some (.int (iI (M 69 (18 * k + 3 * l + o))))) (fun _ _ => False) := by
  refine mx_C_of (by decide) (by simp [Value.category]) (Nat.le_of_ble_eq_true rfl) rfl ?_
  show mx_E S mX7_book 0 [some (.ref 48), some (.int (iI k)), some (.int (iI l)), some (.int (iI o))] [] (f, mx_SH, M, L, Rf) 0 0 _ _
  have hT0 : 1 ≤ M 53 0 ∧ M 53 0 ≤ 30 := hT.1
  have hT1 : 0 ≤ M 53 1 ∧ M 53 1 ≤ 6 := hT.2.1
  have hT5 : 1 ≤ M 53 5 ∧ M 53 5 ≤ 99 := hT.2.2.2.2.2.1
  have hT6 : 0 ≤ M 53 6 ∧ M 53 6 ≤ 10 := hT.2.2.2.2.2.2.1
  refine ms_aload_n dX7_book_0 rfl ?_
  refine mi_iconst dX7_book_1 ?_
  refine ms_putI (z := 4) dX7_book_2 (fo_X7_131 rfl) (by first | rfl | assumption) rfl rfl rfl ?_
  refine mx_gen (fun N => cdP M N 0) cdP.mk' (fun N hN => ?_)
  have e53 : N 53 = M 53 := hN.1 53 (by decide)
  have e63 : N 63 = M 63 := hN.1 63 (by decide)
  have eTR : sp_tR N = sp_tR M := by simp only [sp_tR, hN.1 53 (by decide), hN.1 54 (by decide), hN.1 55 (by decide), hN.1 58 (by decide), hN.1 59 (by decide), hN.1 60 (by decide)]
  have e29 : N 48 29 = n := (hN.2.2 29 (by decide)).trans hnn
  refine ms_aload_n dX7_book_5 rfl ?_
  refine ms_iload_n dX7_book_6 rfl ?_
  refine ms_callV1 (ci := 7) (r := (RX7, TX7, 48)) dX7_book_7 cv_X7_book_X7_isLamp (k_X7_isLamp (M := N) hR (by rw [e53]; exact hT1) hl32) rfl rfl (by first | rfl | assumption) (Nat.le_of_ble_eq_true rfl) rfl (fun _ _ z => z.elim) (fun v9 h9 hp9 => ?_)
  obtain ⟨rfl, rfl⟩ := hp9
  rw [e53]
  refine mi_if_eqB (tgt := 52) dX7_book_10 (by decide) (fun c_10 => ?_) (fun c_10 => ?_)
  · exact absurd (of_decide_eq_false c_10) (by omega)
  · refine ms_iload_n dX7_book_13 rfl ?_
    refine mi_iconst dX7_book_14 ?_
    refine mi_iconst dX7_book_15 ?_
    refine ms_callS3 dX7_book_16 cv_X7_book_X7_isIn (k_X7_isIn (f := f) (M := N) (L := L) (Rf := Rf) ho32 (a := 0) (b := 2) (by decide) (by decide)) (Nat.le_of_ble_eq_true rfl) rfl (fun _ _ z => z.elim) (fun v9 h9 hp9 => ?_)
    obtain ⟨rfl, rfl⟩ := hp9
    refine mi_if_eqB (tgt := 52) dX7_book_19 (by decide) (fun c_19 => ?_) (fun c_19 => ?_)
    · exact absurd (of_decide_eq_false c_19) (by omega)
    · refine ms_iload_n dX7_book_22 rfl ?_
      refine mi_iconst dX7_book_23 ?_
      refine ms_aload_n dX7_book_24 rfl ?_
      refine ms_getI (z := 29) dX7_book_25 (fo_X7_248 rfl) (by first | rfl | assumption) rfl rfl ?_
      refine ms_callS3 dX7_book_28 cv_X7_book_X7_isIn (k_X7_isIn (f := f) (M := N) (L := L) (Rf := Rf) hk32 (a := 0) (b := N 48 29) (by decide) (by rw [e29]; omega)) (Nat.le_of_ble_eq_true rfl) rfl (fun _ _ z => z.elim) (fun v9 h9 hp9 => ?_)
      obtain ⟨rfl, rfl⟩ := hp9
      rw [e29]
      refine mi_if_eqB (tgt := 52) dX7_book_31 (by decide) (fun c_31 => ?_) (fun c_31 => ?_)
      · exact absurd (of_decide_eq_false c_31) (by omega)
      · refine ms_aload_n dX7_book_34 rfl ?_
        refine ms_getR dX7_book_35 (fo_X7_95 rfl) (by first | rfl | assumption) rfl (by first | assumption | exact rf_48_32 hR ) ?_
        refine mi_bipush dX7_book_38 (by decide) ?_
        refine ms_iload_n dX7_book_40 rfl ?_
        refine mi_imul dX7_book_41 ?_
        refine mi_iconst dX7_book_42 ?_
        refine ms_iload_n dX7_book_43 rfl ?_
        refine mi_imul dX7_book_44 ?_
        refine mi_iadd dX7_book_45 ?_
        refine ms_iload_n dX7_book_46 rfl ?_
        refine mi_iadd dX7_book_47 ?_
        refine ms_iald dX7_book_48 (by first | rfl | assumption) ?_
        refine ms_goto (tgt := 57) dX7_book_49 (by decide) ?_
        refine ms_ret dX7_book_57 rfl ⟨N, rfl, hN, by rw [hN.1 69 (by decide)]⟩ (by simp)

set_option maxHeartbeats 4000000 in
set_option maxRecDepth 100000 in
theorem k_X7_book_x {S : mx_Sc} {f : Bool} {M : Nat → Int → Int} {L : Nat → Nat → Int64} {Rf : Nat → Nat → Option Nat} (hR : mx_rf Rf) (hT : sp_tok (sp_tR M)) {n : Int} (hn : 0 ≤ n ∧ n ≤ 99) (hnn : M 48 29 = n) {k : Int} (hk32 : -2147483648 ≤ k ∧ k ≤ 2147483647) {l : Int} (hl32 : -2147483648 ≤ l ∧ l ≤ 2147483647) {o : Int} (ho32 : -2147483648 ≤ o ∧ o ≤ 2147483647) (hc : ¬ ((0 ≤ l ∧ l < M 53 1) ∧ (0 ≤ o ∧ o < 3) ∧ (0 ≤ k ∧ k ≤ n))) : mx_C S mX7_book [.ref 48, .int (iI k), .int (iI l), .int (iI o)] (f, mx_SH, M, L, Rf) 0 0 (fun v9 h9 => ∃ N, h9 = (f, mx_SH, N, L, Rf) ∧ cdP M N 1 ∧ v9 = some (.int (iI (0)))) (fun _ _ => False) := by
  refine mx_C_of (by decide) (by simp [Value.category]) (Nat.le_of_ble_eq_true rfl) rfl ?_
  show mx_E S mX7_book 0 [some (.ref 48), some (.int (iI k)), some (.int (iI l)), some (.int (iI o))] [] (f, mx_SH, M, L, Rf) 0 0 _ _
  have hT0 : 1 ≤ M 53 0 ∧ M 53 0 ≤ 30 := hT.1
  have hT1 : 0 ≤ M 53 1 ∧ M 53 1 ≤ 6 := hT.2.1
  have hT5 : 1 ≤ M 53 5 ∧ M 53 5 ≤ 99 := hT.2.2.2.2.2.1
  have hT6 : 0 ≤ M 53 6 ∧ M 53 6 ≤ 10 := hT.2.2.2.2.2.2.1
  refine ms_aload_n dX7_book_0 rfl ?_
  refine mi_iconst dX7_book_1 ?_
  refine ms_putI (z := 4) dX7_book_2 (fo_X7_131 rfl) (by first | rfl | assumption) rfl rfl rfl ?_
  refine mx_gen (fun N => cdP M N 0) cdP.mk' (fun N hN => ?_)
  have e53 : N 53 = M 53 := hN.1 53 (by decide)
  have e63 : N 63 = M 63 := hN.1 63 (by decide)
  have eTR : sp_tR N = sp_tR M := by simp only [sp_tR, hN.1 53 (by decide), hN.1 54 (by decide), hN.1 55 (by decide), hN.1 58 (by decide), hN.1 59 (by decide), hN.1 60 (by decide)]
  have e29 : N 48 29 = n := (hN.2.2 29 (by decide)).trans hnn
  refine ms_aload_n dX7_book_5 rfl ?_
  refine ms_iload_n dX7_book_6 rfl ?_
  refine ms_callV1 (ci := 7) (r := (RX7, TX7, 48)) dX7_book_7 cv_X7_book_X7_isLamp (k_X7_isLamp (M := N) hR (by rw [e53]; exact hT1) hl32) rfl rfl (by first | rfl | assumption) (Nat.le_of_ble_eq_true rfl) rfl (fun _ _ z => z.elim) (fun v9 h9 hp9 => ?_)
  obtain ⟨rfl, rfl⟩ := hp9
  rw [e53]
  refine mi_if_eqB (tgt := 52) dX7_book_10 (by decide) (fun c_10 => ?_) (fun c_10 => ?_)
  · refine ms_aload_n dX7_book_52 rfl ?_
    refine mi_iconst dX7_book_53 ?_
    refine ms_callV1 (ci := 7) (r := (RX7, TX7, 48)) dX7_book_54 cv_X7_book_X7_fail (k_X7_fail (M := N) hR) rfl rfl (by first | rfl | assumption) (Nat.le_of_ble_eq_true rfl) rfl (fun _ _ z => z.elim) (fun v9 h9 hp9 => ?_)
    obtain ⟨rfl, rfl⟩ := hp9
    refine ms_ret dX7_book_57 rfl ⟨_, rfl, hN.set, rfl⟩ (by simp)
  · refine ms_iload_n dX7_book_13 rfl ?_
    refine mi_iconst dX7_book_14 ?_
    refine mi_iconst dX7_book_15 ?_
    refine ms_callS3 dX7_book_16 cv_X7_book_X7_isIn (k_X7_isIn (f := f) (M := N) (L := L) (Rf := Rf) ho32 (a := 0) (b := 2) (by decide) (by decide)) (Nat.le_of_ble_eq_true rfl) rfl (fun _ _ z => z.elim) (fun v9 h9 hp9 => ?_)
    obtain ⟨rfl, rfl⟩ := hp9
    refine mi_if_eqB (tgt := 52) dX7_book_19 (by decide) (fun c_19 => ?_) (fun c_19 => ?_)
    · refine ms_aload_n dX7_book_52 rfl ?_
      refine mi_iconst dX7_book_53 ?_
      refine ms_callV1 (ci := 7) (r := (RX7, TX7, 48)) dX7_book_54 cv_X7_book_X7_fail (k_X7_fail (M := N) hR) rfl rfl (by first | rfl | assumption) (Nat.le_of_ble_eq_true rfl) rfl (fun _ _ z => z.elim) (fun v9 h9 hp9 => ?_)
      obtain ⟨rfl, rfl⟩ := hp9
      refine ms_ret dX7_book_57 rfl ⟨_, rfl, hN.set, rfl⟩ (by simp)
    · refine ms_iload_n dX7_book_22 rfl ?_
      refine mi_iconst dX7_book_23 ?_
      refine ms_aload_n dX7_book_24 rfl ?_
      refine ms_getI (z := 29) dX7_book_25 (fo_X7_248 rfl) (by first | rfl | assumption) rfl rfl ?_
      refine ms_callS3 dX7_book_28 cv_X7_book_X7_isIn (k_X7_isIn (f := f) (M := N) (L := L) (Rf := Rf) hk32 (a := 0) (b := N 48 29) (by decide) (by rw [e29]; omega)) (Nat.le_of_ble_eq_true rfl) rfl (fun _ _ z => z.elim) (fun v9 h9 hp9 => ?_)
      obtain ⟨rfl, rfl⟩ := hp9
      rw [e29]
      refine mi_if_eqB (tgt := 52) dX7_book_31 (by decide) (fun c_31 => ?_) (fun c_31 => ?_)
      · refine ms_aload_n dX7_book_52 rfl ?_
        refine mi_iconst dX7_book_53 ?_
        refine ms_callV1 (ci := 7) (r := (RX7, TX7, 48)) dX7_book_54 cv_X7_book_X7_fail (k_X7_fail (M := N) hR) rfl rfl (by first | rfl | assumption) (Nat.le_of_ble_eq_true rfl) rfl (fun _ _ z => z.elim) (fun v9 h9 hp9 => ?_)
        obtain ⟨rfl, rfl⟩ := hp9
        refine ms_ret dX7_book_57 rfl ⟨_, rfl, hN.set, rfl⟩ (by simp)
      · exact absurd ⟨of_decide_eq_true c_10, by have := of_decide_eq_true c_19; omega, of_decide_eq_true c_31⟩ hc

