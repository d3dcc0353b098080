set_option maxHeartbeats 4000000 in
set_option maxRecDepth 100000 in
theorem k_X0_choiceOf {S : mx_Sc} {f : Bool} {M : Nat → Int → Int} {L : Nat → Nat → Int64} {Rf : Nat → Nat → Option Nat} (hR : mx_rf Rf) {w j : Int} (hw : 0 ≤ w ∧ w < 343) (hj : 0 ≤ j ∧ j < 3) (hs : 0 < M 27 j ∧ M 27 j ≤ 343) : mx_C S mX0_choiceOf [.ref 25, .int (iI w), .int (iI j)] (f, mx_SH, M, L, Rf) 0 0 (fun v9 h9 => h9 = (f, mx_SH, M, L, Rf) ∧ v9 = some (.int (iI (w / M 27 j % 7)))) (fun _ _ => False) := by
  refine mx_C_of (by decide) (by simp [Value.category]) (Nat.le_of_ble_eq_true rfl) rfl ?_
  show mx_E S mX0_choiceOf 0 [some (.ref 25), some (.int (iI w)), some (.int (iI j))] [] (f, mx_SH, M, L, Rf) 0 0 _ _
  have hq : 0 ≤ w / M 27 j := Int.ediv_nonneg hw.1 (by omega)
  have hq2 : w / M 27 j ≤ w := Int.ediv_le_self _ hw.1
  refine ms_aload_n dX0_choiceOf_0 rfl ?_
  refine ms_getR dX0_choiceOf_1 (fo_X0_15 rfl) (by first | rfl | assumption) rfl (by first | assumption | exact rf_25_1 hR ) ?_
  refine ms_iload_n dX0_choiceOf_4 rfl ?_
  refine ms_iald dX0_choiceOf_5 (by first | rfl | assumption) ?_
  refine mi_if_le (tgt := 23) dX0_choiceOf_6 (by decide) (fun c_6 => ?_) (fun c_6 => ?_)
  · exact absurd c_6 (by omega)
  · refine ms_iload_n dX0_choiceOf_9 rfl ?_
    refine ms_aload_n dX0_choiceOf_10 rfl ?_
    refine ms_getR dX0_choiceOf_11 (fo_X0_15 rfl) (by first | rfl | assumption) rfl (by first | assumption | exact rf_25_1 hR ) ?_
    refine ms_iload_n dX0_choiceOf_14 rfl ?_
    refine ms_iald dX0_choiceOf_15 (by first | rfl | assumption) ?_
    refine mi_idiv dX0_choiceOf_16 ?_
    refine mi_bipush dX0_choiceOf_17 (by decide) ?_
    refine mi_irem dX0_choiceOf_19 ?_
    refine ms_goto (tgt := 24) dX0_choiceOf_20 (by decide) ?_
    refine ms_ret dX0_choiceOf_24 rfl ⟨rfl, rfl⟩ (by simp)

/-- the first of the least -/
def bst (g : Int → Int) : Nat → Int
  | 0 => 0
  | k + 1 => if g ((k + 1 : Nat) * 3) < g (bst g k * 3) then ((k + 1 : Nat) : Int) else bst g k
theorem bst_b (g : Int → Int) : ∀ k : Nat, 0 ≤ bst g k ∧ bst g k ≤ k
  | 0 => ⟨Int.le_refl _, Int.le_refl _⟩
  | k + 1 => by
    have h := bst_b g k
    simp only [bst]
    split <;> omega
set_option maxHeartbeats 4000000 in
set_option maxRecDepth 100000 in
theorem l_X0_bo {S : mx_Sc} {f : Bool} {M : Nat → Int → Int} {L : Nat → Nat → Int64} {Rf : Nat → Nat → Option Nat} (hR : mx_rf Rf) (hwb : ∀ c, 0 ≤ c → c < 7 → 0 ≤ M 28 (c * 3) ∧ M 28 (c * 3) ≤ 1200) : ∀ (kk : Nat) (i : Nat), (i : Int) + 1 + kk = 7 → mx_E S mX0_bestOfOne 4 [some (.ref 25), some (.int (iI (bst (M 28) i))), some (.int (iI ((i : Int) + 1)))] [] (f, mx_SH, M, L, Rf) 0 0 (fun v9 h9 => h9 = (f, mx_SH, M, L, Rf) ∧ v9 = some (.int (iI (bst (M 28) 6)))) (fun _ _ => False) := by
  intro kk
  induction kk with
  | zero => 
    intro i g1
    have ei : i = 6 := by omega
    subst ei
    refine ms_iload_n dX0_bestOfOne_4 rfl ?_
    refine mi_bipush dX0_bestOfOne_5 (by decide) ?_
    refine mi_icmp_ge (tgt := 37) dX0_bestOfOne_7 (by decide) (fun c_7 => ?_) (fun c_7 => ?_)
    · refine ms_iload_n dX0_bestOfOne_37 rfl ?_
      refine ms_ret dX0_bestOfOne_38 rfl ⟨rfl, rfl⟩ (by simp)
    · exact absurd c_7 (by omega)
  | succ kk ih => 
    intro i g1
    have hb := bst_b (M 28) i
    have h1 := hwb ((i : Int) + 1) (by omega) (by omega)
    have h2 := hwb (bst (M 28) i) (by omega) (by omega)
    have ec : (((i + 1 : Nat) : Int)) = (i : Int) + 1 := by omega
    refine ms_iload_n dX0_bestOfOne_4 rfl ?_
    refine mi_bipush dX0_bestOfOne_5 (by decide) ?_
    refine mi_icmp_ge (tgt := 37) dX0_bestOfOne_7 (by decide) (fun c_7 => ?_) (fun c_7 => ?_)
    · exact absurd c_7 (by omega)
    · refine ms_aload_n dX0_bestOfOne_10 rfl ?_
      refine ms_getR dX0_bestOfOne_11 (fo_X0_18 rfl) (by first | rfl | assumption) rfl (by first | assumption | exact rf_25_2 hR ) ?_
      refine ms_iload_n dX0_bestOfOne_14 rfl ?_
      refine mi_iconst dX0_bestOfOne_15 ?_
      refine mi_imul dX0_bestOfOne_16 ?_
      refine ms_iald dX0_bestOfOne_17 (by first | rfl | assumption) ?_
      refine ms_aload_n dX0_bestOfOne_18 rfl ?_
      refine ms_getR dX0_bestOfOne_19 (fo_X0_18 rfl) (by first | rfl | assumption) rfl (by first | assumption | exact rf_25_2 hR ) ?_
      refine ms_iload_n dX0_bestOfOne_22 rfl ?_
      refine mi_iconst dX0_bestOfOne_23 ?_
      refine mi_imul dX0_bestOfOne_24 ?_
      refine ms_iald dX0_bestOfOne_25 (by first | rfl | assumption) ?_
      refine mi_icmp_ge (tgt := 31) dX0_bestOfOne_26 (by decide) (fun c_26 => ?_) (fun c_26 => ?_)
      · refine mi_iinc dX0_bestOfOne_31 rfl (by decide) rfl ?_
        dsimp only [List.set, Nat.reduceAdd]
        refine ms_goto (tgt := 4) dX0_bestOfOne_34 (by decide) ?_
        have i9 := ih (i + 1) (by omega)
        rw [show bst (M 28) (i + 1) = bst (M 28) i from by simp only [bst]; rw [ec, if_neg (by omega)], ec] at i9
        exact i9
      · refine ms_iload_n dX0_bestOfOne_29 rfl ?_
        refine ms_istore_n dX0_bestOfOne_30 (by decide) rfl ?_
        dsimp only [List.set, Nat.reduceAdd]
        refine mi_iinc dX0_bestOfOne_31 rfl (by decide) rfl ?_
        dsimp only [List.set, Nat.reduceAdd]
        refine ms_goto (tgt := 4) dX0_bestOfOne_34 (by decide) ?_
        have i9 := ih (i + 1) (by omega)
        rw [show bst (M 28) (i + 1) = (i : Int) + 1 from by simp only [bst]; rw [ec, if_pos (by omega)], ec] at i9
        exact i9

set_option maxHeartbeats 4000000 in
set_option maxRecDepth 100000 in
theorem k_X0_bestOfOne {S : mx_Sc} {f : Bool} {M : Nat → Int → Int} {L : Nat → Nat → Int64} {Rf : Nat → Nat → Option Nat} (hR : mx_rf Rf) (hwb : ∀ c, 0 ≤ c → c < 7 → 0 ≤ M 28 (c * 3) ∧ M 28 (c * 3) ≤ 1200) : mx_C S mX0_bestOfOne [.ref 25] (f, mx_SH, M, L, Rf) 0 0 (fun v9 h9 => h9 = (f, mx_SH, M, L, Rf) ∧ v9 = some (.int (iI (bst (M 28) 6)))) (fun _ _ => False) := by
  refine mx_C_of (by decide) (by simp [Value.category]) (Nat.le_of_ble_eq_true rfl) rfl ?_
  show mx_E S mX0_bestOfOne 0 [some (.ref 25), none, none] [] (f, mx_SH, M, L, Rf) 0 0 _ _
  refine mi_iconst dX0_bestOfOne_0 ?_
  refine ms_istore_n dX0_bestOfOne_1 (by decide) rfl ?_
  dsimp only [List.set, Nat.reduceAdd]
  refine mi_iconst dX0_bestOfOne_2 ?_
  refine ms_istore_n dX0_bestOfOne_3 (by decide) rfl ?_
  dsimp only [List.set, Nat.reduceAdd]
  exact l_X0_bo hR hwb 6 0 (by omega)

set_option maxHeartbeats 4000000 in
set_option maxRecDepth 100000 in
theorem k_X0_dropOf {S : mx_Sc} {f : Bool} {M : Nat → Int → Int} {L : Nat → Nat → Int64} {Rf : Nat → Nat → Option Nat} (hR : mx_rf Rf) {c : Int} (hc : 0 ≤ c ∧ c < 7) : mx_C S mX0_dropOf [.ref 25, .int (iI c)] (f, mx_SH, M, L, Rf) 0 0 (fun v9 h9 => h9 = (f, mx_SH, M, L, Rf) ∧ v9 = some (.int (iI (mx_dz c)))) (fun _ _ => False) := by
  refine mx_C_of (by decide) (by simp [Value.category]) (Nat.le_of_ble_eq_true rfl) rfl ?_
  show mx_E S mX0_dropOf 0 [some (.ref 25), some (.int (iI c))] [] (f, mx_SH, M, L, Rf) 0 0 _ _
  refine ms_iload_n dX0_dropOf_0 rfl ?_
  refine mi_if_lt (tgt := 18) dX0_dropOf_1 (by decide) (fun c_1 => ?_) (fun c_1 => ?_)
  · exact absurd c_1 (by omega)
  · refine ms_iload_n dX0_dropOf_4 rfl ?_
    refine mi_bipush dX0_dropOf_5 (by decide) ?_
    refine mi_icmp_ge (tgt := 18) dX0_dropOf_7 (by decide) (fun c_7 => ?_) (fun c_7 => ?_)
    · exact absurd c_7 (by omega)
    · refine ms_getDN dX0_dropOf_10 dn_X0_dropOf ?_
      refine ms_iload_n dX0_dropOf_13 rfl ?_
      refine ms_ialdDN dX0_dropOf_14 ?_
      refine ms_goto (tgt := 19) dX0_dropOf_15 (by decide) ?_
      refine ms_ret dX0_dropOf_19 rfl ⟨rfl, by unfold mx_dz; rw [iI_ti]⟩ (by simp)

set_option maxHeartbeats 4000000 in
set_option maxRecDepth 100000 in
theorem k_X0_weddingOf {S : mx_Sc} {f : Bool} {M : Nat → Int → Int} {L : Nat → Nat → Int64} {Rf : Nat → Nat → Option Nat} (hR : mx_rf Rf) (hwb : ∀ c, 0 ≤ c → c < 7 → 0 ≤ M 28 (c * 3) ∧ M 28 (c * 3) ≤ 1200) {c : Int} (hc : 0 ≤ c ∧ c < 7) : mx_C S mX0_weddingOf [.ref 25, .int (iI c)] (f, mx_SH, M, L, Rf) 0 0 (fun v9 h9 => h9 = (f, mx_SH, M, L, Rf) ∧ v9 = some (.int (iI (if M 28 (c * 3) = 1000 then -1 else M 28 (c * 3))))) (fun _ _ => False) := by
  refine mx_C_of (by decide) (by simp [Value.category]) (Nat.le_of_ble_eq_true rfl) rfl ?_
  show mx_E S mX0_weddingOf 0 [some (.ref 25), some (.int (iI c)), none] [] (f, mx_SH, M, L, Rf) 0 0 _ _
  have h1 := hwb c (by omega) (by omega)
  refine ms_iload_n dX0_weddingOf_0 rfl ?_
  refine mi_if_lt (tgt := 22) dX0_weddingOf_1 (by decide) (fun c_1 => ?_) (fun c_1 => ?_)
  · exact absurd c_1 (by omega)
  · refine ms_iload_n dX0_weddingOf_4 rfl ?_
    refine mi_sipush dX0_weddingOf_5 (by decide) ?_
    refine mi_icmp_ge (tgt := 22) dX0_weddingOf_8 (by decide) (fun c_8 => ?_) (fun c_8 => ?_)
    · exact absurd c_8 (by omega)
    · refine ms_aload_n dX0_weddingOf_11 rfl ?_
      refine ms_getR dX0_weddingOf_12 (fo_X0_18 rfl) (by first | rfl | assumption) rfl (by first | assumption | exact rf_25_2 hR ) ?_
      refine ms_iload_n dX0_weddingOf_15 rfl ?_
      refine mi_iconst dX0_weddingOf_16 ?_
      refine mi_imul dX0_weddingOf_17 ?_
      refine ms_iald dX0_weddingOf_18 (by first | rfl | assumption) ?_
      refine ms_goto (tgt := 25) dX0_weddingOf_19 (by decide) ?_
      refine ms_istore_n dX0_weddingOf_25 (by decide) rfl ?_
      dsimp only [List.set, Nat.reduceAdd]
      refine ms_iload_n dX0_weddingOf_26 rfl ?_
      refine mi_sipush dX0_weddingOf_27 (by decide) ?_
      refine mi_icmp_ne (tgt := 37) dX0_weddingOf_30 (by decide) (fun c_30 => ?_) (fun c_30 => ?_)
      · refine ms_iload_n dX0_weddingOf_37 rfl ?_
        refine ms_ret dX0_weddingOf_38 rfl ⟨rfl, by first | rw [if_pos (by omega)] | rw [if_neg (by omega)]⟩ (by simp)
      · refine mi_iconst dX0_weddingOf_33 ?_
        refine ms_goto (tgt := 38) dX0_weddingOf_34 (by decide) ?_
        refine ms_ret dX0_weddingOf_38 rfl ⟨rfl, by first | rw [if_pos (by omega)] | rw [if_neg (by omega)]⟩ (by simp)

