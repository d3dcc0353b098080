abbrev sp_tR (M : Nat → Int → Int) : sp_T := (M 53, M 54, M 55, M 58, M 59, M 60)
theorem lt_st {p : Int → Bool} {i : Int} (h : ∀ j, 0 ≤ j → j < i → p j = false) (hi : p i = false) : ∀ j, 0 ≤ j → j < i + 1 → p j = false := fun j h0 h1 => by
  by_cases e : j = i
  · rw [e]; exact hi
  · exact h j h0 (by omega)
set_option maxHeartbeats 4000000 in
set_option maxRecDepth 100000 in
theorem k_X7_isIn {S : mx_Sc} {f : Bool} {M : Nat → Int → Int} {L : Nat → Nat → Int64} {Rf : Nat → Nat → Option Nat} {v a b : Int} (hv : -2147483648 ≤ v ∧ v ≤ 2147483647) (ha : -2147483648 ≤ a ∧ a ≤ 2147483647) (hb : -2147483648 ≤ b ∧ b ≤ 2147483647) : mx_C S mX7_isIn [.int (iI v), .int (iI a), .int (iI b)] (f, mx_SH, M, L, Rf) 0 0 (fun v9 h9 => h9 = (f, mx_SH, M, L, Rf) ∧ v9 = some (.int (iI (bI (decide (a ≤ v ∧ v ≤ b)))))) (fun _ _ => False) := by
  refine mx_C_of (by decide) (by simp [Value.category]) (Nat.le_of_ble_eq_true rfl) rfl ?_
  show mx_E S mX7_isIn 0 [some (.int (iI v)), some (.int (iI a)), some (.int (iI b))] [] (f, mx_SH, M, L, Rf) 0 0 _ _
  refine ms_iload_n dX7_isIn_0 rfl ?_
  refine ms_iload_n dX7_isIn_1 rfl ?_
  refine mi_icmp_lt (tgt := 14) dX7_isIn_2 (by decide) (fun c_2 => ?_) (fun c_2 => ?_)
  · refine mi_iconst dX7_isIn_14 ?_
    refine ms_retZ dX7_isIn_15 rfl (by first | exact Or.inl rfl | exact Or.inr rfl) ⟨rfl, congrArg (fun z => some (Value.int (iI z))) (by rw [bI_dec]; split <;> omega)⟩ (by simp)
  · refine ms_iload_n dX7_isIn_5 rfl ?_
    refine ms_iload_n dX7_isIn_6 rfl ?_
    refine mi_icmp_gt (tgt := 14) dX7_isIn_7 (by decide) (fun c_7 => ?_) (fun c_7 => ?_)
    · refine mi_iconst dX7_isIn_14 ?_
      refine ms_retZ dX7_isIn_15 rfl (by first | exact Or.inl rfl | exact Or.inr rfl) ⟨rfl, congrArg (fun z => some (Value.int (iI z))) (by rw [bI_dec]; split <;> omega)⟩ (by simp)
    · refine mi_iconst dX7_isIn_10 ?_
      refine ms_goto (tgt := 15) dX7_isIn_11 (by decide) ?_
      refine ms_retZ dX7_isIn_15 rfl (by first | exact Or.inl rfl | exact Or.inr rfl) ⟨rfl, congrArg (fun z => some (Value.int (iI z))) (by rw [bI_dec]; split <;> omega)⟩ (by simp)

set_option maxHeartbeats 4000000 in
set_option maxRecDepth 100000 in
theorem k_X7_isLamp {S : mx_Sc} {f : Bool} {M : Nat → Int → Int} {L : Nat → Nat → Int64} {Rf : Nat → Nat → Option Nat} (hR : mx_rf Rf) (hT : 0 ≤ M 53 1 ∧ M 53 1 ≤ 6) {l : Int} (hl : -2147483648 ≤ l ∧ l ≤ 2147483647) : mx_C S mX7_isLamp [.ref 48, .int (iI l)] (f, mx_SH, M, L, Rf) 0 0 (fun v9 h9 => h9 = (f, mx_SH, M, L, Rf) ∧ v9 = some (.int (iI (bI (decide (0 ≤ l ∧ l < M 53 1)))))) (fun _ _ => False) := by
  refine mx_C_of (by decide) (by simp [Value.category]) (Nat.le_of_ble_eq_true rfl) rfl ?_
  show mx_E S mX7_isLamp 0 [some (.ref 48), some (.int (iI l))] [] (f, mx_SH, M, L, Rf) 0 0 _ _
  refine ms_iload_n dX7_isLamp_0 rfl ?_
  refine mi_iconst dX7_isLamp_1 ?_
  refine ms_aload_n dX7_isLamp_2 rfl ?_
  refine ms_getR dX7_isLamp_3 (fo_X7_43 rfl) (by first | rfl | assumption) rfl (by first | assumption | exact rf_48_5 hR ) ?_
  refine mi_iconst dX7_isLamp_6 ?_
  refine ms_iald dX7_isLamp_7 (by first | rfl | assumption) ?_
  refine mi_iconst dX7_isLamp_8 ?_
  refine mi_isub dX7_isLamp_9 ?_
  refine ms_callS3 dX7_isLamp_10 cv_X7_isLamp_X7_isIn (k_X7_isIn hl (by omega) (by omega)) (Nat.le_of_ble_eq_true rfl) rfl (fun _ _ z => z.elim) (fun v9 h9 hp9 => ?_)
  obtain ⟨rfl, rfl⟩ := hp9
  refine ms_retZ dX7_isLamp_13 rfl (bI_z _) ⟨rfl, congrArg (fun z => some (Value.int (iI (bI z)))) (decide_eq_decide.mpr (by omega))⟩ (by simp)

set_option maxHeartbeats 4000000 in
set_option maxRecDepth 100000 in
theorem k_X7_isOut {S : mx_Sc} {f : Bool} {M : Nat → Int → Int} {L : Nat → Nat → Int64} {Rf : Nat → Nat → Option Nat} {r : Nat} (hr9 : r < 900) (hs : mx_SH[r]? = some (0, 30)) {l : Int} (hl : 0 ≤ l ∧ l < 6) (hb : -1 ≤ M r (18 + l) ∧ M r (18 + l) ≤ 5) : mx_C S mX7_isOut [.ref r, .int (iI l)] (f, mx_SH, M, L, Rf) 0 0 (fun v9 h9 => h9 = (f, mx_SH, M, L, Rf) ∧ v9 = some (.int (iI (bI (sp_out (M r) l))))) (fun _ _ => False) := by
  refine mx_C_of (by decide) (by simp [Value.category]) (Nat.le_of_ble_eq_true rfl) rfl ?_
  show mx_E S mX7_isOut 0 [some (.ref r), some (.int (iI l))] [] (f, mx_SH, M, L, Rf) 0 0 _ _
  refine ms_aload_n dX7_isOut_0 rfl ?_
  refine mi_bipush dX7_isOut_1 (by decide) ?_
  refine ms_iload_n dX7_isOut_3 rfl ?_
  refine mi_iadd dX7_isOut_4 ?_
  refine ms_iald dX7_isOut_5 (by first | rfl | assumption) ?_
  refine mi_iconst dX7_isOut_6 ?_
  refine mi_icmp_eq (tgt := 14) dX7_isOut_7 (by decide) (fun c_7 => ?_) (fun c_7 => ?_)
  · refine mi_iconst dX7_isOut_14 ?_
    refine ms_retZ dX7_isOut_15 rfl (by first | exact Or.inl rfl | exact Or.inr rfl) ⟨rfl, by simp [bI, sp_out, c_7]⟩ (by simp)
  · refine mi_iconst dX7_isOut_10 ?_
    refine ms_goto (tgt := 15) dX7_isOut_11 (by decide) ?_
    refine ms_retZ dX7_isOut_15 rfl (by first | exact Or.inl rfl | exact Or.inr rfl) ⟨rfl, by simp [bI, sp_out, c_7]⟩ (by simp)

set_option maxHeartbeats 4000000 in
set_option maxRecDepth 100000 in
theorem k_X7_farOf {S : mx_Sc} {f : Bool} {M : Nat → Int → Int} {L : Nat → Nat → Int64} {Rf : Nat → Nat → Option Nat} {r : Nat} (hr9 : r < 900) (hs : mx_SH[r]? = some (0, 30)) {t : sp_T} (hT : sp_tok t) (hv : sp_vok t (M r)) {a b : Int} (ha : 0 ≤ a ∧ a < t.1 1) (hb : 0 ≤ b ∧ b < t.1 1) : mx_C S mX7_farOf [.ref r, .int (iI a), .int (iI b)] (f, mx_SH, M, L, Rf) 0 0 (fun v9 h9 => h9 = (f, mx_SH, M, L, Rf) ∧ v9 = some (.int (iI (sp_far (M r) a b)))) (fun _ _ => False) := by
  refine mx_C_of (by decide) (by simp [Value.category]) (Nat.le_of_ble_eq_true rfl) rfl ?_
  show mx_E S mX7_farOf 0 [some (.ref r), some (.int (iI a)), some (.int (iI b)), none, none] [] (f, mx_SH, M, L, Rf) 0 0 _ _
  have hva := hv.1 a ha.1 ha.2
  have hvb := hv.1 b hb.1 hb.2
  have hT0 := hT.1
  have hT1 := hT.2.1
  have hva2 : 0 ≤ M r (3 * a + 0) ∧ 0 ≤ M r (3 * a + 1) ∧ 0 ≤ M r (3 * a + 2) ∧ M r (3 * a + 0) + M r (3 * a + 1) + M r (3 * a + 2) = t.1 0 := by rw [Int.add_zero]; exact hva
  have hvb2 : 0 ≤ M r (3 * b + 0) ∧ 0 ≤ M r (3 * b + 1) ∧ 0 ≤ M r (3 * b + 2) ∧ M r (3 * b + 0) + M r (3 * b + 1) + M r (3 * b + 2) = t.1 0 := by rw [Int.add_zero]; exact hvb
  refine mi_iconst dX7_farOf_0 ?_
  refine ms_istore_n dX7_farOf_1 (by decide) rfl ?_
  dsimp only [List.set, Nat.reduceAdd]
  refine mi_iconst dX7_farOf_2 ?_
  refine ms_istore dX7_farOf_3 (by decide) rfl ?_
  dsimp only [List.set, Nat.reduceAdd]
  refine ms_iload dX7_farOf_5 rfl ?_
  refine mi_iconst dX7_farOf_7 ?_
  refine mi_icmp_ge (tgt := 40) dX7_farOf_8 (by decide) (fun c_8 => ?_) (fun c_8 => ?_)
  · exact absurd c_8 (by omega)
  · refine ms_iload_n dX7_farOf_11 rfl ?_
    refine ms_aload_n dX7_farOf_12 rfl ?_
    refine mi_iconst dX7_farOf_13 ?_
    refine ms_iload_n dX7_farOf_14 rfl ?_
    refine mi_imul dX7_farOf_15 ?_
    refine ms_iload dX7_farOf_16 rfl ?_
    refine mi_iadd dX7_farOf_18 ?_
    refine ms_iald dX7_farOf_19 (by first | rfl | assumption) ?_
    refine ms_aload_n dX7_farOf_20 rfl ?_
    refine mi_iconst dX7_farOf_21 ?_
    refine ms_iload_n dX7_farOf_22 rfl ?_
    refine mi_imul dX7_farOf_23 ?_
    refine ms_iload dX7_farOf_24 rfl ?_
    refine mi_iadd dX7_farOf_26 ?_
    refine ms_iald dX7_farOf_27 (by first | rfl | assumption) ?_
    refine mi_isub dX7_farOf_28 ?_
    refine mi_mabs dX7_farOf_29 ma_X7_farOf_abs (Nat.le_of_ble_eq_true rfl) ?_
    refine mi_iadd dX7_farOf_32 ?_
    refine ms_istore_n dX7_farOf_33 (by decide) rfl ?_
    dsimp only [List.set, Nat.reduceAdd]
    refine mi_iincL (1) dX7_farOf_34 rfl (by decide) rfl (by decide) ?_
    dsimp only [List.set, Nat.reduceAdd]
    refine ms_goto (tgt := 5) dX7_farOf_37 (by decide) ?_
    refine ms_iload dX7_farOf_5 rfl ?_
    refine mi_iconst dX7_farOf_7 ?_
    refine mi_icmp_ge (tgt := 40) dX7_farOf_8 (by decide) (fun c_8 => ?_) (fun c_8 => ?_)
    · exact absurd c_8 (by omega)
    · refine ms_iload_n dX7_farOf_11 rfl ?_
      refine ms_aload_n dX7_farOf_12 rfl ?_
      refine mi_iconst dX7_farOf_13 ?_
      refine ms_iload_n dX7_farOf_14 rfl ?_
      refine mi_imul dX7_farOf_15 ?_
      refine ms_iload dX7_farOf_16 rfl ?_
      refine mi_iadd dX7_farOf_18 ?_
      refine ms_iald dX7_farOf_19 (by first | rfl | assumption) ?_
      refine ms_aload_n dX7_farOf_20 rfl ?_
      refine mi_iconst dX7_farOf_21 ?_
      refine ms_iload_n dX7_farOf_22 rfl ?_
      refine mi_imul dX7_farOf_23 ?_
      refine ms_iload dX7_farOf_24 rfl ?_
      refine mi_iadd dX7_farOf_26 ?_
      refine ms_iald dX7_farOf_27 (by first | rfl | assumption) ?_
      refine mi_isub dX7_farOf_28 ?_
      refine mi_mabs dX7_farOf_29 ma_X7_farOf_abs (Nat.le_of_ble_eq_true rfl) ?_
      refine mi_iadd dX7_farOf_32 ?_
      refine ms_istore_n dX7_farOf_33 (by decide) rfl ?_
      dsimp only [List.set, Nat.reduceAdd]
      refine mi_iincL (2) dX7_farOf_34 rfl (by decide) rfl (by decide) ?_
      dsimp only [List.set, Nat.reduceAdd]
      refine ms_goto (tgt := 5) dX7_farOf_37 (by decide) ?_
      refine ms_iload dX7_farOf_5 rfl ?_
      refine mi_iconst dX7_farOf_7 ?_
      refine mi_icmp_ge (tgt := 40) dX7_farOf_8 (by decide) (fun c_8 => ?_) (fun c_8 => ?_)
      · exact absurd c_8 (by omega)
      · refine ms_iload_n dX7_farOf_11 rfl ?_
        refine ms_aload_n dX7_farOf_12 rfl ?_
        refine mi_iconst dX7_farOf_13 ?_
        refine ms_iload_n dX7_farOf_14 rfl ?_
        refine mi_imul dX7_farOf_15 ?_
        refine ms_iload dX7_farOf_16 rfl ?_
        refine mi_iadd dX7_farOf_18 ?_
        refine ms_iald dX7_farOf_19 (by first | rfl | assumption) ?_
        refine ms_aload_n dX7_farOf_20 rfl ?_
        refine mi_iconst dX7_farOf_21 ?_
        refine ms_iload_n dX7_farOf_22 rfl ?_
        refine mi_imul dX7_farOf_23 ?_
        refine ms_iload dX7_farOf_24 rfl ?_
        refine mi_iadd dX7_farOf_26 ?_
        refine ms_iald dX7_farOf_27 (by first | rfl | assumption) ?_
        refine mi_isub dX7_farOf_28 ?_
        refine mi_mabs dX7_farOf_29 ma_X7_farOf_abs (Nat.le_of_ble_eq_true rfl) ?_
        refine mi_iadd dX7_farOf_32 ?_
        refine ms_istore_n dX7_farOf_33 (by decide) rfl ?_
        dsimp only [List.set, Nat.reduceAdd]
        refine mi_iincL (3) dX7_farOf_34 rfl (by decide) rfl (by decide) ?_
        dsimp only [List.set, Nat.reduceAdd]
        refine ms_goto (tgt := 5) dX7_farOf_37 (by decide) ?_
        refine ms_iload dX7_farOf_5 rfl ?_
        refine mi_iconst dX7_farOf_7 ?_
        refine mi_icmp_ge (tgt := 40) dX7_farOf_8 (by decide) (fun c_8 => ?_) (fun c_8 => ?_)
        · refine ms_iload_n dX7_farOf_40 rfl ?_
          refine mi_iconst dX7_farOf_41 ?_
          refine mi_idiv dX7_farOf_42 ?_
          refine ms_ret dX7_farOf_43 rfl ⟨rfl, congrArg (fun z => some (Value.int (iI z))) (by simp only [sp_far, Int.add_zero, Int.zero_add])⟩ (by simp)
        · exact absurd c_8 (by omega)

set_option maxHeartbeats 4000000 in
set_option maxRecDepth 100000 in
theorem k_X7_mostOf {S : mx_Sc} {f : Bool} {M : Nat → Int → Int} {L : Nat → Nat → Int64} {Rf : Nat → Nat → Option Nat} {a b c : Int} (ha : -2147483648 ≤ a ∧ a ≤ 2147483647) (hb : -2147483648 ≤ b ∧ b ≤ 2147483647) (hc : -2147483648 ≤ c ∧ c ≤ 2147483647) : mx_C S mX7_mostOf [.int (iI a), .int (iI b), .int (iI c)] (f, mx_SH, M, L, Rf) 0 0 (fun v9 h9 => h9 = (f, mx_SH, M, L, Rf) ∧ v9 = some (.int (iI (sp_most a b c)))) (fun _ _ => False) := by
  refine mx_C_of (by decide) (by simp [Value.category]) (Nat.le_of_ble_eq_true rfl) rfl ?_
  show mx_E S mX7_mostOf 0 [some (.int (iI a)), some (.int (iI b)), some (.int (iI c))] [] (f, mx_SH, M, L, Rf) 0 0 _ _
  refine ms_iload_n dX7_mostOf_0 rfl ?_
  refine ms_iload_n dX7_mostOf_1 rfl ?_
  refine mi_icmp_lt (tgt := 14) dX7_mostOf_2 (by decide) (fun c_2 => ?_) (fun c_2 => ?_)
  · refine ms_iload_n dX7_mostOf_14 rfl ?_
    refine ms_iload_n dX7_mostOf_15 rfl ?_
    refine mi_icmp_lt (tgt := 23) dX7_mostOf_16 (by decide) (fun c_16 => ?_) (fun c_16 => ?_)
    · refine mi_iconst dX7_mostOf_23 ?_
      refine ms_ret dX7_mostOf_24 rfl ⟨rfl, congrArg (fun z => some (Value.int (iI z))) (by unfold sp_most; split <;> (try split) <;> omega)⟩ (by simp)
    · refine mi_iconst dX7_mostOf_19 ?_
      refine ms_goto (tgt := 24) dX7_mostOf_20 (by decide) ?_
      refine ms_ret dX7_mostOf_24 rfl ⟨rfl, congrArg (fun z => some (Value.int (iI z))) (by unfold sp_most; split <;> (try split) <;> omega)⟩ (by simp)
  · refine ms_iload_n dX7_mostOf_5 rfl ?_
    refine ms_iload_n dX7_mostOf_6 rfl ?_
    refine mi_icmp_lt (tgt := 14) dX7_mostOf_7 (by decide) (fun c_7 => ?_) (fun c_7 => ?_)
    · refine ms_iload_n dX7_mostOf_14 rfl ?_
      refine ms_iload_n dX7_mostOf_15 rfl ?_
      refine mi_icmp_lt (tgt := 23) dX7_mostOf_16 (by decide) (fun c_16 => ?_) (fun c_16 => ?_)
      · refine mi_iconst dX7_mostOf_23 ?_
        refine ms_ret dX7_mostOf_24 rfl ⟨rfl, congrArg (fun z => some (Value.int (iI z))) (by unfold sp_most; split <;> (try split) <;> omega)⟩ (by simp)
      · refine mi_iconst dX7_mostOf_19 ?_
        refine ms_goto (tgt := 24) dX7_mostOf_20 (by decide) ?_
        refine ms_ret dX7_mostOf_24 rfl ⟨rfl, congrArg (fun z => some (Value.int (iI z))) (by unfold sp_most; split <;> (try split) <;> omega)⟩ (by simp)
    · refine mi_iconst dX7_mostOf_10 ?_
      refine ms_goto (tgt := 24) dX7_mostOf_11 (by decide) ?_
      refine ms_ret dX7_mostOf_24 rfl ⟨rfl, congrArg (fun z => some (Value.int (iI z))) (by unfold sp_most; split <;> (try split) <;> omega)⟩ (by simp)

set_option maxHeartbeats 4000000 in
set_option maxRecDepth 100000 in
theorem l_X7_hides {S : mx_Sc} {f : Bool} {M : Nat → Int → Int} {L : Nat → Nat → Int64} {Rf : Nat → Nat → Option Nat} (hR : mx_rf Rf) (hT : sp_tok (sp_tR M)) {n a b : Int} (hn : -5000 ≤ n ∧ n ≤ 5000) (ha : -5000 ≤ a ∧ a ≤ 5000) (hb : -5000 ≤ b ∧ b ≤ 5000) : ∀ (kk : Nat) (i : Int), 0 ≤ i → i + kk = M 53 6 → (∀ j, 0 ≤ j → j < i → (fun f => decide (M 58 f = n ∧ M 59 f = a ∧ M 60 f = b)) j = false) → mx_E S mX7_hides 3 [some (.ref 48), some (.int (iI n)), some (.int (iI a)), some (.int (iI b)), some (.int (iI i))] [] (f, mx_SH, M, L, Rf) 0 0 (fun v9 h9 => h9 = (f, mx_SH, M, L, Rf) ∧ v9 = some (.int (iI (bI (sp_hid (sp_tR M) n a b))))) (fun _ _ => False) := by
  intro kk
  induction kk with
  | zero => 
    intro i h0 h1 hq
    have hT0 : 1 ≤ M 53 0 ∧ M 53 0 ≤ 30 := hT.1
    have hT1 : 0 ≤ M 53 1 ∧ M 53 1 ≤ 6 := hT.2.1
    have hT2 : 1 ≤ M 53 2 ∧ M 53 2 ≤ 9 := hT.2.2.1
    have hT3 : 0 ≤ M 53 3 ∧ M 53 3 ≤ 9 := hT.2.2.2.1
    have hT4 : 0 ≤ M 53 4 ∧ M 53 4 ≤ 9 := hT.2.2.2.2.1
    have hT5 : 1 ≤ M 53 5 ∧ M 53 5 ≤ 99 := hT.2.2.2.2.2.1
    have hT6 : 0 ≤ M 53 6 ∧ M 53 6 ≤ 10 := hT.2.2.2.2.2.2.1
    refine ms_iload dX7_hides_3 rfl ?_
    refine ms_aload_n dX7_hides_5 rfl ?_
    refine ms_getR dX7_hides_6 (fo_X7_43 rfl) (by first | rfl | assumption) rfl (by first | assumption | exact rf_48_5 hR ) ?_
    refine mi_bipush dX7_hides_9 (by decide) ?_
    refine ms_iald dX7_hides_11 (by first | rfl | assumption) ?_
    refine mi_icmp_ge (tgt := 56) dX7_hides_12 (by decide) (fun c_12 => ?_) (fun c_12 => ?_)
    · refine mi_iconst dX7_hides_56 ?_
      refine ms_retZ dX7_hides_57 rfl (by first | exact Or.inl rfl | exact Or.inr rfl) ⟨rfl, by rw [show sp_hid (sp_tR M) n a b = false from anyN_false (fun j g0 g1 => hq j g0 (by have : (((sp_tR M).1 6).toNat : Int) = M 53 6 := Int.toNat_of_nonneg hT6.1; omega))]; rfl⟩ (by simp)
    · exact absurd c_12 (by omega)
  | succ kk ih => 
    intro i h0 h1 hq
    have hT0 : 1 ≤ M 53 0 ∧ M 53 0 ≤ 30 := hT.1
    have hT1 : 0 ≤ M 53 1 ∧ M 53 1 ≤ 6 := hT.2.1
    have hT2 : 1 ≤ M 53 2 ∧ M 53 2 ≤ 9 := hT.2.2.1
    have hT3 : 0 ≤ M 53 3 ∧ M 53 3 ≤ 9 := hT.2.2.2.1
    have hT4 : 0 ≤ M 53 4 ∧ M 53 4 ≤ 9 := hT.2.2.2.2.1
    have hT5 : 1 ≤ M 53 5 ∧ M 53 5 ≤ 99 := hT.2.2.2.2.2.1
    have hT6 : 0 ≤ M 53 6 ∧ M 53 6 ≤ 10 := hT.2.2.2.2.2.2.1
    have hf := hT.2.2.2.2.2.2.2.2 i h0 (by show i < M 53 6; omega)
    have hf1 : 0 ≤ M 58 i ∧ M 58 i ≤ 99 := hf.1
    have hf2 : 0 ≤ M 59 i ∧ M 59 i ≤ 5 := hf.2.1
    have hf3 : 0 ≤ M 60 i ∧ M 60 i ≤ 5 := hf.2.2
    refine ms_iload dX7_hides_3 rfl ?_
    refine ms_aload_n dX7_hides_5 rfl ?_
    refine ms_getR dX7_hides_6 (fo_X7_43 rfl) (by first | rfl | assumption) rfl (by first | assumption | exact rf_48_5 hR ) ?_
    refine mi_bipush dX7_hides_9 (by decide) ?_
    refine ms_iald dX7_hides_11 (by first | rfl | assumption) ?_
    refine mi_icmp_ge (tgt := 56) dX7_hides_12 (by decide) (fun c_12 => ?_) (fun c_12 => ?_)
    · exact absurd c_12 (by omega)
    · refine ms_aload_n dX7_hides_15 rfl ?_
      refine ms_getR dX7_hides_16 (fo_X7_58 rfl) (by first | rfl | assumption) rfl (by first | assumption | exact rf_48_10 hR ) ?_
      refine ms_iload dX7_hides_19 rfl ?_
      refine ms_iald dX7_hides_21 (by first | rfl | assumption) ?_
      refine ms_iload_n dX7_hides_22 rfl ?_
      refine mi_icmp_ne (tgt := 50) dX7_hides_23 (by decide) (fun c_23 => ?_) (fun c_23 => ?_)
      · refine mi_iinc dX7_hides_50 rfl (by decide) rfl ?_
        dsimp only [List.set, Nat.reduceAdd]
        refine ms_goto (tgt := 3) dX7_hides_53 (by decide) ?_
        exact ih (i + 1) (by omega) (by omega) (lt_st hq (by simp only [decide_eq_false_iff_not]; omega))
      · refine ms_aload_n dX7_hides_26 rfl ?_
        refine ms_getR dX7_hides_27 (fo_X7_61 rfl) (by first | rfl | assumption) rfl (by first | assumption | exact rf_48_11 hR ) ?_
        refine ms_iload dX7_hides_30 rfl ?_
        refine ms_iald dX7_hides_32 (by first | rfl | assumption) ?_
        refine ms_iload_n dX7_hides_33 rfl ?_
        refine mi_icmp_ne (tgt := 50) dX7_hides_34 (by decide) (fun c_34 => ?_) (fun c_34 => ?_)
        · refine mi_iinc dX7_hides_50 rfl (by decide) rfl ?_
          dsimp only [List.set, Nat.reduceAdd]
          refine ms_goto (tgt := 3) dX7_hides_53 (by decide) ?_
          exact ih (i + 1) (by omega) (by omega) (lt_st hq (by simp only [decide_eq_false_iff_not]; omega))
        · refine ms_aload_n dX7_hides_37 rfl ?_
          refine ms_getR dX7_hides_38 (fo_X7_64 rfl) (by first | rfl | assumption) rfl (by first | assumption | exact rf_48_12 hR ) ?_
          refine ms_iload dX7_hides_41 rfl ?_
          refine ms_iald dX7_hides_43 (by first | rfl | assumption) ?_
          refine ms_iload_n dX7_hides_44 rfl ?_
          refine mi_icmp_ne (tgt := 50) dX7_hides_45 (by decide) (fun c_45 => ?_) (fun c_45 => ?_)
          · refine mi_iinc dX7_hides_50 rfl (by decide) rfl ?_
            dsimp only [List.set, Nat.reduceAdd]
            refine ms_goto (tgt := 3) dX7_hides_53 (by decide) ?_
            exact ih (i + 1) (by omega) (by omega) (lt_st hq (by simp only [decide_eq_false_iff_not]; omega))
          · refine mi_iconst dX7_hides_48 ?_
            refine ms_retZ dX7_hides_49 rfl (by first | exact Or.inl rfl | exact Or.inr rfl) ⟨rfl, by rw [show sp_hid (sp_tR M) n a b = true from anyN_true h0 (by have : (((sp_tR M).1 6).toNat : Int) = M 53 6 := Int.toNat_of_nonneg hT6.1; omega) (by simp only [decide_eq_true_eq]; omega)]; rfl⟩ (by simp)

set_option maxHeartbeats 4000000 in
set_option maxRecDepth 100000 in
theorem k_X7_hides {S : mx_Sc} {f : Bool} {M : Nat → Int → Int} {L : Nat → Nat → Int64} {Rf : Nat → Nat → Option Nat} (hR : mx_rf Rf) (hT : sp_tok (sp_tR M)) {n a b : Int} (hn : -5000 ≤ n ∧ n ≤ 5000) (ha : -5000 ≤ a ∧ a ≤ 5000) (hb : -5000 ≤ b ∧ b ≤ 5000) : mx_C S mX7_hides [.ref 48, .int (iI n), .int (iI a), .int (iI b)] (f, mx_SH, M, L, Rf) 0 0 (fun v9 h9 => h9 = (f, mx_SH, M, L, Rf) ∧ v9 = some (.int (iI (bI (sp_hid (sp_tR M) n a b))))) (fun _ _ => False) := by
  refine mx_C_of (by decide) (by simp [Value.category]) (Nat.le_of_ble_eq_true rfl) rfl ?_
  show mx_E S mX7_hides 0 [some (.ref 48), some (.int (iI n)), some (.int (iI a)), some (.int (iI b)), none] [] (f, mx_SH, M, L, Rf) 0 0 _ _
  have hT0 : 1 ≤ M 53 0 ∧ M 53 0 ≤ 30 := hT.1
  have hT1 : 0 ≤ M 53 1 ∧ M 53 1 ≤ 6 := hT.2.1
  have hT2 : 1 ≤ M 53 2 ∧ M 53 2 ≤ 9 := hT.2.2.1
  have hT3 : 0 ≤ M 53 3 ∧ M 53 3 ≤ 9 := hT.2.2.2.1
  have hT4 : 0 ≤ M 53 4 ∧ M 53 4 ≤ 9 := hT.2.2.2.2.1
  have hT5 : 1 ≤ M 53 5 ∧ M 53 5 ≤ 99 := hT.2.2.2.2.2.1
  have hT6 : 0 ≤ M 53 6 ∧ M 53 6 ≤ 10 := hT.2.2.2.2.2.2.1
  refine mi_iconst dX7_hides_0 ?_
  refine ms_istore dX7_hides_1 (by decide) rfl ?_
  dsimp only [List.set, Nat.reduceAdd]
  exact l_X7_hides hR hT hn ha hb (M 53 6).toNat 0 (by omega) (by omega) (fun j g0 g1 => by omega)

