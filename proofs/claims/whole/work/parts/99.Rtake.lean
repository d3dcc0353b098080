theorem ic_st {g : Int → Int} {m k : Int} (hk : 0 ≤ k ∧ k < m) : iu (ic g g m 0 k) k (ic g g m 0 k (m + k)) = ic g g m 0 (k + 1) := by
  funext j
  simp only [iu, ic]
  rw [if_neg (show ¬ (0 ≤ m + k ∧ m + k < 0 + k) by omega)]
  by_cases e : j = k
  · rw [if_pos e, if_pos (by omega)]
    congr 1
    omega
  · rw [if_neg e]
    by_cases h : 0 ≤ j ∧ j < k
    · rw [if_pos (by omega), if_pos (by omega)]
    · rw [if_neg (by omega), if_neg (by omega)]
theorem ic_0 {g : Int → Int} {m : Int} : ic g g m 0 0 = g := by
  funext j
  simp only [ic]
  rw [if_neg (by omega)]
set_option maxHeartbeats 4000000 in
set_option maxRecDepth 100000 in
theorem l_X7_th {S : mx_Sc} {f : Bool} {M : Nat → Int → Int} {L : Nat → Nat → Int64} {Rf : Nat → Nat → Option Nat} {r m : Nat} (hr9 : r < 900) (hs : mx_SH[r]? = some (0, 2 * m)) (hm : 1 ≤ m ∧ m ≤ 20) : ∀ (kk : Nat) (k : Int), 0 ≤ k → k + kk = m → mx_E S mX7_takeHalf 2 [some (.ref r), some (.int (iI k))] [] (f, mx_SH, va_up M r (ic (M r) (M r) (m : Int) 0 k), L, Rf) 0 0 (fun v9 h9 => h9 = (f, mx_SH, va_up M r (ic (M r) (M r) (m : Int) 0 (m : Int)), L, Rf) ∧ v9 = none) (fun _ _ => False) := by
  intro kk
  induction kk with
  | zero => 
    intro k g0 g1
    refine ms_iload_n dX7_takeHalf_2 rfl ?_
    refine ms_aload_n dX7_takeHalf_3 rfl ?_
    refine ms_alen dX7_takeHalf_4 (by first | rfl | assumption) (by decide) rfl ?_
    refine mi_iconst dX7_takeHalf_5 ?_
    refine mi_idiv dX7_takeHalf_6 ?_
    rw [show ((2 * m : Nat) : Int) / 2 = (m : Int) by omega]
    refine mi_icmp_ge (tgt := 27) dX7_takeHalf_7 (by decide) (fun c_7 => ?_) (fun c_7 => ?_)
    · refine ms_retV dX7_takeHalf_27 rfl ⟨by rw [show k = (m : Int) by omega], rfl⟩ (by simp)
    · exact absurd c_7 (by omega)
  | succ kk ih => 
    intro k g0 g1
    refine ms_iload_n dX7_takeHalf_2 rfl ?_
    refine ms_aload_n dX7_takeHalf_3 rfl ?_
    refine ms_alen dX7_takeHalf_4 (by first | rfl | assumption) (by decide) rfl ?_
    refine mi_iconst dX7_takeHalf_5 ?_
    refine mi_idiv dX7_takeHalf_6 ?_
    rw [show ((2 * m : Nat) : Int) / 2 = (m : Int) by omega]
    refine mi_icmp_ge (tgt := 27) dX7_takeHalf_7 (by decide) (fun c_7 => ?_) (fun c_7 => ?_)
    · exact absurd c_7 (by omega)
    · refine ms_aload_n dX7_takeHalf_10 rfl ?_
      refine ms_iload_n dX7_takeHalf_11 rfl ?_
      refine ms_aload_n dX7_takeHalf_12 rfl ?_
      refine ms_aload_n dX7_takeHalf_13 rfl ?_
      refine ms_alen dX7_takeHalf_14 (by first | rfl | assumption) (by decide) rfl ?_
      refine mi_iconst dX7_takeHalf_15 ?_
      refine mi_idiv dX7_takeHalf_16 ?_
      rw [show ((2 * m : Nat) : Int) / 2 = (m : Int) by omega]
      refine ms_iload_n dX7_takeHalf_17 rfl ?_
      refine mi_iadd dX7_takeHalf_18 ?_
      refine ms_iald dX7_takeHalf_19 (by first | rfl | assumption) ?_
      refine ms_iast dX7_takeHalf_20 (by first | rfl | assumption) ?_
      refine mi_iinc dX7_takeHalf_21 rfl (by decide) rfl ?_
      dsimp only [List.set, Nat.reduceAdd]
      refine ms_goto (tgt := 2) dX7_takeHalf_24 (by decide) ?_
      have i9 := ih (k + 1) (by omega) (by omega)
      rw [← ic_st (by omega)] at i9
      rw [up_s, bx_uu]
      exact i9

set_option maxHeartbeats 4000000 in
set_option maxRecDepth 100000 in
theorem k_X7_takeHalf {S : mx_Sc} {f : Bool} {M : Nat → Int → Int} {L : Nat → Nat → Int64} {Rf : Nat → Nat → Option Nat} {r m : Nat} (hr9 : r < 900) (hs : mx_SH[r]? = some (0, 2 * m)) (hm : 1 ≤ m ∧ m ≤ 20) : mx_C S mX7_takeHalf [.ref r] (f, mx_SH, M, L, Rf) 0 0 (fun v9 h9 => h9 = (f, mx_SH, va_up M r (ic (M r) (M r) (m : Int) 0 (m : Int)), L, Rf) ∧ v9 = none) (fun _ _ => False) := by
  refine mx_C_of (by decide) (by simp [Value.category]) (Nat.le_of_ble_eq_true rfl) rfl ?_
  show mx_E S mX7_takeHalf 0 [some (.ref r), none] [] (f, mx_SH, M, L, Rf) 0 0 _ _
  refine mi_iconst dX7_takeHalf_0 ?_
  refine ms_istore_n dX7_takeHalf_1 (by decide) rfl ?_
  dsimp only [List.set, Nat.reduceAdd]
  have i9 := l_X7_th (S := S) (f := f) (M := M) (L := L) (Rf := Rf) hr9 hs hm m 0 (by omega) (by omega)
  rw [ic_0, up_id] at i9
  exact i9

/-- a row as the text tells it -/
def anv (K : Int) (g : Int → Int) : Int → Int := fun i => if i < 18 then (if i < 3 * K then g i else 0) else -1
set_option maxHeartbeats 4000000 in
set_option maxRecDepth 100000 in
theorem l_X7_an2 {S : mx_Sc} {f : Bool} {M : Nat → Int → Int} {L : Nat → Nat → Int64} {Rf : Nat → Nat → Option Nat} (hR : mx_rf Rf) (hT1 : 0 ≤ M 53 1 ∧ M 53 1 ≤ 6) {r : Nat} (hr : r = 63 ∨ r = 64) : ∀ (kk : Nat) (k : Int) (g : Int → Int), 18 ≤ k → k + kk = 30 → (∀ i, 0 ≤ i → i < k → g i = anv (M 53 1) (M 56) i) → mx_E S mX7_anew 42 [some (.ref 48), some (.ref r), some (.int (iI k))] [] (f, mx_SH, va_up M r g, L, Rf) 0 0 (fun v9 h9 => ∃ g, h9 = (f, mx_SH, va_up M r g, L, Rf) ∧ v9 = none ∧ ∀ i, 0 ≤ i → i < 30 → g i = anv (M 53 1) (M 56) i) (fun _ _ => False) := by
  intro kk
  induction kk with
  | zero => 
    intro k g g0 g1 q1
    have hr9 : r < 900 := by omega
    have hsr : mx_SH[r]? = some (0, 30) := by rcases hr with rfl | rfl <;> rfl
    have u53 : va_up M r g 53 = M 53 := up_n _ _ (by omega)
    have u56 : va_up M r g 56 = M 56 := up_n _ _ (by omega)
    refine ms_iload_n dX7_anew_42 rfl ?_
    refine mi_bipush dX7_anew_43 (by decide) ?_
    refine mi_icmp_ge (tgt := 58) dX7_anew_45 (by decide) (fun c_45 => ?_) (fun c_45 => ?_)
    · refine ms_retV dX7_anew_58 rfl ⟨g, rfl, rfl, fun i i0 i1 => q1 i i0 (by omega)⟩ (by simp)
    · exact absurd c_45 (by omega)
  | succ kk ih => 
    intro k g g0 g1 q1
    have hr9 : r < 900 := by omega
    have hsr : mx_SH[r]? = some (0, 30) := by rcases hr with rfl | rfl <;> rfl
    have u53 : va_up M r g 53 = M 53 := up_n _ _ (by omega)
    have u56 : va_up M r g 56 = M 56 := up_n _ _ (by omega)
    refine ms_iload_n dX7_anew_42 rfl ?_
    refine mi_bipush dX7_anew_43 (by decide) ?_
    refine mi_icmp_ge (tgt := 58) dX7_anew_45 (by decide) (fun c_45 => ?_) (fun c_45 => ?_)
    · exact absurd c_45 (by omega)
    · refine ms_aload_n dX7_anew_48 rfl ?_
      refine ms_iload_n dX7_anew_49 rfl ?_
      refine mi_iconst dX7_anew_50 ?_
      refine ms_iast dX7_anew_51 (by first | rfl | assumption) ?_
      refine mi_iinc dX7_anew_52 rfl (by decide) rfl ?_
      dsimp only [List.set, Nat.reduceAdd]
      refine ms_goto (tgt := 42) dX7_anew_55 (by decide) ?_
      rw [up_s, bx_uu]
      refine ih (k + 1) _ (by omega) (by omega) (fun i i0 i1 => ?_)
      by_cases e : i = k
      · rw [e, iu_s]; unfold anv; rw [if_neg (by omega)]
      · rw [iu_n _ _ e]; exact q1 i i0 (by omega)

set_option maxHeartbeats 4000000 in
set_option maxRecDepth 100000 in
theorem l_X7_an1 {S : mx_Sc} {f : Bool} {M : Nat → Int → Int} {L : Nat → Nat → Int64} {Rf : Nat → Nat → Option Nat} (hR : mx_rf Rf) (hT1 : 0 ≤ M 53 1 ∧ M 53 1 ≤ 6) {r : Nat} (hr : r = 63 ∨ r = 64) : ∀ (kk : Nat) (k : Int) (g : Int → Int), 0 ≤ k → k + kk = 18 → (∀ i, 0 ≤ i → i < k → g i = anv (M 53 1) (M 56) i) → mx_E S mX7_anew 2 [some (.ref 48), some (.ref r), some (.int (iI k))] [] (f, mx_SH, va_up M r g, L, Rf) 0 0 (fun v9 h9 => ∃ g, h9 = (f, mx_SH, va_up M r g, L, Rf) ∧ v9 = none ∧ ∀ i, 0 ≤ i → i < 30 → g i = anv (M 53 1) (M 56) i) (fun _ _ => False) := by
  intro kk
  induction kk with
  | zero => 
    intro k g g0 g1 q1
    have hr9 : r < 900 := by omega
    have hsr : mx_SH[r]? = some (0, 30) := by rcases hr with rfl | rfl <;> rfl
    have u53 : va_up M r g 53 = M 53 := up_n _ _ (by omega)
    have u56 : va_up M r g 56 = M 56 := up_n _ _ (by omega)
    refine ms_iload_n dX7_anew_2 rfl ?_
    refine mi_bipush dX7_anew_3 (by decide) ?_
    refine mi_icmp_ge (tgt := 39) dX7_anew_5 (by decide) (fun c_5 => ?_) (fun c_5 => ?_)
    · refine mi_bipush dX7_anew_39 (by decide) ?_
      refine ms_istore_n dX7_anew_41 (by decide) rfl ?_
      dsimp only [List.set, Nat.reduceAdd]
      exact l_X7_an2 (S := S) (f := f) (L := L) hR hT1 hr 12 18 g (by omega) (by omega) (fun i i0 i1 => q1 i i0 (by omega))
    · exact absurd c_5 (by omega)
  | succ kk ih => 
    intro k g g0 g1 q1
    have hr9 : r < 900 := by omega
    have hsr : mx_SH[r]? = some (0, 30) := by rcases hr with rfl | rfl <;> rfl
    have u53 : va_up M r g 53 = M 53 := up_n _ _ (by omega)
    have u56 : va_up M r g 56 = M 56 := up_n _ _ (by omega)
    refine ms_iload_n dX7_anew_2 rfl ?_
    refine mi_bipush dX7_anew_3 (by decide) ?_
    refine mi_icmp_ge (tgt := 39) dX7_anew_5 (by decide) (fun c_5 => ?_) (fun c_5 => ?_)
    · exact absurd c_5 (by omega)
    · refine ms_aload_n dX7_anew_8 rfl ?_
      refine ms_iload_n dX7_anew_9 rfl ?_
      refine ms_iload_n dX7_anew_10 rfl ?_
      refine mi_iconst dX7_anew_11 ?_
      refine ms_aload_n dX7_anew_12 rfl ?_
      refine ms_getR dX7_anew_13 (fo_X7_43 rfl) (by first | rfl | assumption) rfl (by first | assumption | exact rf_48_5 hR ) ?_
      refine mi_iconst dX7_anew_16 ?_
      refine ms_iald dX7_anew_17 (by first | rfl | assumption) ?_
      refine mi_imul dX7_anew_18 ?_
      rw [u53]
      refine mi_icmp_ge (tgt := 31) dX7_anew_19 (by decide) (fun c_19 => ?_) (fun c_19 => ?_)
      · refine mi_iconst dX7_anew_31 ?_
        refine ms_iast dX7_anew_32 (by first | rfl | assumption) ?_
        refine mi_iinc dX7_anew_33 rfl (by decide) rfl ?_
        dsimp only [List.set, Nat.reduceAdd]
        refine ms_goto (tgt := 2) dX7_anew_36 (by decide) ?_
        rw [up_s, bx_uu]
        refine ih (k + 1) _ (by omega) (by omega) (fun i i0 i1 => ?_)
        by_cases e : i = k
        · rw [e, iu_s]; unfold anv; rw [if_pos (by omega)]; rw [if_neg (by omega)]
        · rw [iu_n _ _ e]; exact q1 i i0 (by omega)
      · refine ms_aload_n dX7_anew_22 rfl ?_
        refine ms_getR dX7_anew_23 (fo_X7_52 rfl) (by first | rfl | assumption) rfl (by first | assumption | exact rf_48_8 hR ) ?_
        refine ms_iload_n dX7_anew_26 rfl ?_
        refine ms_iald dX7_anew_27 (by first | rfl | assumption) ?_
        refine ms_goto (tgt := 32) dX7_anew_28 (by decide) ?_
        refine ms_iast dX7_anew_32 (by first | rfl | assumption) ?_
        refine mi_iinc dX7_anew_33 rfl (by decide) rfl ?_
        dsimp only [List.set, Nat.reduceAdd]
        refine ms_goto (tgt := 2) dX7_anew_36 (by decide) ?_
        rw [up_s, bx_uu]
        refine ih (k + 1) _ (by omega) (by omega) (fun i i0 i1 => ?_)
        by_cases e : i = k
        · rw [e, iu_s]; unfold anv; rw [if_pos (by omega)]; rw [if_pos (by omega), u56]
        · rw [iu_n _ _ e]; exact q1 i i0 (by omega)

set_option maxHeartbeats 4000000 in
set_option maxRecDepth 100000 in
theorem k_X7_anew {S : mx_Sc} {f : Bool} {M : Nat → Int → Int} {L : Nat → Nat → Int64} {Rf : Nat → Nat → Option Nat} (hR : mx_rf Rf) (hT1 : 0 ≤ M 53 1 ∧ M 53 1 ≤ 6) {r : Nat} (hr : r = 63 ∨ r = 64) : mx_C S mX7_anew [.ref 48, .ref r] (f, mx_SH, M, L, Rf) 0 0 (fun v9 h9 => ∃ g, h9 = (f, mx_SH, va_up M r g, L, Rf) ∧ v9 = none ∧ ∀ i, 0 ≤ i → i < 30 → g i = anv (M 53 1) (M 56) i) (fun _ _ => False) := by
  refine mx_C_of (by decide) (by simp [Value.category]) (Nat.le_of_ble_eq_true rfl) rfl ?_
  show mx_E S mX7_anew 0 [some (.ref 48), some (.ref r), none] [] (f, mx_SH, M, L, Rf) 0 0 _ _
  refine mi_iconst dX7_anew_0 ?_
  refine ms_istore_n dX7_anew_1 (by decide) rfl ?_
  dsimp only [List.set, Nat.reduceAdd]
  have i9 := l_X7_an1 (S := S) (f := f) (L := L) hR hT1 hr 18 0 (M r) (by omega) (by omega) (fun i i0 i1 => by omega)
  rw [up_id] at i9
  exact i9

set_option maxHeartbeats 4000000 in
set_option maxRecDepth 100000 in
theorem l_X7_take {S : mx_Sc} {f : Bool} {M : Nat → Int → Int} {L : Nat → Nat → Int64} {Rf : Nat → Nat → Option Nat} (hR : mx_rf Rf) {P : Option Value → mx_H → Prop} {PX : String → mx_H → Prop} : ∀ (kk : Nat) (k : Int) (N : Nat → Int → Int), 0 ≤ k → k + kk = 18 → ((∀ i, 0 ≤ i → i < k → N 69 i = M 63 i) ∧ (∀ x, x ≠ 69 → N x = M x) ∧ ∀ i, 18 ≤ i → N 69 i = M 69 i) → (∀ (N : Nat → Int → Int) (k : Int), (∀ i, 0 ≤ i → i < 18 → N 69 i = M 63 i) → (∀ x, x ≠ 69 → N x = M x) → (∀ i, 18 ≤ i → N 69 i = M 69 i) → mx_E S mX7_take 95 [some (.ref 48), some (.int (iI k))] [] (f, mx_SH, N, L, Rf) 0 0 P PX) → mx_E S mX7_take 71 [some (.ref 48), some (.int (iI k))] [] (f, mx_SH, N, L, Rf) 0 0 P PX := by
  intro kk
  induction kk with
  | zero => 
    intro k N g0 g1 q1 hK
    refine ms_iload_n dX7_take_71 rfl ?_
    refine mi_bipush dX7_take_72 (by decide) ?_
    refine mi_icmp_ge (tgt := 95) dX7_take_74 (by decide) (fun c_74 => ?_) (fun c_74 => ?_)
    · exact hK N k (fun i i0 i1 => q1.1 i i0 (by omega)) q1.2.1 q1.2.2
    · exact absurd c_74 (by omega)
  | succ kk ih => 
    intro k N g0 g1 q1 hK
    have e63 : N 63 = M 63 := q1.2.1 63 (by decide)
    refine ms_iload_n dX7_take_71 rfl ?_
    refine mi_bipush dX7_take_72 (by decide) ?_
    refine mi_icmp_ge (tgt := 95) dX7_take_74 (by decide) (fun c_74 => ?_) (fun c_74 => ?_)
    · exact absurd c_74 (by omega)
    · refine ms_aload_n dX7_take_77 rfl ?_
      refine ms_getR dX7_take_78 (fo_X7_95 rfl) (by first | rfl | assumption) rfl (by first | assumption | exact rf_48_32 hR ) ?_
      refine ms_iload_n dX7_take_81 rfl ?_
      refine ms_aload_n dX7_take_82 rfl ?_
      refine ms_getR dX7_take_83 (fo_X7_77 rfl) (by first | rfl | assumption) rfl (by first | assumption | exact rf_48_25 hR ) ?_
      refine ms_iload_n dX7_take_86 rfl ?_
      refine ms_iald dX7_take_87 (by first | rfl | assumption) ?_
      refine ms_iast dX7_take_88 (by first | rfl | assumption) ?_
      refine mi_iinc dX7_take_89 rfl (by decide) rfl ?_
      dsimp only [List.set, Nat.reduceAdd]
      refine ms_goto (tgt := 71) dX7_take_92 (by decide) ?_
      refine ih (k + 1) _ (by omega) (by omega) ⟨fun i i0 i1 => ?_, fun x hx => by rw [up_n _ _ hx]; exact q1.2.1 x hx, fun i i0 => by rw [up_s, iu_n _ _ (by omega)]; exact q1.2.2 i i0⟩ hK
      rw [up_s]
      by_cases e : i = k
      · rw [e, iu_s, e63]
      · rw [iu_n _ _ e]; exact q1.1 i i0 (by omega)

set_option maxHeartbeats 4000000 in
set_option maxRecDepth 100000 in
theorem k_X7_take {S : mx_Sc} {f : Bool} {M : Nat → Int → Int} {L : Nat → Nat → Int64} {Rf : Nat → Nat → Option Nat} (hR : mx_rf Rf) (h8 : 0 ≤ M 53 8 ∧ M 53 8 ≤ 6) : mx_C S mX7_take [.ref 48] (f, mx_SH, M, L, Rf) 0 0 (fun v9 h9 => ∃ N, h9 = (f, mx_SH, N, L, Rf) ∧ v9 = none ∧ (∀ x, x ≠ 48 → x ≠ 63 → x ≠ 69 → (x < 53 ∨ 60 < x) → N x = M x) ∧ (∀ k, k ≠ 29 → k ≠ 41 → N 48 k = M 48 k) ∧ N 48 29 = 0 ∧ N 48 41 = 0 ∧ (∀ k, 0 ≤ k → k < 7 → N 53 k = M 53 (7 + k)) ∧ (∀ k, 0 ≤ k → k < 6 → N 54 k = M 54 (6 + k) ∧ N 55 k = M 55 (6 + k) ∧ N 57 k = M 57 (6 + k)) ∧ (∀ k, 0 ≤ k → k < 18 → N 56 k = M 56 (18 + k)) ∧ (∀ k, 0 ≤ k → k < 10 → N 58 k = M 58 (10 + k) ∧ N 59 k = M 59 (10 + k) ∧ N 60 k = M 60 (10 + k)) ∧ (∀ i, 0 ≤ i → i < 30 → N 63 i = anv (N 53 1) (N 56) i) ∧ (∀ i, 0 ≤ i → i < 18 → N 69 i = N 63 i) ∧ ∀ i, 18 ≤ i → N 69 i = M 69 i) (fun _ _ => False) := by
  refine mx_C_of (by decide) (by simp [Value.category]) (Nat.le_of_ble_eq_true rfl) rfl ?_
  show mx_E S mX7_take 0 [some (.ref 48), none] [] (f, mx_SH, M, L, Rf) 0 0 _ _
  refine ms_aload_n dX7_take_0 rfl ?_
  refine ms_getR dX7_take_1 (fo_X7_43 rfl) (by first | rfl | assumption) rfl (by first | assumption | exact rf_48_5 hR ) ?_
  refine ms_callS1 dX7_take_4 cv_X7_take_X7_takeHalf (k_X7_takeHalf (r := 53) (m := 7) (by decide) rfl (by decide)) (Nat.le_of_ble_eq_true rfl) rfl (fun _ _ z => z.elim) (fun v9 h9 hp9 => ?_)
  obtain ⟨rfl, rfl⟩ := hp9
  refine ms_aload_n dX7_take_7 rfl ?_
  refine ms_getR dX7_take_8 (fo_X7_46 rfl) (by first | rfl | assumption) rfl (by first | assumption | exact rf_48_6 hR ) ?_
  refine ms_callS1 dX7_take_11 cv_X7_take_X7_takeHalf (k_X7_takeHalf (r := 54) (m := 6) (by decide) rfl (by decide)) (Nat.le_of_ble_eq_true rfl) rfl (fun _ _ z => z.elim) (fun v9 h9 hp9 => ?_)
  obtain ⟨rfl, rfl⟩ := hp9
  refine ms_aload_n dX7_take_14 rfl ?_
  refine ms_getR dX7_take_15 (fo_X7_49 rfl) (by first | rfl | assumption) rfl (by first | assumption | exact rf_48_7 hR ) ?_
  refine ms_callS1 dX7_take_18 cv_X7_take_X7_takeHalf (k_X7_takeHalf (r := 55) (m := 6) (by decide) rfl (by decide)) (Nat.le_of_ble_eq_true rfl) rfl (fun _ _ z => z.elim) (fun v9 h9 hp9 => ?_)
  obtain ⟨rfl, rfl⟩ := hp9
  refine ms_aload_n dX7_take_21 rfl ?_
  refine ms_getR dX7_take_22 (fo_X7_52 rfl) (by first | rfl | assumption) rfl (by first | assumption | exact rf_48_8 hR ) ?_
  refine ms_callS1 dX7_take_25 cv_X7_take_X7_takeHalf (k_X7_takeHalf (r := 56) (m := 18) (by decide) rfl (by decide)) (Nat.le_of_ble_eq_true rfl) rfl (fun _ _ z => z.elim) (fun v9 h9 hp9 => ?_)
  obtain ⟨rfl, rfl⟩ := hp9
  refine ms_aload_n dX7_take_28 rfl ?_
  refine ms_getR dX7_take_29 (fo_X7_55 rfl) (by first | rfl | assumption) rfl (by first | assumption | exact rf_48_9 hR ) ?_
  refine ms_callS1 dX7_take_32 cv_X7_take_X7_takeHalf (k_X7_takeHalf (r := 57) (m := 6) (by decide) rfl (by decide)) (Nat.le_of_ble_eq_true rfl) rfl (fun _ _ z => z.elim) (fun v9 h9 hp9 => ?_)
  obtain ⟨rfl, rfl⟩ := hp9
  refine ms_aload_n dX7_take_35 rfl ?_
  refine ms_getR dX7_take_36 (fo_X7_58 rfl) (by first | rfl | assumption) rfl (by first | assumption | exact rf_48_10 hR ) ?_
  refine ms_callS1 dX7_take_39 cv_X7_take_X7_takeHalf (k_X7_takeHalf (r := 58) (m := 10) (by decide) rfl (by decide)) (Nat.le_of_ble_eq_true rfl) rfl (fun _ _ z => z.elim) (fun v9 h9 hp9 => ?_)
  obtain ⟨rfl, rfl⟩ := hp9
  refine ms_aload_n dX7_take_42 rfl ?_
  refine ms_getR dX7_take_43 (fo_X7_61 rfl) (by first | rfl | assumption) rfl (by first | assumption | exact rf_48_11 hR ) ?_
  refine ms_callS1 dX7_take_46 cv_X7_take_X7_takeHalf (k_X7_takeHalf (r := 59) (m := 10) (by decide) rfl (by decide)) (Nat.le_of_ble_eq_true rfl) rfl (fun _ _ z => z.elim) (fun v9 h9 hp9 => ?_)
  obtain ⟨rfl, rfl⟩ := hp9
  refine ms_aload_n dX7_take_49 rfl ?_
  refine ms_getR dX7_take_50 (fo_X7_64 rfl) (by first | rfl | assumption) rfl (by first | assumption | exact rf_48_12 hR ) ?_
  refine ms_callS1 dX7_take_53 cv_X7_take_X7_takeHalf (k_X7_takeHalf (r := 60) (m := 10) (by decide) rfl (by decide)) (Nat.le_of_ble_eq_true rfl) rfl (fun _ _ z => z.elim) (fun v9 h9 hp9 => ?_)
  obtain ⟨rfl, rfl⟩ := hp9
  refine ms_aload_n dX7_take_56 rfl ?_
  refine mi_iconst dX7_take_57 ?_
  refine ms_putI (z := 29) dX7_take_58 (fo_X7_248 rfl) (by first | rfl | assumption) rfl rfl rfl ?_
  refine mx_gen (fun N1 => (∀ x, x ≠ 48 → (x < 53 ∨ 60 < x) → N1 x = M x) ∧ (∀ k, k ≠ 29 → N1 48 k = M 48 k) ∧ N1 48 29 = 0 ∧ (∀ k, 0 ≤ k → k < 7 → N1 53 k = M 53 (7 + k)) ∧ (∀ k, 0 ≤ k → k < 6 → N1 54 k = M 54 (6 + k) ∧ N1 55 k = M 55 (6 + k) ∧ N1 57 k = M 57 (6 + k)) ∧ (∀ k, 0 ≤ k → k < 18 → N1 56 k = M 56 (18 + k)) ∧ (∀ k, 0 ≤ k → k < 10 → N1 58 k = M 58 (10 + k) ∧ N1 59 k = M 59 (10 + k) ∧ N1 60 k = M 60 (10 + k))) ⟨fun x x0 x1 => ?_, fun k hk => ?_, ?_, fun k k0 k1 => ?_, fun k k0 k1 => ?_, fun k k0 k1 => ?_, fun k k0 k1 => ?_⟩ (fun N1 hN1 => ?_)
  · simp only [va_up]
    rw [if_neg x0, if_neg (by omega), if_neg (by omega), if_neg (by omega), if_neg (by omega), if_neg (by omega), if_neg (by omega), if_neg (by omega), if_neg (by omega)]
  · simp [va_up, iu, hk]
  · simp [va_up, iu]
  · simp [va_up, ic, k0, k1]
  · simp [va_up, ic, k0, k1]
  · simp [va_up, ic, k0, k1]
  · simp [va_up, ic, k0, k1]
  obtain ⟨nx1, n48, n29, n53, n54, n56, n58⟩ := hN1
  refine ms_aload_n dX7_take_61 rfl ?_
  refine ms_aload_n dX7_take_62 rfl ?_
  refine ms_getR dX7_take_63 (fo_X7_77 rfl) (by first | rfl | assumption) rfl (by first | assumption | exact rf_48_25 hR ) ?_
  refine ms_callV1 (ci := 7) (r := (RX7, TX7, 48)) dX7_take_66 cv_X7_take_X7_anew (k_X7_anew (M := N1) hR (by rw [n53 1 (by decide) (by decide)]; exact h8) (r := 63) (Or.inl rfl)) rfl rfl (by first | rfl | assumption) (Nat.le_of_ble_eq_true rfl) rfl (fun _ _ z => z.elim) (fun v9 h9 hp9 => ?_)
  obtain ⟨g, rfl, rfl, hg⟩ := hp9
  refine mi_iconst dX7_take_69 ?_
  refine ms_istore_n dX7_take_70 (by decide) rfl ?_
  dsimp only [List.set, Nat.reduceAdd]
  refine l_X7_take (S := S) (f := f) (L := L) (P := (fun v9 h9 => ∃ N, h9 = (f, mx_SH, N, L, Rf) ∧ v9 = none ∧ (∀ x, x ≠ 48 → x ≠ 63 → x ≠ 69 → (x < 53 ∨ 60 < x) → N x = M x) ∧ (∀ k, k ≠ 29 → k ≠ 41 → N 48 k = M 48 k) ∧ N 48 29 = 0 ∧ N 48 41 = 0 ∧ (∀ k, 0 ≤ k → k < 7 → N 53 k = M 53 (7 + k)) ∧ (∀ k, 0 ≤ k → k < 6 → N 54 k = M 54 (6 + k) ∧ N 55 k = M 55 (6 + k) ∧ N 57 k = M 57 (6 + k)) ∧ (∀ k, 0 ≤ k → k < 18 → N 56 k = M 56 (18 + k)) ∧ (∀ k, 0 ≤ k → k < 10 → N 58 k = M 58 (10 + k) ∧ N 59 k = M 59 (10 + k) ∧ N 60 k = M 60 (10 + k)) ∧ (∀ i, 0 ≤ i → i < 30 → N 63 i = anv (N 53 1) (N 56) i) ∧ (∀ i, 0 ≤ i → i < 18 → N 69 i = N 63 i) ∧ ∀ i, 18 ≤ i → N 69 i = M 69 i)) (PX := fun _ _ => False) hR 18 0 _ (by omega) (by omega) ⟨fun i i0 i1 => by omega, fun _ _ => rfl, fun _ _ => rfl⟩ (fun N2 k9 t1 t2 t3 => ?_)
  refine ms_aload_n dX7_take_95 rfl ?_
  refine mi_iconst dX7_take_96 ?_
  refine ms_putZ (z := 41) (Or.inl rfl) dX7_take_97 (fo_X7_254 rfl) (by first | rfl | assumption) rfl rfl rfl ?_
  refine ms_retV dX7_take_100 rfl ?_ (by simp)
  have w : ∀ x, x ≠ 48 → x ≠ 63 → x ≠ 69 → va_up N2 48 (iu (N2 48) 41 0) x = N1 x := fun x x0 x1 x2 => by rw [up_n _ _ x0, t2 x x2, up_n _ _ x1]
  have w63 : va_up N2 48 (iu (N2 48) 41 0) 63 = g := by rw [up_n _ _ (by decide), t2 63 (by decide), up_s]
  have t48 : N2 48 = N1 48 := by rw [t2 48 (by decide), up_n _ _ (by decide)]
  refine ⟨_, rfl, rfl, fun x x0 x1 x2 x3 => by rw [w x x0 x1 x2]; exact nx1 x x0 x3, fun k k0 k1 => by rw [up_s, iu_n _ _ k1, t48]; exact n48 k k0, by rw [up_s, iu_n _ _ (by decide), t48]; exact n29, by rw [up_s, iu_s], fun k k0 k1 => by rw [w 53 (by decide) (by decide) (by decide)]; exact n53 k k0 k1, fun k k0 k1 => by rw [w 54 (by decide) (by decide) (by decide), w 55 (by decide) (by decide) (by decide), w 57 (by decide) (by decide) (by decide)]; exact n54 k k0 k1, fun k k0 k1 => by rw [w 56 (by decide) (by decide) (by decide)]; exact n56 k k0 k1, fun k k0 k1 => by rw [w 58 (by decide) (by decide) (by decide), w 59 (by decide) (by decide) (by decide), w 60 (by decide) (by decide) (by decide)]; exact n58 k k0 k1, fun i i0 i1 => ?_, fun i i0 i1 => ?_, fun i i0 => ?_⟩
  · rw [w63, w 53 (by decide) (by decide) (by decide), w 56 (by decide) (by decide) (by decide)]; exact hg i i0 i1
  · rw [w63, up_n _ _ (by decide), t1 i i0 i1, up_s]
  · rw [up_n _ _ (by decide), t3 i i0, up_n _ _ (by decide), nx1 69 (by decide) (by omega)]

