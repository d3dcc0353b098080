def ssP (g : Int → Int) (p q a b : Int) : Prop := b - a = q - p ∧ ∀ j : Int, 0 ≤ j → j < b - a → g (p + j) = sbz 0 (a + j)
noncomputable def ssB (g : Int → Int) (p q a b : Int) : Bool := @decide (ssP g p q a b) (Classical.propDecidable _)
theorem ssB_t {g : Int → Int} {p q a b : Int} (h : ssP g p q a b) : ssB g p q a b = true := @decide_eq_true _ (Classical.propDecidable _) h
theorem ssB_f {g : Int → Int} {p q a b : Int} (h : ¬ ssP g p q a b) : ssB g p q a b = false := @decide_eq_false _ (Classical.propDecidable _) h
theorem ssB_i {g : Int → Int} {p q a b : Int} (h : ssB g p q a b = true) : ssP g p q a b := @of_decide_eq_true _ (Classical.propDecidable _) h
theorem ssB_n {g : Int → Int} {p q a b : Int} (h : ssB g p q a b = false) : ¬ ssP g p q a b := @of_decide_eq_false _ (Classical.propDecidable _) h
/-- where the words of the one String begin and end -/
def wst (k : Int) : Int := ([0, 6, 10, 15, 21, 27, 32, 38, 43, 48, 55, 62, 66] : List Int).getD k.toNat 66
def wen (k : Int) : Int := ([5, 9, 14, 20, 26, 31, 37, 42, 47, 54, 61, 65] : List Int).getD k.toNat 66
theorem wst_0 : ∀ k : Fin 12, (0 ≤ wst (k.val : Int) ∧ wst (k.val : Int) < wen (k.val : Int) ∧ wen (k.val : Int) < 66) ∧ wst ((k.val : Int) + 1) = wen (k.val : Int) + 1 ∧ wen (k.val : Int) - wst (k.val : Int) = (mx_sl.getD (wsi (k.val : Int)) 0 : Nat) ∧ (∀ a : Fin 66, wst (k.val : Int) ≤ (a.val : Int) → (a.val : Int) ≤ wen (k.val : Int) → (sbz 0 (a.val : Int) = 32 ↔ (a.val : Int) = wen (k.val : Int))) ∧ ∀ j : Fin 6, (j.val : Int) < wen (k.val : Int) - wst (k.val : Int) → sbz 0 (wst (k.val : Int) + (j.val : Int)) = sbz (wsi (k.val : Int)) (j.val : Int) := by decide +kernel
theorem wst_e {k : Int} (hk : 0 ≤ k ∧ k < 12) : (0 ≤ wst k ∧ wst k < wen k ∧ wen k < 66) ∧ wst (k + 1) = wen k + 1 ∧ wen k - wst k = (mx_sl.getD (wsi k) 0 : Nat) ∧ (∀ a : Fin 66, wst k ≤ (a.val : Int) → (a.val : Int) ≤ wen k → (sbz 0 (a.val : Int) = 32 ↔ (a.val : Int) = wen k)) ∧ ∀ j : Fin 6, (j.val : Int) < wen k - wst k → sbz 0 (wst k + (j.val : Int)) = sbz (wsi k) (j.val : Int) := fin_of (n := 12) (P := fun k => (0 ≤ wst k ∧ wst k < wen k ∧ wen k < 66) ∧ wst (k + 1) = wen k + 1 ∧ wen k - wst k = (mx_sl.getD (wsi k) 0 : Nat) ∧ (∀ a : Fin 66, wst k ≤ (a.val : Int) → (a.val : Int) ≤ wen k → (sbz 0 (a.val : Int) = 32 ↔ (a.val : Int) = wen k)) ∧ ∀ j : Fin 6, (j.val : Int) < wen k - wst k → sbz 0 (wst k + (j.val : Int)) = sbz (wsi k) (j.val : Int)) wst_0 hk.1 hk.2
theorem wln {k : Int} (hk : 0 ≤ k ∧ k < 12) : wen k - wst k ≤ 6 := fin_of (n := 12) (P := fun k => wen k - wst k ≤ 6) (by decide) hk.1 hk.2
theorem ss_sp {g : Int → Int} {p q k : Int} (hk : 0 ≤ k ∧ k < 12) : ssP g p q (wst k) (wen k) ↔ spS g p q (wsi k) := by
  have h := wst_e hk
  have h6 := wln hk
  constructor
  · intro z
    refine ⟨by rw [← h.2.2.1]; exact z.1.symm, fun j h0 h1 => ?_⟩
    rw [← h.2.2.1] at h1
    rw [z.2 j h0 h1]
    have h9 := h.2.2.2.2 ⟨j.toNat, by omega⟩ (by show ((j.toNat : Nat) : Int) < _; omega)
    simp only [show ((j.toNat : Nat) : Int) = j by omega] at h9
    exact h9
  · intro z
    refine ⟨by rw [h.2.2.1]; exact z.1.symm, fun j h0 h1 => ?_⟩
    have h9 := h.2.2.2.2 ⟨j.toNat, by omega⟩ (by show ((j.toNat : Nat) : Int) < _; omega)
    simp only [show ((j.toNat : Nat) : Int) = j by omega] at h9
    rw [h9]
    exact z.2 j h0 (by rw [← h.2.2.1]; exact h1)
set_option maxHeartbeats 4000000 in
set_option maxRecDepth 100000 in
theorem l_X1_sp {S : mx_Sc} {f : Bool} {M : Nat → Int → Int} {L : Nat → Nat → Int64} {Rf : Nat → Nat → Option Nat} (hR : mx_rf Rf) {n : Int} (hn : 0 ≤ n ∧ n ≤ 500) (hB : ∀ i, 0 ≤ i → i < 500 → 0 ≤ M 1 i ∧ M 1 i ≤ 255) {p : Int} (hS : rdS M n p) {a b : Int} (hab : 0 ≤ a ∧ a ≤ b ∧ b ≤ 66) (hd : b - a = te (M 1) n p - p) : ∀ (kk : Nat) (j : Int), 0 ≤ j → a + j + kk = b → (∀ i, 0 ≤ i → i < j → M 1 (p + i) = sbz 0 (a + i)) → mx_E S mX1_isSpelt 19 [some (.ref 45), some (.int (iI a)), some (.int (iI b)), some (.int (iI (a + j)))] [] (f, mx_SH, M, L, Rf) 0 0 (fun v9 h9 => h9 = (f, mx_SH, M, L, Rf) ∧ v9 = some (.int (iI (bI (ssB (M 1) p (te (M 1) n p) a b))))) (fun _ _ => False) := by
  intro kk
  induction kk with
  | zero => 
    intro j g0 g1 q1
    have h5 := hS.2.1
    have h0 := hS.2.2.2.2
    refine ms_iload_n dX1_isSpelt_19 rfl ?_
    refine ms_iload_n dX1_isSpelt_20 rfl ?_
    refine mi_icmp_ge (tgt := 54) dX1_isSpelt_21 (by decide) (fun c_21 => ?_) (fun c_21 => ?_)
    · refine mi_iconst dX1_isSpelt_54 ?_
      refine ms_retZ dX1_isSpelt_55 rfl (by first | exact Or.inl rfl | exact Or.inr rfl) ⟨rfl, by rw [ssB_t ⟨hd, fun i i0 i1 => q1 i i0 (by omega)⟩]; rfl⟩ (by simp)
    · exact absurd c_21 (by omega)
  | succ kk ih => 
    intro j g0 g1 q1
    have h5 := hS.2.1
    have h0 := hS.2.2.2.2
    have ht9 := te_b (g := M 1) hS.2.2.2.2.2
    have hb := hB (p + j) (by omega) (by omega)
    have hsb := (sbz_e (i := 0) (j := a + j) (by decide) (by omega) (by omega)).2.2.1
    have ex : M 45 5 + (a + j) - a = p + j := by omega
    refine ms_iload_n dX1_isSpelt_19 rfl ?_
    refine ms_iload_n dX1_isSpelt_20 rfl ?_
    refine mi_icmp_ge (tgt := 54) dX1_isSpelt_21 (by decide) (fun c_21 => ?_) (fun c_21 => ?_)
    · exact absurd c_21 (by omega)
    · refine ms_ldcS (i := 0) dX1_isSpelt_24 rfl ?_
      refine ms_iload_n dX1_isSpelt_26 rfl ?_
      refine ms_callQ (i := 0) (n := 1) (As := [.int (iI (a + j))]) (by decide) dX1_isSpelt_27 cv_X1_isSpelt_J0_charAt_5068e rfl (k_charAt (i := 0) (j := a + j) (by decide) ⟨by omega, by show a + j < 66; omega⟩) rfl rfl (Nat.le_of_ble_eq_true rfl) rfl (fun v9 h9 hp9 => ?_)
      obtain ⟨rfl, rfl⟩ := hp9
      refine ms_aload_n dX1_isSpelt_30 rfl ?_
      refine ms_getR dX1_isSpelt_31 (fo_X1_9 rfl) (by first | rfl | assumption) rfl (by first | assumption | exact rf_45_2 hR ) ?_
      refine ms_aload_n dX1_isSpelt_34 rfl ?_
      refine ms_getI (z := 5) dX1_isSpelt_35 (fo_X1_56 rfl) (by first | rfl | assumption) rfl rfl ?_
      refine ms_iload_n dX1_isSpelt_38 rfl ?_
      refine mi_iadd dX1_isSpelt_39 ?_
      refine ms_iload_n dX1_isSpelt_40 rfl ?_
      refine mi_isub dX1_isSpelt_41 ?_
      rw [ex]
      refine ms_iald dX1_isSpelt_42 (by first | rfl | assumption) ?_
      refine mi_icmp_eq (tgt := 48) dX1_isSpelt_43 (by decide) (fun c_43 => ?_) (fun c_43 => ?_)
      · refine mi_iinc dX1_isSpelt_48 rfl (by decide) rfl ?_
        dsimp only [List.set, Nat.reduceAdd]
        refine ms_goto (tgt := 19) dX1_isSpelt_51 (by decide) ?_
        have i9 := ih (j + 1) (by omega) (by omega) (fun i i0 i1 => by by_cases e : i = j; (rw [e]; exact c_43.symm); exact q1 i i0 (by omega))
        rw [show a + (j + 1) = a + j + 1 by omega] at i9
        exact i9
      · refine mi_iconst dX1_isSpelt_46 ?_
        refine ms_retZ dX1_isSpelt_47 rfl (by first | exact Or.inl rfl | exact Or.inr rfl) ⟨rfl, by rw [ssB_f (fun z => c_43 (z.2 j g0 (by omega)).symm)]; rfl⟩ (by simp)

set_option maxHeartbeats 4000000 in
set_option maxRecDepth 100000 in
theorem k_X1_isSpelt {S : mx_Sc} {f : Bool} {M : Nat → Int → Int} {L : Nat → Nat → Int64} {Rf : Nat → Nat → Option Nat} (hR : mx_rf Rf) {n : Int} (hn : 0 ≤ n ∧ n ≤ 500) (hB : ∀ i, 0 ≤ i → i < 500 → 0 ≤ M 1 i ∧ M 1 i ≤ 255) {p : Int} (hS : rdS M n p) {a b : Int} (hab : 0 ≤ a ∧ a ≤ b ∧ b ≤ 66) : mx_C S mX1_isSpelt [.ref 45, .int (iI a), .int (iI b)] (f, mx_SH, M, L, Rf) 0 0 (fun v9 h9 => h9 = (f, mx_SH, M, L, Rf) ∧ v9 = some (.int (iI (bI (ssB (M 1) p (te (M 1) n p) a b))))) (fun _ _ => False) := by
  refine mx_C_of (by decide) (by simp [Value.category]) (Nat.le_of_ble_eq_true rfl) rfl ?_
  show mx_E S mX1_isSpelt 0 [some (.ref 45), some (.int (iI a)), some (.int (iI b)), none] [] (f, mx_SH, M, L, Rf) 0 0 _ _
  have h5 := hS.2.1
  have h6 := hS.2.2.1
  have h0 := hS.2.2.2.2
  have ht9 := te_b (g := M 1) hS.2.2.2.2.2
  refine ms_iload_n dX1_isSpelt_0 rfl ?_
  refine ms_iload_n dX1_isSpelt_1 rfl ?_
  refine mi_isub dX1_isSpelt_2 ?_
  refine ms_aload_n dX1_isSpelt_3 rfl ?_
  refine ms_getI (z := 6) dX1_isSpelt_4 (fo_X1_40 rfl) (by first | rfl | assumption) rfl rfl ?_
  refine ms_aload_n dX1_isSpelt_7 rfl ?_
  refine ms_getI (z := 5) dX1_isSpelt_8 (fo_X1_56 rfl) (by first | rfl | assumption) rfl rfl ?_
  refine mi_isub dX1_isSpelt_11 ?_
  refine mi_icmp_eq (tgt := 17) dX1_isSpelt_12 (by decide) (fun c_12 => ?_) (fun c_12 => ?_)
  · refine ms_iload_n dX1_isSpelt_17 rfl ?_
    refine ms_istore_n dX1_isSpelt_18 (by decide) rfl ?_
    dsimp only [List.set, Nat.reduceAdd]
    have i9 := l_X1_sp (S := S) (f := f) (L := L) hR hn hB hS hab (by omega) (b - a).toNat 0 (by omega) (by omega) (fun i i0 i1 => by omega)
    rw [Int.add_zero] at i9
    exact i9
  · refine mi_iconst dX1_isSpelt_15 ?_
    refine ms_retZ dX1_isSpelt_16 rfl (by first | exact Or.inl rfl | exact Or.inr rfl) ⟨rfl, by rw [ssB_f (fun z => by have := z.1; omega)]; rfl⟩ (by simp)

set_option maxHeartbeats 4000000 in
set_option maxRecDepth 100000 in
theorem l_X1_fw {S : mx_Sc} {f : Bool} {M : Nat → Int → Int} {L : Nat → Nat → Int64} {Rf : Nat → Nat → Option Nat} (hR : mx_rf Rf) {n : Int} (hn : 0 ≤ n ∧ n ≤ 500) (hB : ∀ i, 0 ≤ i → i < 500 → 0 ≤ M 1 i ∧ M 1 i ≤ 255) {p : Int} (hS : rdS M n p) (hk0 : tk (M 1) n p = 0) : ∀ (kk : Nat) (k a : Int), 0 ≤ k → k ≤ 12 → 0 ≤ a → a + kk = 66 → (k < 12 → wst k ≤ a ∧ a ≤ wen k) → (k = 12 → a = 66) → (∀ i, 0 ≤ i → i < k → ¬ spS (M 1) p (te (M 1) n p) (wsi i)) → mx_E S mX1_findWord 15 [some (.ref 45), some (.int (iI k)), some (.int (iI (wst k))), some (.int (iI a))] [] (f, mx_SH, M, L, Rf) 0 0 (fun v9 h9 => h9 = (f, mx_SH, M, L, Rf) ∧ v9 = some (.int (iI (wdn (M 1) n p)))) (fun _ _ => False) := by
  intro kk
  induction kk with
  | zero => 
    intro k a k0 k1 a0 g1 q1 q2 q3
    have hk12 : k = 12 := by
      refine Classical.byContradiction fun z => ?_
      have h1 := wst_e (k := k) (by omega)
      have h2 := q1 (by omega)
      omega
    refine ms_iload_n dX1_findWord_15 rfl ?_
    refine ms_ldcS (i := 0) dX1_findWord_16 rfl ?_
    refine ms_callQ (i := 0) (n := 0) (As := []) (by decide) dX1_findWord_18 cv_X1_findWord_J0_length_8abf5 rfl (k_strlen (i := 0) (by decide)) rfl rfl (Nat.le_of_ble_eq_true rfl) rfl (fun v9 h9 hp9 => ?_)
    obtain ⟨rfl, rfl⟩ := hp9
    rw [show ((mx_sl.getD 0 0 : Nat) : Int) = 66 from rfl]
    refine mi_icmp_ge (tgt := 59) dX1_findWord_21 (by decide) (fun c_21 => ?_) (fun c_21 => ?_)
    · refine mi_iconst dX1_findWord_59 ?_
      refine ms_ret dX1_findWord_60 rfl ⟨rfl, by rw [wdn_e (x := -1) (Or.inl ⟨rfl, Or.inr (fun i i0 i1 => q3 i i0 (by omega))⟩)]⟩ (by simp)
    · exact absurd c_21 (by omega)
  | succ kk ih => 
    intro k a k0 k1 a0 g1 q1 q2 q3
    have hk12 : k < 12 := by omega
    have h1 := wst_e (k := k) (by omega)
    have h2 := q1 hk12
    have hsb := (sbz_e (i := 0) (j := a) (by decide) (by omega) (by omega)).2.2.1
    have h32 := h1.2.2.2.1 ⟨a.toNat, by omega⟩ (by show _ ≤ ((a.toNat : Nat) : Int); omega) (by show ((a.toNat : Nat) : Int) ≤ _; omega)
    simp only [show ((a.toNat : Nat) : Int) = a by omega] at h32
    refine ms_iload_n dX1_findWord_15 rfl ?_
    refine ms_ldcS (i := 0) dX1_findWord_16 rfl ?_
    refine ms_callQ (i := 0) (n := 0) (As := []) (by decide) dX1_findWord_18 cv_X1_findWord_J0_length_8abf5 rfl (k_strlen (i := 0) (by decide)) rfl rfl (Nat.le_of_ble_eq_true rfl) rfl (fun v9 h9 hp9 => ?_)
    obtain ⟨rfl, rfl⟩ := hp9
    rw [show ((mx_sl.getD 0 0 : Nat) : Int) = 66 from rfl]
    refine mi_icmp_ge (tgt := 59) dX1_findWord_21 (by decide) (fun c_21 => ?_) (fun c_21 => ?_)
    · exact absurd c_21 (by omega)
    · refine ms_ldcS (i := 0) dX1_findWord_24 rfl ?_
      refine ms_iload_n dX1_findWord_26 rfl ?_
      refine ms_callQ (i := 0) (n := 1) (As := [.int (iI a)]) (by decide) dX1_findWord_27 cv_X1_findWord_J0_charAt_5068e rfl (k_charAt (i := 0) (j := a) (by decide) ⟨by omega, by show a < 66; omega⟩) rfl rfl (Nat.le_of_ble_eq_true rfl) rfl (fun v9 h9 hp9 => ?_)
      obtain ⟨rfl, rfl⟩ := hp9
      refine mi_bipush dX1_findWord_30 (by decide) ?_
      refine mi_icmp_ne (tgt := 53) dX1_findWord_32 (by decide) (fun c_32 => ?_) (fun c_32 => ?_)
      · refine mi_iinc dX1_findWord_53 rfl (by decide) rfl ?_
        dsimp only [List.set, Nat.reduceAdd]
        refine ms_goto (tgt := 15) dX1_findWord_56 (by decide) ?_
        exact ih k (a + 1) k0 k1 (by omega) (by omega) (fun _ => by have : a ≠ wen k := fun z => c_32 (h32.mpr z); omega) (fun z => by omega) q3
      · refine ms_aload_n dX1_findWord_35 rfl ?_
        refine ms_iload_n dX1_findWord_36 rfl ?_
        refine ms_iload_n dX1_findWord_37 rfl ?_
        refine ms_callV2 (ci := 1) (r := (RX1, TX1, 10)) dX1_findWord_38 cv_X1_findWord_X1_isSpelt (k_X1_isSpelt hR hn hB hS (a := wst k) (b := a) (by omega)) rfl rfl (by first | rfl | assumption) (Nat.le_of_ble_eq_true rfl) rfl (fun _ _ z => z.elim) (fun v9 h9 hp9 => ?_)
        obtain ⟨rfl, rfl⟩ := hp9
        refine mi_if_eqB (tgt := 46) dX1_findWord_41 (by decide) (fun c_41 => ?_) (fun c_41 => ?_)
        · refine mi_iinc dX1_findWord_46 rfl (by decide) rfl ?_
          dsimp only [List.set, Nat.reduceAdd]
          refine ms_iload_n dX1_findWord_49 rfl ?_
          refine mi_iconst dX1_findWord_50 ?_
          refine mi_iadd dX1_findWord_51 ?_
          refine ms_istore_n dX1_findWord_52 (by decide) rfl ?_
          dsimp only [List.set, Nat.reduceAdd]
          refine mi_iinc dX1_findWord_53 rfl (by decide) rfl ?_
          dsimp only [List.set, Nat.reduceAdd]
          refine ms_goto (tgt := 15) dX1_findWord_56 (by decide) ?_
          have i9 := ih (k + 1) (a + 1) (by omega) (by omega) (by omega) (by omega) (fun z => by have h9 := wst_e (k := k + 1) (by omega); have := h32.mp c_32; omega) (fun z => by have := h32.mp c_32; have h9 : wst 12 = 66 := rfl; rw [z] at h1; omega) (fun i i0 i1 => by by_cases e : i = k; (subst e; exact fun z => ssB_n c_41 (by rw [h32.mp c_32]; exact (ss_sp ⟨k0, hk12⟩).mpr z)); exact q3 i i0 (by omega))
          rw [h1.2.1, ← h32.mp c_32] at i9
          exact i9
        · refine ms_iload_n dX1_findWord_44 rfl ?_
          refine ms_ret dX1_findWord_45 rfl ⟨rfl, by rw [wdn_e (x := k) (Or.inr ⟨hk0, k0, hk12, (ss_sp ⟨k0, hk12⟩).mp (by have := ssB_i c_41; rw [h32.mp c_32] at this; exact this)⟩)]⟩ (by simp)

set_option maxHeartbeats 4000000 in
set_option maxRecDepth 100000 in
theorem k_X1_findWord {S : mx_Sc} {f : Bool} {M : Nat → Int → Int} {L : Nat → Nat → Int64} {Rf : Nat → Nat → Option Nat} (hR : mx_rf Rf) {n : Int} (hn : 0 ≤ n ∧ n ≤ 500) (hB : ∀ i, 0 ≤ i → i < 500 → 0 ≤ M 1 i ∧ M 1 i ≤ 255) {p : Int} (hS : rdS M n p) : mx_C S mX1_findWord [.ref 45] (f, mx_SH, M, L, Rf) 0 0 (fun v9 h9 => h9 = (f, mx_SH, M, L, Rf) ∧ v9 = some (.int (iI (wdn (M 1) n p)))) (fun _ _ => False) := by
  refine mx_C_of (by decide) (by simp [Value.category]) (Nat.le_of_ble_eq_true rfl) rfl ?_
  show mx_E S mX1_findWord 0 [some (.ref 45), none, none, none] [] (f, mx_SH, M, L, Rf) 0 0 _ _
  have h4 := hS.2.2.2.1
  have htb := tk_b (M 1) n p
  refine ms_aload_n dX1_findWord_0 rfl ?_
  refine ms_getI (z := 4) dX1_findWord_1 (fo_X1_49 rfl) (by first | rfl | assumption) rfl rfl ?_
  refine mi_if_eq (tgt := 9) dX1_findWord_4 (by decide) (fun c_4 => ?_) (fun c_4 => ?_)
  · refine mi_iconst dX1_findWord_9 ?_
    refine ms_istore_n dX1_findWord_10 (by decide) rfl ?_
    dsimp only [List.set, Nat.reduceAdd]
    refine mi_iconst dX1_findWord_11 ?_
    refine ms_istore_n dX1_findWord_12 (by decide) rfl ?_
    dsimp only [List.set, Nat.reduceAdd]
    refine mi_iconst dX1_findWord_13 ?_
    refine ms_istore_n dX1_findWord_14 (by decide) rfl ?_
    dsimp only [List.set, Nat.reduceAdd]
    exact l_X1_fw (S := S) (f := f) (L := L) hR hn hB hS (by omega) 66 0 0 (by omega) (by omega) (by omega) (by omega) (fun _ => by decide) (fun z => by omega) (fun i i0 i1 => by omega)
  · refine mi_iconst dX1_findWord_7 ?_
    refine ms_ret dX1_findWord_8 rfl ⟨rfl, by rw [wdn_e (x := -1) (Or.inl ⟨rfl, Or.inl (by omega)⟩)]⟩ (by simp)

