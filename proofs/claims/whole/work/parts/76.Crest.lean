/-- a row rests: no mother's other choice lets her child marry sooner -/
def rsP (g : Int → Int) (m : Nat) (w : Int) : Prop := ∀ j : Nat, j < m → g (w * 3 + (j : Int)) ≠ 1001 ∧ ∀ c : Int, 0 ≤ c → c < 7 → g (w * 3 + (j : Int)) ≤ g ((w - chR w j * 7 ^ j + c * 7 ^ j) * 3 + (j : Int))
noncomputable def rsB (g : Int → Int) (m : Nat) (w : Int) : Bool := @decide (rsP g m w) (Classical.propDecidable _)
theorem rsB_t {g : Int → Int} {m : Nat} {w : Int} (h : rsP g m w) : rsB g m w = true := @decide_eq_true _ (Classical.propDecidable _) h
theorem rsB_f {g : Int → Int} {m : Nat} {w : Int} (h : ¬ rsP g m w) : rsB g m w = false := @decide_eq_false _ (Classical.propDecidable _) h
theorem p7c {m : Nat} : ((7 ^ m : Nat) : Int) = (7 : Int) ^ m := by
  rw [Int.natCast_pow]
  rfl
theorem ch_ix {m j : Nat} (hm : m ≤ 3) (hj : j < m) {w c : Int} (hw : 0 ≤ w ∧ w < 7 ^ m) (hc : 0 ≤ c ∧ c < 7) : 0 ≤ w - chR w j * 7 ^ j + c * 7 ^ j ∧ w - chR w j * 7 ^ j + c * 7 ^ j < 7 ^ m := by
  unfold chR
  rcases (show (m = 1 ∧ j = 0) ∨ (m = 2 ∧ j = 0) ∨ (m = 2 ∧ j = 1) ∨ (m = 3 ∧ j = 0) ∨ (m = 3 ∧ j = 1) ∨ (m = 3 ∧ j = 2) by omega) with ⟨rfl, rfl⟩ | ⟨rfl, rfl⟩ | ⟨rfl, rfl⟩ | ⟨rfl, rfl⟩ | ⟨rfl, rfl⟩ | ⟨rfl, rfl⟩ <;> simp only [show (7 : Int) ^ 0 = 1 from rfl, show (7 : Int) ^ 1 = 7 from rfl, show (7 : Int) ^ 2 = 49 from rfl, show (7 : Int) ^ 3 = 343 from rfl] at * <;> omega
set_option maxHeartbeats 4000000 in
set_option maxRecDepth 100000 in
theorem l_X0_rsI {S : mx_Sc} {f : Bool} {M : Nat → Int → Int} {L : Nat → Nat → Int64} {Rf : Nat → Nat → Option Nat} (hR : mx_rf Rf) {m : Nat} (hm3 : m ≤ 3) (hm : M 25 3 = (m : Int)) (hst : ∀ j : Nat, j < m → M 27 (j : Int) = 7 ^ j) (hwb : ∀ (w : Int) (j : Nat), 0 ≤ w → w < 7 ^ m → j < m → 0 ≤ M 28 (w * 3 + (j : Int)) ∧ M 28 (w * 3 + (j : Int)) ≤ 1200) {w : Int} (hw : 0 ≤ w ∧ w < 7 ^ m) {j : Nat} (hj : j < m) : ∀ (kk : Nat) (c : Int), 0 ≤ c → c + kk = 7 → (∀ c2, 0 ≤ c2 → c2 < c → M 28 (w * 3 + (j : Int)) ≤ M 28 ((w - chR w j * 7 ^ j + c2 * 7 ^ j) * 3 + (j : Int))) → ((∀ c, 0 ≤ c → c < 7 → M 28 (w * 3 + (j : Int)) ≤ M 28 ((w - chR w j * 7 ^ j + c * 7 ^ j) * 3 + (j : Int))) → ∀ o5, mx_E S mX0_rests 90 [some (.ref 25), some (.int (iI w)), some (.int (iI (j : Int))), some (.int (iI (M 28 (w * 3 + (j : Int))))), some (.int (iI (w - chR w j * 7 ^ j))), o5] [] (f, mx_SH, M, L, Rf) 0 0 (fun v9 h9 => h9 = (f, mx_SH, M, L, Rf) ∧ v9 = some (.int (iI (bI (rsB (M 28) m w))))) (fun _ _ => False)) → mx_E S mX0_rests 50 [some (.ref 25), some (.int (iI w)), some (.int (iI (j : Int))), some (.int (iI (M 28 (w * 3 + (j : Int))))), some (.int (iI (w - chR w j * 7 ^ j))), some (.int (iI c))] [] (f, mx_SH, M, L, Rf) 0 0 (fun v9 h9 => h9 = (f, mx_SH, M, L, Rf) ∧ v9 = some (.int (iI (bI (rsB (M 28) m w))))) (fun _ _ => False) := by
  intro kk
  induction kk with
  | zero => 
    intro c g0 g1 q1 hK
    have ec : c = 7 := by omega
    subst ec
    refine ms_iload dX0_rests_50 rfl ?_
    refine mi_bipush dX0_rests_52 (by decide) ?_
    refine mi_icmp_ge (tgt := 90) dX0_rests_54 (by decide) (fun c_54 => ?_) (fun c_54 => ?_)
    · exact hK q1 _
    · exact absurd c_54 (by omega)
  | succ kk ih => 
    intro c g0 g1 q1 hK
    have hs := hst j hj
    have hp := ch_ix hm3 hj hw (c := c) ⟨g0, by omega⟩
    have h7 := p7_3 hm3
    have hb1 := hwb w j hw.1 hw.2 hj
    have hb2 := hwb _ j hp.1 hp.2 hj
    refine ms_iload dX0_rests_50 rfl ?_
    refine mi_bipush dX0_rests_52 (by decide) ?_
    refine mi_icmp_ge (tgt := 90) dX0_rests_54 (by decide) (fun c_54 => ?_) (fun c_54 => ?_)
    · exact absurd c_54 (by omega)
    · refine ms_aload_n dX0_rests_57 rfl ?_
      refine ms_getR dX0_rests_58 (fo_X0_18 rfl) (by first | rfl | assumption) rfl (by first | assumption | exact rf_25_2 hR ) ?_
      refine ms_iload dX0_rests_61 rfl ?_
      refine ms_iload dX0_rests_63 rfl ?_
      refine ms_aload_n dX0_rests_65 rfl ?_
      refine ms_getR dX0_rests_66 (fo_X0_15 rfl) (by first | rfl | assumption) rfl (by first | assumption | exact rf_25_1 hR ) ?_
      refine ms_iload_n dX0_rests_69 rfl ?_
      refine ms_iald dX0_rests_70 (by first | rfl | assumption) ?_
      rw [hs]
      refine mi_imul dX0_rests_71 ?_
      refine mi_iadd dX0_rests_72 ?_
      refine mi_iconst dX0_rests_73 ?_
      refine mi_imul dX0_rests_74 ?_
      refine ms_iload_n dX0_rests_75 rfl ?_
      refine mi_iadd dX0_rests_76 ?_
      refine ms_iald dX0_rests_77 (by first | rfl | assumption) ?_
      refine ms_iload_n dX0_rests_78 rfl ?_
      refine mi_icmp_ge (tgt := 84) dX0_rests_79 (by decide) (fun c_79 => ?_) (fun c_79 => ?_)
      · refine mi_iinc dX0_rests_84 rfl (by decide) rfl ?_
        dsimp only [List.set, Nat.reduceAdd]
        refine ms_goto (tgt := 50) dX0_rests_87 (by decide) ?_
        exact ih (c + 1) (by omega) (by omega) (fun c2 h0 h1 => by by_cases e : c2 = c; (subst e; omega); exact q1 c2 h0 (by omega)) hK
      · refine mi_iconst dX0_rests_82 ?_
        refine ms_retZ dX0_rests_83 rfl (by first | exact Or.inl rfl | exact Or.inr rfl) ⟨rfl, by rw [rsB_f (fun z => by have := (z j hj).2 c g0 (by omega); omega)]; rfl⟩ (by simp)

set_option maxHeartbeats 4000000 in
set_option maxRecDepth 100000 in
theorem l_X0_rsO {S : mx_Sc} {f : Bool} {M : Nat → Int → Int} {L : Nat → Nat → Int64} {Rf : Nat → Nat → Option Nat} (hR : mx_rf Rf) {m : Nat} (hm3 : m ≤ 3) (hm : M 25 3 = (m : Int)) (hst : ∀ j : Nat, j < m → M 27 (j : Int) = 7 ^ j) (hwb : ∀ (w : Int) (j : Nat), 0 ≤ w → w < 7 ^ m → j < m → 0 ≤ M 28 (w * 3 + (j : Int)) ∧ M 28 (w * 3 + (j : Int)) ≤ 1200) {w : Int} (hw : 0 ≤ w ∧ w < 7 ^ m) : ∀ (kk : Nat) (j : Nat) (o3 o4 o5 : Option Value), j + kk = m → (∀ j2 : Nat, j2 < j → M 28 (w * 3 + (j2 : Int)) ≠ 1001 ∧ ∀ c : Int, 0 ≤ c → c < 7 → M 28 (w * 3 + (j2 : Int)) ≤ M 28 ((w - chR w j2 * 7 ^ j2 + c * 7 ^ j2) * 3 + (j2 : Int))) → mx_E S mX0_rests 2 [some (.ref 25), some (.int (iI w)), some (.int (iI (j : Int))), o3, o4, o5] [] (f, mx_SH, M, L, Rf) 0 0 (fun v9 h9 => h9 = (f, mx_SH, M, L, Rf) ∧ v9 = some (.int (iI (bI (rsB (M 28) m w))))) (fun _ _ => False) := by
  intro kk
  induction kk with
  | zero => 
    intro j o3 o4 o5 g1 q1
    have em : m = j := by omega
    subst em
    refine ms_iload_n dX0_rests_2 rfl ?_
    refine ms_aload_n dX0_rests_3 rfl ?_
    refine ms_getI (z := 3) dX0_rests_4 (fo_X0_45 rfl) (by first | rfl | assumption) rfl rfl ?_
    refine mi_icmp_ge (tgt := 96) dX0_rests_7 (by decide) (fun c_7 => ?_) (fun c_7 => ?_)
    · refine mi_iconst dX0_rests_96 ?_
      refine ms_retZ dX0_rests_97 rfl (by first | exact Or.inl rfl | exact Or.inr rfl) ⟨rfl, by rw [rsB_t q1]; rfl⟩ (by simp)
    · exact absurd c_7 (by omega)
  | succ kk ih => 
    intro j o3 o4 o5 g1 q1
    have hs := hst j (by omega)
    have h7 := p7_3 hm3
    have h7j := p7_3 (m := j) (by omega)
    have hb1 := hwb w j hw.1 hw.2 (by omega)
    refine ms_iload_n dX0_rests_2 rfl ?_
    refine ms_aload_n dX0_rests_3 rfl ?_
    refine ms_getI (z := 3) dX0_rests_4 (fo_X0_45 rfl) (by first | rfl | assumption) rfl rfl ?_
    refine mi_icmp_ge (tgt := 96) dX0_rests_7 (by decide) (fun c_7 => ?_) (fun c_7 => ?_)
    · exact absurd c_7 (by omega)
    · refine ms_aload_n dX0_rests_10 rfl ?_
      refine ms_getR dX0_rests_11 (fo_X0_18 rfl) (by first | rfl | assumption) rfl (by first | assumption | exact rf_25_2 hR ) ?_
      refine ms_iload_n dX0_rests_14 rfl ?_
      refine mi_iconst dX0_rests_15 ?_
      refine mi_imul dX0_rests_16 ?_
      refine ms_iload_n dX0_rests_17 rfl ?_
      refine mi_iadd dX0_rests_18 ?_
      refine ms_iald dX0_rests_19 (by first | rfl | assumption) ?_
      refine ms_istore_n dX0_rests_20 (by decide) rfl ?_
      dsimp only [List.set, Nat.reduceAdd]
      refine ms_iload_n dX0_rests_21 rfl ?_
      refine mi_sipush dX0_rests_22 (by decide) ?_
      refine mi_icmp_ne (tgt := 30) dX0_rests_25 (by decide) (fun c_25 => ?_) (fun c_25 => ?_)
      · refine ms_iload_n dX0_rests_30 rfl ?_
        refine ms_aload_n dX0_rests_31 rfl ?_
        refine ms_iload_n dX0_rests_32 rfl ?_
        refine ms_iload_n dX0_rests_33 rfl ?_
        refine ms_callV2 (ci := 0) (r := (RX0, TX0, 5)) dX0_rests_34 cv_X0_rests_X0_choiceOf (k_X0_choiceOf hR (w := w) (j := (j : Int)) (by omega) (by omega) (by rw [hs]; omega)) rfl rfl (by first | rfl | assumption) (Nat.le_of_ble_eq_true rfl) rfl (fun _ _ z => z.elim) (fun v9 h9 hp9 => ?_)
        obtain ⟨rfl, rfl⟩ := hp9
        rw [hs]
        refine ms_aload_n dX0_rests_37 rfl ?_
        refine ms_getR dX0_rests_38 (fo_X0_15 rfl) (by first | rfl | assumption) rfl (by first | assumption | exact rf_25_1 hR ) ?_
        refine ms_iload_n dX0_rests_41 rfl ?_
        refine ms_iald dX0_rests_42 (by first | rfl | assumption) ?_
        rw [hs]
        refine mi_imul dX0_rests_43 ?_
        refine mi_isub dX0_rests_44 ?_
        refine ms_istore dX0_rests_45 (by decide) rfl ?_
        dsimp only [List.set, Nat.reduceAdd]
        refine mi_iconst dX0_rests_47 ?_
        refine ms_istore dX0_rests_48 (by decide) rfl ?_
        dsimp only [List.set, Nat.reduceAdd]
        refine l_X0_rsI (S := S) (f := f) (L := L) hR hm3 hm hst hwb hw (j := j) (by omega) 7 0 (by omega) (by omega) (fun c2 h0 h1 => by omega) (fun hall o5 => ?_)
        refine mi_iinc dX0_rests_90 rfl (by decide) rfl ?_
        dsimp only [List.set, Nat.reduceAdd]
        refine ms_goto (tgt := 2) dX0_rests_93 (by decide) ?_
        exact ih (j + 1) _ _ _ (by omega) (fun j2 hj2 => by by_cases e : j2 = j; (subst e; exact ⟨c_25, hall⟩); exact q1 j2 (by omega))
      · refine mi_iconst dX0_rests_28 ?_
        refine ms_retZ dX0_rests_29 rfl (by first | exact Or.inl rfl | exact Or.inr rfl) ⟨rfl, by rw [rsB_f (fun z => (z j (by omega)).1 c_25)]; rfl⟩ (by simp)

set_option maxHeartbeats 4000000 in
set_option maxRecDepth 100000 in
theorem k_X0_rests {S : mx_Sc} {f : Bool} {M : Nat → Int → Int} {L : Nat → Nat → Int64} {Rf : Nat → Nat → Option Nat} (hR : mx_rf Rf) {m : Nat} (hm3 : m ≤ 3) (hm : M 25 3 = (m : Int)) (hst : ∀ j : Nat, j < m → M 27 (j : Int) = 7 ^ j) (hwb : ∀ (w : Int) (j : Nat), 0 ≤ w → w < 7 ^ m → j < m → 0 ≤ M 28 (w * 3 + (j : Int)) ∧ M 28 (w * 3 + (j : Int)) ≤ 1200) {w : Int} (hw : 0 ≤ w ∧ w < 7 ^ m) : mx_C S mX0_rests [.ref 25, .int (iI w)] (f, mx_SH, M, L, Rf) 0 0 (fun v9 h9 => h9 = (f, mx_SH, M, L, Rf) ∧ v9 = some (.int (iI (bI (rsB (M 28) m w))))) (fun _ _ => False) := by
  refine mx_C_of (by decide) (by simp [Value.category]) (Nat.le_of_ble_eq_true rfl) rfl ?_
  show mx_E S mX0_rests 0 [some (.ref 25), some (.int (iI w)), none, none, none, none] [] (f, mx_SH, M, L, Rf) 0 0 _ _
  refine mi_iconst dX0_rests_0 ?_
  refine ms_istore_n dX0_rests_1 (by decide) rfl ?_
  dsimp only [List.set, Nat.reduceAdd]
  exact l_X0_rsO hR hm3 hm hst hwb hw m 0 none none none (by omega) (fun j2 h => by omega)

noncomputable def rsC (g : Int → Int) (m : Nat) : Nat → Int
  | 0 => 0
  | k + 1 => rsC g m k + bI (rsB g m (k : Int))
theorem rsC_b (g : Int → Int) (m : Nat) : ∀ k : Nat, 0 ≤ rsC g m k ∧ rsC g m k ≤ k
  | 0 => ⟨Int.le_refl _, Int.le_refl _⟩
  | k + 1 => by
    have h := rsC_b g m k
    have h2 := bI_01 (rsB g m (k : Int))
    simp only [rsC]
    omega
set_option maxHeartbeats 4000000 in
set_option maxRecDepth 100000 in
theorem l_X0_cr {S : mx_Sc} {f : Bool} {M : Nat → Int → Int} {L : Nat → Nat → Int64} {Rf : Nat → Nat → Option Nat} (hR : mx_rf Rf) {m : Nat} (hm3 : m ≤ 3) (hm : M 25 3 = (m : Int)) (hst : ∀ j : Nat, j < m → M 27 (j : Int) = 7 ^ j) (hwb : ∀ (w : Int) (j : Nat), 0 ≤ w → w < 7 ^ m → j < m → 0 ≤ M 28 (w * 3 + (j : Int)) ∧ M 28 (w * 3 + (j : Int)) ≤ 1200) (hr : M 25 4 = 7 ^ m) : ∀ (kk : Nat) (k : Nat), (k : Int) + kk = 7 ^ m → mx_E S mX0_countRests 4 [some (.ref 25), some (.int (iI (rsC (M 28) m k))), some (.int (iI (k : Int)))] [] (f, mx_SH, M, L, Rf) 0 0 (fun v9 h9 => h9 = (f, mx_SH, M, L, Rf) ∧ v9 = some (.int (iI (rsC (M 28) m (7 ^ m))))) (fun _ _ => False) := by
  intro kk
  induction kk with
  | zero => 
    intro k g1
    have h7 := p7_3 hm3
    have ek : k = 7 ^ m := by exact_mod_cast (show (k : Int) = 7 ^ m by omega)
    refine ms_iload_n dX0_countRests_4 rfl ?_
    refine ms_aload_n dX0_countRests_5 rfl ?_
    refine ms_getI (z := 4) dX0_countRests_6 (fo_X0_25 rfl) (by first | rfl | assumption) rfl rfl ?_
    refine mi_icmp_ge (tgt := 29) dX0_countRests_9 (by decide) (fun c_9 => ?_) (fun c_9 => ?_)
    · refine ms_iload_n dX0_countRests_29 rfl ?_
      refine ms_ret dX0_countRests_30 rfl ⟨rfl, by rw [ek]⟩ (by simp)
    · exact absurd c_9 (by omega)
  | succ kk ih => 
    intro k g1
    have h7 := p7_3 hm3
    refine ms_iload_n dX0_countRests_4 rfl ?_
    refine ms_aload_n dX0_countRests_5 rfl ?_
    refine ms_getI (z := 4) dX0_countRests_6 (fo_X0_25 rfl) (by first | rfl | assumption) rfl rfl ?_
    refine mi_icmp_ge (tgt := 29) dX0_countRests_9 (by decide) (fun c_9 => ?_) (fun c_9 => ?_)
    · exact absurd c_9 (by omega)
    · refine ms_aload_n dX0_countRests_12 rfl ?_
      refine ms_iload_n dX0_countRests_13 rfl ?_
      refine ms_callV1 (ci := 0) (r := (RX0, TX0, 5)) dX0_countRests_14 cv_X0_countRests_X0_rests (k_X0_rests hR hm3 hm hst hwb (w := (k : Int)) (by omega)) rfl rfl (by first | rfl | assumption) (Nat.le_of_ble_eq_true rfl) rfl (fun _ _ z => z.elim) (fun v9 h9 hp9 => ?_)
      obtain ⟨rfl, rfl⟩ := hp9
      refine mi_if_eqB (tgt := 23) dX0_countRests_17 (by decide) (fun c_17 => ?_) (fun c_17 => ?_)
      · refine mi_iinc dX0_countRests_23 rfl (by decide) rfl ?_
        dsimp only [List.set, Nat.reduceAdd]
        refine ms_goto (tgt := 4) dX0_countRests_26 (by decide) ?_
        have i9 := ih (k + 1) (by omega)
        rw [show rsC (M 28) m (k + 1) = rsC (M 28) m k from by simp only [rsC]; rw [c_17]; exact Int.add_zero _] at i9
        exact i9
      · refine mi_iinc dX0_countRests_20 rfl (by decide) rfl ?_
        dsimp only [List.set, Nat.reduceAdd]
        refine mi_iinc dX0_countRests_23 rfl (by decide) rfl ?_
        dsimp only [List.set, Nat.reduceAdd]
        refine ms_goto (tgt := 4) dX0_countRests_26 (by decide) ?_
        have i9 := ih (k + 1) (by omega)
        rw [show rsC (M 28) m (k + 1) = rsC (M 28) m k + 1 from by simp only [rsC]; rw [c_17]; rfl] at i9
        exact i9

set_option maxHeartbeats 4000000 in
set_option maxRecDepth 100000 in
theorem k_X0_countRests {S : mx_Sc} {f : Bool} {M : Nat → Int → Int} {L : Nat → Nat → Int64} {Rf : Nat → Nat → Option Nat} (hR : mx_rf Rf) {m : Nat} (hm3 : m ≤ 3) (hm : M 25 3 = (m : Int)) (hst : ∀ j : Nat, j < m → M 27 (j : Int) = 7 ^ j) (hwb : ∀ (w : Int) (j : Nat), 0 ≤ w → w < 7 ^ m → j < m → 0 ≤ M 28 (w * 3 + (j : Int)) ∧ M 28 (w * 3 + (j : Int)) ≤ 1200) (hr : M 25 4 = 7 ^ m) : mx_C S mX0_countRests [.ref 25] (f, mx_SH, M, L, Rf) 0 0 (fun v9 h9 => h9 = (f, mx_SH, M, L, Rf) ∧ v9 = some (.int (iI (rsC (M 28) m (7 ^ m))))) (fun _ _ => False) := by
  refine mx_C_of (by decide) (by simp [Value.category]) (Nat.le_of_ble_eq_true rfl) rfl ?_
  show mx_E S mX0_countRests 0 [some (.ref 25), none, none] [] (f, mx_SH, M, L, Rf) 0 0 _ _
  refine mi_iconst dX0_countRests_0 ?_
  refine ms_istore_n dX0_countRests_1 (by decide) rfl ?_
  dsimp only [List.set, Nat.reduceAdd]
  refine mi_iconst dX0_countRests_2 ?_
  refine ms_istore_n dX0_countRests_3 (by decide) rfl ?_
  dsimp only [List.set, Nat.reduceAdd]
  exact l_X0_cr hR hm3 hm hst hwb hr (7 ^ m) 0 (by rw [p7c]; omega)

/-- the figures of a row: the last seat's mother first -/
def fgR (m : Nat) (w : Int) : Nat → Int
  | 0 => 0
  | k + 1 => fgR m w k * 10 + mx_dz (chR w (m - 1 - k)) + 1
theorem fgR_b (m : Nat) (w : Int) (hw : 0 ≤ w) : ∀ k : Nat, 0 ≤ fgR m w k ∧ fgR m w k + 1 ≤ 10 ^ k
  | 0 => ⟨Int.le_refl _, Int.le_refl _⟩
  | k + 1 => by
    have h := fgR_b m w hw k
    have h2 := dz_b (c := chR w (m - 1 - k)) (by unfold chR; omega)
    simp only [fgR]
    rw [Int.pow_succ]
    omega
set_option maxHeartbeats 4000000 in
set_option maxRecDepth 100000 in
theorem l_X0_wf {S : mx_Sc} {f : Bool} {M : Nat → Int → Int} {L : Nat → Nat → Int64} {Rf : Nat → Nat → Option Nat} (hR : mx_rf Rf) {m : Nat} (hm3 : m ≤ 3) (hm : M 25 3 = (m : Int)) (hst : ∀ j : Nat, j < m → M 27 (j : Int) = 7 ^ j) (hwb : ∀ (w : Int) (j : Nat), 0 ≤ w → w < 7 ^ m → j < m → 0 ≤ M 28 (w * 3 + (j : Int)) ∧ M 28 (w * 3 + (j : Int)) ≤ 1200) {w : Int} (hw : 0 ≤ w ∧ w < 7 ^ m) : ∀ (kk : Nat) (k : Nat), k + kk = m → mx_E S mX0_writeFigures 9 [some (.ref 25), some (.int (iI w)), some (.int (iI (fgR m w k))), some (.int (iI ((m : Int) - 1 - (k : Int))))] [] (f, mx_SH, M, L, Rf) 0 0 (fun v9 h9 => h9 = (f, mx_SH, M, L, Rf) ∧ v9 = some (.int (iI (fgR m w m)))) (fun _ _ => False) := by
  intro kk
  induction kk with
  | zero => 
    intro k g1
    have em : k = m := by omega
    subst em
    refine ms_iload_n dX0_writeFigures_9 rfl ?_
    refine mi_if_lt (tgt := 37) dX0_writeFigures_10 (by decide) (fun c_10 => ?_) (fun c_10 => ?_)
    · refine ms_iload_n dX0_writeFigures_37 rfl ?_
      refine ms_ret dX0_writeFigures_38 rfl ⟨rfl, rfl⟩ (by simp)
    · exact absurd c_10 (by omega)
  | succ kk ih => 
    intro k g1
    have hs := hst (m - 1 - k) (by omega)
    rw [show ((m - 1 - k : Nat) : Int) = (m : Int) - 1 - (k : Int) by omega] at hs
    have h7 := p7_3 hm3
    have h7j := p7_3 (m := m - 1 - k) (by omega)
    refine ms_iload_n dX0_writeFigures_9 rfl ?_
    refine mi_if_lt (tgt := 37) dX0_writeFigures_10 (by decide) (fun c_10 => ?_) (fun c_10 => ?_)
    · exact absurd c_10 (by omega)
    · refine ms_iload_n dX0_writeFigures_13 rfl ?_
      refine mi_bipush dX0_writeFigures_14 (by decide) ?_
      refine mi_imul dX0_writeFigures_16 ?_
      refine ms_getDN dX0_writeFigures_17 dn_X0_writeFigures ?_
      refine ms_aload_n dX0_writeFigures_20 rfl ?_
      refine ms_iload_n dX0_writeFigures_21 rfl ?_
      refine ms_iload_n dX0_writeFigures_22 rfl ?_
      refine ms_callV2 (ci := 0) (r := (RX0, TX0, 5)) dX0_writeFigures_23 cv_X0_writeFigures_X0_choiceOf (k_X0_choiceOf hR (w := w) (j := (m : Int) - 1 - (k : Int)) (by omega) (by omega) (by rw [hs]; omega)) rfl rfl (by first | rfl | assumption) (Nat.le_of_ble_eq_true rfl) rfl (fun _ _ z => z.elim) (fun v9 h9 hp9 => ?_)
      obtain ⟨rfl, rfl⟩ := hp9
      rw [hs]
      refine ms_ialdDN dX0_writeFigures_26 ?_
      rw [show mx_dn (w / 7 ^ (m - 1 - k) % 7).toNat = iI (mx_dz (chR w (m - 1 - k))) from (iI_ti _).symm]
      refine mi_iadd dX0_writeFigures_27 ?_
      refine mi_iconst dX0_writeFigures_28 ?_
      refine mi_iadd dX0_writeFigures_29 ?_
      refine ms_istore_n dX0_writeFigures_30 (by decide) rfl ?_
      dsimp only [List.set, Nat.reduceAdd]
      refine mi_iinc dX0_writeFigures_31 rfl (by decide) rfl ?_
      dsimp only [List.set, Nat.reduceAdd]
      refine ms_goto (tgt := 9) dX0_writeFigures_34 (by decide) ?_
      have i9 := ih (k + 1) (by omega)
      rw [show (m : Int) - 1 - ((k + 1 : Nat) : Int) = (m : Int) - 1 - (k : Int) + -1 by omega] at i9
      exact i9

set_option maxHeartbeats 4000000 in
set_option maxRecDepth 100000 in
theorem k_X0_writeFigures {S : mx_Sc} {f : Bool} {M : Nat → Int → Int} {L : Nat → Nat → Int64} {Rf : Nat → Nat → Option Nat} (hR : mx_rf Rf) {m : Nat} (hm3 : m ≤ 3) (hm : M 25 3 = (m : Int)) (hst : ∀ j : Nat, j < m → M 27 (j : Int) = 7 ^ j) (hwb : ∀ (w : Int) (j : Nat), 0 ≤ w → w < 7 ^ m → j < m → 0 ≤ M 28 (w * 3 + (j : Int)) ∧ M 28 (w * 3 + (j : Int)) ≤ 1200) {w : Int} (hw : 0 ≤ w ∧ w < 7 ^ m) : mx_C S mX0_writeFigures [.ref 25, .int (iI w)] (f, mx_SH, M, L, Rf) 0 0 (fun v9 h9 => h9 = (f, mx_SH, M, L, Rf) ∧ v9 = some (.int (iI (fgR m w m)))) (fun _ _ => False) := by
  refine mx_C_of (by decide) (by simp [Value.category]) (Nat.le_of_ble_eq_true rfl) rfl ?_
  show mx_E S mX0_writeFigures 0 [some (.ref 25), some (.int (iI w)), none, none] [] (f, mx_SH, M, L, Rf) 0 0 _ _
  refine mi_iconst dX0_writeFigures_0 ?_
  refine ms_istore_n dX0_writeFigures_1 (by decide) rfl ?_
  dsimp only [List.set, Nat.reduceAdd]
  refine ms_aload_n dX0_writeFigures_2 rfl ?_
  refine ms_getI (z := 3) dX0_writeFigures_3 (fo_X0_45 rfl) (by first | rfl | assumption) rfl rfl ?_
  refine mi_iconst dX0_writeFigures_6 ?_
  refine mi_isub dX0_writeFigures_7 ?_
  rw [hm]
  refine ms_istore_n dX0_writeFigures_8 (by decide) rfl ?_
  dsimp only [List.set, Nat.reduceAdd]
  have i9 := l_X0_wf (S := S) (f := f) (L := L) hR hm3 hm hst hwb hw m 0 (by omega)
  rw [show (m : Int) - 1 - ((0 : Nat) : Int) = (m : Int) - 1 by omega] at i9
  exact i9

set_option maxHeartbeats 4000000 in
set_option maxRecDepth 100000 in
theorem l_X0_fr {S : mx_Sc} {f : Bool} {M : Nat → Int → Int} {L : Nat → Nat → Int64} {Rf : Nat → Nat → Option Nat} (hR : mx_rf Rf) {m : Nat} (hm3 : m ≤ 3) (hm : M 25 3 = (m : Int)) (hst : ∀ j : Nat, j < m → M 27 (j : Int) = 7 ^ j) (hwb : ∀ (w : Int) (j : Nat), 0 ≤ w → w < 7 ^ m → j < m → 0 ≤ M 28 (w * 3 + (j : Int)) ∧ M 28 (w * 3 + (j : Int)) ≤ 1200) (hr : M 25 4 = 7 ^ m) : ∀ (kk : Nat) (k : Nat), (k : Int) + kk = 7 ^ m → (∀ k2 : Nat, k2 < k → rsB (M 28) m (k2 : Int) = false) → mx_E S mX0_firstRest 2 [some (.ref 25), some (.int (iI (k : Int)))] [] (f, mx_SH, M, L, Rf) 0 0 (fun v9 h9 => h9 = (f, mx_SH, M, L, Rf) ∧ ∃ x, v9 = some (.int (iI x)) ∧ ((x = -1 ∧ ∀ k : Nat, (k : Int) < 7 ^ m → rsB (M 28) m (k : Int) = false) ∨ (∃ k : Nat, (k : Int) < 7 ^ m ∧ rsB (M 28) m (k : Int) = true ∧ (∀ k2 : Nat, k2 < k → rsB (M 28) m (k2 : Int) = false) ∧ x = fgR m (k : Int) m))) (fun _ _ => False) := by
  intro kk
  induction kk with
  | zero => 
    intro k g1 q1
    have h7 := p7_3 hm3
    refine ms_iload_n dX0_firstRest_2 rfl ?_
    refine ms_aload_n dX0_firstRest_3 rfl ?_
    refine ms_getI (z := 4) dX0_firstRest_4 (fo_X0_25 rfl) (by first | rfl | assumption) rfl rfl ?_
    refine mi_icmp_ge (tgt := 30) dX0_firstRest_7 (by decide) (fun c_7 => ?_) (fun c_7 => ?_)
    · refine mi_iconst dX0_firstRest_30 ?_
      refine ms_ret dX0_firstRest_31 rfl ⟨rfl, _, rfl, Or.inl ⟨rfl, fun k2 h2 => q1 k2 (by omega)⟩⟩ (by simp)
    · exact absurd c_7 (by omega)
  | succ kk ih => 
    intro k g1 q1
    have h7 := p7_3 hm3
    refine ms_iload_n dX0_firstRest_2 rfl ?_
    refine ms_aload_n dX0_firstRest_3 rfl ?_
    refine ms_getI (z := 4) dX0_firstRest_4 (fo_X0_25 rfl) (by first | rfl | assumption) rfl rfl ?_
    refine mi_icmp_ge (tgt := 30) dX0_firstRest_7 (by decide) (fun c_7 => ?_) (fun c_7 => ?_)
    · exact absurd c_7 (by omega)
    · refine ms_aload_n dX0_firstRest_10 rfl ?_
      refine ms_iload_n dX0_firstRest_11 rfl ?_
      refine ms_callV1 (ci := 0) (r := (RX0, TX0, 5)) dX0_firstRest_12 cv_X0_firstRest_X0_rests (k_X0_rests hR hm3 hm hst hwb (w := (k : Int)) (by omega)) rfl rfl (by first | rfl | assumption) (Nat.le_of_ble_eq_true rfl) rfl (fun _ _ z => z.elim) (fun v9 h9 hp9 => ?_)
      obtain ⟨rfl, rfl⟩ := hp9
      refine mi_if_eqB (tgt := 24) dX0_firstRest_15 (by decide) (fun c_15 => ?_) (fun c_15 => ?_)
      · refine mi_iinc dX0_firstRest_24 rfl (by decide) rfl ?_
        dsimp only [List.set, Nat.reduceAdd]
        refine ms_goto (tgt := 2) dX0_firstRest_27 (by decide) ?_
        exact ih (k + 1) (by omega) (fun k2 h2 => by by_cases e : k2 = k; (subst e; exact c_15); exact q1 k2 (by omega))
      · refine ms_aload_n dX0_firstRest_18 rfl ?_
        refine ms_iload_n dX0_firstRest_19 rfl ?_
        refine ms_callV1 (ci := 0) (r := (RX0, TX0, 5)) dX0_firstRest_20 cv_X0_firstRest_X0_writeFigures (k_X0_writeFigures hR hm3 hm hst hwb (w := (k : Int)) (by omega)) rfl rfl (by first | rfl | assumption) (Nat.le_of_ble_eq_true rfl) rfl (fun _ _ z => z.elim) (fun v9 h9 hp9 => ?_)
        obtain ⟨rfl, rfl⟩ := hp9
        refine ms_ret dX0_firstRest_23 rfl ⟨rfl, _, rfl, Or.inr ⟨k, by omega, c_15, q1, rfl⟩⟩ (by simp)

set_option maxHeartbeats 4000000 in
set_option maxRecDepth 100000 in
theorem k_X0_firstRest {S : mx_Sc} {f : Bool} {M : Nat → Int → Int} {L : Nat → Nat → Int64} {Rf : Nat → Nat → Option Nat} (hR : mx_rf Rf) {m : Nat} (hm3 : m ≤ 3) (hm : M 25 3 = (m : Int)) (hst : ∀ j : Nat, j < m → M 27 (j : Int) = 7 ^ j) (hwb : ∀ (w : Int) (j : Nat), 0 ≤ w → w < 7 ^ m → j < m → 0 ≤ M 28 (w * 3 + (j : Int)) ∧ M 28 (w * 3 + (j : Int)) ≤ 1200) (hr : M 25 4 = 7 ^ m) : mx_C S mX0_firstRest [.ref 25] (f, mx_SH, M, L, Rf) 0 0 (fun v9 h9 => h9 = (f, mx_SH, M, L, Rf) ∧ ∃ x, v9 = some (.int (iI x)) ∧ ((x = -1 ∧ ∀ k : Nat, (k : Int) < 7 ^ m → rsB (M 28) m (k : Int) = false) ∨ (∃ k : Nat, (k : Int) < 7 ^ m ∧ rsB (M 28) m (k : Int) = true ∧ (∀ k2 : Nat, k2 < k → rsB (M 28) m (k2 : Int) = false) ∧ x = fgR m (k : Int) m))) (fun _ _ => False) := by
  refine mx_C_of (by decide) (by simp [Value.category]) (Nat.le_of_ble_eq_true rfl) rfl ?_
  show mx_E S mX0_firstRest 0 [some (.ref 25), none] [] (f, mx_SH, M, L, Rf) 0 0 _ _
  refine mi_iconst dX0_firstRest_0 ?_
  refine ms_istore_n dX0_firstRest_1 (by decide) rfl ?_
  dsimp only [List.set, Nat.reduceAdd]
  exact l_X0_fr hR hm3 hm hst hwb hr (7 ^ m) 0 (by rw [p7c]; omega) (fun k2 h => by omega)

