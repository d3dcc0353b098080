theorem c9_ix {m j : Nat} (hm : m ≤ 3) (hj : j < m) {w ch : Int} (hw : 0 ≤ w ∧ w < 9 ^ m) (hc : 0 ≤ ch ∧ ch < 9) : (0 ≤ w - c9 w j * 9 ^ j + ch * 9 ^ j ∧ w - c9 w j * 9 ^ j + ch * 9 ^ j < 9 ^ m) ∧ ∀ i : Nat, i < m → c9 (w - c9 w j * 9 ^ j + ch * 9 ^ j) i = if i = j then ch else c9 w i := by
  unfold c9
  rcases (show (m = 1 ∧ j = 0) ∨ (m = 2 ∧ j = 0) ∨ (m = 2 ∧ j = 1) ∨ (m = 3 ∧ j = 0) ∨ (m = 3 ∧ j = 1) ∨ (m = 3 ∧ j = 2) by omega) with ⟨rfl, rfl⟩ | ⟨rfl, rfl⟩ | ⟨rfl, rfl⟩ | ⟨rfl, rfl⟩ | ⟨rfl, rfl⟩ | ⟨rfl, rfl⟩ <;> simp only [show (9 : Int) ^ 0 = 1 from rfl, show (9 : Int) ^ 1 = 9 from rfl, show (9 : Int) ^ 2 = 81 from rfl, show (9 : Int) ^ 3 = 729 from rfl] at * <;> refine ⟨by omega, fun i hi => ?_⟩
  · rcases (show i = 0 by omega) with rfl; simp only [show (9 : Int) ^ 0 = 1 from rfl]; rw [if_pos trivial]; omega
  · rcases (show i = 0 ∨ i = 1 by omega) with rfl | rfl <;> simp only [show (9 : Int) ^ 0 = 1 from rfl, show (9 : Int) ^ 1 = 9 from rfl]
    · rw [if_pos trivial]; omega
    · rw [if_neg (by omega)]; omega
  · rcases (show i = 0 ∨ i = 1 by omega) with rfl | rfl <;> simp only [show (9 : Int) ^ 0 = 1 from rfl, show (9 : Int) ^ 1 = 9 from rfl]
    · rw [if_neg (by omega)]; omega
    · rw [if_pos trivial]; omega
  · rcases (show i = 0 ∨ i = 1 ∨ i = 2 by omega) with rfl | rfl | rfl <;> simp only [show (9 : Int) ^ 0 = 1 from rfl, show (9 : Int) ^ 1 = 9 from rfl, show (9 : Int) ^ 2 = 81 from rfl]
    · rw [if_pos trivial]; omega
    · rw [if_neg (by omega)]; omega
    · rw [if_neg (by omega)]; omega
  · rcases (show i = 0 ∨ i = 1 ∨ i = 2 by omega) with rfl | rfl | rfl <;> simp only [show (9 : Int) ^ 0 = 1 from rfl, show (9 : Int) ^ 1 = 9 from rfl, show (9 : Int) ^ 2 = 81 from rfl]
    · rw [if_neg (by omega)]; omega
    · rw [if_pos trivial]; omega
    · rw [if_neg (by omega)]; omega
  · rcases (show i = 0 ∨ i = 1 ∨ i = 2 by omega) with rfl | rfl | rfl <;> simp only [show (9 : Int) ^ 0 = 1 from rfl, show (9 : Int) ^ 1 = 9 from rfl, show (9 : Int) ^ 2 = 81 from rfl]
    · rw [if_neg (by omega)]; omega
    · rw [if_neg (by omega)]; omega
    · rw [if_pos trivial]; omega
theorem ir_ix {v : Int → Int} {c : Nat → Int} {m j : Nat} (hm : m ≤ 3) (hj : j < m) {w ch : Int} (hw : 0 ≤ w ∧ w < 9 ^ m) (hc : 0 ≤ ch ∧ ch < 9) (h : irP v c m w) (h2 : cgB v (c j) ch = true) : irP v c m (w - c9 w j * 9 ^ j + ch * 9 ^ j) := fun i hi => by
  rw [(c9_ix hm hj hw hc).2 i hi]
  split
  · rename_i e
    rw [e]
    exact h2
  · exact h i hi
/-- a row that can be, and rests -/
def rqP (v : Int → Int) (c : Nat → Int) (m : Nat) (V : Int → Nat → Int) (w : Int) : Prop := ∀ j : Nat, j < m → ∀ ch : Int, 0 ≤ ch → ch < 9 → cgB v (c j) ch = true → V w j ≤ V (w - c9 w j * 9 ^ j + ch * 9 ^ j) j
noncomputable def rqB (v : Int → Int) (c : Nat → Int) (m : Nat) (V : Int → Nat → Int) (w : Int) : Bool := @decide (rqP v c m V w) (Classical.propDecidable _)
theorem rqB_t {v : Int → Int} {c : Nat → Int} {m : Nat} {V : Int → Nat → Int} {w : Int} (h : rqP v c m V w) : rqB v c m V w = true := @decide_eq_true _ (Classical.propDecidable _) h
theorem rqB_f {v : Int → Int} {c : Nat → Int} {m : Nat} {V : Int → Nat → Int} {w : Int} (h : ¬ rqP v c m V w) : rqB v c m V w = false := @decide_eq_false _ (Classical.propDecidable _) h
theorem rqB_i {v : Int → Int} {c : Nat → Int} {m : Nat} {V : Int → Nat → Int} {w : Int} (h : rqB v c m V w = true) : rqP v c m V w := @of_decide_eq_true _ (Classical.propDecidable _) h
theorem rqB_n {v : Int → Int} {c : Nat → Int} {m : Nat} {V : Int → Nat → Int} {w : Int} (h : rqB v c m V w = false) : ¬ rqP v c m V w := @of_decide_eq_false _ (Classical.propDecidable _) h
noncomputable def rqC (v : Int → Int) (c : Nat → Int) (m : Nat) (V : Int → Nat → Int) : Nat → Int
  | 0 => 0
  | k + 1 => rqC v c m V k + bI (irB v c m k && rqB v c m V k)
theorem rqC_b (v : Int → Int) (c : Nat → Int) (m : Nat) (V : Int → Nat → Int) : ∀ k : Nat, 0 ≤ rqC v c m V k ∧ rqC v c m V k ≤ k
  | 0 => ⟨Int.le_refl _, Int.le_refl _⟩
  | k + 1 => by
    have h := rqC_b v c m V k
    have h2 := bI_01 (irB v c m k && rqB v c m V k)
    simp only [rqC]
    omega
set_option maxHeartbeats 4000000 in
set_option maxRecDepth 100000 in
theorem l_X7_rsI {S : mx_Sc} {f : Bool} {M : Nat → Int → Int} {L : Nat → Nat → Int64} {Rf : Nat → Nat → Option Nat} (hR : mx_rf Rf) (hT : sp_tok (sp_tR M)) (hv : sp_vok (sp_tR M) (M 63)) {m : Nat} {c : Nat → Int} (hm3 : m ≤ 3) (hmm : M 48 38 = (m : Int)) (hch : ∀ j : Nat, j < m → M 73 ((m : Int) - 1 - (j : Int)) = c j ∧ 0 ≤ c j ∧ c j < M 53 1) {V : Int → Nat → Int} (hV : ∀ w, 0 ≤ w → w < 9 ^ m → irP (M 63) c m w → ∀ j : Nat, j < m → M 74 (3 * w + ((m : Int) - 1 - (j : Int))) = V w j ∧ 0 ≤ V w j ∧ V w j ≤ 1200) {w : Int} (hw : 0 ≤ w ∧ w < 9 ^ m) (hir : irP (M 63) c m w) {j : Nat} (hj : j < m) : ∀ (kk : Nat) (ch : Int), 0 ≤ ch → ch + kk = 9 → (∀ d, 0 ≤ d → d < ch → cgB (M 63) (c j) d = true → V w j ≤ V (w - c9 w j * 9 ^ j + d * 9 ^ j) j) → ((∀ d, 0 ≤ d → d < 9 → cgB (M 63) (c j) d = true → V w j ≤ V (w - c9 w j * 9 ^ j + d * 9 ^ j) j) → ∀ o5, mx_E S mX7_rests 96 [some (.ref 48), some (.int (iI w)), some (.int (iI ((m : Int) - 1 - (j : Int)))), some (.int (iI ((9 : Int) ^ j))), some (.int (iI (w - c9 w j * 9 ^ j))), o5] [] (f, mx_SH, M, L, Rf) 0 0 (fun v9 h9 => h9 = (f, mx_SH, M, L, Rf) ∧ v9 = some (.int (iI (bI (rqB (M 63) c m V w))))) (fun _ _ => False)) → mx_E S mX7_rests 37 [some (.ref 48), some (.int (iI w)), some (.int (iI ((m : Int) - 1 - (j : Int)))), some (.int (iI ((9 : Int) ^ j))), some (.int (iI (w - c9 w j * 9 ^ j))), some (.int (iI ch))] [] (f, mx_SH, M, L, Rf) 0 0 (fun v9 h9 => h9 = (f, mx_SH, M, L, Rf) ∧ v9 = some (.int (iI (bI (rqB (M 63) c m V w))))) (fun _ _ => False) := by
  intro kk
  induction kk with
  | zero => 
    intro ch g0 g1 q1 hK
    have ec : ch = 9 := by omega
    subst ec
    refine ms_iload dX7_rests_37 rfl ?_
    refine mi_bipush dX7_rests_39 (by decide) ?_
    refine mi_icmp_ge (tgt := 96) dX7_rests_41 (by decide) (fun c_41 => ?_) (fun c_41 => ?_)
    · exact hK q1 _
    · exact absurd c_41 (by omega)
  | succ kk ih => 
    intro ch g0 g1 q1 hK
    have hT0 : 1 ≤ M 53 0 ∧ M 53 0 ≤ 30 := hT.1
    have hT1 : 0 ≤ M 53 1 ∧ M 53 1 ≤ 6 := hT.2.1
    have hT5 : 1 ≤ M 53 5 ∧ M 53 5 ≤ 99 := hT.2.2.2.2.2.1
    have hT6 : 0 ≤ M 53 6 ∧ M 53 6 ≤ 10 := hT.2.2.2.2.2.2.1
    have h9 := p9_3 hm3
    have hcj := hch j hj
    have hix := c9_ix hm3 hj hw (ch := ch) ⟨g0, by omega⟩
    have hVw := hV w hw.1 hw.2 hir j hj
    refine ms_iload dX7_rests_37 rfl ?_
    refine mi_bipush dX7_rests_39 (by decide) ?_
    refine mi_icmp_ge (tgt := 96) dX7_rests_41 (by decide) (fun c_41 => ?_) (fun c_41 => ?_)
    · exact absurd c_41 (by omega)
    · refine ms_aload_n dX7_rests_44 rfl ?_
      refine ms_aload_n dX7_rests_45 rfl ?_
      refine ms_getR dX7_rests_46 (fo_X7_107 rfl) (by first | rfl | assumption) rfl (by first | assumption | exact rf_48_36 hR ) ?_
      refine ms_iload_n dX7_rests_49 rfl ?_
      refine ms_iald dX7_rests_50 (by first | rfl | assumption) ?_
      refine ms_iload dX7_rests_51 rfl ?_
      rw [hcj.1]
      refine ms_callV2 (ci := 7) (r := (RX7, TX7, 48)) dX7_rests_53 cv_X7_rests_X7_canGive (k_X7_canGive hR hT hv (l := c j) (c := ch) ⟨hcj.2.1, hcj.2.2⟩ (by omega)) rfl rfl (by first | rfl | assumption) (Nat.le_of_ble_eq_true rfl) rfl (fun _ _ z => z.elim) (fun v9 h9 hp9 => ?_)
      obtain ⟨rfl, rfl⟩ := hp9
      refine mi_if_eqB (tgt := 90) dX7_rests_56 (by decide) (fun c_56 => ?_) (fun c_56 => ?_)
      · refine mi_iinc dX7_rests_90 rfl (by decide) rfl ?_
        dsimp only [List.set, Nat.reduceAdd]
        refine ms_goto (tgt := 37) dX7_rests_93 (by decide) ?_
        exact ih (ch + 1) (by omega) (by omega) (fun d d0 d1 d2 => by by_cases e : d = ch; (subst e; rw [c_56] at d2; cases d2); exact q1 d d0 (by omega) d2) hK
      · have hV2 := hV _ hix.1.1 hix.1.2 (ir_ix hm3 hj hw ⟨g0, by omega⟩ hir c_56) j hj
        refine ms_aload_n dX7_rests_59 rfl ?_
        refine ms_getR dX7_rests_60 (fo_X7_110 rfl) (by first | rfl | assumption) rfl (by first | assumption | exact rf_48_37 hR ) ?_
        refine mi_iconst dX7_rests_63 ?_
        refine ms_iload dX7_rests_64 rfl ?_
        refine ms_iload dX7_rests_66 rfl ?_
        refine ms_iload_n dX7_rests_68 rfl ?_
        refine mi_imul dX7_rests_69 ?_
        refine mi_iadd dX7_rests_70 ?_
        refine mi_imul dX7_rests_71 ?_
        refine ms_iload_n dX7_rests_72 rfl ?_
        refine mi_iadd dX7_rests_73 ?_
        refine ms_iald dX7_rests_74 (by first | rfl | assumption) ?_
        refine ms_aload_n dX7_rests_75 rfl ?_
        refine ms_getR dX7_rests_76 (fo_X7_110 rfl) (by first | rfl | assumption) rfl (by first | assumption | exact rf_48_37 hR ) ?_
        refine mi_iconst dX7_rests_79 ?_
        refine ms_iload_n dX7_rests_80 rfl ?_
        refine mi_imul dX7_rests_81 ?_
        refine ms_iload_n dX7_rests_82 rfl ?_
        refine mi_iadd dX7_rests_83 ?_
        refine ms_iald dX7_rests_84 (by first | rfl | assumption) ?_
        rw [hV2.1, hVw.1]
        refine mi_icmp_ge (tgt := 90) dX7_rests_85 (by decide) (fun c_85 => ?_) (fun c_85 => ?_)
        · refine mi_iinc dX7_rests_90 rfl (by decide) rfl ?_
          dsimp only [List.set, Nat.reduceAdd]
          refine ms_goto (tgt := 37) dX7_rests_93 (by decide) ?_
          exact ih (ch + 1) (by omega) (by omega) (fun d d0 d1 d2 => by by_cases e : d = ch; (subst e; omega); exact q1 d d0 (by omega) d2) hK
        · refine mi_iconst dX7_rests_88 ?_
          refine ms_retZ dX7_rests_89 rfl (by first | exact Or.inl rfl | exact Or.inr rfl) ⟨rfl, by rw [rqB_f (fun z => by have := z j hj ch g0 (by omega) c_56; omega)]; rfl⟩ (by simp)

set_option maxHeartbeats 4000000 in
set_option maxRecDepth 100000 in
theorem l_X7_rsO {S : mx_Sc} {f : Bool} {M : Nat → Int → Int} {L : Nat → Nat → Int64} {Rf : Nat → Nat → Option Nat} (hR : mx_rf Rf) (hT : sp_tok (sp_tR M)) (hv : sp_vok (sp_tR M) (M 63)) {m : Nat} {c : Nat → Int} (hm3 : m ≤ 3) (hmm : M 48 38 = (m : Int)) (hch : ∀ j : Nat, j < m → M 73 ((m : Int) - 1 - (j : Int)) = c j ∧ 0 ≤ c j ∧ c j < M 53 1) {V : Int → Nat → Int} (hV : ∀ w, 0 ≤ w → w < 9 ^ m → irP (M 63) c m w → ∀ j : Nat, j < m → M 74 (3 * w + ((m : Int) - 1 - (j : Int))) = V w j ∧ 0 ≤ V w j ∧ V w j ≤ 1200) {w : Int} (hw : 0 ≤ w ∧ w < 9 ^ m) (hir : irP (M 63) c m w) : ∀ (kk : Nat) (i : Nat) (o3 o4 o5 : Option Value), i + kk = m → (∀ j : Nat, m - i ≤ j → j < m → ∀ d, 0 ≤ d → d < 9 → cgB (M 63) (c j) d = true → V w j ≤ V (w - c9 w j * 9 ^ j + d * 9 ^ j) j) → mx_E S mX7_rests 2 [some (.ref 48), some (.int (iI w)), some (.int (iI (i : Int))), o3, o4, o5] [] (f, mx_SH, M, L, Rf) 0 0 (fun v9 h9 => h9 = (f, mx_SH, M, L, Rf) ∧ v9 = some (.int (iI (bI (rqB (M 63) c m V w))))) (fun _ _ => False) := by
  intro kk
  induction kk with
  | zero => 
    intro i o3 o4 o5 g1 q1
    have ei : i = m := by omega
    subst ei
    refine ms_iload_n dX7_rests_2 rfl ?_
    refine ms_aload_n dX7_rests_3 rfl ?_
    refine ms_getI (z := 38) dX7_rests_4 (fo_X7_329 rfl) (by first | rfl | assumption) rfl rfl ?_
    refine mi_icmp_ge (tgt := 102) dX7_rests_7 (by decide) (fun c_7 => ?_) (fun c_7 => ?_)
    · refine mi_iconst dX7_rests_102 ?_
      refine ms_retZ dX7_rests_103 rfl (by first | exact Or.inl rfl | exact Or.inr rfl) ⟨rfl, by rw [rqB_t (fun j hj => q1 j (by omega) hj)]; rfl⟩ (by simp)
    · exact absurd c_7 (by omega)
  | succ kk ih => 
    intro i o3 o4 o5 g1 q1
    have hT0 : 1 ≤ M 53 0 ∧ M 53 0 ≤ 30 := hT.1
    have hT1 : 0 ≤ M 53 1 ∧ M 53 1 ≤ 6 := hT.2.1
    have hT5 : 1 ≤ M 53 5 ∧ M 53 5 ≤ 99 := hT.2.2.2.2.2.1
    have hT6 : 0 ≤ M 53 6 ∧ M 53 6 ≤ 10 := hT.2.2.2.2.2.2.1
    have h9 := p9_3 hm3
    have h9k := p9_3 (m := m - 1 - i) (by omega)
    have hdb := dv_b hw.1 (m - 1 - i)
    have em : M 48 38 - 1 - (i : Int) = ((m - 1 - i : Nat) : Int) := by omega
    refine ms_iload_n dX7_rests_2 rfl ?_
    refine ms_aload_n dX7_rests_3 rfl ?_
    refine ms_getI (z := 38) dX7_rests_4 (fo_X7_329 rfl) (by first | rfl | assumption) rfl rfl ?_
    refine mi_icmp_ge (tgt := 102) dX7_rests_7 (by decide) (fun c_7 => ?_) (fun c_7 => ?_)
    · exact absurd c_7 (by omega)
    · refine ms_aload_n dX7_rests_10 rfl ?_
      refine ms_getI (z := 38) dX7_rests_11 (fo_X7_329 rfl) (by first | rfl | assumption) rfl rfl ?_
      refine mi_iconst dX7_rests_14 ?_
      refine mi_isub dX7_rests_15 ?_
      refine ms_iload_n dX7_rests_16 rfl ?_
      refine mi_isub dX7_rests_17 ?_
      rw [em]
      refine ms_callS1 dX7_rests_18 cv_X7_rests_X7_powerOf9 (k_X7_powerOf9 (m := m - 1 - i) (by omega)) (Nat.le_of_ble_eq_true rfl) rfl (fun _ _ z => z.elim) (fun v9 h9 hp9 => ?_)
      obtain ⟨rfl, rfl⟩ := hp9
      refine ms_istore_n dX7_rests_21 (by decide) rfl ?_
      dsimp only [List.set, Nat.reduceAdd]
      refine ms_iload_n dX7_rests_22 rfl ?_
      refine ms_iload_n dX7_rests_23 rfl ?_
      refine ms_iload_n dX7_rests_24 rfl ?_
      refine mi_idiv dX7_rests_25 ?_
      refine mi_bipush dX7_rests_26 (by decide) ?_
      refine mi_irem dX7_rests_28 ?_
      refine ms_iload_n dX7_rests_29 rfl ?_
      refine mi_imul dX7_rests_30 ?_
      refine mi_isub dX7_rests_31 ?_
      refine ms_istore dX7_rests_32 (by decide) rfl ?_
      dsimp only [List.set, Nat.reduceAdd]
      refine mi_iconst dX7_rests_34 ?_
      refine ms_istore dX7_rests_35 (by decide) rfl ?_
      dsimp only [List.set, Nat.reduceAdd]
      have i9 := l_X7_rsI (S := S) (f := f) (L := L) hR hT hv hm3 hmm hch hV hw hir (j := m - 1 - i) (by omega) 9 0 (by omega) (by omega) (fun d d0 d1 => by omega) (fun hall o5 => ?_)
      · rw [show (m : Int) - 1 - ((m - 1 - i : Nat) : Int) = (i : Int) by omega] at i9
        exact i9
      · rw [show (m : Int) - 1 - ((m - 1 - i : Nat) : Int) = (i : Int) by omega]
        refine mi_iinc dX7_rests_96 rfl (by decide) rfl ?_
        dsimp only [List.set, Nat.reduceAdd]
        refine ms_goto (tgt := 2) dX7_rests_99 (by decide) ?_
        exact ih (i + 1) _ _ _ (by omega) (fun j j0 j1 d d0 d1 d2 => by by_cases e : j = m - 1 - i; (subst e; exact hall d d0 d1 d2); exact q1 j (by omega) j1 d d0 d1 d2)

set_option maxHeartbeats 4000000 in
set_option maxRecDepth 100000 in
theorem k_X7_rests {S : mx_Sc} {f : Bool} {M : Nat → Int → Int} {L : Nat → Nat → Int64} {Rf : Nat → Nat → Option Nat} (hR : mx_rf Rf) (hT : sp_tok (sp_tR M)) (hv : sp_vok (sp_tR M) (M 63)) {m : Nat} {c : Nat → Int} (hm3 : m ≤ 3) (hmm : M 48 38 = (m : Int)) (hch : ∀ j : Nat, j < m → M 73 ((m : Int) - 1 - (j : Int)) = c j ∧ 0 ≤ c j ∧ c j < M 53 1) {V : Int → Nat → Int} (hV : ∀ w, 0 ≤ w → w < 9 ^ m → irP (M 63) c m w → ∀ j : Nat, j < m → M 74 (3 * w + ((m : Int) - 1 - (j : Int))) = V w j ∧ 0 ≤ V w j ∧ V w j ≤ 1200) {w : Int} (hw : 0 ≤ w ∧ w < 9 ^ m) (hir : irP (M 63) c m w) : mx_C S mX7_rests [.ref 48, .int (iI w)] (f, mx_SH, M, L, Rf) 0 0 (fun v9 h9 => h9 = (f, mx_SH, M, L, Rf) ∧ v9 = some (.int (iI (bI (rqB (M 63) c m V w))))) (fun _ _ => False) := by
  refine mx_C_of (by decide) (by simp [Value.category]) (Nat.le_of_ble_eq_true rfl) rfl ?_
  show mx_E S mX7_rests 0 [some (.ref 48), some (.int (iI w)), none, none, none, none] [] (f, mx_SH, M, L, Rf) 0 0 _ _
  refine mi_iconst dX7_rests_0 ?_
  refine ms_istore_n dX7_rests_1 (by decide) rfl ?_
  dsimp only [List.set, Nat.reduceAdd]
  exact l_X7_rsO (S := S) (f := f) (L := L) hR hT hv hm3 hmm hch hV hw hir m 0 none none none (by omega) (fun j j0 j1 => by omega)

