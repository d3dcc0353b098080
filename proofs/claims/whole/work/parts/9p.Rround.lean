set_option maxHeartbeats 4000000 in
set_option maxRecDepth 100000 in
theorem l_X7_as {S : mx_Sc} {f : Bool} {M : Nat → Int → Int} {L : Nat → Nat → Int64} {Rf : Nat → Nat → Option Nat} (hR : mx_rf Rf) {a b : Int} (ha : 0 ≤ a ∧ a ≤ 1000) (hb : 0 ≤ b ∧ b ≤ 1000) (hoa : 0 ≤ M 72 a ∧ M 72 a < 64) (hob : 0 ≤ M 72 b ∧ M 72 b < 64) (hra : ∀ i, 0 ≤ i → i < 18 → -1000 ≤ M 71 (18 * a + i) ∧ M 71 (18 * a + i) ≤ 1000) (hrb : ∀ i, 0 ≤ i → i < 18 → -1000 ≤ M 71 (18 * b + i) ∧ M 71 (18 * b + i) ≤ 1000) (h72 : M 72 a = M 72 b) : ∀ (kk : Nat) (i : Int), 0 ≤ i → i + kk = 18 → (∀ j, 0 ≤ j → j < i → M 71 (18 * a + j) = M 71 (18 * b + j)) → mx_E S mX7_isAs 24 [some (.ref 48), some (.int (iI a)), some (.int (iI b)), some (.int (iI 1)), some (.int (iI i))] [] (f, mx_SH, M, L, Rf) 0 0 (fun v9 h9 => h9 = (f, mx_SH, M, L, Rf) ∧ ∃ c : Bool, v9 = some (.int (iI (bI c))) ∧ (c = true ↔ (M 72 a = M 72 b ∧ ∀ i, 0 ≤ i → i < 18 → M 71 (18 * a + i) = M 71 (18 * b + i)))) (fun _ _ => False) := by
  intro kk
  induction kk with
  | zero => 
    intro i g0 g1 q1
    refine ms_iload dX7_isAs_24 rfl ?_
    refine mi_bipush dX7_isAs_26 (by decide) ?_
    refine mi_icmp_ge (tgt := 74) dX7_isAs_28 (by decide) (fun c_28 => ?_) (fun c_28 => ?_)
    · refine ms_iload_n dX7_isAs_74 rfl ?_
      refine ms_retZ dX7_isAs_75 rfl (by first | exact Or.inl rfl | exact Or.inr rfl) ⟨rfl, true, rfl, by simp only [true_iff]; exact ⟨h72, fun j j0 j1 => q1 j j0 (by omega)⟩⟩ (by simp)
    · exact absurd c_28 (by omega)
  | succ kk ih => 
    intro i g0 g1 q1
    have h1 := hra i (by omega) (by omega)
    have h2 := hrb i (by omega) (by omega)
    refine ms_iload dX7_isAs_24 rfl ?_
    refine mi_bipush dX7_isAs_26 (by decide) ?_
    refine mi_icmp_ge (tgt := 74) dX7_isAs_28 (by decide) (fun c_28 => ?_) (fun c_28 => ?_)
    · exact absurd c_28 (by omega)
    · refine ms_iload_n dX7_isAs_31 rfl ?_
      refine mi_if_eq (tgt := 74) dX7_isAs_32 (by decide) (fun c_32 => ?_) (fun c_32 => ?_)
      · exact absurd c_32 (by omega)
      · refine ms_aload_n dX7_isAs_35 rfl ?_
        refine ms_getR dX7_isAs_36 (fo_X7_101 rfl) (by first | rfl | assumption) rfl (by first | assumption | exact rf_48_34 hR ) ?_
        refine mi_bipush dX7_isAs_39 (by decide) ?_
        refine ms_iload_n dX7_isAs_41 rfl ?_
        refine mi_imul dX7_isAs_42 ?_
        refine ms_iload dX7_isAs_43 rfl ?_
        refine mi_iadd dX7_isAs_45 ?_
        refine ms_iald dX7_isAs_46 (by first | rfl | assumption) ?_
        refine ms_aload_n dX7_isAs_47 rfl ?_
        refine ms_getR dX7_isAs_48 (fo_X7_101 rfl) (by first | rfl | assumption) rfl (by first | assumption | exact rf_48_34 hR ) ?_
        refine mi_bipush dX7_isAs_51 (by decide) ?_
        refine ms_iload_n dX7_isAs_53 rfl ?_
        refine mi_imul dX7_isAs_54 ?_
        refine ms_iload dX7_isAs_55 rfl ?_
        refine mi_iadd dX7_isAs_57 ?_
        refine ms_iald dX7_isAs_58 (by first | rfl | assumption) ?_
        refine mi_icmp_ne (tgt := 66) dX7_isAs_59 (by decide) (fun c_59 => ?_) (fun c_59 => ?_)
        · refine mi_iconst dX7_isAs_66 ?_
          refine ms_istore_n dX7_isAs_67 (by decide) rfl ?_
          dsimp only [List.set, Nat.reduceAdd]
          refine mi_iinc dX7_isAs_68 rfl (by decide) rfl ?_
          dsimp only [List.set, Nat.reduceAdd]
          refine ms_goto (tgt := 24) dX7_isAs_71 (by decide) ?_
          refine ms_iload dX7_isAs_24 rfl ?_
          refine mi_bipush dX7_isAs_26 (by decide) ?_
          refine mi_icmp_ge (tgt := 74) dX7_isAs_28 (by decide) (fun c_28 => ?_) (fun c_28 => ?_)
          · refine ms_iload_n dX7_isAs_74 rfl ?_
            refine ms_retZ dX7_isAs_75 rfl (by first | exact Or.inl rfl | exact Or.inr rfl) ⟨rfl, false, rfl, by simp only [Bool.false_eq_true, false_iff]; exact fun z => c_59 (z.2 i (by omega) (by omega))⟩ (by simp)
          · refine ms_iload_n dX7_isAs_31 rfl ?_
            refine mi_if_eq (tgt := 74) dX7_isAs_32 (by decide) (fun c_32 => ?_) (fun c_32 => ?_)
            · refine ms_iload_n dX7_isAs_74 rfl ?_
              refine ms_retZ dX7_isAs_75 rfl (by first | exact Or.inl rfl | exact Or.inr rfl) ⟨rfl, false, rfl, by simp only [Bool.false_eq_true, false_iff]; exact fun z => c_59 (z.2 i (by omega) (by omega))⟩ (by simp)
            · exact absurd rfl c_32
        · refine mi_iconst dX7_isAs_62 ?_
          refine ms_goto (tgt := 67) dX7_isAs_63 (by decide) ?_
          refine ms_istore_n dX7_isAs_67 (by decide) rfl ?_
          dsimp only [List.set, Nat.reduceAdd]
          refine mi_iinc dX7_isAs_68 rfl (by decide) rfl ?_
          dsimp only [List.set, Nat.reduceAdd]
          refine ms_goto (tgt := 24) dX7_isAs_71 (by decide) ?_
          exact ih (i + 1) (by omega) (by omega) (fun j j0 j1 => by by_cases e : j = i; (rw [e]; exact c_59); exact q1 j j0 (by omega))

set_option maxHeartbeats 4000000 in
set_option maxRecDepth 100000 in
theorem k_X7_isAs {S : mx_Sc} {f : Bool} {M : Nat → Int → Int} {L : Nat → Nat → Int64} {Rf : Nat → Nat → Option Nat} (hR : mx_rf Rf) {a b : Int} (ha : 0 ≤ a ∧ a ≤ 1000) (hb : 0 ≤ b ∧ b ≤ 1000) (hoa : 0 ≤ M 72 a ∧ M 72 a < 64) (hob : 0 ≤ M 72 b ∧ M 72 b < 64) (hra : ∀ i, 0 ≤ i → i < 18 → -1000 ≤ M 71 (18 * a + i) ∧ M 71 (18 * a + i) ≤ 1000) (hrb : ∀ i, 0 ≤ i → i < 18 → -1000 ≤ M 71 (18 * b + i) ∧ M 71 (18 * b + i) ≤ 1000) : mx_C S mX7_isAs [.ref 48, .int (iI a), .int (iI b)] (f, mx_SH, M, L, Rf) 0 0 (fun v9 h9 => h9 = (f, mx_SH, M, L, Rf) ∧ ∃ c : Bool, v9 = some (.int (iI (bI c))) ∧ (c = true ↔ (M 72 a = M 72 b ∧ ∀ i, 0 ≤ i → i < 18 → M 71 (18 * a + i) = M 71 (18 * b + i)))) (fun _ _ => False) := by
  refine mx_C_of (by decide) (by simp [Value.category]) (Nat.le_of_ble_eq_true rfl) rfl ?_
  show mx_E S mX7_isAs 0 [some (.ref 48), some (.int (iI a)), some (.int (iI b)), none, none] [] (f, mx_SH, M, L, Rf) 0 0 _ _
  refine ms_aload_n dX7_isAs_0 rfl ?_
  refine ms_getR dX7_isAs_1 (fo_X7_104 rfl) (by first | rfl | assumption) rfl (by first | assumption | exact rf_48_35 hR ) ?_
  refine ms_iload_n dX7_isAs_4 rfl ?_
  refine ms_iald dX7_isAs_5 (by first | rfl | assumption) ?_
  refine ms_aload_n dX7_isAs_6 rfl ?_
  refine ms_getR dX7_isAs_7 (fo_X7_104 rfl) (by first | rfl | assumption) rfl (by first | assumption | exact rf_48_35 hR ) ?_
  refine ms_iload_n dX7_isAs_10 rfl ?_
  refine ms_iald dX7_isAs_11 (by first | rfl | assumption) ?_
  refine mi_icmp_ne (tgt := 19) dX7_isAs_12 (by decide) (fun c_12 => ?_) (fun c_12 => ?_)
  · refine mi_iconst dX7_isAs_19 ?_
    refine ms_istore_n dX7_isAs_20 (by decide) rfl ?_
    dsimp only [List.set, Nat.reduceAdd]
    refine mi_iconst dX7_isAs_21 ?_
    refine ms_istore dX7_isAs_22 (by decide) rfl ?_
    dsimp only [List.set, Nat.reduceAdd]
    refine ms_iload dX7_isAs_24 rfl ?_
    refine mi_bipush dX7_isAs_26 (by decide) ?_
    refine mi_icmp_ge (tgt := 74) dX7_isAs_28 (by decide) (fun c_28 => ?_) (fun c_28 => ?_)
    · refine ms_iload_n dX7_isAs_74 rfl ?_
      refine ms_retZ dX7_isAs_75 rfl (by first | exact Or.inl rfl | exact Or.inr rfl) ⟨rfl, false, rfl, by simp only [Bool.false_eq_true, false_iff]; exact fun z => c_12 z.1⟩ (by simp)
    · refine ms_iload_n dX7_isAs_31 rfl ?_
      refine mi_if_eq (tgt := 74) dX7_isAs_32 (by decide) (fun c_32 => ?_) (fun c_32 => ?_)
      · refine ms_iload_n dX7_isAs_74 rfl ?_
        refine ms_retZ dX7_isAs_75 rfl (by first | exact Or.inl rfl | exact Or.inr rfl) ⟨rfl, false, rfl, by simp only [Bool.false_eq_true, false_iff]; exact fun z => c_12 z.1⟩ (by simp)
      · exact absurd rfl c_32
  · refine mi_iconst dX7_isAs_15 ?_
    refine ms_goto (tgt := 20) dX7_isAs_16 (by decide) ?_
    refine ms_istore_n dX7_isAs_20 (by decide) rfl ?_
    dsimp only [List.set, Nat.reduceAdd]
    refine mi_iconst dX7_isAs_21 ?_
    refine ms_istore dX7_isAs_22 (by decide) rfl ?_
    dsimp only [List.set, Nat.reduceAdd]
    exact l_X7_as (S := S) (f := f) (L := L) hR ha hb hoa hob hra hrb c_12 18 0 (by omega) (by omega) (fun j j0 j1 => by omega)

theorem run_jk {t : sp_T} (hT : sp_tok t) {lk : Int → Int} {hf ng : Bool} {n : Int} {v : Int → Int} {i : Int} (h0 : 3 * t.1 1 ≤ i) (h1 : i < 18) : ∀ k : Nat, sp_run t lk hf ng n k v i = v i
  | 0 => rfl
  | k + 1 => by
    simp only [sp_run]
    unfold sp_night
    rw [wed_oil hT h1]
    unfold sp_mv
    rw [if_neg (by omega)]
    exact run_jk hT h0 h1 k
theorem ob_ext0 : ∀ a b : Fin 64, (∀ l : Fin 6, ob (a.val : Int) (l.val : Int) = ob (b.val : Int) (l.val : Int)) → (a.val : Int) = (b.val : Int) := by decide +kernel
theorem ob_ext {a b : Int} (ha : 0 ≤ a ∧ a < 64) (hb : 0 ≤ b ∧ b < 64) (h : ∀ l, 0 ≤ l → l < 6 → ob a l = ob b l) : a = b := by
  have h9 := ob_ext0 ⟨a.toNat, by omega⟩ ⟨b.toNat, by omega⟩ (fun l => by
    simp only [show ((a.toNat : Nat) : Int) = a by omega, show ((b.toNat : Nat) : Int) = b by omega]
    exact h _ (by omega) (by omega))
  simp only [show ((a.toNat : Nat) : Int) = a by omega, show ((b.toNat : Nat) : Int) = b by omega] at h9
  exact h9
/-- the stored dusks tell whether two are the same -/
theorem sm_iff {t : sp_T} (hT : sp_tok t) {lk : Int → Int} (hlk : sp_lok t lk) {n : Int} {v U C O : Int → Int} (hU : qv U v) {a b : Int} (ha : 0 ≤ 100 - n + a) (hb : 0 ≤ 100 - n + b) (hCa : ∀ i, 0 ≤ i → i < 18 → C (18 * a + i) = sp_run t lk false false n (100 - n + a).toNat U i) (hCb : ∀ i, 0 ≤ i → i < 18 → C (18 * b + i) = sp_run t lk false false n (100 - n + b).toNat U i) (hOa : O a = ooN (sp_run t lk false false n (100 - n + a).toNat U) (t.1 1).toNat) (hOb : O b = ooN (sp_run t lk false false n (100 - n + b).toNat U) (t.1 1).toNat) : (O a = O b ∧ ∀ i, 0 ≤ i → i < 18 → C (18 * a + i) = C (18 * b + i)) ↔ smP t lk n v a b := by
  have h1 := hT.2.1
  have qa := hU.run hT hlk false false n (100 - n + a).toNat
  have qb := hU.run hT hlk false false n (100 - n + b).toNat
  have oa := ooN_b (sp_run t lk false false n (100 - n + a).toNat U) (t.1 1).toNat (by omega)
  have ob' := ooN_b (sp_run t lk false false n (100 - n + b).toNat U) (t.1 1).toNat (by omega)
  unfold smP rr
  constructor
  · rintro ⟨z1, z2⟩
    refine ⟨fun l l0 l1 => ?_, fun i i0 i1 => ?_⟩
    · rw [← qa.out (a := l) (by omega), ← qb.out (a := l) (by omega)]
      have e1 := oa.2 l l0 (by omega)
      have e2 := ob'.2 l l0 (by omega)
      rw [← hOa, z1, hOb, e2, if_pos (by omega), if_pos (by omega)] at e1
      cases h3 : sp_out (sp_run t lk false false n (100 - n + a).toNat U) l <;> cases h4 : sp_out (sp_run t lk false false n (100 - n + b).toNat U) l <;> simp [h3, h4, bI] at e1 ⊢
    · have h9 := z2 i i0 (by omega)
      rw [hCa i i0 (by omega), hCb i i0 (by omega), qa i i0 (by omega), qb i i0 (by omega)] at h9
      exact h9
  · rintro ⟨z1, z2⟩
    refine ⟨?_, fun i i0 i1 => ?_⟩
    · rw [hOa, hOb]
      refine ob_ext oa.1 ob'.1 (fun l l0 l1 => ?_)
      rw [oa.2 l l0 l1, ob'.2 l l0 l1]
      by_cases e : l < ((t.1 1).toNat : Int)
      · rw [if_pos e, if_pos e, qa.out (a := l) (by omega), qb.out (a := l) (by omega), z1 l l0 (by omega)]
      · rw [if_neg e, if_neg e]
    · rw [hCa i i0 i1, hCb i i0 i1]
      by_cases e : i < 3 * t.1 1
      · rw [qa i i0 (by omega), qb i i0 (by omega)]
        exact z2 i i0 e
      · rw [run_jk hT (by omega) i1, run_jk hT (by omega) i1]
set_option maxHeartbeats 4000000 in
set_option maxRecDepth 100000 in
theorem l_X7_rbC {S : mx_Sc} {f : Bool} {M : Nat → Int → Int} {L : Nat → Nat → Int64} {Rf : Nat → Nat → Option Nat} (hR : mx_rf Rf) {P : Option Value → mx_H → Prop} {PX : String → mx_H → Prop} {p d : Int} (hd : 0 ≤ d ∧ d ≤ 1000) : ∀ (kk : Nat) (i : Int) (N : Nat → Int → Int), 0 ≤ i → i + kk = 18 → (∀ x, x ≠ 71 → N x = M x) → N 71 = ic (M 64) (M 71) 0 (18 * d) i → (∀ (N : Nat → Int → Int) (i : Int), (∀ x, x ≠ 71 → N x = M x) → N 71 = ic (M 64) (M 71) 0 (18 * d) 18 → mx_E S mX7_roundBy 65 [some (.ref 48), some (.int (iI p)), some (.int (iI d)), some (.int (iI i))] [] (f, mx_SH, N, L, Rf) 0 0 P PX) → mx_E S mX7_roundBy 36 [some (.ref 48), some (.int (iI p)), some (.int (iI d)), some (.int (iI i))] [] (f, mx_SH, N, L, Rf) 0 0 P PX := by
  intro kk
  induction kk with
  | zero => 
    intro i N g0 g1 q1 q2 hK
    refine ms_iload_n dX7_roundBy_36 rfl ?_
    refine mi_bipush dX7_roundBy_37 (by decide) ?_
    refine mi_icmp_ge (tgt := 65) dX7_roundBy_39 (by decide) (fun c_39 => ?_) (fun c_39 => ?_)
    · exact hK N i q1 (by rw [q2, show i = 18 by omega])
    · exact absurd c_39 (by omega)
  | succ kk ih => 
    intro i N g0 g1 q1 q2 hK
    have e64 : N 64 = M 64 := q1 64 (by decide)
    refine ms_iload_n dX7_roundBy_36 rfl ?_
    refine mi_bipush dX7_roundBy_37 (by decide) ?_
    refine mi_icmp_ge (tgt := 65) dX7_roundBy_39 (by decide) (fun c_39 => ?_) (fun c_39 => ?_)
    · exact absurd c_39 (by omega)
    · refine ms_aload_n dX7_roundBy_42 rfl ?_
      refine ms_getR dX7_roundBy_43 (fo_X7_101 rfl) (by first | rfl | assumption) rfl (by first | assumption | exact rf_48_34 hR ) ?_
      refine mi_bipush dX7_roundBy_46 (by decide) ?_
      refine ms_iload_n dX7_roundBy_48 rfl ?_
      refine mi_imul dX7_roundBy_49 ?_
      refine ms_iload_n dX7_roundBy_50 rfl ?_
      refine mi_iadd dX7_roundBy_51 ?_
      refine ms_aload_n dX7_roundBy_52 rfl ?_
      refine ms_getR dX7_roundBy_53 (fo_X7_80 rfl) (by first | rfl | assumption) rfl (by first | assumption | exact rf_48_26 hR ) ?_
      refine ms_iload_n dX7_roundBy_56 rfl ?_
      refine ms_iald dX7_roundBy_57 (by first | rfl | assumption) ?_
      refine ms_iast dX7_roundBy_58 (by first | rfl | assumption) ?_
      refine mi_iinc dX7_roundBy_59 rfl (by decide) rfl ?_
      dsimp only [List.set, Nat.reduceAdd]
      refine ms_goto (tgt := 36) dX7_roundBy_62 (by decide) ?_
      refine ih (i + 1) _ (by omega) (by omega) (fun x hx => by rw [up_n _ _ hx]; exact q1 x hx) ?_ hK
      rw [up_s, e64, q2, ← icx_st (by omega), Int.zero_add]

set_option maxHeartbeats 4000000 in
theorem l_X7_rbB {S : mx_Sc} {f : Bool} {M : Nat → Int → Int} {L : Nat → Nat → Int64} {Rf : Nat → Nat → Option Nat} (hR : mx_rf Rf) {P : Option Value → mx_H → Prop} {PX : String → mx_H → Prop} {p d : Int} (hd : 0 ≤ d ∧ d ≤ 1000) {Q : Int → Prop} (hO : ∀ j, 0 ≤ j → j ≤ d → 0 ≤ M 72 j ∧ M 72 j < 64) (hC : ∀ j, 0 ≤ j → j ≤ d → ∀ i, 0 ≤ i → i < 18 → -1000 ≤ M 71 (18 * j + i) ∧ M 71 (18 * j + i) ≤ 1000) (hQ : ∀ j, 0 ≤ j → j ≤ d → ((M 72 j = M 72 d ∧ ∀ i, 0 ≤ i → i < 18 → M 71 (18 * j + i) = M 71 (18 * d + i)) ↔ Q j)) : ∀ (kk : Nat) (b : Int), -2 ≤ b → b + 2 ≤ d → b < 2 * kk → (d - b) % 2 = 0 → (∀ b2, b < b2 → b2 < d → (d - b2) % 2 = 0 → ¬ Q b2) → ((∀ b2, 0 ≤ b2 → b2 < d → (d - b2) % 2 = 0 → ¬ Q b2) → ∀ b : Int, mx_E S mX7_roundBy 106 [some (.ref 48), some (.int (iI p)), some (.int (iI d)), some (.int (iI b))] [] (f, mx_SH, M, L, Rf) 0 0 P PX) → (∀ b, 0 ≤ b → b < d → (d - b) % 2 = 0 → Q b → (∀ b2, b < b2 → b2 < d → (d - b2) % 2 = 0 → ¬ Q b2) → P (some (.int (iI (d - b)))) (f, mx_SH, M, L, Rf)) → mx_E S mX7_roundBy 83 [some (.ref 48), some (.int (iI p)), some (.int (iI d)), some (.int (iI b))] [] (f, mx_SH, M, L, Rf) 0 0 P PX := by
  intro kk
  induction kk with
  | zero =>
    intro b b0 b1 b2 b3 q1 hK hP
    refine ms_iload_n dX7_roundBy_83 rfl ?_
    refine mi_if_lt (tgt := 106) dX7_roundBy_84 (by decide) (fun c_84 => ?_) (fun c_84 => ?_)
    · exact hK (fun b2 h0 h1 h2 => q1 b2 (by omega) h1 h2) b
    · exact absurd c_84 (by omega)
  | succ kk ih =>
    intro b b0 b1 b2 b3 q1 hK hP
    refine ms_iload_n dX7_roundBy_83 rfl ?_
    refine mi_if_lt (tgt := 106) dX7_roundBy_84 (by decide) (fun c_84 => ?_) (fun c_84 => ?_)
    · exact hK (fun b2 h0 h1 h2 => q1 b2 (by omega) h1 h2) b
    · refine ms_aload_n dX7_roundBy_87 rfl ?_
      refine ms_iload_n dX7_roundBy_88 rfl ?_
      refine ms_iload_n dX7_roundBy_89 rfl ?_
      refine ms_callV2 (ci := 7) (r := (RX7, TX7, 48)) dX7_roundBy_90 cv_X7_roundBy_X7_isAs (k_X7_isAs hR (a := b) (b := d) (by omega) (by omega) (hO b (by omega) (by omega)) (hO d (by omega) (by omega)) (hC b (by omega) (by omega)) (hC d (by omega) (by omega))) rfl rfl (by first | rfl | assumption) (Nat.le_of_ble_eq_true rfl) rfl (fun _ _ z => z.elim) (fun v9 h9 hp9 => ?_)
      obtain ⟨rfl, cc, rfl, hcc⟩ := hp9
      have hqb := hQ b (by omega) (by omega)
      refine mi_if_eqB (tgt := 100) dX7_roundBy_93 (by decide) (fun c_93 => ?_) (fun c_93 => ?_)
      · refine mi_iinc dX7_roundBy_100 rfl (by decide) rfl ?_
        dsimp only [List.set, Nat.reduceAdd]
        refine ms_goto (tgt := 83) dX7_roundBy_103 (by decide) ?_
        exact ih (b + -2) (by omega) (by omega) (by omega) (by omega) (fun b2 h0 h1 h2 => by by_cases e : b2 = b; (subst e; exact fun z => absurd (hcc.mpr (hqb.mpr z)) (by rw [c_93]; decide)); exact q1 b2 (by omega) h1 h2) hK hP
      · refine ms_iload_n dX7_roundBy_96 rfl ?_
        refine ms_iload_n dX7_roundBy_97 rfl ?_
        refine mi_isub dX7_roundBy_98 ?_
        refine ms_ret dX7_roundBy_99 rfl (hP b (by omega) (by omega) b3 (hqb.mp (hcc.mp c_93)) q1) (by simp)
set_option maxHeartbeats 4000000 in
set_option maxRecDepth 100000 in
theorem l_X7_rb {S : mx_Sc} {f : Bool} {M : Nat → Int → Int} {L : Nat → Nat → Int64} {Rf : Nat → Nat → Option Nat} (hR : mx_rf Rf) (hT : sp_tok (sp_tR M)) (hv : sp_vok (sp_tR M) (M 63)) (hlk : sp_lok (sp_tR M) (M 57)) {n : Int} (hn : 0 ≤ n ∧ n ≤ 99) (hnn : M 48 29 = n) {U : Int → Int} (hU : qv U (M 63)) (hJ : ∀ i, 0 ≤ i → i < 18 → -1000 ≤ M 63 i ∧ M 63 i ≤ 1000) : ∀ (kk : Nat) (k : Nat) (N : Nat → Int → Int) (o2 o3 : Option Value), n + k + kk = 1101 → (∀ x, x ≠ 64 → x ≠ 65 → x ≠ 67 → x ≠ 71 → x ≠ 72 → N x = M x) → (nk M → nk N) → N 64 = sp_run (sp_tR M) (M 57) false false n k U → (∀ j, 0 ≤ j → j < n + k - 100 → (∀ i, 0 ≤ i → i < 18 → N 71 (18 * j + i) = sp_run (sp_tR M) (M 57) false false n (100 - n + j).toNat U i) ∧ N 72 j = ooN (sp_run (sp_tR M) (M 57) false false n (100 - n + j).toNat U) (M 53 1).toNat) → noR (sp_tR M) (M 57) n (M 63) (n + k - 100) → mx_E S mX7_roundBy 16 [some (.ref 48), some (.int (iI (n + k))), o2, o3] [] (f, mx_SH, N, L, Rf) 0 0 (fun v9 h9 => ∃ N x w, h9 = (f, mx_SH, N, L, Rf) ∧ (∀ x, x ≠ 64 → x ≠ 65 → x ≠ 67 → x ≠ 71 → x ≠ 72 → N x = M x) ∧ (nk M → nk N) ∧ v9 = some (.int (iI x)) ∧ frP (sp_tR M) (M 57) n (M 63) x w ∧ (x = -1 ∨ qv (N 64) w)) (fun _ _ => False) := by
  intro kk
  induction kk with
  | zero => 
    intro k N o2 o3 g1 q1 q3 q2 q4 q5
    have hT0 : 1 ≤ M 53 0 ∧ M 53 0 ≤ 30 := hT.1
    have hT1 : 0 ≤ M 53 1 ∧ M 53 1 ≤ 6 := hT.2.1
    have hT5 : 1 ≤ M 53 5 ∧ M 53 5 ≤ 99 := hT.2.2.2.2.2.1
    have hT6 : 0 ≤ M 53 6 ∧ M 53 6 ≤ 10 := hT.2.2.2.2.2.2.1
    have eT : sp_tR N = sp_tR M := by simp only [sp_tR, q1 53 (by decide) (by decide) (by decide) (by decide) (by decide), q1 54 (by decide) (by decide) (by decide) (by decide) (by decide), q1 55 (by decide) (by decide) (by decide) (by decide) (by decide), q1 58 (by decide) (by decide) (by decide) (by decide) (by decide), q1 59 (by decide) (by decide) (by decide) (by decide) (by decide), q1 60 (by decide) (by decide) (by decide) (by decide) (by decide)]
    have x57 : N 57 = M 57 := q1 57 (by decide) (by decide) (by decide) (by decide) (by decide)
    have x53 : N 53 = M 53 := q1 53 (by decide) (by decide) (by decide) (by decide) (by decide)
    have hvU := hU.vok hT hv
    have hvr : sp_vok (sp_tR M) (N 64) := by rw [q2]; exact run_vok hT hlk false false hn.1 hvU k (by omega)
    refine ms_iload_n dX7_roundBy_16 rfl ?_
    refine mi_sipush dX7_roundBy_17 (by decide) ?_
    refine mi_icmp_gt (tgt := 127) dX7_roundBy_20 (by decide) (fun c_20 => ?_) (fun c_20 => ?_)
    · refine mi_iconst dX7_roundBy_127 ?_
      refine ms_ret dX7_roundBy_128 rfl ⟨N, -1, rr (sp_tR M) (M 57) n (M 63) 0, rfl, q1, q3, rfl, Or.inr ⟨by rw [show n + (k : Int) - 100 = 1001 by omega] at q5; exact q5, rfl⟩, Or.inl rfl⟩ (by simp)
    · exact absurd c_20 (by omega)
  | succ kk ih => 
    intro k N o2 o3 g1 q1 q3 q2 q4 q5
    have hT0 : 1 ≤ M 53 0 ∧ M 53 0 ≤ 30 := hT.1
    have hT1 : 0 ≤ M 53 1 ∧ M 53 1 ≤ 6 := hT.2.1
    have hT5 : 1 ≤ M 53 5 ∧ M 53 5 ≤ 99 := hT.2.2.2.2.2.1
    have hT6 : 0 ≤ M 53 6 ∧ M 53 6 ≤ 10 := hT.2.2.2.2.2.2.1
    have eT : sp_tR N = sp_tR M := by simp only [sp_tR, q1 53 (by decide) (by decide) (by decide) (by decide) (by decide), q1 54 (by decide) (by decide) (by decide) (by decide) (by decide), q1 55 (by decide) (by decide) (by decide) (by decide) (by decide), q1 58 (by decide) (by decide) (by decide) (by decide) (by decide), q1 59 (by decide) (by decide) (by decide) (by decide) (by decide), q1 60 (by decide) (by decide) (by decide) (by decide) (by decide)]
    have x57 : N 57 = M 57 := q1 57 (by decide) (by decide) (by decide) (by decide) (by decide)
    have x53 : N 53 = M 53 := q1 53 (by decide) (by decide) (by decide) (by decide) (by decide)
    have hvU := hU.vok hT hv
    have hvr : sp_vok (sp_tR M) (N 64) := by rw [q2]; exact run_vok hT hlk false false hn.1 hvU k (by omega)
    refine ms_iload_n dX7_roundBy_16 rfl ?_
    refine mi_sipush dX7_roundBy_17 (by decide) ?_
    refine mi_icmp_gt (tgt := 127) dX7_roundBy_20 (by decide) (fun c_20 => ?_) (fun c_20 => ?_)
    · exact absurd c_20 (by omega)
    · refine ms_iload_n dX7_roundBy_23 rfl ?_
      refine mi_bipush dX7_roundBy_24 (by decide) ?_
      refine mi_icmp_lt (tgt := 106) dX7_roundBy_26 (by decide) (fun c_26 => ?_) (fun c_26 => ?_)
      · have eTg := eT
        have g57 := x57
        have g64 : N 64 = N 64 := rfl
        refine ms_aload_n dX7_roundBy_106 rfl ?_
        refine ms_aload_n dX7_roundBy_107 rfl ?_
        refine ms_getR dX7_roundBy_108 (fo_X7_80 rfl) (by first | rfl | assumption) rfl (by first | assumption | exact rf_48_26 hR ) ?_
        refine ms_iload_n dX7_roundBy_111 rfl ?_
        refine ms_aload_n dX7_roundBy_112 rfl ?_
        refine ms_getR dX7_roundBy_113 (fo_X7_55 rfl) (by first | rfl | assumption) rfl (by first | assumption | exact rf_48_9 hR ) ?_
        refine mi_iconst dX7_roundBy_116 ?_
        refine ms_callV4 (ci := 7) (r := (RX7, TX7, 48)) dX7_roundBy_117 cv_X7_roundBy_X7_goNight (k_X7_goNight (M := N) hR (by rw [eTg]; exact hT) (r := 64) (by decide) rfl (wr := 57) (by decide) rfl (by decide) (hf := false) (ng := false) (n := n + k) (by omega) (by decide) (by decide) (by decide) (by decide) (by rw [eTg, g64]; exact hvr) (by rw [eTg, g57]; exact hlk)) rfl rfl (by first | rfl | assumption) (Nat.le_of_ble_eq_true rfl) rfl (fun _ _ z => z.elim) (fun v9 h9 hp9 => ?_)
        obtain ⟨N3, m3, rfl, rfl, u1, u2, u3, u4, u5, u6⟩ := hp9
        rw [eTg, g57, g64] at u2
        rw [eTg] at u3
        have h64 : N3 64 = sp_run (sp_tR M) (M 57) false false n (k + 1) U := by rw [u2, q2]; rfl
        refine ms_pop dX7_roundBy_120 rfl ?_
        refine mi_iinc dX7_roundBy_121 rfl (by decide) rfl ?_
        dsimp only [List.set, Nat.reduceAdd]
        refine ms_goto (tgt := 16) dX7_roundBy_124 (by decide) ?_
        have i9 := ih (k + 1) N3 o2 o3 (by omega) (fun x a b c d e => by rw [u1 x a b c]; exact q1 x a b c d e) (fun _ => u3.nk) h64 (fun j j0 j1 => by omega) (fun d2 b h0 h1 => by omega)
        rw [show n + ((k + 1 : Nat) : Int) = n + k + 1 by omega] at i9
        exact i9
      · refine ms_iload_n dX7_roundBy_29 rfl ?_
        refine mi_bipush dX7_roundBy_30 (by decide) ?_
        refine mi_isub dX7_roundBy_32 ?_
        refine ms_istore_n dX7_roundBy_33 (by decide) rfl ?_
        dsimp only [List.set, Nat.reduceAdd]
        refine mi_iconst dX7_roundBy_34 ?_
        refine ms_istore_n dX7_roundBy_35 (by decide) rfl ?_
        dsimp only [List.set, Nat.reduceAdd]
        refine l_X7_rbC (S := S) (f := f) (L := L) (M := N) (p := n + k) (d := n + k - 100) hR (by omega) 18 0 N (by omega) (by omega) (fun _ _ => rfl) (by rw [icx_0]) (fun N1 i9 r1 r2 => ?_)
        have eT1 : sp_tR N1 = sp_tR M := by rw [← eT]; simp only [sp_tR, r1 53 (by decide), r1 54 (by decide), r1 55 (by decide), r1 58 (by decide), r1 59 (by decide), r1 60 (by decide)]
        have y64 : N1 64 = N 64 := r1 64 (by decide)
        have y53 : N1 53 = M 53 := by rw [r1 53 (by decide)]; exact x53
        refine ms_aload_n dX7_roundBy_65 rfl ?_
        refine ms_getR dX7_roundBy_66 (fo_X7_104 rfl) (by first | rfl | assumption) rfl (by first | assumption | exact rf_48_35 hR ) ?_
        refine ms_iload_n dX7_roundBy_69 rfl ?_
        refine ms_aload_n dX7_roundBy_70 rfl ?_
        refine ms_aload_n dX7_roundBy_71 rfl ?_
        refine ms_getR dX7_roundBy_72 (fo_X7_80 rfl) (by first | rfl | assumption) rfl (by first | assumption | exact rf_48_26 hR ) ?_
        refine ms_callV1 (ci := 7) (r := (RX7, TX7, 48)) dX7_roundBy_75 cv_X7_roundBy_X7_outOf (k_X7_outOf (M := N1) hR (by rw [eT1]; exact hT) (r := 64) (by decide) rfl (by rw [eT1, y64]; exact hvr)) rfl rfl (by first | rfl | assumption) (Nat.le_of_ble_eq_true rfl) rfl (fun _ _ z => z.elim) (fun v9 h9 hp9 => ?_)
        obtain ⟨rfl, rfl⟩ := hp9
        rw [y64, y53]
        refine ms_iast dX7_roundBy_78 (by first | rfl | assumption) ?_
        refine mx_gen (fun N2 => (∀ x, x ≠ 72 → N2 x = N1 x) ∧ N2 72 = iu (N 72) (n + k - 100) (ooN (N 64) (M 53 1).toNat)) ⟨fun x hx => up_n _ _ hx, by rw [up_s, r1 72 (by decide)]⟩ (fun N2 hN2 => ?_)
        obtain ⟨t1, t72⟩ := hN2
        have eTg : sp_tR N2 = sp_tR M := by rw [← eT1]; simp only [sp_tR, t1 53 (by decide), t1 54 (by decide), t1 55 (by decide), t1 58 (by decide), t1 59 (by decide), t1 60 (by decide)]
        have g64 : N2 64 = N 64 := (t1 64 (by decide)).trans y64
        have g57 : N2 57 = M 57 := by rw [t1 57 (by decide), r1 57 (by decide)]; exact x57
        have t71 : N2 71 = ic (N 64) (N 71) 0 (18 * (n + k - 100)) 18 := (t1 71 (by decide)).trans r2
        have hst : ∀ j, 0 ≤ j → j ≤ n + k - 100 → (∀ i, 0 ≤ i → i < 18 → N2 71 (18 * j + i) = sp_run (sp_tR M) (M 57) false false n (100 - n + j).toNat U i) ∧ N2 72 j = ooN (sp_run (sp_tR M) (M 57) false false n (100 - n + j).toNat U) (M 53 1).toNat := fun j j0 j1 => by
          by_cases e : j = n + k - 100
          · subst e
            have ek : (100 - n + (n + k - 100)).toNat = k := by omega
            rw [ek, ← q2]
            refine ⟨fun i i0 i1 => ?_, by rw [t72, iu_s]⟩
            rw [t71]
            unfold ic
            rw [if_pos (by omega)]
            congr 1
            omega
          · have h9 := q4 j j0 (by omega)
            refine ⟨fun i i0 i1 => ?_, by rw [t72, iu_n _ _ e]; exact h9.2⟩
            rw [t71]
            unfold ic
            rw [if_neg (by omega)]
            exact h9.1 i i0 i1
        have hfr : ∀ x, x ≠ 64 → x ≠ 65 → x ≠ 67 → x ≠ 71 → x ≠ 72 → N2 x = M x := fun x a b c d e => by rw [t1 x e, r1 x d]; exact q1 x a b c d e
        have hjv : ∀ j, 0 ≤ j → j ≤ n + k - 100 → sp_vok (sp_tR M) (sp_run (sp_tR M) (M 57) false false n (100 - n + j).toNat U) := fun j j0 j1 => run_vok hT hlk false false hn.1 hvU _ (by omega)
        have hC : ∀ j, 0 ≤ j → j ≤ n + k - 100 → ∀ i, 0 ≤ i → i < 18 → -1000 ≤ N2 71 (18 * j + i) ∧ N2 71 (18 * j + i) ≤ 1000 := fun j j0 j1 i i0 i1 => by
          rw [(hst j j0 j1).1 i i0 i1]
          by_cases e : i < 3 * M 53 1
          · have h9 := (hjv j j0 j1).1 (i / 3) (by omega) (by show i / 3 < M 53 1; omega)
            simp only at h9
            rcases (show i = 3 * (i / 3) ∨ i = 3 * (i / 3) + 1 ∨ i = 3 * (i / 3) + 2 by omega) with e9 | e9 | e9 <;> rw [e9] <;> omega
          · rw [run_jk hT (by show 3 * M 53 1 ≤ i; omega) i1, hU i i0 (by omega)]
            exact hJ i i0 i1
        have hO : ∀ j, 0 ≤ j → j ≤ n + k - 100 → 0 ≤ N2 72 j ∧ N2 72 j < 64 := fun j j0 j1 => by
          rw [(hst j j0 j1).2]
          exact (ooN_b _ _ (by omega)).1
        have hQ : ∀ j, 0 ≤ j → j ≤ n + k - 100 → ((N2 72 j = N2 72 (n + k - 100) ∧ ∀ i, 0 ≤ i → i < 18 → N2 71 (18 * j + i) = N2 71 (18 * (n + k - 100) + i)) ↔ smP (sp_tR M) (M 57) n (M 63) j (n + k - 100)) := fun j j0 j1 => sm_iff hT hlk hU (by omega) (by omega) (hst j j0 j1).1 (hst _ (by omega) (Int.le_refl _)).1 (hst j j0 j1).2 (hst _ (by omega) (Int.le_refl _)).2
        refine ms_iload_n dX7_roundBy_79 rfl ?_
        refine mi_iconst dX7_roundBy_80 ?_
        refine mi_isub dX7_roundBy_81 ?_
        refine ms_istore_n dX7_roundBy_82 (by decide) rfl ?_
        dsimp only [List.set, Nat.reduceAdd]
        refine l_X7_rbB (S := S) (f := f) (L := L) (M := N2) (p := n + k) (d := n + k - 100) (Q := fun j => smP (sp_tR M) (M 57) n (M 63) j (n + k - 100)) hR (by omega) hO hC hQ (n + k).toNat (n + k - 100 - 2) (by omega) (by omega) (by omega) (by omega) (fun b2 h0 h1 h2 => by omega) (fun hno b9 => ?_) (fun b h0 h1 h2 h3 h4 => ?_)
        · refine ms_aload_n dX7_roundBy_106 rfl ?_
          refine ms_aload_n dX7_roundBy_107 rfl ?_
          refine ms_getR dX7_roundBy_108 (fo_X7_80 rfl) (by first | rfl | assumption) rfl (by first | assumption | exact rf_48_26 hR ) ?_
          refine ms_iload_n dX7_roundBy_111 rfl ?_
          refine ms_aload_n dX7_roundBy_112 rfl ?_
          refine ms_getR dX7_roundBy_113 (fo_X7_55 rfl) (by first | rfl | assumption) rfl (by first | assumption | exact rf_48_9 hR ) ?_
          refine mi_iconst dX7_roundBy_116 ?_
          refine ms_callV4 (ci := 7) (r := (RX7, TX7, 48)) dX7_roundBy_117 cv_X7_roundBy_X7_goNight (k_X7_goNight (M := N2) hR (by rw [eTg]; exact hT) (r := 64) (by decide) rfl (wr := 57) (by decide) rfl (by decide) (hf := false) (ng := false) (n := n + k) (by omega) (by decide) (by decide) (by decide) (by decide) (by rw [eTg, g64]; exact hvr) (by rw [eTg, g57]; exact hlk)) rfl rfl (by first | rfl | assumption) (Nat.le_of_ble_eq_true rfl) rfl (fun _ _ z => z.elim) (fun v9 h9 hp9 => ?_)
          obtain ⟨N3, m3, rfl, rfl, u1, u2, u3, u4, u5, u6⟩ := hp9
          rw [eTg, g57, g64] at u2
          rw [eTg] at u3
          have h64 : N3 64 = sp_run (sp_tR M) (M 57) false false n (k + 1) U := by rw [u2, q2]; rfl
          refine ms_pop dX7_roundBy_120 rfl ?_
          refine mi_iinc dX7_roundBy_121 rfl (by decide) rfl ?_
          dsimp only [List.set, Nat.reduceAdd]
          refine ms_goto (tgt := 16) dX7_roundBy_124 (by decide) ?_
          have i9 := ih (k + 1) N3 (some (.int (iI (n + k - 100)))) (some (.int (iI b9))) (by omega) (fun x a b c d e => by rw [u1 x a b c]; exact hfr x a b c d e) (fun _ => u3.nk) h64 (fun j j0 j1 => by rw [u1 71 (by decide) (by decide) (by decide), u1 72 (by decide) (by decide) (by decide)]; exact hst j j0 (by omega)) (fun d2 b h0 h1 h2 h3 h4 => by by_cases e : d2 = n + k - 100; (subst e; exact hno b h2 h3 h4); exact q5 d2 b h0 (by omega) h2 h3 h4)
          rw [show n + ((k + 1 : Nat) : Int) = n + k + 1 by omega] at i9
          exact i9
        · refine ⟨N2, _, rr (sp_tR M) (M 57) n (M 63) (n + k - 100), rfl, hfr, fun z a a0 a1 => ?_, rfl, Or.inl ⟨n + k - 100, b, by omega, by omega, h0, h1, h2, h3, h4, q5, rfl, rfl⟩, Or.inr ?_⟩
          · rw [g64]
            exact (hvr.2 a a0 a1).2
          · rw [g64, q2]
            unfold rr
            rw [show (100 - n + (n + (k : Int) - 100)).toNat = k by omega]
            exact hU.run hT hlk false false n k

set_option maxHeartbeats 4000000 in
set_option maxRecDepth 100000 in
theorem k_X7_roundBy {S : mx_Sc} {f : Bool} {M : Nat → Int → Int} {L : Nat → Nat → Int64} {Rf : Nat → Nat → Option Nat} (hR : mx_rf Rf) (hT : sp_tok (sp_tR M)) (hv : sp_vok (sp_tR M) (M 63)) (hlk : sp_lok (sp_tR M) (M 57)) {n : Int} (hn : 0 ≤ n ∧ n ≤ 99) (hnn : M 48 29 = n) (hJ : ∀ i, 0 ≤ i → i < 18 → -1000 ≤ M 63 i ∧ M 63 i ≤ 1000) : mx_C S mX7_roundBy [.ref 48] (f, mx_SH, M, L, Rf) 0 0 (fun v9 h9 => ∃ N x w, h9 = (f, mx_SH, N, L, Rf) ∧ (∀ x, x ≠ 64 → x ≠ 65 → x ≠ 67 → x ≠ 71 → x ≠ 72 → N x = M x) ∧ nk N ∧ v9 = some (.int (iI x)) ∧ frP (sp_tR M) (M 57) n (M 63) x w ∧ (x = -1 ∨ qv (N 64) w)) (fun _ _ => False) := by
  refine mx_C_of (by decide) (by simp [Value.category]) (Nat.le_of_ble_eq_true rfl) rfl ?_
  show mx_E S mX7_roundBy 0 [some (.ref 48), none, none, none] [] (f, mx_SH, M, L, Rf) 0 0 _ _
  refine ms_aload_n dX7_roundBy_0 rfl ?_
  refine ms_getR dX7_roundBy_1 (fo_X7_80 rfl) (by first | rfl | assumption) rfl (by first | assumption | exact rf_48_26 hR ) ?_
  refine ms_aload_n dX7_roundBy_4 rfl ?_
  refine ms_getR dX7_roundBy_5 (fo_X7_77 rfl) (by first | rfl | assumption) rfl (by first | assumption | exact rf_48_25 hR ) ?_
  refine ms_callS2 dX7_roundBy_8 cv_X7_roundBy_X7_be (k_X7_be (a := 64) (b := 63) (by decide) (by decide) rfl rfl (by decide) (by decide) (by decide)) (Nat.le_of_ble_eq_true rfl) rfl (fun _ _ z => z.elim) (fun v9 h9 hp9 => ?_)
  obtain ⟨rfl, rfl⟩ := hp9
  refine mx_gen (fun N1 => (∀ x, x ≠ 64 → N1 x = M x) ∧ qv (N1 64) (M 63)) ⟨fun x hx => up_n _ _ hx, by rw [up_s]; exact qv_ic⟩ (fun N1 hN1 => ?_)
  obtain ⟨r1, r64⟩ := hN1
  have eT1 : sp_tR N1 = sp_tR M := by simp only [sp_tR, r1 53 (by decide), r1 54 (by decide), r1 55 (by decide), r1 58 (by decide), r1 59 (by decide), r1 60 (by decide)]
  have g63 : N1 63 = M 63 := r1 63 (by decide)
  have g57 : N1 57 = M 57 := r1 57 (by decide)
  have g29 : N1 48 29 = n := by rw [r1 48 (by decide)]; exact hnn
  have hnk1 : nk N1 := fun a a0 a1 => by rw [r64 _ (by omega) (by omega)]; exact (hv.2 a a0 a1).2
  refine ms_aload_n dX7_roundBy_11 rfl ?_
  refine ms_getI (z := 29) dX7_roundBy_12 (fo_X7_248 rfl) (by first | rfl | assumption) rfl rfl ?_
  refine ms_istore_n dX7_roundBy_15 (by decide) rfl ?_
  dsimp only [List.set, Nat.reduceAdd]
  rw [g29]
  have i9 := l_X7_rb (S := S) (f := f) (L := L) (M := N1) (n := n) (U := N1 64) hR (by rw [eT1]; exact hT) (by rw [eT1, g63]; exact hv) (by rw [eT1, g57]; exact hlk) hn g29 (by rw [g63]; exact r64) (by rw [g63]; exact hJ) (1101 - n).toNat 0 N1 none none (by omega) (fun _ _ _ _ _ _ => rfl) id rfl (fun j j0 j1 => by omega) (fun d2 b h0 h1 => by omega)
  rw [show n + ((0 : Nat) : Int) = n by omega] at i9
  refine ms_conseq (fun v9 h9 hp => ?_) (fun _ _ z => z) i9
  obtain ⟨N2, x, w, y1, y2, y3, y4, y5, y6⟩ := hp
  rw [eT1, g57, g63] at y5
  exact ⟨N2, x, w, y1, fun x a b c d e => by rw [y2 x a b c d e]; exact r1 x a, y3 hnk1, y4, y5, y6⟩

