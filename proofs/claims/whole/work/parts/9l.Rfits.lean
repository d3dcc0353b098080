/-- one lamp would come to these oils -/
def mvE (t : sp_T) (v : Int → Int) (n l w : Int) (G : Int → Int) : Prop := sp_move t v n l w false false 0 = G 0 ∧ sp_move t v n l w false false 1 = G 1 ∧ sp_move t v n l w false false 2 = G 2
def mvB (t : sp_T) (v : Int → Int) (n l w : Int) (G : Int → Int) : Bool := decide (sp_move t v n l w false false 0 = G 0 ∧ sp_move t v n l w false false 1 = G 1 ∧ sp_move t v n l w false false 2 = G 2)
theorem qo.mvB {t : sp_T} (hT : sp_tok t) {v u : Int → Int} (h : qo t v u) {n l w : Int} (hl : 0 ≤ l ∧ l < t.1 1) (hw : -1 ≤ w ∧ w < t.1 1) (G : Int → Int) : mvB t v n l w G = mvB t u n l w G := by
  have h9 := h.move hT (n := n) hl hw false false
  show decide _ = decide _
  rw [h9.1, h9.2.1, h9.2.2]
theorem ob_sar0 : ∀ o : Fin 64, ∀ l : Fin 6, iI (o.val : Int) >>> (iI (l.val : Int) &&& 31) = iI ((o.val : Int) / 2 ^ ((l.val : Int)).toNat) := by decide +kernel
theorem ob_sar {o l : Int} (h : 0 ≤ o ∧ o < 64) (h2 : 0 ≤ l ∧ l < 6) : iI o >>> (iI l &&& 31) = iI (o / 2 ^ l.toNat) := fin_of (n := 64) (P := fun o => iI o >>> (iI l &&& 31) = iI (o / 2 ^ l.toNat)) (fun i => fin_of (n := 6) (P := fun l => iI (i.val : Int) >>> (iI l &&& 31) = iI ((i.val : Int) / 2 ^ l.toNat)) (fun j => ob_sar0 i j) h2.1 h2.2) h.1 h.2
/-- a dusk of the book, as the reference lays it into the trial -/
def bkM (D O : Int → Int) (n : Int) : Int → Int := fun i => if i < 18 then D (n * 18 + i) else if i < 24 then (if ob (O n) (i - 18) = 1 then 0 else -1) else -1
def mfB (t : sp_T) (O D W : Int → Int) (l n w : Int) : Bool := if ob (O n) l = 1 then true else mvB t (bkM D O n) n l w (fun q => W ((n + 1) * 18 + l * 3 + q))
def mfA (t : sp_T) (O D W : Int → Int) (l : Int) : Nat → Int → Bool
  | 0, _ => true
  | n + 1, w => mfA t O D W l n w && mfB t O D W l n w
theorem mfA_f {t : sp_T} {O D W : Int → Int} {l w : Int} {n : Nat} (h : mfA t O D W l n w = false) : ∀ m : Nat, mfA t O D W l (n + m) w = false
  | 0 => h
  | m + 1 => by
    show (mfA t O D W l (n + m) w && _) = false
    rw [mfA_f h m]
    rfl
set_option maxHeartbeats 4000000 in
set_option maxRecDepth 100000 in
theorem k_X7_movesTo {S : mx_Sc} {f : Bool} {M : Nat → Int → Int} {L : Nat → Nat → Int64} {Rf : Nat → Nat → Option Nat} (hR : mx_rf Rf) (hT : sp_tok (sp_tR M)) {r rr nr : Nat} (hr : r = 64 ∨ r = 75) (hrr : rr < 900) (hsr : mx_SH[rr]? = some (0, nr)) (hrn : rr ≠ 67) (hnr : nr ≤ 1800) {n l w fr : Int} (hn : 0 ≤ n ∧ n ≤ 200) (hl : 0 ≤ l ∧ l < M 53 1) (hw : -1 ≤ w ∧ w < M 53 1) (hv : sp_vok (sp_tR M) (M r)) (hfr : 0 ≤ fr ∧ fr + 18 ≤ nr) (hb : ∀ q, 0 ≤ q → q < 3 → -1000 ≤ M rr (fr + 3 * l + q) ∧ M rr (fr + 3 * l + q) ≤ 1000) : mx_C S mX7_movesTo [.ref 48, .ref r, .int (iI n), .int (iI l), .int (iI w), .ref rr, .int (iI fr)] (f, mx_SH, M, L, Rf) 0 0 (fun v9 h9 => ∃ g, h9 = (f, mx_SH, va_up M 67 g, L, Rf) ∧ v9 = some (.int (iI (bI (mvB (sp_tR M) (M r) n l w (fun q => M rr (fr + 3 * l + q))))))) (fun _ _ => False) := by
  refine mx_C_of (by decide) (by simp [Value.category]) (Nat.le_of_ble_eq_true rfl) rfl ?_
  show mx_E S mX7_movesTo 0 [some (.ref 48), some (.ref r), some (.int (iI n)), some (.int (iI l)), some (.int (iI w)), some (.ref rr), some (.int (iI fr)), none] [] (f, mx_SH, M, L, Rf) 0 0 _ _
  have hT0 : 1 ≤ M 53 0 ∧ M 53 0 ≤ 30 := hT.1
  have hT1 : 0 ≤ M 53 1 ∧ M 53 1 ≤ 6 := hT.2.1
  have hT5 : 1 ≤ M 53 5 ∧ M 53 5 ≤ 99 := hT.2.2.2.2.2.1
  have hT6 : 0 ≤ M 53 6 ∧ M 53 6 ≤ 10 := hT.2.2.2.2.2.2.1
  refine ms_aload_n dX7_movesTo_0 rfl ?_
  refine ms_aload_n dX7_movesTo_1 rfl ?_
  refine ms_iload_n dX7_movesTo_2 rfl ?_
  refine ms_iload_n dX7_movesTo_3 rfl ?_
  refine ms_iload dX7_movesTo_4 rfl ?_
  refine mi_iconst dX7_movesTo_6 ?_
  refine ms_callV5 (ci := 7) (r := (RX7, TX7, 48)) dX7_movesTo_7 cv_X7_movesTo_X7_moveOne (k_X7_moveOne hR hT (r := r) (by omega) (by rcases hr with rfl | rfl <;> rfl) (hf := false) (ng := false) (n := n) (l := l) (w := w) (by omega) hl hw (by omega) hv) rfl rfl (by first | rfl | assumption) (Nat.le_of_ble_eq_true rfl) rfl (fun _ _ z => z.elim) (fun v9 h9 hp9 => ?_)
  obtain ⟨⟨g, rfl, hg⟩, rfl⟩ := hp9
  have hs3 := (sp_move_ok hT hv (n := n) hl hw false false).e hg
  unfold s3 at hs3
  simp only at hs3
  have b0 := hb 0 (by omega) (by omega)
  have b1 := hb 1 (by omega) (by omega)
  have b2 := hb 2 (by omega) (by omega)
  have u67 : va_up M 67 g 67 = g := up_s _ _ _
  have urr : va_up M 67 g rr = M rr := up_n _ _ hrn
  have hq : mvB (sp_tR M) (M r) n l w (fun q => M rr (fr + 3 * l + q)) = decide (g 0 = M rr (fr + 3 * l + 0) ∧ g 1 = M rr (fr + 3 * l + 1) ∧ g 2 = M rr (fr + 3 * l + 2)) := by
    unfold mvB
    rw [← hg.1, ← hg.2.1, ← hg.2.2]
  refine mi_iconst dX7_movesTo_10 ?_
  refine ms_istore dX7_movesTo_11 (by decide) rfl ?_
  dsimp only [List.set, Nat.reduceAdd]
  refine ms_iload dX7_movesTo_13 rfl ?_
  refine mi_iconst dX7_movesTo_15 ?_
  refine mi_icmp_ge (tgt := 49) dX7_movesTo_16 (by decide) (fun c_16 => ?_) (fun c_16 => ?_)
  · exact absurd c_16 (by omega)
  · refine ms_aload_n dX7_movesTo_19 rfl ?_
    refine ms_getR dX7_movesTo_20 (fo_X7_89 rfl) (by first | rfl | assumption) rfl (by first | assumption | exact rf_48_30 hR ) ?_
    refine ms_iload dX7_movesTo_23 rfl ?_
    refine ms_iald dX7_movesTo_25 (by first | rfl | assumption) ?_
    refine ms_aload dX7_movesTo_26 rfl ?_
    refine ms_iload dX7_movesTo_28 rfl ?_
    refine mi_iconst dX7_movesTo_30 ?_
    refine ms_iload_n dX7_movesTo_31 rfl ?_
    refine mi_imul dX7_movesTo_32 ?_
    refine mi_iadd dX7_movesTo_33 ?_
    refine ms_iload dX7_movesTo_34 rfl ?_
    refine mi_iadd dX7_movesTo_36 ?_
    refine ms_iald dX7_movesTo_37 (by first | rfl | assumption) ?_
    rw [u67, urr]
    refine mi_icmp_eq (tgt := 43) dX7_movesTo_38 (by decide) (fun c_38 => ?_) (fun c_38 => ?_)
    · refine mi_iincL (1) dX7_movesTo_43 rfl (by decide) rfl (by decide) ?_
      dsimp only [List.set, Nat.reduceAdd]
      refine ms_goto (tgt := 13) dX7_movesTo_46 (by decide) ?_
      refine ms_iload dX7_movesTo_13 rfl ?_
      refine mi_iconst dX7_movesTo_15 ?_
      refine mi_icmp_ge (tgt := 49) dX7_movesTo_16 (by decide) (fun c_16 => ?_) (fun c_16 => ?_)
      · exact absurd c_16 (by omega)
      · refine ms_aload_n dX7_movesTo_19 rfl ?_
        refine ms_getR dX7_movesTo_20 (fo_X7_89 rfl) (by first | rfl | assumption) rfl (by first | assumption | exact rf_48_30 hR ) ?_
        refine ms_iload dX7_movesTo_23 rfl ?_
        refine ms_iald dX7_movesTo_25 (by first | rfl | assumption) ?_
        refine ms_aload dX7_movesTo_26 rfl ?_
        refine ms_iload dX7_movesTo_28 rfl ?_
        refine mi_iconst dX7_movesTo_30 ?_
        refine ms_iload_n dX7_movesTo_31 rfl ?_
        refine mi_imul dX7_movesTo_32 ?_
        refine mi_iadd dX7_movesTo_33 ?_
        refine ms_iload dX7_movesTo_34 rfl ?_
        refine mi_iadd dX7_movesTo_36 ?_
        refine ms_iald dX7_movesTo_37 (by first | rfl | assumption) ?_
        rw [u67, urr]
        refine mi_icmp_eq (tgt := 43) dX7_movesTo_38 (by decide) (fun c_38 => ?_) (fun c_38 => ?_)
        · refine mi_iincL (2) dX7_movesTo_43 rfl (by decide) rfl (by decide) ?_
          dsimp only [List.set, Nat.reduceAdd]
          refine ms_goto (tgt := 13) dX7_movesTo_46 (by decide) ?_
          refine ms_iload dX7_movesTo_13 rfl ?_
          refine mi_iconst dX7_movesTo_15 ?_
          refine mi_icmp_ge (tgt := 49) dX7_movesTo_16 (by decide) (fun c_16 => ?_) (fun c_16 => ?_)
          · exact absurd c_16 (by omega)
          · refine ms_aload_n dX7_movesTo_19 rfl ?_
            refine ms_getR dX7_movesTo_20 (fo_X7_89 rfl) (by first | rfl | assumption) rfl (by first | assumption | exact rf_48_30 hR ) ?_
            refine ms_iload dX7_movesTo_23 rfl ?_
            refine ms_iald dX7_movesTo_25 (by first | rfl | assumption) ?_
            refine ms_aload dX7_movesTo_26 rfl ?_
            refine ms_iload dX7_movesTo_28 rfl ?_
            refine mi_iconst dX7_movesTo_30 ?_
            refine ms_iload_n dX7_movesTo_31 rfl ?_
            refine mi_imul dX7_movesTo_32 ?_
            refine mi_iadd dX7_movesTo_33 ?_
            refine ms_iload dX7_movesTo_34 rfl ?_
            refine mi_iadd dX7_movesTo_36 ?_
            refine ms_iald dX7_movesTo_37 (by first | rfl | assumption) ?_
            rw [u67, urr]
            refine mi_icmp_eq (tgt := 43) dX7_movesTo_38 (by decide) (fun c_38 => ?_) (fun c_38 => ?_)
            · refine mi_iincL (3) dX7_movesTo_43 rfl (by decide) rfl (by decide) ?_
              dsimp only [List.set, Nat.reduceAdd]
              refine ms_goto (tgt := 13) dX7_movesTo_46 (by decide) ?_
              refine ms_iload dX7_movesTo_13 rfl ?_
              refine mi_iconst dX7_movesTo_15 ?_
              refine mi_icmp_ge (tgt := 49) dX7_movesTo_16 (by decide) (fun c_16 => ?_) (fun c_16 => ?_)
              · refine mi_iconst dX7_movesTo_49 ?_
                refine ms_retZ dX7_movesTo_50 rfl (by first | exact Or.inl rfl | exact Or.inr rfl) ⟨g, rfl, by rw [hq, decide_eq_true ⟨by omega, by omega, by omega⟩]; rfl⟩ (by simp)
              · exact absurd c_16 (by omega)
            · refine mi_iconst dX7_movesTo_41 ?_
              refine ms_retZ dX7_movesTo_42 rfl (by first | exact Or.inl rfl | exact Or.inr rfl) ⟨g, rfl, by rw [hq, decide_eq_false (fun z => by have z0 := z.1; have z1 := z.2.1; have z2 := z.2.2; omega)]; rfl⟩ (by simp)
        · refine mi_iconst dX7_movesTo_41 ?_
          refine ms_retZ dX7_movesTo_42 rfl (by first | exact Or.inl rfl | exact Or.inr rfl) ⟨g, rfl, by rw [hq, decide_eq_false (fun z => by have z0 := z.1; have z1 := z.2.1; have z2 := z.2.2; omega)]; rfl⟩ (by simp)
    · refine mi_iconst dX7_movesTo_41 ?_
      refine ms_retZ dX7_movesTo_42 rfl (by first | exact Or.inl rfl | exact Or.inr rfl) ⟨g, rfl, by rw [hq, decide_eq_false (fun z => by have z0 := z.1; have z1 := z.2.1; have z2 := z.2.2; omega)]; rfl⟩ (by simp)

set_option maxHeartbeats 4000000 in
set_option maxRecDepth 100000 in
theorem l_X7_fbA {S : mx_Sc} {f : Bool} {M : Nat → Int → Int} {L : Nat → Nat → Int64} {Rf : Nat → Nat → Option Nat} (hR : mx_rf Rf) {P : Option Value → mx_H → Prop} {PX : String → mx_H → Prop} {l w j : Int} (hj : 0 ≤ j ∧ j < 99) : ∀ (kk : Nat) (i : Int) (N : Nat → Int → Int), 0 ≤ i → i + kk = 18 → (∀ x, x ≠ 64 → N x = M x) → N 64 = ic (M 68) (M 64) (18 * j) 0 i → (∀ (N : Nat → Int → Int) (i : Int), (∀ x, x ≠ 64 → N x = M x) → N 64 = ic (M 68) (M 64) (18 * j) 0 18 → mx_E S mX7_fitsBook 62 [some (.ref 48), some (.int (iI l)), some (.int (iI w)), some (.int (iI j)), some (.int (iI i))] [] (f, mx_SH, N, L, Rf) 0 0 P PX) → mx_E S mX7_fitsBook 30 [some (.ref 48), some (.int (iI l)), some (.int (iI w)), some (.int (iI j)), some (.int (iI i))] [] (f, mx_SH, N, L, Rf) 0 0 P PX := by
  intro kk
  induction kk with
  | zero => 
    intro i N g0 g1 q1 q2 hK
    refine ms_iload dX7_fitsBook_30 rfl ?_
    refine mi_bipush dX7_fitsBook_32 (by decide) ?_
    refine mi_icmp_ge (tgt := 62) dX7_fitsBook_34 (by decide) (fun c_34 => ?_) (fun c_34 => ?_)
    · exact hK N i q1 (by rw [q2, show i = 18 by omega])
    · exact absurd c_34 (by omega)
  | succ kk ih => 
    intro i N g0 g1 q1 q2 hK
    have e68 : N 68 = M 68 := q1 68 (by decide)
    refine ms_iload dX7_fitsBook_30 rfl ?_
    refine mi_bipush dX7_fitsBook_32 (by decide) ?_
    refine mi_icmp_ge (tgt := 62) dX7_fitsBook_34 (by decide) (fun c_34 => ?_) (fun c_34 => ?_)
    · exact absurd c_34 (by omega)
    · refine ms_aload_n dX7_fitsBook_37 rfl ?_
      refine ms_getR dX7_fitsBook_38 (fo_X7_80 rfl) (by first | rfl | assumption) rfl (by first | assumption | exact rf_48_26 hR ) ?_
      refine ms_iload dX7_fitsBook_41 rfl ?_
      refine ms_aload_n dX7_fitsBook_43 rfl ?_
      refine ms_getR dX7_fitsBook_44 (fo_X7_92 rfl) (by first | rfl | assumption) rfl (by first | assumption | exact rf_48_31 hR ) ?_
      refine mi_bipush dX7_fitsBook_47 (by decide) ?_
      refine ms_iload_n dX7_fitsBook_49 rfl ?_
      refine mi_imul dX7_fitsBook_50 ?_
      refine ms_iload dX7_fitsBook_51 rfl ?_
      refine mi_iadd dX7_fitsBook_53 ?_
      refine ms_iald dX7_fitsBook_54 (by first | rfl | assumption) ?_
      refine ms_iast dX7_fitsBook_55 (by first | rfl | assumption) ?_
      refine mi_iinc dX7_fitsBook_56 rfl (by decide) rfl ?_
      dsimp only [List.set, Nat.reduceAdd]
      refine ms_goto (tgt := 30) dX7_fitsBook_59 (by decide) ?_
      refine ih (i + 1) _ (by omega) (by omega) (fun x hx => by rw [up_n _ _ hx]; exact q1 x hx) ?_ hK
      rw [up_s, e68, q2, ← icx_st (by omega), Int.zero_add]

set_option maxHeartbeats 4000000 in
set_option maxRecDepth 100000 in
theorem l_X7_fbB {S : mx_Sc} {f : Bool} {M : Nat → Int → Int} {L : Nat → Nat → Int64} {Rf : Nat → Nat → Option Nat} (hR : mx_rf Rf) {P : Option Value → mx_H → Prop} {PX : String → mx_H → Prop} {l w j : Int} (hj : 0 ≤ j ∧ j < 99) (hOj : 0 ≤ M 70 j ∧ M 70 j < 64) : ∀ (kk : Nat) (i : Int) (N : Nat → Int → Int), 0 ≤ i → i + kk = 6 → (∀ x, x ≠ 64 → N x = M x) → (∀ k, (k < 18 ∨ 24 ≤ k) → N 64 k = M 64 k) → (∀ k, 0 ≤ k → k < i → N 64 (18 + k) = (if ob (M 70 j) k = 1 then (0 : Int) else -1)) → (∀ (N : Nat → Int → Int) (i : Int), (∀ x, x ≠ 64 → N x = M x) → (∀ k, (k < 18 ∨ 24 ≤ k) → N 64 k = M 64 k) → (∀ k, 0 ≤ k → k < 6 → N 64 (18 + k) = (if ob (M 70 j) k = 1 then (0 : Int) else -1)) → mx_E S mX7_fitsBook 108 [some (.ref 48), some (.int (iI l)), some (.int (iI w)), some (.int (iI j)), some (.int (iI i))] [] (f, mx_SH, N, L, Rf) 0 0 P PX) → mx_E S mX7_fitsBook 65 [some (.ref 48), some (.int (iI l)), some (.int (iI w)), some (.int (iI j)), some (.int (iI i))] [] (f, mx_SH, N, L, Rf) 0 0 P PX := by
  intro kk
  induction kk with
  | zero => 
    intro i N g0 g1 q1 q2 q3 hK
    refine ms_iload dX7_fitsBook_65 rfl ?_
    refine mi_bipush dX7_fitsBook_67 (by decide) ?_
    refine mi_icmp_ge (tgt := 108) dX7_fitsBook_69 (by decide) (fun c_69 => ?_) (fun c_69 => ?_)
    · exact hK N i q1 q2 (fun k k0 k1 => q3 k k0 (by omega))
    · exact absurd c_69 (by omega)
  | succ kk ih => 
    intro i N g0 g1 q1 q2 q3 hK
    have e70 : N 70 = M 70 := q1 70 (by decide)
    have hob := ob_01 (M 70 j) i
    refine ms_iload dX7_fitsBook_65 rfl ?_
    refine mi_bipush dX7_fitsBook_67 (by decide) ?_
    refine mi_icmp_ge (tgt := 108) dX7_fitsBook_69 (by decide) (fun c_69 => ?_) (fun c_69 => ?_)
    · exact absurd c_69 (by omega)
    · refine ms_aload_n dX7_fitsBook_72 rfl ?_
      refine ms_getR dX7_fitsBook_73 (fo_X7_80 rfl) (by first | rfl | assumption) rfl (by first | assumption | exact rf_48_26 hR ) ?_
      refine mi_bipush dX7_fitsBook_76 (by decide) ?_
      refine ms_iload dX7_fitsBook_78 rfl ?_
      refine mi_iadd dX7_fitsBook_80 ?_
      refine ms_aload_n dX7_fitsBook_81 rfl ?_
      refine ms_getR dX7_fitsBook_82 (fo_X7_98 rfl) (by first | rfl | assumption) rfl (by first | assumption | exact rf_48_33 hR ) ?_
      refine ms_iload_n dX7_fitsBook_85 rfl ?_
      refine ms_iald dX7_fitsBook_86 (by first | rfl | assumption) ?_
      rw [e70]
      refine ms_iload dX7_fitsBook_87 rfl ?_
      refine mi_ishr (M 70 j / 2 ^ i.toNat) dX7_fitsBook_89 (ob_sar hOj (by omega)) ?_
      refine mi_iconst dX7_fitsBook_90 ?_
      refine mi_iand (ob (M 70 j) i) dX7_fitsBook_91 (ob_and1 (ob_le hOj)) ?_
      refine mi_iconst dX7_fitsBook_92 ?_
      refine mi_icmp_ne (tgt := 100) dX7_fitsBook_93 (by decide) (fun c_93 => ?_) (fun c_93 => ?_)
      · refine mi_iconst dX7_fitsBook_100 ?_
        refine ms_iast dX7_fitsBook_101 (by first | rfl | assumption) ?_
        refine mi_iinc dX7_fitsBook_102 rfl (by decide) rfl ?_
        dsimp only [List.set, Nat.reduceAdd]
        refine ms_goto (tgt := 65) dX7_fitsBook_105 (by decide) ?_
        refine ih (i + 1) _ (by omega) (by omega) (fun x hx => by rw [up_n _ _ hx]; exact q1 x hx) (fun k hk => by rw [up_s, iu_n _ _ (by omega)]; exact q2 k hk) (fun k k0 k1 => ?_) hK
        rw [up_s]
        by_cases e : k = i
        · rw [e, iu_s]; rw [if_neg (by omega)]
        · rw [iu_n _ _ (by omega)]; exact q3 k k0 (by omega)
      · refine mi_iconst dX7_fitsBook_96 ?_
        refine ms_goto (tgt := 101) dX7_fitsBook_97 (by decide) ?_
        refine ms_iast dX7_fitsBook_101 (by first | rfl | assumption) ?_
        refine mi_iinc dX7_fitsBook_102 rfl (by decide) rfl ?_
        dsimp only [List.set, Nat.reduceAdd]
        refine ms_goto (tgt := 65) dX7_fitsBook_105 (by decide) ?_
        refine ih (i + 1) _ (by omega) (by omega) (fun x hx => by rw [up_n _ _ hx]; exact q1 x hx) (fun k hk => by rw [up_s, iu_n _ _ (by omega)]; exact q2 k hk) (fun k k0 k1 => ?_) hK
        rw [up_s]
        by_cases e : k = i
        · rw [e, iu_s]; rw [if_pos (by omega)]
        · rw [iu_n _ _ (by omega)]; exact q3 k k0 (by omega)

set_option maxHeartbeats 4000000 in
set_option maxRecDepth 100000 in
theorem l_X7_fb {S : mx_Sc} {f : Bool} {M : Nat → Int → Int} {L : Nat → Nat → Int64} {Rf : Nat → Nat → Option Nat} (hR : mx_rf Rf) (hT : sp_tok (sp_tR M)) {n l w : Int} (hn : 0 ≤ n ∧ n ≤ 99) (hnn : M 48 29 = n) (hl : 0 ≤ l ∧ l < M 53 1) (hw : -1 ≤ w ∧ w < M 53 1) (hO : ∀ j, 0 ≤ j → j < n → 0 ≤ M 70 j ∧ M 70 j < 64) (hD : ∀ j, 0 ≤ j → j < n → sp_vok (sp_tR M) (bkM (M 68) (M 70) j)) (hW : ∀ i, 0 ≤ i → i < 1800 → -1000 ≤ M 69 i ∧ M 69 i ≤ 1000) (hnk : nk M) : ∀ (kk : Nat) (j : Nat) (N : Nat → Int → Int) (o4 : Option Value), (j : Int) + kk = n → (∀ x, x ≠ 64 → x ≠ 67 → N x = M x) → nk N → mfA (sp_tR M) (M 70) (M 68) (M 69) l j w = true → mx_E S mX7_fitsBook 2 [some (.ref 48), some (.int (iI l)), some (.int (iI w)), some (.int (iI (j : Int))), o4] [] (f, mx_SH, N, L, Rf) 0 0 (fun v9 h9 => ∃ N, h9 = (f, mx_SH, N, L, Rf) ∧ (∀ x, x ≠ 64 → x ≠ 67 → N x = M x) ∧ nk N ∧ v9 = some (.int (iI (bI (mfA (sp_tR M) (M 70) (M 68) (M 69) l n.toNat w))))) (fun _ _ => False) := by
  intro kk
  induction kk with
  | zero => 
    intro j N o4 g1 q1 q3 q2
    have hT0 : 1 ≤ M 53 0 ∧ M 53 0 ≤ 30 := hT.1
    have hT1 : 0 ≤ M 53 1 ∧ M 53 1 ≤ 6 := hT.2.1
    have hT5 : 1 ≤ M 53 5 ∧ M 53 5 ≤ 99 := hT.2.2.2.2.2.1
    have hT6 : 0 ≤ M 53 6 ∧ M 53 6 ≤ 10 := hT.2.2.2.2.2.2.1
    have eT : sp_tR N = sp_tR M := by simp only [sp_tR, q1 53 (by decide) (by decide), q1 54 (by decide) (by decide), q1 55 (by decide) (by decide), q1 58 (by decide) (by decide), q1 59 (by decide) (by decide), q1 60 (by decide) (by decide)]
    have x53 : N 53 = M 53 := q1 53 (by decide) (by decide)
    have x48 : N 48 = M 48 := q1 48 (by decide) (by decide)
    have x70 : N 70 = M 70 := q1 70 (by decide) (by decide)
    have x68 : N 68 = M 68 := q1 68 (by decide) (by decide)
    have x69 : N 69 = M 69 := q1 69 (by decide) (by decide)
    have e29 : N 48 29 = n := by rw [x48]; exact hnn
    refine ms_iload_n dX7_fitsBook_2 rfl ?_
    refine ms_aload_n dX7_fitsBook_3 rfl ?_
    refine ms_getI (z := 29) dX7_fitsBook_4 (fo_X7_248 rfl) (by first | rfl | assumption) rfl rfl ?_
    refine mi_icmp_ge (tgt := 140) dX7_fitsBook_7 (by decide) (fun c_7 => ?_) (fun c_7 => ?_)
    · refine mi_iconst dX7_fitsBook_140 ?_
      refine ms_retZ dX7_fitsBook_141 rfl (by first | exact Or.inl rfl | exact Or.inr rfl) ⟨N, rfl, q1, q3, by rw [show n.toNat = j by omega, q2]; rfl⟩ (by simp)
    · exact absurd c_7 (by omega)
  | succ kk ih => 
    intro j N o4 g1 q1 q3 q2
    have hT0 : 1 ≤ M 53 0 ∧ M 53 0 ≤ 30 := hT.1
    have hT1 : 0 ≤ M 53 1 ∧ M 53 1 ≤ 6 := hT.2.1
    have hT5 : 1 ≤ M 53 5 ∧ M 53 5 ≤ 99 := hT.2.2.2.2.2.1
    have hT6 : 0 ≤ M 53 6 ∧ M 53 6 ≤ 10 := hT.2.2.2.2.2.2.1
    have eT : sp_tR N = sp_tR M := by simp only [sp_tR, q1 53 (by decide) (by decide), q1 54 (by decide) (by decide), q1 55 (by decide) (by decide), q1 58 (by decide) (by decide), q1 59 (by decide) (by decide), q1 60 (by decide) (by decide)]
    have x53 : N 53 = M 53 := q1 53 (by decide) (by decide)
    have x48 : N 48 = M 48 := q1 48 (by decide) (by decide)
    have x70 : N 70 = M 70 := q1 70 (by decide) (by decide)
    have x68 : N 68 = M 68 := q1 68 (by decide) (by decide)
    have x69 : N 69 = M 69 := q1 69 (by decide) (by decide)
    have e29 : N 48 29 = n := by rw [x48]; exact hnn
    have hOj := hO (j : Int) (by omega) (by omega)
    have hob := ob_01 (M 70 (j : Int)) l
    refine ms_iload_n dX7_fitsBook_2 rfl ?_
    refine ms_aload_n dX7_fitsBook_3 rfl ?_
    refine ms_getI (z := 29) dX7_fitsBook_4 (fo_X7_248 rfl) (by first | rfl | assumption) rfl rfl ?_
    refine mi_icmp_ge (tgt := 140) dX7_fitsBook_7 (by decide) (fun c_7 => ?_) (fun c_7 => ?_)
    · exact absurd c_7 (by omega)
    · refine ms_aload_n dX7_fitsBook_10 rfl ?_
      refine ms_getR dX7_fitsBook_11 (fo_X7_98 rfl) (by first | rfl | assumption) rfl (by first | assumption | exact rf_48_33 hR ) ?_
      refine ms_iload_n dX7_fitsBook_14 rfl ?_
      refine ms_iald dX7_fitsBook_15 (by first | rfl | assumption) ?_
      rw [x70]
      refine ms_iload_n dX7_fitsBook_16 rfl ?_
      refine mi_ishr (M 70 (j : Int) / 2 ^ l.toNat) dX7_fitsBook_17 (ob_sar hOj (by omega)) ?_
      refine mi_iconst dX7_fitsBook_18 ?_
      refine mi_iand (ob (M 70 (j : Int)) l) dX7_fitsBook_19 (ob_and1 (ob_le hOj)) ?_
      refine mi_iconst dX7_fitsBook_20 ?_
      refine mi_icmp_ne (tgt := 27) dX7_fitsBook_21 (by decide) (fun c_21 => ?_) (fun c_21 => ?_)
      · refine mi_iconst dX7_fitsBook_27 ?_
        refine ms_istore dX7_fitsBook_28 (by decide) rfl ?_
        dsimp only [List.set, Nat.reduceAdd]
        refine l_X7_fbA (S := S) (f := f) (L := L) (M := N) (l := l) (w := w) (j := (j : Int)) hR (by omega) 18 0 N (by omega) (by omega) (fun _ _ => rfl) (by rw [icx_0]) (fun N1 i9 r1 r2 => ?_)
        refine mi_iconst dX7_fitsBook_62 ?_
        refine ms_istore dX7_fitsBook_63 (by decide) rfl ?_
        dsimp only [List.set, Nat.reduceAdd]
        refine l_X7_fbB (S := S) (f := f) (L := L) (M := N1) (l := l) (w := w) (j := (j : Int)) hR (by omega) (by rw [r1 70 (by decide), x70]; exact hOj) 6 0 N1 (by omega) (by omega) (fun _ _ => rfl) (fun _ _ => rfl) (fun k k0 k1 => by omega) (fun N2 i8 t1 t2 t3 => ?_)
        have y : ∀ x, x ≠ 64 → N2 x = N x := fun x hx => by rw [t1 x hx]; exact r1 x hx
        have eT2 : sp_tR N2 = sp_tR M := by rw [← eT]; simp only [sp_tR, y 53 (by decide), y 54 (by decide), y 55 (by decide), y 58 (by decide), y 59 (by decide), y 60 (by decide)]
        have y53 : N2 53 = M 53 := by rw [y 53 (by decide)]; exact x53
        have y69 : N2 69 = M 69 := by rw [y 69 (by decide)]; exact x69
        have hrow : ∀ i, 0 ≤ i → i < 24 → N2 64 i = bkM (M 68) (M 70) (j : Int) i := fun i i0 i1 => by
          unfold bkM
          by_cases e : i < 18
          · rw [if_pos e, t2 i (Or.inl e), r2, x68]
            unfold ic
            rw [if_pos (by omega)]
            congr 1
            omega
          · rw [if_neg e, if_pos i1]
            have h9 := t3 (i - 18) (by omega) (by omega)
            rw [show 18 + (i - 18) = i by omega, r1 70 (by decide), x70] at h9
            exact h9
        have hv0 := hD (j : Int) (by omega) (by omega)
        have h24 : ∀ i, 24 ≤ i → N2 64 i = N 64 i := fun i hi => by
          rw [t2 i (Or.inr hi), r2]
          unfold ic
          rw [if_neg (by omega)]
        have hv2 : sp_vok (sp_tR M) (N2 64) := by
          refine ⟨fun k k0 k1 => ?_, fun k k0 k1 => ⟨?_, ?_⟩⟩
          · have k2 : k < M 53 1 := k1
            rw [hrow _ (by omega) (by omega), hrow _ (by omega) (by omega), hrow _ (by omega) (by omega)]
            exact hv0.1 k k0 k1
          · rw [hrow _ (by omega) (by omega)]
            exact (hv0.2 k k0 k1).1
          · rw [h24 _ (by omega)]
            exact q3 k k0 k1
        have hqo : qo (sp_tR M) (N2 64) (bkM (M 68) (M 70) (j : Int)) := ⟨fun i i0 i1 => hrow i i0 (by have i2 : i < 3 * M 53 1 := i1; omega), fun k k0 k1 => by have k2 : k < M 53 1 := k1; unfold sp_out; rw [hrow (18 + k) (by omega) (by omega)]⟩
        refine ms_aload_n dX7_fitsBook_108 rfl ?_
        refine ms_aload_n dX7_fitsBook_109 rfl ?_
        refine ms_getR dX7_fitsBook_110 (fo_X7_80 rfl) (by first | rfl | assumption) rfl (by first | assumption | exact rf_48_26 hR ) ?_
        refine ms_iload_n dX7_fitsBook_113 rfl ?_
        refine ms_iload_n dX7_fitsBook_114 rfl ?_
        refine ms_iload_n dX7_fitsBook_115 rfl ?_
        refine ms_aload_n dX7_fitsBook_116 rfl ?_
        refine ms_getR dX7_fitsBook_117 (fo_X7_95 rfl) (by first | rfl | assumption) rfl (by first | assumption | exact rf_48_32 hR ) ?_
        refine mi_bipush dX7_fitsBook_120 (by decide) ?_
        refine ms_iload_n dX7_fitsBook_122 rfl ?_
        refine mi_iconst dX7_fitsBook_123 ?_
        refine mi_iadd dX7_fitsBook_124 ?_
        refine mi_imul dX7_fitsBook_125 ?_
        refine ms_callV6 (ci := 7) (r := (RX7, TX7, 48)) dX7_fitsBook_126 cv_X7_fitsBook_X7_movesTo (k_X7_movesTo (M := N2) hR (by rw [eT2]; exact hT) (r := 64) (rr := 69) (nr := 1800) (Or.inl rfl) (by decide) rfl (by decide) (by decide) (n := (j : Int)) (l := l) (w := w) (fr := 18 * ((j : Int) + 1)) (by omega) (by rw [y53]; exact hl) (by rw [y53]; exact hw) (by rw [eT2]; exact hv2) (by omega) (fun q q0 q1 => by rw [y69]; exact hW _ (by omega) (by omega))) rfl rfl (by first | rfl | assumption) (Nat.le_of_ble_eq_true rfl) rfl (fun _ _ z => z.elim) (fun v9 h9 hp9 => ?_)
        obtain ⟨g, rfl, rfl⟩ := hp9
        rw [eT2, y69, hqo.mvB hT hl hw, show (fun q => M 69 (18 * ((j : Int) + 1) + 3 * l + q)) = (fun q => M 69 (((j : Int) + 1) * 18 + l * 3 + q)) from funext fun q => congrArg (M 69) (by omega)]
        have hmf : mfB (sp_tR M) (M 70) (M 68) (M 69) l (j : Int) w = mvB (sp_tR M) (bkM (M 68) (M 70) (j : Int)) (j : Int) l w (fun q => M 69 (((j : Int) + 1) * 18 + l * 3 + q)) := by
          unfold mfB
          rw [if_neg (by omega)]
        rw [← hmf]
        refine mi_if_neB (tgt := 134) dX7_fitsBook_129 (by decide) (fun c_129 => ?_) (fun c_129 => ?_)
        · refine mi_iinc dX7_fitsBook_134 rfl (by decide) rfl ?_
          dsimp only [List.set, Nat.reduceAdd]
          refine ms_goto (tgt := 2) dX7_fitsBook_137 (by decide) ?_
          exact ih (j + 1) _ _ (by omega) (fun x x0 x1 => by rw [up_n _ _ x1, y x x0]; exact q1 x x0 x1) (fun k k0 k1 => by rw [up_n _ _ (by decide), h24 _ (by omega)]; exact q3 k k0 k1) (by simp only [mfA]; rw [q2, c_129]; rfl)
        · refine mi_iconst dX7_fitsBook_132 ?_
          refine ms_retZ dX7_fitsBook_133 rfl (by first | exact Or.inl rfl | exact Or.inr rfl) ⟨_, rfl, fun x x0 x1 => by rw [up_n _ _ x1, y x x0]; exact q1 x x0 x1, fun k k0 k1 => by rw [up_n _ _ (by decide), h24 _ (by omega)]; exact q3 k k0 k1, by rw [show n.toNat = j + 1 + kk by omega, mfA_f (show mfA (sp_tR M) (M 70) (M 68) (M 69) l (j + 1) w = false by simp only [mfA]; rw [c_129, Bool.and_false])]; rfl⟩ (by simp)
      · refine ms_goto (tgt := 134) dX7_fitsBook_24 (by decide) ?_
        refine mi_iinc dX7_fitsBook_134 rfl (by decide) rfl ?_
        dsimp only [List.set, Nat.reduceAdd]
        refine ms_goto (tgt := 2) dX7_fitsBook_137 (by decide) ?_
        exact ih (j + 1) N _ (by omega) q1 q3 (by simp only [mfA]; rw [q2]; unfold mfB; rw [if_pos c_21]; rfl)

set_option maxHeartbeats 4000000 in
set_option maxRecDepth 100000 in
theorem k_X7_fitsBook {S : mx_Sc} {f : Bool} {M : Nat → Int → Int} {L : Nat → Nat → Int64} {Rf : Nat → Nat → Option Nat} (hR : mx_rf Rf) (hT : sp_tok (sp_tR M)) {n l w : Int} (hn : 0 ≤ n ∧ n ≤ 99) (hnn : M 48 29 = n) (hl : 0 ≤ l ∧ l < M 53 1) (hw : -1 ≤ w ∧ w < M 53 1) (hO : ∀ j, 0 ≤ j → j < n → 0 ≤ M 70 j ∧ M 70 j < 64) (hD : ∀ j, 0 ≤ j → j < n → sp_vok (sp_tR M) (bkM (M 68) (M 70) j)) (hW : ∀ i, 0 ≤ i → i < 1800 → -1000 ≤ M 69 i ∧ M 69 i ≤ 1000) (hnk : nk M) : mx_C S mX7_fitsBook [.ref 48, .int (iI l), .int (iI w)] (f, mx_SH, M, L, Rf) 0 0 (fun v9 h9 => ∃ N, h9 = (f, mx_SH, N, L, Rf) ∧ (∀ x, x ≠ 64 → x ≠ 67 → N x = M x) ∧ nk N ∧ v9 = some (.int (iI (bI (mfA (sp_tR M) (M 70) (M 68) (M 69) l n.toNat w))))) (fun _ _ => False) := by
  refine mx_C_of (by decide) (by simp [Value.category]) (Nat.le_of_ble_eq_true rfl) rfl ?_
  show mx_E S mX7_fitsBook 0 [some (.ref 48), some (.int (iI l)), some (.int (iI w)), none, none] [] (f, mx_SH, M, L, Rf) 0 0 _ _
  refine mi_iconst dX7_fitsBook_0 ?_
  refine ms_istore_n dX7_fitsBook_1 (by decide) rfl ?_
  dsimp only [List.set, Nat.reduceAdd]
  exact l_X7_fb (S := S) (f := f) (L := L) hR hT hn hnn hl hw hO hD hW hnk n.toNat 0 M none (by omega) (fun _ _ _ => rfl) hnk rfl

