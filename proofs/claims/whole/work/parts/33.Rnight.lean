theorem mvk_out {t : sp_T} {lk v : Int → Int} {hf ng : Bool} {n i : Int} (h : sp_out v i = true) : sp_mvk t lk hf ng n v (i + 1) = sp_mvk t lk hf ng n v i := by
  funext j
  simp only [sp_mvk]
  by_cases h1 : 0 ≤ j ∧ j < 3 * i ∧ sp_out v (j / 3) = false
  · rw [if_pos h1, if_pos ⟨h1.1, by omega, h1.2.2⟩]
  · rw [if_neg h1, if_neg]
    rintro ⟨z1, z2, z3⟩
    by_cases e : j < 3 * i
    · exact h1 ⟨z1, e, z3⟩
    · rw [show j / 3 = i by omega, h] at z3
      cases z3
theorem mvk_in {t : sp_T} {lk v g : Int → Int} {hf ng : Bool} {n i : Int} (hi : 0 ≤ i) (h : sp_out v i = false) (hg : e3 g (sp_move t v n i (lk i) hf ng)) : iu (iu (iu (sp_mvk t lk hf ng n v i) (3 * i + 0) (g 0)) (3 * i + 1) (g 1)) (3 * i + 2) (g 2) = sp_mvk t lk hf ng n v (i + 1) := by
  funext j
  by_cases e : 3 * i ≤ j ∧ j < 3 * i + 3
  · have e1 : j / 3 = i := by omega
    have key : sp_mvk t lk hf ng n v (i + 1) j = sp_move t v n i (lk i) hf ng (j % 3) := by
      simp only [sp_mvk, e1]
      rw [if_pos ⟨by omega, by omega, h⟩]
    rw [key]
    rcases (show j = 3 * i + 0 ∨ j = 3 * i + 1 ∨ j = 3 * i + 2 by omega) with rfl | rfl | rfl
    · rw [iu_n _ _ (by omega), iu_n _ _ (by omega), iu_s, show (3 * i + 0) % 3 = 0 by omega]
      exact hg.1
    · rw [iu_n _ _ (by omega), iu_s, show (3 * i + 1) % 3 = 1 by omega]
      exact hg.2.1
    · rw [iu_s, show (3 * i + 2) % 3 = 2 by omega]
      exact hg.2.2
  · rw [iu_n _ _ (by omega), iu_n _ _ (by omega), iu_n _ _ (by omega)]
    simp only [sp_mvk]
    by_cases h1 : 0 ≤ j ∧ j < 3 * i ∧ sp_out v (j / 3) = false
    · rw [if_pos h1, if_pos ⟨h1.1, by omega, h1.2.2⟩]
    · rw [if_neg h1, if_neg]
      rintro ⟨z1, z2, z3⟩
      exact h1 ⟨z1, by omega, z3⟩
theorem qv.vok {t : sp_T} (hT : sp_tok t) {v u : Int → Int} (h : qv u v) (hv : sp_vok t v) : sp_vok t u := by
  have h1 := hT.2.1
  refine ⟨fun l a b => ?_, fun l a b => ?_⟩
  · rw [h _ (by omega) (by omega), h _ (by omega) (by omega), h _ (by omega) (by omega)]
    exact hv.1 l a b
  · rw [h _ (by omega) (by omega), h _ (by omega) (by omega)]
    exact hv.2 l a b
theorem sp_cnt_le (t : sp_T) (v : Int → Int) : 0 ≤ sp_cnt t v ∧ sp_cnt t v ≤ (t.1 1).toNat := by
  have key : ∀ k : Nat, 0 ≤ itN (fun l c => c + bI (sp_out v l)) k (0 : Int) ∧ itN (fun l c => c + bI (sp_out v l)) k (0 : Int) ≤ k := by
    intro k
    induction k with
    | zero => exact ⟨Int.le_refl _, Int.le_refl _⟩
    | succ k ih =>
      have h := bI_01 (sp_out v k)
      simp only [itN]
      omega
  exact key _
theorem in_low {t : sp_T} {n a : Int} {u : Int → Int} : ∀ j : Nat, (j : Int) ≤ a + 1 → itN (fun b v => sp_in t n a b v) j u = u
  | 0, _ => rfl
  | j + 1, h => by
    simp only [itN]
    rw [in_low j (by omega)]
    unfold sp_in
    rw [if_pos (Or.inl (by omega))]
theorem in_out {t : sp_T} {n a : Int} {u : Int → Int} {j : Nat} (h : sp_out (itN (fun b v => sp_in t n a b v) j u) a = true) : ∀ k : Nat, itN (fun b v => sp_in t n a b v) (j + k) u = itN (fun b v => sp_in t n a b v) j u
  | 0 => rfl
  | k + 1 => by
    show sp_in t n a ((j + k : Nat) : Int) (itN (fun b v => sp_in t n a b v) (j + k) u) = _
    rw [in_out h k]
    exact if_pos (Or.inr (Or.inl h))

set_option maxHeartbeats 4000000 in
set_option maxRecDepth 100000 in
theorem l_X7_gnA {S : mx_Sc} {f : Bool} {M : Nat → Int → Int} {L : Nat → Nat → Int64} {Rf : Nat → Nat → Option Nat} (hR : mx_rf Rf) (hT : sp_tok (sp_tR M)) {r : Nat} (hr9 : r < 900) (hs : mx_SH[r]? = some (0, 30)) {wr nw : Nat} (hw9 : wr < 900) (hsw : mx_SH[wr]? = some (0, nw)) (hnw : 6 ≤ nw ∧ nw ≤ 12) {hf ng : Bool} {n : Int} (hn : 0 ≤ n ∧ n ≤ 1200) (hr67 : r ≠ 67) (hr65 : r ≠ 65) (hwr : wr ≠ r ∧ wr ≠ 65 ∧ wr ≠ 67) (hrt : r ≠ 53 ∧ r ≠ 54 ∧ r ≠ 55 ∧ r ≠ 58 ∧ r ≠ 59 ∧ r ≠ 60) (hv : sp_vok (sp_tR M) (M r)) (hlk : sp_lok (sp_tR M) (M wr)) {P : Option Value → mx_H → Prop} {PX : String → mx_H → Prop} : ∀ (kk : Nat) (i : Int) (N : Nat → Int → Int) (o6 : Option Value), 0 ≤ i → i + kk = M 53 1 → (∀ x, x ≠ r → x ≠ 65 → x ≠ 67 → N x = M x) → qv (N 65) (M r) → N r = sp_mvk (sp_tR M) (M wr) hf ng n (M r) i → (∀ (N : Nat → Int → Int) (o6 : Option Value) (i9 : Int), (∀ x, x ≠ r → x ≠ 65 → x ≠ 67 → N x = M x) → N r = sp_mvk (sp_tR M) (M wr) hf ng n (M r) (M 53 1) → mx_E S mX7_goNight 91 [some (.ref 48), some (.ref r), some (.int (iI n)), some (.ref wr), some (.int (iI (bI hf + 2 * bI ng))), some (.int (iI i9)), o6, none] [] (f, mx_SH, N, L, Rf) 0 0 P PX) → mx_E S mX7_goNight 11 [some (.ref 48), some (.ref r), some (.int (iI n)), some (.ref wr), some (.int (iI (bI hf + 2 * bI ng))), some (.int (iI i)), o6, none] [] (f, mx_SH, N, L, Rf) 0 0 P PX := by
  intro kk
  induction kk with
  | zero => 
    intro i N o6 g0 g1 q1 q2 q3 hK
    have hT0 : 1 ≤ M 53 0 ∧ M 53 0 ≤ 30 := hT.1
    have hT1 : 0 ≤ M 53 1 ∧ M 53 1 ≤ 6 := hT.2.1
    have hT2 : 1 ≤ M 53 2 ∧ M 53 2 ≤ 9 := hT.2.2.1
    have hT3 : 0 ≤ M 53 3 ∧ M 53 3 ≤ 9 := hT.2.2.2.1
    have hT4 : 0 ≤ M 53 4 ∧ M 53 4 ≤ 9 := hT.2.2.2.2.1
    have hT5 : 1 ≤ M 53 5 ∧ M 53 5 ≤ 99 := hT.2.2.2.2.2.1
    have hT6 : 0 ≤ M 53 6 ∧ M 53 6 ≤ 10 := hT.2.2.2.2.2.2.1
    have eT : sp_tR N = sp_tR M := by simp only [sp_tR, q1 53 (by omega) (by decide) (by decide), q1 54 (by omega) (by decide) (by decide), q1 55 (by omega) (by decide) (by decide), q1 58 (by omega) (by decide) (by decide), q1 59 (by omega) (by decide) (by decide), q1 60 (by omega) (by decide) (by decide)]
    have eN : ∀ k, N 53 k = M 53 k := fun k => by rw [q1 53 (by omega) (by decide) (by decide)]
    have eN1 := eN 1
    have eW : N wr = M wr := q1 wr hwr.1 hwr.2.1 hwr.2.2
    refine ms_iload dX7_goNight_11 rfl ?_
    refine ms_aload_n dX7_goNight_13 rfl ?_
    refine ms_getR dX7_goNight_14 (fo_X7_43 rfl) (by first | rfl | assumption) rfl (by first | assumption | exact rf_48_5 hR ) ?_
    refine mi_iconst dX7_goNight_17 ?_
    refine ms_iald dX7_goNight_18 (by first | rfl | assumption) ?_
    refine mi_icmp_ge (tgt := 91) dX7_goNight_19 (by decide) (fun c_19 => ?_) (fun c_19 => ?_)
    · exact hK N _ i q1 (by rw [q3]; congr 1; omega)
    · exact absurd c_19 (by omega)
  | succ kk ih => 
    intro i N o6 g0 g1 q1 q2 q3 hK
    have hT0 : 1 ≤ M 53 0 ∧ M 53 0 ≤ 30 := hT.1
    have hT1 : 0 ≤ M 53 1 ∧ M 53 1 ≤ 6 := hT.2.1
    have hT2 : 1 ≤ M 53 2 ∧ M 53 2 ≤ 9 := hT.2.2.1
    have hT3 : 0 ≤ M 53 3 ∧ M 53 3 ≤ 9 := hT.2.2.2.1
    have hT4 : 0 ≤ M 53 4 ∧ M 53 4 ≤ 9 := hT.2.2.2.2.1
    have hT5 : 1 ≤ M 53 5 ∧ M 53 5 ≤ 99 := hT.2.2.2.2.2.1
    have hT6 : 0 ≤ M 53 6 ∧ M 53 6 ≤ 10 := hT.2.2.2.2.2.2.1
    have eT : sp_tR N = sp_tR M := by simp only [sp_tR, q1 53 (by omega) (by decide) (by decide), q1 54 (by omega) (by decide) (by decide), q1 55 (by omega) (by decide) (by decide), q1 58 (by omega) (by decide) (by decide), q1 59 (by omega) (by decide) (by decide), q1 60 (by omega) (by decide) (by decide)]
    have eN : ∀ k, N 53 k = M 53 k := fun k => by rw [q1 53 (by omega) (by decide) (by decide)]
    have eN1 := eN 1
    have eW : N wr = M wr := q1 wr hwr.1 hwr.2.1 hwr.2.2
    have ho := (hv.2 i (by omega) (by omega)).1
    have e65 := q2 (18 + i) (by omega) (by omega)
    have hwi : -1 ≤ M wr i ∧ M wr i < M 53 1 := hlk i g0 (by show i < M 53 1; omega)
    refine ms_iload dX7_goNight_11 rfl ?_
    refine ms_aload_n dX7_goNight_13 rfl ?_
    refine ms_getR dX7_goNight_14 (fo_X7_43 rfl) (by first | rfl | assumption) rfl (by first | assumption | exact rf_48_5 hR ) ?_
    refine mi_iconst dX7_goNight_17 ?_
    refine ms_iald dX7_goNight_18 (by first | rfl | assumption) ?_
    refine mi_icmp_ge (tgt := 91) dX7_goNight_19 (by decide) (fun c_19 => ?_) (fun c_19 => ?_)
    · exact absurd c_19 (by omega)
    · refine ms_aload_n dX7_goNight_22 rfl ?_
      refine ms_getR dX7_goNight_23 (fo_X7_83 rfl) (by first | rfl | assumption) rfl (by first | assumption | exact rf_48_27 hR ) ?_
      refine ms_iload dX7_goNight_26 rfl ?_
      refine ms_callS2 dX7_goNight_28 cv_X7_goNight_X7_isOut (k_X7_isOut (M := N) (r := 65) (by decide) rfl (l := i) (by omega) (by omega)) (Nat.le_of_ble_eq_true rfl) rfl (fun _ _ z => z.elim) (fun v9 h9 hp9 => ?_)
      obtain ⟨rfl, rfl⟩ := hp9
      rw [q2.out (a := i) (by omega)]
      refine mi_if_eqB (tgt := 37) dX7_goNight_31 (by decide) (fun c_31 => ?_) (fun c_31 => ?_)
      · refine ms_aload_n dX7_goNight_37 rfl ?_
        refine ms_aload_n dX7_goNight_38 rfl ?_
        refine ms_getR dX7_goNight_39 (fo_X7_83 rfl) (by first | rfl | assumption) rfl (by first | assumption | exact rf_48_27 hR ) ?_
        refine ms_iload_n dX7_goNight_42 rfl ?_
        refine ms_iload dX7_goNight_43 rfl ?_
        refine ms_aload_n dX7_goNight_45 rfl ?_
        refine ms_iload dX7_goNight_46 rfl ?_
        refine ms_iald dX7_goNight_48 (by first | rfl | assumption) ?_
        refine ms_iload dX7_goNight_49 rfl ?_
        refine ms_callV5 (ci := 7) (r := (RX7, TX7, 48)) dX7_goNight_51 cv_X7_goNight_X7_moveOne (k_X7_moveOne (M := N) hR (by rw [eT]; exact hT) (r := 65) (by decide) rfl (n := n) (l := i) (w := N wr i) (by omega) (by omega) (by rw [eW]; omega) (by decide) (by rw [eT]; exact q2.vok hT hv)) rfl rfl (by first | rfl | assumption) (Nat.le_of_ble_eq_true rfl) rfl (fun _ _ z => z.elim) (fun v9 h9 hp9 => ?_)
        obtain ⟨⟨g, rfl, hg⟩, rfl⟩ := hp9
        have hg2 : e3 g (sp_move (sp_tR M) (M r) n i (M wr i) hf ng) := by
          rw [eT, eW] at hg
          exact hg.tr (q2.move hT (n := n) (l := i) (w := M wr i) ⟨g0, by show i < M 53 1; omega⟩ hwi hf ng)
        refine mi_iconst dX7_goNight_54 ?_
        refine ms_istore dX7_goNight_55 (by decide) rfl ?_
        dsimp only [List.set, Nat.reduceAdd]
        refine ms_iload dX7_goNight_57 rfl ?_
        refine mi_iconst dX7_goNight_59 ?_
        refine mi_icmp_ge (tgt := 85) dX7_goNight_60 (by decide) (fun c_60 => ?_) (fun c_60 => ?_)
        · exact absurd c_60 (by omega)
        · refine ms_aload_n dX7_goNight_63 rfl ?_
          refine mi_iconst dX7_goNight_64 ?_
          refine ms_iload dX7_goNight_65 rfl ?_
          refine mi_imul dX7_goNight_67 ?_
          refine ms_iload dX7_goNight_68 rfl ?_
          refine mi_iadd dX7_goNight_70 ?_
          refine ms_aload_n dX7_goNight_71 rfl ?_
          refine ms_getR dX7_goNight_72 (fo_X7_89 rfl) (by first | rfl | assumption) rfl (by first | assumption | exact rf_48_30 hR ) ?_
          refine ms_iload dX7_goNight_75 rfl ?_
          refine ms_iald dX7_goNight_77 (by first | rfl | assumption) ?_
          refine ms_iast dX7_goNight_78 (by first | rfl | assumption) ?_
          refine mi_iincL (1) dX7_goNight_79 rfl (by decide) rfl (by decide) ?_
          dsimp only [List.set, Nat.reduceAdd]
          refine ms_goto (tgt := 57) dX7_goNight_82 (by decide) ?_
          refine ms_iload dX7_goNight_57 rfl ?_
          refine mi_iconst dX7_goNight_59 ?_
          refine mi_icmp_ge (tgt := 85) dX7_goNight_60 (by decide) (fun c_60 => ?_) (fun c_60 => ?_)
          · exact absurd c_60 (by omega)
          · refine ms_aload_n dX7_goNight_63 rfl ?_
            refine mi_iconst dX7_goNight_64 ?_
            refine ms_iload dX7_goNight_65 rfl ?_
            refine mi_imul dX7_goNight_67 ?_
            refine ms_iload dX7_goNight_68 rfl ?_
            refine mi_iadd dX7_goNight_70 ?_
            refine ms_aload_n dX7_goNight_71 rfl ?_
            refine ms_getR dX7_goNight_72 (fo_X7_89 rfl) (by first | rfl | assumption) rfl (by first | assumption | exact rf_48_30 hR ) ?_
            refine ms_iload dX7_goNight_75 rfl ?_
            refine ms_iald dX7_goNight_77 (by first | rfl | assumption) ?_
            refine ms_iast dX7_goNight_78 (by first | rfl | assumption) ?_
            refine mi_iincL (2) dX7_goNight_79 rfl (by decide) rfl (by decide) ?_
            dsimp only [List.set, Nat.reduceAdd]
            refine ms_goto (tgt := 57) dX7_goNight_82 (by decide) ?_
            refine ms_iload dX7_goNight_57 rfl ?_
            refine mi_iconst dX7_goNight_59 ?_
            refine mi_icmp_ge (tgt := 85) dX7_goNight_60 (by decide) (fun c_60 => ?_) (fun c_60 => ?_)
            · exact absurd c_60 (by omega)
            · refine ms_aload_n dX7_goNight_63 rfl ?_
              refine mi_iconst dX7_goNight_64 ?_
              refine ms_iload dX7_goNight_65 rfl ?_
              refine mi_imul dX7_goNight_67 ?_
              refine ms_iload dX7_goNight_68 rfl ?_
              refine mi_iadd dX7_goNight_70 ?_
              refine ms_aload_n dX7_goNight_71 rfl ?_
              refine ms_getR dX7_goNight_72 (fo_X7_89 rfl) (by first | rfl | assumption) rfl (by first | assumption | exact rf_48_30 hR ) ?_
              refine ms_iload dX7_goNight_75 rfl ?_
              refine ms_iald dX7_goNight_77 (by first | rfl | assumption) ?_
              refine ms_iast dX7_goNight_78 (by first | rfl | assumption) ?_
              refine mi_iincL (3) dX7_goNight_79 rfl (by decide) rfl (by decide) ?_
              dsimp only [List.set, Nat.reduceAdd]
              refine ms_goto (tgt := 57) dX7_goNight_82 (by decide) ?_
              refine ms_iload dX7_goNight_57 rfl ?_
              refine mi_iconst dX7_goNight_59 ?_
              refine mi_icmp_ge (tgt := 85) dX7_goNight_60 (by decide) (fun c_60 => ?_) (fun c_60 => ?_)
              · refine mx_gen (fun N2 => (∀ x, x ≠ r → x ≠ 65 → x ≠ 67 → N2 x = M x) ∧ qv (N2 65) (M r) ∧ N2 r = sp_mvk (sp_tR M) (M wr) hf ng n (M r) (i + 1)) ⟨fun x h1 h2 h3 => by simp only [va_up, if_neg h1, if_neg h3]; exact q1 x h1 h2 h3, by simp only [va_up, if_neg (Ne.symm hr65), if_neg (show ¬ (65 = 67) by decide)]; exact q2, ?_⟩ (fun N2 hN2 => ?_)
                · rw [← mvk_in g0 c_31 hg2, ← q3]
                  simp [va_up, hr67, Ne.symm hr67]
                · refine mi_iinc dX7_goNight_85 rfl (by decide) rfl ?_
                  dsimp only [List.set, Nat.reduceAdd]
                  refine ms_goto (tgt := 11) dX7_goNight_88 (by decide) ?_
                  exact ih (i + 1) N2 _ (by omega) (by omega) hN2.1 hN2.2.1 hN2.2.2 hK
              · exact absurd c_60 (by omega)
      · refine ms_goto (tgt := 85) dX7_goNight_34 (by decide) ?_
        refine mi_iinc dX7_goNight_85 rfl (by decide) rfl ?_
        dsimp only [List.set, Nat.reduceAdd]
        refine ms_goto (tgt := 11) dX7_goNight_88 (by decide) ?_
        exact ih (i + 1) N _ (by omega) (by omega) q1 q2 (by rw [q3, mvk_out c_31]) hK

set_option maxHeartbeats 4000000 in
set_option maxRecDepth 100000 in
theorem l_X7_gnI {S : mx_Sc} {f : Bool} {M : Nat → Int → Int} {L : Nat → Nat → Int64} {Rf : Nat → Nat → Option Nat} (hR : mx_rf Rf) (hT : sp_tok (sp_tR M)) {r : Nat} (hr9 : r < 900) (hs : mx_SH[r]? = some (0, 30)) {wr nw : Nat} (hw9 : wr < 900) (hsw : mx_SH[wr]? = some (0, nw)) (hnw : 6 ≤ nw ∧ nw ≤ 12) {hf ng : Bool} {n : Int} (hn : 0 ≤ n ∧ n ≤ 1200) (hrt : r ≠ 53 ∧ r ≠ 54 ∧ r ≠ 55 ∧ r ≠ 58 ∧ r ≠ 59 ∧ r ≠ 60) {P : Option Value → mx_H → Prop} {PX : String → mx_H → Prop} {a c0 : Int} (ha : 0 ≤ a ∧ a < M 53 1) {u : Int → Int} (hc3 : c0 ≥ 0) : ∀ (kk : Nat) (j : Nat) (N : Nat → Int → Int) (m : Int), (j : Int) ≥ a + 1 → j + kk = M 53 1 → (∀ x, x ≠ r → N x = M x) → N r = itN (fun b v => sp_in (sp_tR M) n a b v) j u → sp_vok (sp_tR M) (N r) → 0 ≤ m → m ≤ 3 → sp_cnt (sp_tR M) (N r) = c0 + 2 * m → (∀ (N : Nat → Int → Int) (m2 b2 : Int), (∀ x, x ≠ r → N x = M x) → N r = sp_wedA (sp_tR M) n a u → sp_vok (sp_tR M) (N r) → 0 ≤ m2 → m2 ≤ 3 → sp_cnt (sp_tR M) (N r) = c0 + 2 * m2 → mx_E S mX7_goNight 223 [some (.ref 48), some (.ref r), some (.int (iI n)), some (.ref wr), some (.int (iI (bI hf + 2 * bI ng))), some (.int (iI m2)), some (.int (iI a)), some (.int (iI b2))] [] (f, mx_SH, N, L, Rf) 0 0 P PX) → mx_E S mX7_goNight 114 [some (.ref 48), some (.ref r), some (.int (iI n)), some (.ref wr), some (.int (iI (bI hf + 2 * bI ng))), some (.int (iI m)), some (.int (iI a)), some (.int (iI (j : Int)))] [] (f, mx_SH, N, L, Rf) 0 0 P PX := by
  intro kk
  induction kk with
  | zero => 
    intro j N m g0 g1 q1 q2 hv hm hm3 hc hK
    have hT0 : 1 ≤ M 53 0 ∧ M 53 0 ≤ 30 := hT.1
    have hT1 : 0 ≤ M 53 1 ∧ M 53 1 ≤ 6 := hT.2.1
    have hT2 : 1 ≤ M 53 2 ∧ M 53 2 ≤ 9 := hT.2.2.1
    have hT3 : 0 ≤ M 53 3 ∧ M 53 3 ≤ 9 := hT.2.2.2.1
    have hT4 : 0 ≤ M 53 4 ∧ M 53 4 ≤ 9 := hT.2.2.2.2.1
    have hT5 : 1 ≤ M 53 5 ∧ M 53 5 ≤ 99 := hT.2.2.2.2.2.1
    have hT6 : 0 ≤ M 53 6 ∧ M 53 6 ≤ 10 := hT.2.2.2.2.2.2.1
    have hTn : ((M 53 1).toNat : Int) = M 53 1 := Int.toNat_of_nonneg hT1.1
    have eT : sp_tR N = sp_tR M := by simp only [sp_tR, q1 53 (by omega), q1 54 (by omega), q1 55 (by omega), q1 58 (by omega), q1 59 (by omega), q1 60 (by omega)]
    have eN : ∀ k, N 53 k = M 53 k := fun k => by rw [q1 53 (by omega)]
    have eN1 := eN 1
    have eN3 := eN 3
    have eS : ∀ k, N 55 k = M 55 k := fun k => by rw [q1 55 (by omega)]
    refine ms_iload dX7_goNight_114 rfl ?_
    refine ms_aload_n dX7_goNight_116 rfl ?_
    refine ms_getR dX7_goNight_117 (fo_X7_43 rfl) (by first | rfl | assumption) rfl (by first | assumption | exact rf_48_5 hR ) ?_
    refine mi_iconst dX7_goNight_120 ?_
    refine ms_iald dX7_goNight_121 (by first | rfl | assumption) ?_
    refine mi_icmp_ge (tgt := 223) dX7_goNight_122 (by decide) (fun c_122 => ?_) (fun c_122 => ?_)
    · exact hK N m _ q1 (by rw [q2]; unfold sp_wedA; simp only; rw [show (M 53 1).toNat = j by omega]) hv hm hm3 hc
    · exact absurd c_122 (by omega)
  | succ kk ih => 
    intro j N m g0 g1 q1 q2 hv hm hm3 hc hK
    have hT0 : 1 ≤ M 53 0 ∧ M 53 0 ≤ 30 := hT.1
    have hT1 : 0 ≤ M 53 1 ∧ M 53 1 ≤ 6 := hT.2.1
    have hT2 : 1 ≤ M 53 2 ∧ M 53 2 ≤ 9 := hT.2.2.1
    have hT3 : 0 ≤ M 53 3 ∧ M 53 3 ≤ 9 := hT.2.2.2.1
    have hT4 : 0 ≤ M 53 4 ∧ M 53 4 ≤ 9 := hT.2.2.2.2.1
    have hT5 : 1 ≤ M 53 5 ∧ M 53 5 ≤ 99 := hT.2.2.2.2.2.1
    have hT6 : 0 ≤ M 53 6 ∧ M 53 6 ≤ 10 := hT.2.2.2.2.2.2.1
    have hTn : ((M 53 1).toNat : Int) = M 53 1 := Int.toNat_of_nonneg hT1.1
    have eT : sp_tR N = sp_tR M := by simp only [sp_tR, q1 53 (by omega), q1 54 (by omega), q1 55 (by omega), q1 58 (by omega), q1 59 (by omega), q1 60 (by omega)]
    have eN : ∀ k, N 53 k = M 53 k := fun k => by rw [q1 53 (by omega)]
    have eN1 := eN 1
    have eN3 := eN 3
    have eS : ∀ k, N 55 k = M 55 k := fun k => by rw [q1 55 (by omega)]
    have hoa := (hv.2 a (by omega) (by omega)).1
    have hoj := (hv.2 (j : Int) (by omega) (by omega)).1
    have hsa : 0 ≤ M 55 a ∧ M 55 a ≤ 1 := (hT.2.2.2.2.2.2.2.1 a ha.1 ha.2).2
    have hsj : 0 ≤ M 55 (j : Int) ∧ M 55 (j : Int) ≤ 1 := (hT.2.2.2.2.2.2.2.1 (j : Int) (by omega) (by show (j : Int) < M 53 1; omega)).2
    have esa := eS a
    have esj := eS (j : Int)
    have hfar := sp_far_le (t := sp_tR M) hv (a := a) (b := (j : Int)) ha ⟨by omega, by show (j : Int) < M 53 1; omega⟩
    simp only at hfar
    refine ms_iload dX7_goNight_114 rfl ?_
    refine ms_aload_n dX7_goNight_116 rfl ?_
    refine ms_getR dX7_goNight_117 (fo_X7_43 rfl) (by first | rfl | assumption) rfl (by first | assumption | exact rf_48_5 hR ) ?_
    refine mi_iconst dX7_goNight_120 ?_
    refine ms_iald dX7_goNight_121 (by first | rfl | assumption) ?_
    refine mi_icmp_ge (tgt := 223) dX7_goNight_122 (by decide) (fun c_122 => ?_) (fun c_122 => ?_)
    · exact absurd c_122 (by omega)
    · refine ms_aload_n dX7_goNight_125 rfl ?_
      refine ms_iload dX7_goNight_126 rfl ?_
      refine ms_callS2 dX7_goNight_128 cv_X7_goNight_X7_isOut (k_X7_isOut (M := N) hr9 hs (l := a) (by omega) (by omega)) (Nat.le_of_ble_eq_true rfl) rfl (fun _ _ z => z.elim) (fun v9 h9 hp9 => ?_)
      obtain ⟨rfl, rfl⟩ := hp9
      refine mi_if_neB (tgt := 223) dX7_goNight_131 (by decide) (fun c_131 => ?_) (fun c_131 => ?_)
      · exact hK N m _ q1 (by rw [q2]; unfold sp_wedA; simp only; rw [show (M 53 1).toNat = j + (kk + 1) by omega]; exact (in_out (by rw [← q2]; exact c_131) (kk + 1)).symm) hv hm hm3 hc
      · refine ms_aload_n dX7_goNight_134 rfl ?_
        refine ms_iload dX7_goNight_135 rfl ?_
        refine ms_callS2 dX7_goNight_137 cv_X7_goNight_X7_isOut (k_X7_isOut (M := N) hr9 hs (l := (j : Int)) (by omega) (by omega)) (Nat.le_of_ble_eq_true rfl) rfl (fun _ _ z => z.elim) (fun v9 h9 hp9 => ?_)
        obtain ⟨rfl, rfl⟩ := hp9
        refine mi_if_neB (tgt := 217) dX7_goNight_140 (by decide) (fun c_140 => ?_) (fun c_140 => ?_)
        · refine mi_iinc dX7_goNight_217 rfl (by decide) rfl ?_
          dsimp only [List.set, Nat.reduceAdd]
          refine ms_goto (tgt := 114) dX7_goNight_220 (by decide) ?_
          exact ih (j + 1) N m (by omega) (by omega) q1 (by show N r = sp_in (sp_tR M) n a (j : Int) (itN (fun b v => sp_in (sp_tR M) n a b v) j u); rw [← q2]; exact (if_pos (Or.inr (Or.inr (Or.inl c_140)))).symm) hv hm hm3 hc hK
        · refine ms_aload_n dX7_goNight_143 rfl ?_
          refine ms_getR dX7_goNight_144 (fo_X7_49 rfl) (by first | rfl | assumption) rfl (by first | assumption | exact rf_48_7 hR ) ?_
          refine ms_iload dX7_goNight_147 rfl ?_
          refine ms_iald dX7_goNight_149 (by first | rfl | assumption) ?_
          refine ms_aload_n dX7_goNight_150 rfl ?_
          refine ms_getR dX7_goNight_151 (fo_X7_49 rfl) (by first | rfl | assumption) rfl (by first | assumption | exact rf_48_7 hR ) ?_
          refine ms_iload dX7_goNight_154 rfl ?_
          refine ms_iald dX7_goNight_156 (by first | rfl | assumption) ?_
          refine mi_icmp_eq (tgt := 217) dX7_goNight_157 (by decide) (fun c_157 => ?_) (fun c_157 => ?_)
          · refine mi_iinc dX7_goNight_217 rfl (by decide) rfl ?_
            dsimp only [List.set, Nat.reduceAdd]
            refine ms_goto (tgt := 114) dX7_goNight_220 (by decide) ?_
            exact ih (j + 1) N m (by omega) (by omega) q1 (by show N r = sp_in (sp_tR M) n a (j : Int) (itN (fun b v => sp_in (sp_tR M) n a b v) j u); rw [← q2]; exact (if_pos (Or.inr (Or.inr (Or.inr (Or.inl (by show M 55 a = M 55 (j : Int); omega)))))).symm) hv hm hm3 hc hK
          · refine ms_aload_n dX7_goNight_160 rfl ?_
            refine ms_iload dX7_goNight_161 rfl ?_
            refine ms_iload dX7_goNight_163 rfl ?_
            refine ms_callS3 dX7_goNight_165 cv_X7_goNight_X7_farOf (k_X7_farOf (M := N) hr9 hs hT hv (a := a) (b := (j : Int)) ha ⟨by omega, by show (j : Int) < M 53 1; omega⟩) (Nat.le_of_ble_eq_true rfl) rfl (fun _ _ z => z.elim) (fun v9 h9 hp9 => ?_)
            obtain ⟨rfl, rfl⟩ := hp9
            refine ms_aload_n dX7_goNight_168 rfl ?_
            refine ms_getR dX7_goNight_169 (fo_X7_43 rfl) (by first | rfl | assumption) rfl (by first | assumption | exact rf_48_5 hR ) ?_
            refine mi_iconst dX7_goNight_172 ?_
            refine ms_iald dX7_goNight_173 (by first | rfl | assumption) ?_
            refine mi_icmp_le (tgt := 180) dX7_goNight_174 (by decide) (fun c_174 => ?_) (fun c_174 => ?_)
            · refine ms_aload_n dX7_goNight_180 rfl ?_
              refine mi_bipush dX7_goNight_181 (by decide) ?_
              refine ms_iload dX7_goNight_183 rfl ?_
              refine mi_iadd dX7_goNight_185 ?_
              refine ms_iload dX7_goNight_186 rfl ?_
              refine ms_iast dX7_goNight_188 (by first | rfl | assumption) ?_
              refine ms_aload_n dX7_goNight_189 rfl ?_
              refine mi_bipush dX7_goNight_190 (by decide) ?_
              refine ms_iload dX7_goNight_192 rfl ?_
              refine mi_iadd dX7_goNight_194 ?_
              refine ms_iload dX7_goNight_195 rfl ?_
              refine ms_iast dX7_goNight_197 (by first | rfl | assumption) ?_
              refine ms_aload_n dX7_goNight_198 rfl ?_
              refine mi_bipush dX7_goNight_199 (by decide) ?_
              refine ms_iload dX7_goNight_201 rfl ?_
              refine mi_iadd dX7_goNight_203 ?_
              refine ms_iload_n dX7_goNight_204 rfl ?_
              refine ms_iast dX7_goNight_205 (by first | rfl | assumption) ?_
              refine ms_aload_n dX7_goNight_206 rfl ?_
              refine mi_bipush dX7_goNight_207 (by decide) ?_
              refine ms_iload dX7_goNight_209 rfl ?_
              refine mi_iadd dX7_goNight_211 ?_
              refine ms_iload_n dX7_goNight_212 rfl ?_
              refine ms_iast dX7_goNight_213 (by first | rfl | assumption) ?_
              refine mi_iinc dX7_goNight_214 rfl (by decide) rfl ?_
              dsimp only [List.set, Nat.reduceAdd]
              have hcm := sp_cnt_marry (t := sp_tR M) hT (v := N r) (a := a) (b := (j : Int)) (n := n) ha ⟨by omega, by show (j : Int) < M 53 1; omega⟩ (by omega) c_131 c_140
              have hle := sp_cnt_le (sp_tR M) (sp_marry (N r) a (j : Int) n)
              have hle1 : ((((sp_tR M).1 1).toNat : Nat) : Int) ≤ 6 := by simp only; omega
              refine mx_gen (fun N2 => (∀ x, x ≠ r → N2 x = M x) ∧ N2 r = sp_marry (N r) a (j : Int) n) ⟨fun x h1 => by simp only [va_up, if_neg h1]; exact q1 x h1, by simp [va_up, sp_marry]⟩ (fun N2 hN2 => ?_)
              refine mi_iinc dX7_goNight_217 rfl (by decide) rfl ?_
              dsimp only [List.set, Nat.reduceAdd]
              refine ms_goto (tgt := 114) dX7_goNight_220 (by decide) ?_
              exact ih (j + 1) N2 (m + 1) (by omega) (by omega) hN2.1 (by show N2 r = sp_in (sp_tR M) n a (j : Int) (itN (fun b v => sp_in (sp_tR M) n a b v) j u); rw [← q2, hN2.2]; exact (if_neg (by rintro (z | z | z | z | z); omega; (rw [c_131] at z; cases z); (rw [c_140] at z; cases z); (simp only at z; omega); (simp only at z; omega))).symm) (by rw [hN2.2]; exact sp_marry_ok hT hv ha ⟨by omega, by show (j : Int) < M 53 1; omega⟩ hn) (by omega) (by omega) (by rw [hN2.2, hcm, hc]; omega) hK
            · refine ms_goto (tgt := 217) dX7_goNight_177 (by decide) ?_
              refine mi_iinc dX7_goNight_217 rfl (by decide) rfl ?_
              dsimp only [List.set, Nat.reduceAdd]
              refine ms_goto (tgt := 114) dX7_goNight_220 (by decide) ?_
              exact ih (j + 1) N m (by omega) (by omega) q1 (by show N r = sp_in (sp_tR M) n a (j : Int) (itN (fun b v => sp_in (sp_tR M) n a b v) j u); rw [← q2]; exact (if_pos (Or.inr (Or.inr (Or.inr (Or.inr (by show M 53 3 < _; omega)))))).symm) hv hm hm3 hc hK

set_option maxHeartbeats 4000000 in
set_option maxRecDepth 100000 in
theorem l_X7_gnO {S : mx_Sc} {f : Bool} {M : Nat → Int → Int} {L : Nat → Nat → Int64} {Rf : Nat → Nat → Option Nat} (hR : mx_rf Rf) (hT : sp_tok (sp_tR M)) {r : Nat} (hr9 : r < 900) (hs : mx_SH[r]? = some (0, 30)) {wr nw : Nat} (hw9 : wr < 900) (hsw : mx_SH[wr]? = some (0, nw)) (hnw : 6 ≤ nw ∧ nw ≤ 12) {hf ng : Bool} {n : Int} (hn : 0 ≤ n ∧ n ≤ 1200) (hrt : r ≠ 53 ∧ r ≠ 54 ∧ r ≠ 55 ∧ r ≠ 58 ∧ r ≠ 59 ∧ r ≠ 60) : ∀ (kk : Nat) (i : Nat) (N : Nat → Int → Int) (m : Int) (o7 : Option Value), i + kk = M 53 1 → (∀ x, x ≠ r → N x = M x) → N r = itN (fun a v => sp_wedA (sp_tR M) n a v) i (M r) → sp_vok (sp_tR M) (N r) → 0 ≤ m → m ≤ 3 → sp_cnt (sp_tR M) (N r) = sp_cnt (sp_tR M) (M r) + 2 * m → mx_E S mX7_goNight 97 [some (.ref 48), some (.ref r), some (.int (iI n)), some (.ref wr), some (.int (iI (bI hf + 2 * bI ng))), some (.int (iI m)), some (.int (iI (i : Int))), o7] [] (f, mx_SH, N, L, Rf) 0 0 (fun v9 h9 => ∃ N m, h9 = (f, mx_SH, N, L, Rf) ∧ v9 = some (.int (iI m)) ∧ (∀ x, x ≠ r → N x = M x) ∧ N r = sp_wed (sp_tR M) n (M r) ∧ sp_vok (sp_tR M) (N r) ∧ 0 ≤ m ∧ m ≤ 3 ∧ sp_cnt (sp_tR M) (N r) = sp_cnt (sp_tR M) (M r) + 2 * m) (fun _ _ => False) := by
  intro kk
  induction kk with
  | zero => 
    intro i N m o7 g1 q1 q2 hv hm hm3 hc
    have hT0 : 1 ≤ M 53 0 ∧ M 53 0 ≤ 30 := hT.1
    have hT1 : 0 ≤ M 53 1 ∧ M 53 1 ≤ 6 := hT.2.1
    have hT2 : 1 ≤ M 53 2 ∧ M 53 2 ≤ 9 := hT.2.2.1
    have hT3 : 0 ≤ M 53 3 ∧ M 53 3 ≤ 9 := hT.2.2.2.1
    have hT4 : 0 ≤ M 53 4 ∧ M 53 4 ≤ 9 := hT.2.2.2.2.1
    have hT5 : 1 ≤ M 53 5 ∧ M 53 5 ≤ 99 := hT.2.2.2.2.2.1
    have hT6 : 0 ≤ M 53 6 ∧ M 53 6 ≤ 10 := hT.2.2.2.2.2.2.1
    have hTn : ((M 53 1).toNat : Int) = M 53 1 := Int.toNat_of_nonneg hT1.1
    have eT : sp_tR N = sp_tR M := by simp only [sp_tR, q1 53 (by omega), q1 54 (by omega), q1 55 (by omega), q1 58 (by omega), q1 59 (by omega), q1 60 (by omega)]
    have eN : ∀ k, N 53 k = M 53 k := fun k => by rw [q1 53 (by omega)]
    have eN1 := eN 1
    have eN3 := eN 3
    have eS : ∀ k, N 55 k = M 55 k := fun k => by rw [q1 55 (by omega)]
    refine ms_iload dX7_goNight_97 rfl ?_
    refine ms_aload_n dX7_goNight_99 rfl ?_
    refine ms_getR dX7_goNight_100 (fo_X7_43 rfl) (by first | rfl | assumption) rfl (by first | assumption | exact rf_48_5 hR ) ?_
    refine mi_iconst dX7_goNight_103 ?_
    refine ms_iald dX7_goNight_104 (by first | rfl | assumption) ?_
    refine mi_icmp_ge (tgt := 229) dX7_goNight_105 (by decide) (fun c_105 => ?_) (fun c_105 => ?_)
    · refine ms_iload dX7_goNight_229 rfl ?_
      refine ms_ret dX7_goNight_231 rfl ⟨N, m, rfl, rfl, q1, by rw [q2]; unfold sp_wed; simp only; rw [show (M 53 1).toNat = i by omega], hv, hm, hm3, hc⟩ (by simp)
    · exact absurd c_105 (by omega)
  | succ kk ih => 
    intro i N m o7 g1 q1 q2 hv hm hm3 hc
    have hT0 : 1 ≤ M 53 0 ∧ M 53 0 ≤ 30 := hT.1
    have hT1 : 0 ≤ M 53 1 ∧ M 53 1 ≤ 6 := hT.2.1
    have hT2 : 1 ≤ M 53 2 ∧ M 53 2 ≤ 9 := hT.2.2.1
    have hT3 : 0 ≤ M 53 3 ∧ M 53 3 ≤ 9 := hT.2.2.2.1
    have hT4 : 0 ≤ M 53 4 ∧ M 53 4 ≤ 9 := hT.2.2.2.2.1
    have hT5 : 1 ≤ M 53 5 ∧ M 53 5 ≤ 99 := hT.2.2.2.2.2.1
    have hT6 : 0 ≤ M 53 6 ∧ M 53 6 ≤ 10 := hT.2.2.2.2.2.2.1
    have hTn : ((M 53 1).toNat : Int) = M 53 1 := Int.toNat_of_nonneg hT1.1
    have eT : sp_tR N = sp_tR M := by simp only [sp_tR, q1 53 (by omega), q1 54 (by omega), q1 55 (by omega), q1 58 (by omega), q1 59 (by omega), q1 60 (by omega)]
    have eN : ∀ k, N 53 k = M 53 k := fun k => by rw [q1 53 (by omega)]
    have eN1 := eN 1
    have eN3 := eN 3
    have eS : ∀ k, N 55 k = M 55 k := fun k => by rw [q1 55 (by omega)]
    refine ms_iload dX7_goNight_97 rfl ?_
    refine ms_aload_n dX7_goNight_99 rfl ?_
    refine ms_getR dX7_goNight_100 (fo_X7_43 rfl) (by first | rfl | assumption) rfl (by first | assumption | exact rf_48_5 hR ) ?_
    refine mi_iconst dX7_goNight_103 ?_
    refine ms_iald dX7_goNight_104 (by first | rfl | assumption) ?_
    refine mi_icmp_ge (tgt := 229) dX7_goNight_105 (by decide) (fun c_105 => ?_) (fun c_105 => ?_)
    · exact absurd c_105 (by omega)
    · refine ms_iload dX7_goNight_108 rfl ?_
      refine mi_iconst dX7_goNight_110 ?_
      refine mi_iadd dX7_goNight_111 ?_
      refine ms_istore dX7_goNight_112 (by decide) rfl ?_
      dsimp only [List.set, Nat.reduceAdd]
      have i9 := l_X7_gnI (S := S) (f := f) (L := L) (hf := hf) (ng := ng) (n := n) (P := (fun v9 h9 => ∃ N m, h9 = (f, mx_SH, N, L, Rf) ∧ v9 = some (.int (iI m)) ∧ (∀ x, x ≠ r → N x = M x) ∧ N r = sp_wed (sp_tR M) n (M r) ∧ sp_vok (sp_tR M) (N r) ∧ 0 ≤ m ∧ m ≤ 3 ∧ sp_cnt (sp_tR M) (N r) = sp_cnt (sp_tR M) (M r) + 2 * m)) (PX := fun _ _ => False) hR hT hr9 hs hw9 hsw hnw hn hrt (a := (i : Int)) (c0 := sp_cnt (sp_tR M) (M r)) ⟨by omega, by omega⟩ (u := N r) (sp_cnt_le _ _).1 kk (i + 1) N m (by omega) (by omega) q1 (in_low (i + 1) (by omega)).symm hv hm hm3 hc
      refine i9 (fun N2 m2 b2 z1 z2 z3 z4 z5 z6 => ?_)
      refine mi_iinc dX7_goNight_223 rfl (by decide) rfl ?_
      dsimp only [List.set, Nat.reduceAdd]
      refine ms_goto (tgt := 97) dX7_goNight_226 (by decide) ?_
      exact ih (i + 1) N2 m2 _ (by omega) z1 (by rw [z2, q2]; rfl) z3 z4 z5 z6

theorem sp_cnt_mvk (t : sp_T) (lk : Int → Int) (hf ng : Bool) (n : Int) (v : Int → Int) (k : Int) (hk : k ≤ 6) : sp_cnt t (sp_mvk t lk hf ng n v k) = sp_cnt t v := by
  have e : ∀ l, 0 ≤ l → sp_out (sp_mvk t lk hf ng n v k) l = sp_out v l := fun l hl => by
    unfold sp_out
    rw [show sp_mvk t lk hf ng n v k (18 + l) = v (18 + l) by simp only [sp_mvk]; rw [if_neg (by omega)]]
  unfold sp_cnt
  generalize (t.1 1).toNat = K
  induction K with
  | zero => rfl
  | succ K ih =>
    simp only [itN]
    rw [ih, e _ (by omega)]
set_option maxHeartbeats 4000000 in
set_option maxRecDepth 100000 in
theorem k_X7_goNight {S : mx_Sc} {f : Bool} {M : Nat → Int → Int} {L : Nat → Nat → Int64} {Rf : Nat → Nat → Option Nat} (hR : mx_rf Rf) (hT : sp_tok (sp_tR M)) {r : Nat} (hr9 : r < 900) (hs : mx_SH[r]? = some (0, 30)) {wr nw : Nat} (hw9 : wr < 900) (hsw : mx_SH[wr]? = some (0, nw)) (hnw : 6 ≤ nw ∧ nw ≤ 12) {hf ng : Bool} {n : Int} (hn : 0 ≤ n ∧ n ≤ 1200) (hr67 : r ≠ 67) (hr65 : r ≠ 65) (hwr : wr ≠ r ∧ wr ≠ 65 ∧ wr ≠ 67) (hrt : r ≠ 53 ∧ r ≠ 54 ∧ r ≠ 55 ∧ r ≠ 58 ∧ r ≠ 59 ∧ r ≠ 60) (hv : sp_vok (sp_tR M) (M r)) (hlk : sp_lok (sp_tR M) (M wr)) : mx_C S mX7_goNight [.ref 48, .ref r, .int (iI n), .ref wr, .int (iI (bI hf + 2 * bI ng))] (f, mx_SH, M, L, Rf) 0 0 (fun v9 h9 => ∃ N m, h9 = (f, mx_SH, N, L, Rf) ∧ v9 = some (.int (iI m)) ∧ (∀ x, x ≠ r → x ≠ 65 → x ≠ 67 → N x = M x) ∧ N r = sp_night (sp_tR M) (M wr) hf ng n (M r) ∧ sp_vok (sp_tR M) (N r) ∧ 0 ≤ m ∧ m ≤ 3 ∧ sp_cnt (sp_tR M) (N r) = sp_cnt (sp_tR M) (M r) + 2 * m) (fun _ _ => False) := by
  refine mx_C_of (by decide) (by simp [Value.category]) (Nat.le_of_ble_eq_true rfl) rfl ?_
  show mx_E S mX7_goNight 0 [some (.ref 48), some (.ref r), some (.int (iI n)), some (.ref wr), some (.int (iI (bI hf + 2 * bI ng))), none, none, none] [] (f, mx_SH, M, L, Rf) 0 0 _ _
  have hT0 : 1 ≤ M 53 0 ∧ M 53 0 ≤ 30 := hT.1
  have hT1 : 0 ≤ M 53 1 ∧ M 53 1 ≤ 6 := hT.2.1
  have hT2 : 1 ≤ M 53 2 ∧ M 53 2 ≤ 9 := hT.2.2.1
  have hT3 : 0 ≤ M 53 3 ∧ M 53 3 ≤ 9 := hT.2.2.2.1
  have hT4 : 0 ≤ M 53 4 ∧ M 53 4 ≤ 9 := hT.2.2.2.2.1
  have hT5 : 1 ≤ M 53 5 ∧ M 53 5 ≤ 99 := hT.2.2.2.2.2.1
  have hT6 : 0 ≤ M 53 6 ∧ M 53 6 ≤ 10 := hT.2.2.2.2.2.2.1
  refine ms_aload_n dX7_goNight_0 rfl ?_
  refine ms_getR dX7_goNight_1 (fo_X7_83 rfl) (by first | rfl | assumption) rfl (by first | assumption | exact rf_48_27 hR ) ?_
  refine ms_aload_n dX7_goNight_4 rfl ?_
  refine ms_callS2 dX7_goNight_5 cv_X7_goNight_X7_be (k_X7_be (a := 65) (b := r) (by decide) hr9 rfl hs (by decide) (by decide) (Ne.symm hr65)) (Nat.le_of_ble_eq_true rfl) rfl (fun _ _ z => z.elim) (fun v9 h9 hp9 => ?_)
  obtain ⟨rfl, rfl⟩ := hp9
  refine mi_iconst dX7_goNight_8 ?_
  refine ms_istore dX7_goNight_9 (by decide) rfl ?_
  dsimp only [List.set, Nat.reduceAdd]
  refine l_X7_gnA (S := S) (f := f) (L := L) (hf := hf) (ng := ng) (P := (fun v9 h9 => ∃ N m, h9 = (f, mx_SH, N, L, Rf) ∧ v9 = some (.int (iI m)) ∧ (∀ x, x ≠ r → x ≠ 65 → x ≠ 67 → N x = M x) ∧ N r = sp_night (sp_tR M) (M wr) hf ng n (M r) ∧ sp_vok (sp_tR M) (N r) ∧ 0 ≤ m ∧ m ≤ 3 ∧ sp_cnt (sp_tR M) (N r) = sp_cnt (sp_tR M) (M r) + 2 * m)) (PX := fun _ _ => False) hR hT hr9 hs hw9 hsw hnw hn hr67 hr65 hwr hrt hv hlk (M 53 1).toNat 0 (va_up M 65 (ic (M r) (M 65) 0 0 (30 : Nat))) none (by omega) (by omega) (fun x h1 h2 h3 => by rw [up_n _ _ h2]) ?_ ?_ (fun N o6 i9 q1 q2 => ?_)
  · rw [up_s]
    intro i h0 h1
    simp only [ic]
    rw [if_pos (by omega)]
    congr 1
    omega
  · rw [up_n _ _ hr65]
    funext i
    simp only [sp_mvk]
    rw [if_neg (by omega)]
  · have eT : sp_tR N = sp_tR M := by simp only [sp_tR, q1 53 (by omega) (by decide) (by decide), q1 54 (by omega) (by decide) (by decide), q1 55 (by omega) (by decide) (by decide), q1 58 (by omega) (by decide) (by decide), q1 59 (by omega) (by decide) (by decide), q1 60 (by omega) (by decide) (by decide)]
    have eN : ∀ k, N 53 k = M 53 k := fun k => by rw [q1 53 (by omega) (by decide) (by decide)]
    have hvN : sp_vok (sp_tR N) (N r) := by
      rw [eT, q2]
      exact sp_mv_ok hT hv hlk hf ng n (Int.le_refl _)
    refine mi_iconst dX7_goNight_91 ?_
    refine ms_istore dX7_goNight_92 (by decide) rfl ?_
    dsimp only [List.set, Nat.reduceAdd]
    refine mi_iconst dX7_goNight_94 ?_
    refine ms_istore dX7_goNight_95 (by decide) rfl ?_
    dsimp only [List.set, Nat.reduceAdd]
    refine ms_conseq (fun v9 h9 hp => ?_) (fun _ _ z => z) (l_X7_gnO (S := S) (f := f) (L := L) (M := N) (hf := hf) (ng := ng) (n := n) hR (by rw [eT]; exact hT) hr9 hs hw9 hsw hnw hn hrt (M 53 1).toNat 0 N 0 none (by rw [eN]; omega) (fun _ _ => rfl) rfl hvN (by omega) (by omega) (by omega))
    obtain ⟨N2, m, y1, y2, y3, y4, y5, y6, y7, y8⟩ := hp
    rw [eT] at y4 y5 y8
    exact ⟨N2, m, y1, y2, fun x h1 h2 h3 => by rw [y3 x h1, q1 x h1 h2 h3], by rw [y4, q2]; rfl, y5, y6, y7, by rw [y8, q2, sp_cnt_mvk _ _ _ _ _ _ _ (by omega)]⟩

