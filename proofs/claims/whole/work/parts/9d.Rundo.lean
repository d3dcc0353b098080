set_option maxHeartbeats 4000000 in
set_option maxRecDepth 100000 in
theorem l_X7_un1 {S : mx_Sc} {f : Bool} {M : Nat → Int → Int} {L : Nat → Nat → Int64} {Rf : Nat → Nat → Option Nat} (hR : mx_rf Rf) {P : Option Value → mx_H → Prop} {PX : String → mx_H → Prop} {k u g : Int} (hg : 0 ≤ g ∧ g ≤ 99) : ∀ (kk : Nat) (i : Int) (N : Nat → Int → Int), 0 ≤ i → i + kk = 18 → (∀ x, x ≠ 63 → N x = M x) → N 48 29 = g → (∀ j, 0 ≤ j → j < i → N 63 j = M 69 (g * 18 + j)) → (∀ j, 18 ≤ j → N 63 j = M 63 j) → (∀ (N : Nat → Int → Int) (i : Int), (∀ x, x ≠ 63 → N x = M x) → N 48 29 = g → (∀ j, 0 ≤ j → j < 18 → N 63 j = M 69 (g * 18 + j)) → (∀ j, 18 ≤ j → N 63 j = M 63 j) → mx_E S mX7_undo 74 [some (.ref 48), some (.int (iI k)), some (.int (iI u)), some (.int (iI i))] [] (f, mx_SH, N, L, Rf) 0 0 P PX) → mx_E S mX7_undo 42 [some (.ref 48), some (.int (iI k)), some (.int (iI u)), some (.int (iI i))] [] (f, mx_SH, N, L, Rf) 0 0 P PX := by
  intro kk
  induction kk with
  | zero => 
    intro i N g0 g1 q1 q2 q3 q4 hK
    refine ms_iload_n dX7_undo_42 rfl ?_
    refine mi_bipush dX7_undo_43 (by decide) ?_
    refine mi_icmp_ge (tgt := 74) dX7_undo_45 (by decide) (fun c_45 => ?_) (fun c_45 => ?_)
    · exact hK N i q1 q2 (fun j j0 j1 => q3 j j0 (by omega)) q4
    · exact absurd c_45 (by omega)
  | succ kk ih => 
    intro i N g0 g1 q1 q2 q3 q4 hK
    refine ms_iload_n dX7_undo_42 rfl ?_
    refine mi_bipush dX7_undo_43 (by decide) ?_
    refine mi_icmp_ge (tgt := 74) dX7_undo_45 (by decide) (fun c_45 => ?_) (fun c_45 => ?_)
    · exact absurd c_45 (by omega)
    · refine ms_aload_n dX7_undo_48 rfl ?_
      refine ms_getR dX7_undo_49 (fo_X7_77 rfl) (by first | rfl | assumption) rfl (by first | assumption | exact rf_48_25 hR ) ?_
      refine ms_iload_n dX7_undo_52 rfl ?_
      refine ms_aload_n dX7_undo_53 rfl ?_
      refine ms_getR dX7_undo_54 (fo_X7_95 rfl) (by first | rfl | assumption) rfl (by first | assumption | exact rf_48_32 hR ) ?_
      refine mi_bipush dX7_undo_57 (by decide) ?_
      refine ms_aload_n dX7_undo_59 rfl ?_
      refine ms_getI (z := 29) dX7_undo_60 (fo_X7_248 rfl) (by first | rfl | assumption) rfl rfl ?_
      refine mi_imul dX7_undo_63 ?_
      refine ms_iload_n dX7_undo_64 rfl ?_
      refine mi_iadd dX7_undo_65 ?_
      refine ms_iald dX7_undo_66 (by first | rfl | assumption) ?_
      refine ms_iast dX7_undo_67 (by first | rfl | assumption) ?_
      refine mi_iinc dX7_undo_68 rfl (by decide) rfl ?_
      dsimp only [List.set, Nat.reduceAdd]
      refine ms_goto (tgt := 42) dX7_undo_71 (by decide) ?_
      refine ih (i + 1) _ (by omega) (by omega) (fun x hx => by rw [up_n _ _ hx]; exact q1 x hx) (by rw [up_n _ _ (by decide)]; exact q2) (fun j j0 j1 => ?_) (fun j hj => by rw [up_s, iu_n _ _ (by omega)]; exact q4 j hj) hK
      rw [up_s]
      by_cases e : j = i
      · rw [e, iu_s, q1 69 (by decide)]; congr 1; omega
      · rw [iu_n _ _ e]; exact q3 j j0 (by omega)

set_option maxHeartbeats 4000000 in
set_option maxRecDepth 100000 in
theorem l_X7_un2 {S : mx_Sc} {f : Bool} {M : Nat → Int → Int} {L : Nat → Nat → Int64} {Rf : Nat → Nat → Option Nat} (hR : mx_rf Rf) {k u g : Int} (hg : 0 ≤ g ∧ g ≤ 99) (hg29 : M 48 29 = g) (hb : ∀ l, 0 ≤ l → l < 6 → -1 ≤ M 63 (24 + l) ∧ M 63 (24 + l) ≤ 1200) : ∀ (kk : Nat) (i : Int) (N : Nat → Int → Int), 0 ≤ i → i + kk = 6 → (∀ x, x ≠ 63 → N x = M x) → (∀ j, (j < 18 ∨ 30 ≤ j) → N 63 j = M 63 j) → (∀ l, 0 ≤ l → l < i → N 63 (18 + l) = sp_part (M 63) g (18 + l) ∧ N 63 (24 + l) = sp_part (M 63) g (24 + l)) → (∀ l, i ≤ l → l < 6 → N 63 (18 + l) = M 63 (18 + l) ∧ N 63 (24 + l) = M 63 (24 + l)) → mx_E S mX7_undo 76 [some (.ref 48), some (.int (iI k)), some (.int (iI u)), some (.int (iI i))] [] (f, mx_SH, N, L, Rf) 0 0 (fun v9 h9 => ∃ N, h9 = (f, mx_SH, N, L, Rf) ∧ v9 = some (.int (iI u)) ∧ (∀ x, x ≠ 63 → N x = M x) ∧ ∀ i, 0 ≤ i → i < 30 → N 63 i = sp_part (M 63) g i) (fun _ _ => False) := by
  intro kk
  induction kk with
  | zero => 
    intro i N g0 g1 q1 q2 q3 q4
    have e48 : N 48 29 = g := by rw [q1 48 (by decide)]; exact hg29
    refine ms_iload_n dX7_undo_76 rfl ?_
    refine mi_bipush dX7_undo_77 (by decide) ?_
    refine mi_icmp_ge (tgt := 127) dX7_undo_79 (by decide) (fun c_79 => ?_) (fun c_79 => ?_)
    · refine ms_iload_n dX7_undo_127 rfl ?_
      refine ms_ret dX7_undo_128 rfl ⟨N, rfl, rfl, q1, fun j j0 j1 => ?_⟩ (by simp)
      by_cases h1 : j < 18
      · rw [q2 j (Or.inl h1)]
        unfold sp_part
        rw [if_neg (by omega), if_neg (by omega)]
      · by_cases h2 : j < 24
        · have h9 := (q3 (j - 18) (by omega) (by omega)).1
          rw [show 18 + (j - 18) = j by omega] at h9
          exact h9
        · have h9 := (q3 (j - 24) (by omega) (by omega)).2
          rw [show 24 + (j - 24) = j by omega] at h9
          exact h9
    · exact absurd c_79 (by omega)
  | succ kk ih => 
    intro i N g0 g1 q1 q2 q3 q4
    have e48 : N 48 29 = g := by rw [q1 48 (by decide)]; exact hg29
    have h4 := q4 i (by omega) (by omega)
    have hb4 := hb i (by omega) (by omega)
    refine ms_iload_n dX7_undo_76 rfl ?_
    refine mi_bipush dX7_undo_77 (by decide) ?_
    refine mi_icmp_ge (tgt := 127) dX7_undo_79 (by decide) (fun c_79 => ?_) (fun c_79 => ?_)
    · exact absurd c_79 (by omega)
    · refine ms_aload_n dX7_undo_82 rfl ?_
      refine ms_getR dX7_undo_83 (fo_X7_77 rfl) (by first | rfl | assumption) rfl (by first | assumption | exact rf_48_25 hR ) ?_
      refine mi_bipush dX7_undo_86 (by decide) ?_
      refine ms_iload_n dX7_undo_88 rfl ?_
      refine mi_iadd dX7_undo_89 ?_
      refine ms_iald dX7_undo_90 (by first | rfl | assumption) ?_
      refine ms_aload_n dX7_undo_91 rfl ?_
      refine ms_getI (z := 29) dX7_undo_92 (fo_X7_248 rfl) (by first | rfl | assumption) rfl rfl ?_
      refine mi_icmp_ge (tgt := 101) dX7_undo_95 (by decide) (fun c_95 => ?_) (fun c_95 => ?_)
      · refine ms_aload_n dX7_undo_101 rfl ?_
        refine ms_getR dX7_undo_102 (fo_X7_77 rfl) (by first | rfl | assumption) rfl (by first | assumption | exact rf_48_25 hR ) ?_
        refine mi_bipush dX7_undo_105 (by decide) ?_
        refine ms_iload_n dX7_undo_107 rfl ?_
        refine mi_iadd dX7_undo_108 ?_
        refine mi_iconst dX7_undo_109 ?_
        refine ms_iast dX7_undo_110 (by first | rfl | assumption) ?_
        refine ms_aload_n dX7_undo_111 rfl ?_
        refine ms_getR dX7_undo_112 (fo_X7_77 rfl) (by first | rfl | assumption) rfl (by first | assumption | exact rf_48_25 hR ) ?_
        refine mi_bipush dX7_undo_115 (by decide) ?_
        refine ms_iload_n dX7_undo_117 rfl ?_
        refine mi_iadd dX7_undo_118 ?_
        refine mi_iconst dX7_undo_119 ?_
        refine ms_iast dX7_undo_120 (by first | rfl | assumption) ?_
        refine mi_iinc dX7_undo_121 rfl (by decide) rfl ?_
        dsimp only [List.set, Nat.reduceAdd]
        refine ms_goto (tgt := 76) dX7_undo_124 (by decide) ?_
        have u : ∀ (a : Int) (b : Int), va_up (va_up N 63 (iu (N 63) (24 + i) (-1))) 63 (iu (va_up N 63 (iu (N 63) (24 + i) (-1)) 63) (18 + i) (-1)) 63 = iu (iu (N 63) (24 + i) (-1)) (18 + i) (-1) := fun _ _ => by rw [up_s, up_s]
        refine ih (i + 1) _ (by omega) (by omega) (fun x hx => by rw [up_n _ _ hx, up_n _ _ hx]; exact q1 x hx) (fun j hj => by rw [u 0 0, iu_n _ _ (by omega), iu_n _ _ (by omega)]; exact q2 j hj) (fun l l0 l1 => ?_) (fun l l0 l1 => by rw [u 0 0, iu_n _ _ (by omega), iu_n _ _ (by omega), iu_n _ _ (by omega), iu_n _ _ (by omega)]; exact q4 l (by omega) l1)
        rw [u 0 0]
        by_cases e : l = i
        · rw [e, iu_s, iu_n _ _ (by omega), iu_s]
          unfold sp_part
          rw [show 18 + i + 6 = 24 + i by omega, if_pos (by omega), if_neg (by omega), if_pos (by omega)]
          exact ⟨rfl, rfl⟩
        · rw [iu_n _ _ (by omega), iu_n _ _ (by omega), iu_n _ _ (by omega), iu_n _ _ (by omega)]; exact q3 l l0 (by omega)
      · refine ms_goto (tgt := 121) dX7_undo_98 (by decide) ?_
        refine mi_iinc dX7_undo_121 rfl (by decide) rfl ?_
        dsimp only [List.set, Nat.reduceAdd]
        refine ms_goto (tgt := 76) dX7_undo_124 (by decide) ?_
        refine ih (i + 1) N (by omega) (by omega) q1 q2 (fun l l0 l1 => ?_) (fun l l0 l1 => q4 l (by omega) l1)
        by_cases e : l = i
        · rw [e, h4.1, h4.2]
          unfold sp_part
          rw [show 18 + i + 6 = 24 + i by omega, if_neg (by omega), if_neg (by omega), if_neg (by omega), if_neg (by omega)]
          exact ⟨rfl, rfl⟩
        · exact q3 l l0 (by omega)

set_option maxHeartbeats 4000000 in
set_option maxRecDepth 100000 in
theorem k_X7_undo {S : mx_Sc} {f : Bool} {M : Nat → Int → Int} {L : Nat → Nat → Int64} {Rf : Nat → Nat → Option Nat} (hR : mx_rf Rf) (hT : sp_tok (sp_tR M)) (hv : sp_vok (sp_tR M) (M 63)) {n : Int} (hn : 0 ≤ n ∧ n ≤ 99) (hnn : M 48 29 = n) {k : Int} (hk32 : -2147483648 ≤ k ∧ k ≤ 2147483647) (hc : 0 ≤ k) : mx_C S mX7_undo [.ref 48, .int (iI k)] (f, mx_SH, M, L, Rf) 0 0 (fun v9 h9 => ∃ N u, h9 = (f, mx_SH, N, L, Rf) ∧ v9 = some (.int (iI u)) ∧ u = (if n < k then n else k) ∧ N 48 4 = 0 ∧ (∀ j, j ≠ 4 → j ≠ 29 → N 48 j = M 48 j) ∧ N 48 29 = n - u ∧ ((u = 0 ∧ (∀ x, x ≠ 48 → N x = M x)) ∨ (0 < u ∧ (∀ x, x ≠ 48 → x ≠ 63 → N x = M x) ∧ ∀ i, 0 ≤ i → i < 30 → N 63 i = sp_oil (M 69) (sp_part (M 63) (n - u)) ((n - u) * 18) i))) (fun _ _ => False) := by
  refine mx_C_of (by decide) (by simp [Value.category]) (Nat.le_of_ble_eq_true rfl) rfl ?_
  show mx_E S mX7_undo 0 [some (.ref 48), some (.int (iI k)), none, none] [] (f, mx_SH, M, L, Rf) 0 0 _ _
  refine ms_aload_n dX7_undo_0 rfl ?_
  refine mi_iconst dX7_undo_1 ?_
  refine ms_putI (z := 4) dX7_undo_2 (fo_X7_131 rfl) (by first | rfl | assumption) rfl rfl rfl ?_
  refine mx_gen (fun N => cdP M N 0) cdP.mk' (fun N hN => ?_)
  have e53 : N 53 = M 53 := hN.1 53 (by decide)
  have e63 : N 63 = M 63 := hN.1 63 (by decide)
  have eTR : sp_tR N = sp_tR M := by simp only [sp_tR, hN.1 53 (by decide), hN.1 54 (by decide), hN.1 55 (by decide), hN.1 58 (by decide), hN.1 59 (by decide), hN.1 60 (by decide)]
  have e29 : N 48 29 = n := (hN.2.2 29 (by decide)).trans hnn
  refine ms_iload_n dX7_undo_5 rfl ?_
  refine mi_if_ge (tgt := 15) dX7_undo_6 (by decide) (fun c_6 => ?_) (fun c_6 => ?_)
  · refine ms_iload_n dX7_undo_15 rfl ?_
    refine ms_aload_n dX7_undo_16 rfl ?_
    refine ms_getI (z := 29) dX7_undo_17 (fo_X7_248 rfl) (by first | rfl | assumption) rfl rfl ?_
    refine mi_mmin dX7_undo_20 ma_X7_undo_min (Nat.le_of_ble_eq_true rfl) ?_
    rw [e29]
    have hub : 0 ≤ (if n < k then n else k) ∧ (if n < k then n else k) ≤ n := by split <;> omega
    generalize hu : (if n < k then n else k) = u at hub ⊢
    refine ms_istore_n dX7_undo_23 (by decide) rfl ?_
    dsimp only [List.set, Nat.reduceAdd]
    refine ms_iload_n dX7_undo_24 rfl ?_
    refine mi_if_ne (tgt := 30) dX7_undo_25 (by decide) (fun c_25 => ?_) (fun c_25 => ?_)
    · refine ms_aload_n dX7_undo_30 rfl ?_
      refine ms_dup dX7_undo_31 rfl ?_
      refine ms_getI (z := 29) dX7_undo_32 (fo_X7_248 rfl) (by first | rfl | assumption) rfl rfl ?_
      refine ms_iload_n dX7_undo_35 rfl ?_
      refine mi_isub dX7_undo_36 ?_
      refine ms_putI (z := 29) dX7_undo_37 (fo_X7_248 rfl) (by first | rfl | assumption) rfl rfl rfl ?_
      refine mi_iconst dX7_undo_40 ?_
      refine ms_istore_n dX7_undo_41 (by decide) rfl ?_
      dsimp only [List.set, Nat.reduceAdd]
      rw [e29]
      refine l_X7_un1 (S := S) (f := f) (L := L) (M := va_up N 48 (iu (N 48) 29 (n - u))) (k := k) (u := u) (g := n - u) hR (by omega) 18 0 _ (by omega) (by omega) (fun _ _ => rfl) (by rw [up_s, iu_s]) (fun j j0 j1 => by omega) (fun _ _ => rfl) (fun N2 i9 r1 r2 r3 r4 => ?_)
      have s63 : ∀ j, 18 ≤ j → N2 63 j = M 63 j := fun j hj => by rw [r4 j hj, up_n _ _ (by decide), e63]
      refine mi_iconst dX7_undo_74 ?_
      refine ms_istore_n dX7_undo_75 (by decide) rfl ?_
      dsimp only [List.set, Nat.reduceAdd]
      refine ms_conseq (fun v9 h9 hp => ?_) (fun _ _ z => z) (l_X7_un2 (S := S) (f := f) (L := L) (M := N2) (k := k) (u := u) (g := n - u) hR (by omega) r2 (fun l l0 l1 => by rw [s63 _ (by omega)]; exact (hv.2 l l0 l1).2) 6 0 N2 (by omega) (by omega) (fun _ _ => rfl) (fun _ _ => rfl) (fun l l0 l1 => by omega) (fun l l0 l1 => ⟨rfl, rfl⟩))
      obtain ⟨N3, y1, y2, y3, y4⟩ := hp
      have w48 : ∀ j, N3 48 j = iu (N 48) 29 (n - u) j := fun j => by rw [y3 48 (by decide), r1 48 (by decide), up_s]
      refine ⟨N3, u, y1, y2, rfl, by rw [w48, iu_n _ _ (by decide)]; exact hN.2.1, fun j j0 j1 => by rw [w48, iu_n _ _ j1]; exact hN.2.2 j j0, by rw [w48, iu_s], Or.inr ⟨by omega, fun x x0 x1 => by rw [y3 x x1, r1 x x1, up_n _ _ x0]; exact hN.1 x x0, fun i i0 i1 => ?_⟩⟩
      rw [y4 i i0 i1]
      unfold sp_oil
      by_cases e : 0 ≤ i ∧ i < 18
      · rw [if_pos e]
        unfold sp_part
        rw [if_neg (by omega), if_neg (by omega), r3 i i0 e.2, up_n _ _ (by decide), hN.1 69 (by decide)]
      · rw [if_neg e]
        unfold sp_part
        rw [s63 (i + 6) (by omega), s63 i (by omega)]
    · refine mi_iconst dX7_undo_28 ?_
      refine ms_ret dX7_undo_29 rfl ⟨N, u, rfl, by rw [c_25], rfl, hN.2.1, fun j j0 _ => hN.2.2 j j0, by rw [e29, c_25]; omega, Or.inl ⟨c_25, hN.1⟩⟩ (by simp)
  · exact absurd hc (by omega)

set_option maxHeartbeats 4000000 in
set_option maxRecDepth 100000 in
theorem k_X7_undo_x {S : mx_Sc} {f : Bool} {M : Nat → Int → Int} {L : Nat → Nat → Int64} {Rf : Nat → Nat → Option Nat} (hR : mx_rf Rf) {k : Int} (hk32 : -2147483648 ≤ k ∧ k ≤ 2147483647) (hc : ¬ 0 ≤ k) : mx_C S mX7_undo [.ref 48, .int (iI k)] (f, mx_SH, M, L, Rf) 0 0 (fun v9 h9 => ∃ N, h9 = (f, mx_SH, N, L, Rf) ∧ cdP M N 1 ∧ v9 = some (.int (iI (0)))) (fun _ _ => False) := by
  refine mx_C_of (by decide) (by simp [Value.category]) (Nat.le_of_ble_eq_true rfl) rfl ?_
  show mx_E S mX7_undo 0 [some (.ref 48), some (.int (iI k)), none, none] [] (f, mx_SH, M, L, Rf) 0 0 _ _
  refine ms_aload_n dX7_undo_0 rfl ?_
  refine mi_iconst dX7_undo_1 ?_
  refine ms_putI (z := 4) dX7_undo_2 (fo_X7_131 rfl) (by first | rfl | assumption) rfl rfl rfl ?_
  refine mx_gen (fun N => cdP M N 0) cdP.mk' (fun N hN => ?_)
  have e53 : N 53 = M 53 := hN.1 53 (by decide)
  have e63 : N 63 = M 63 := hN.1 63 (by decide)
  have eTR : sp_tR N = sp_tR M := by simp only [sp_tR, hN.1 53 (by decide), hN.1 54 (by decide), hN.1 55 (by decide), hN.1 58 (by decide), hN.1 59 (by decide), hN.1 60 (by decide)]
  refine ms_iload_n dX7_undo_5 rfl ?_
  refine mi_if_ge (tgt := 15) dX7_undo_6 (by decide) (fun c_6 => ?_) (fun c_6 => ?_)
  · exact absurd c_6 (by omega)
  · refine ms_aload_n dX7_undo_9 rfl ?_
    refine mi_iconst dX7_undo_10 ?_
    refine ms_callV1 (ci := 7) (r := (RX7, TX7, 48)) dX7_undo_11 cv_X7_undo_X7_fail (k_X7_fail (M := N) hR) rfl rfl (by first | rfl | assumption) (Nat.le_of_ble_eq_true rfl) rfl (fun _ _ z => z.elim) (fun v9 h9 hp9 => ?_)
    obtain ⟨rfl, rfl⟩ := hp9
    refine ms_ret dX7_undo_14 rfl ⟨_, rfl, hN.set, rfl⟩ (by simp)

set_option maxHeartbeats 4000000 in
set_option maxRecDepth 100000 in
theorem k_X7_image {S : mx_Sc} {f : Bool} {M : Nat → Int → Int} {L : Nat → Nat → Int64} {Rf : Nat → Nat → Option Nat} (hR : mx_rf Rf) : mx_C S mX7_image [.ref 48] (f, mx_SH, M, L, Rf) 0 0 (fun v9 h9 => ∃ N, h9 = (f, mx_SH, N, L, Rf) ∧ v9 = none ∧ (∀ x, x ≠ 48 → (x < 76 ∨ 80 < x) → N x = M x) ∧ N 48 4 = 0 ∧ N 48 41 = 1 ∧ N 48 42 = M 48 29 ∧ (∀ k, k ≠ 4 → k ≠ 41 → k ≠ 42 → N 48 k = M 48 k) ∧ (∀ i, 0 ≤ i → i < 30 → N 76 i = M 63 i) ∧ (∀ i, 0 ≤ i → i < 1800 → N 77 i = M 68 i ∧ N 78 i = M 69 i) ∧ (∀ i, 0 ≤ i → i < 100 → N 79 i = M 70 i) ∧ (∀ i, 0 ≤ i → i < 3 → N 80 i = M 61 i)) (fun _ _ => False) := by
  refine mx_C_of (by decide) (by simp [Value.category]) (Nat.le_of_ble_eq_true rfl) rfl ?_
  show mx_E S mX7_image 0 [some (.ref 48)] [] (f, mx_SH, M, L, Rf) 0 0 _ _
  refine ms_aload_n dX7_image_0 rfl ?_
  refine mi_iconst dX7_image_1 ?_
  refine ms_putI (z := 4) dX7_image_2 (fo_X7_131 rfl) (by first | rfl | assumption) rfl rfl rfl ?_
  refine ms_aload_n dX7_image_5 rfl ?_
  refine mi_iconst dX7_image_6 ?_
  refine ms_putZ (z := 41) (Or.inr rfl) dX7_image_7 (fo_X7_254 rfl) (by first | rfl | assumption) rfl rfl rfl ?_
  refine ms_aload_n dX7_image_10 rfl ?_
  refine ms_aload_n dX7_image_11 rfl ?_
  refine ms_getI (z := 29) dX7_image_12 (fo_X7_248 rfl) (by first | rfl | assumption) rfl rfl ?_
  refine ms_putI (z := 42) dX7_image_15 (fo_X7_370 rfl) (by first | rfl | assumption) rfl rfl rfl ?_
  refine mx_gen (fun N => (∀ x, x ≠ 48 → N x = M x) ∧ N 48 4 = 0 ∧ N 48 41 = 1 ∧ N 48 42 = M 48 29 ∧ ∀ k, k ≠ 4 → k ≠ 41 → k ≠ 42 → N 48 k = M 48 k) ⟨fun x hx => ?_, ?_, ?_, ?_, fun k k0 k1 k2 => ?_⟩ (fun N hN => ?_)
  · simp only [up_n _ _ hx]
  · simp [up_s, iu]
  · simp [up_s, iu]
  · simp [up_s, iu]
  · simp [up_s, iu, k0, k1, k2]
  refine ms_aload_n dX7_image_18 rfl ?_
  refine ms_getR dX7_image_19 (fo_X7_116 rfl) (by first | rfl | assumption) rfl (by first | assumption | exact rf_48_43 hR ) ?_
  refine ms_aload_n dX7_image_22 rfl ?_
  refine ms_getR dX7_image_23 (fo_X7_77 rfl) (by first | rfl | assumption) rfl (by first | assumption | exact rf_48_25 hR ) ?_
  refine ms_callS2 dX7_image_26 cv_X7_image_X7_be (k_X7_be (a := 76) (b := 63) (by decide) (by decide) rfl rfl (by decide) (by decide) (by decide)) (Nat.le_of_ble_eq_true rfl) rfl (fun _ _ z => z.elim) (fun v9 h9 hp9 => ?_)
  obtain ⟨rfl, rfl⟩ := hp9
  refine ms_aload_n dX7_image_29 rfl ?_
  refine ms_getR dX7_image_30 (fo_X7_119 rfl) (by first | rfl | assumption) rfl (by first | assumption | exact rf_48_44 hR ) ?_
  refine ms_aload_n dX7_image_33 rfl ?_
  refine ms_getR dX7_image_34 (fo_X7_92 rfl) (by first | rfl | assumption) rfl (by first | assumption | exact rf_48_31 hR ) ?_
  refine ms_callS2 dX7_image_37 cv_X7_image_X7_be (k_X7_be (a := 77) (b := 68) (by decide) (by decide) rfl rfl (by decide) (by decide) (by decide)) (Nat.le_of_ble_eq_true rfl) rfl (fun _ _ z => z.elim) (fun v9 h9 hp9 => ?_)
  obtain ⟨rfl, rfl⟩ := hp9
  refine ms_aload_n dX7_image_40 rfl ?_
  refine ms_getR dX7_image_41 (fo_X7_122 rfl) (by first | rfl | assumption) rfl (by first | assumption | exact rf_48_45 hR ) ?_
  refine ms_aload_n dX7_image_44 rfl ?_
  refine ms_getR dX7_image_45 (fo_X7_95 rfl) (by first | rfl | assumption) rfl (by first | assumption | exact rf_48_32 hR ) ?_
  refine ms_callS2 dX7_image_48 cv_X7_image_X7_be (k_X7_be (a := 78) (b := 69) (by decide) (by decide) rfl rfl (by decide) (by decide) (by decide)) (Nat.le_of_ble_eq_true rfl) rfl (fun _ _ z => z.elim) (fun v9 h9 hp9 => ?_)
  obtain ⟨rfl, rfl⟩ := hp9
  refine ms_aload_n dX7_image_51 rfl ?_
  refine ms_getR dX7_image_52 (fo_X7_125 rfl) (by first | rfl | assumption) rfl (by first | assumption | exact rf_48_46 hR ) ?_
  refine ms_aload_n dX7_image_55 rfl ?_
  refine ms_getR dX7_image_56 (fo_X7_98 rfl) (by first | rfl | assumption) rfl (by first | assumption | exact rf_48_33 hR ) ?_
  refine ms_callS2 dX7_image_59 cv_X7_image_X7_be (k_X7_be (a := 79) (b := 70) (by decide) (by decide) rfl rfl (by decide) (by decide) (by decide)) (Nat.le_of_ble_eq_true rfl) rfl (fun _ _ z => z.elim) (fun v9 h9 hp9 => ?_)
  obtain ⟨rfl, rfl⟩ := hp9
  refine ms_aload_n dX7_image_62 rfl ?_
  refine ms_getR dX7_image_63 (fo_X7_128 rfl) (by first | rfl | assumption) rfl (by first | assumption | exact rf_48_47 hR ) ?_
  refine ms_aload_n dX7_image_66 rfl ?_
  refine ms_getR dX7_image_67 (fo_X7_67 rfl) (by first | rfl | assumption) rfl (by first | assumption | exact rf_48_13 hR ) ?_
  refine ms_callS2 dX7_image_70 cv_X7_image_X7_be (k_X7_be (a := 80) (b := 61) (by decide) (by decide) rfl rfl (by decide) (by decide) (by decide)) (Nat.le_of_ble_eq_true rfl) rfl (fun _ _ z => z.elim) (fun v9 h9 hp9 => ?_)
  obtain ⟨rfl, rfl⟩ := hp9
  refine ms_retV dX7_image_73 rfl ?_ (by simp)
  refine ⟨_, rfl, rfl, fun x x0 x1 => ?_, ?_, ?_, ?_, fun k k0 k1 k2 => ?_, fun i i0 i1 => ?_, fun i i0 i1 => ⟨?_, ?_⟩, fun i i0 i1 => ?_, fun i i0 i1 => ?_⟩
  · rw [up_n _ _ (by omega), up_n _ _ (by omega), up_n _ _ (by omega), up_n _ _ (by omega), up_n _ _ (by omega)]; exact hN.1 x x0
  · simp [va_up]; exact hN.2.1
  · simp [va_up]; exact hN.2.2.1
  · simp [va_up]; exact hN.2.2.2.1
  · simp [va_up]; exact hN.2.2.2.2 k k0 k1 k2
  · simp [va_up, ic, i0, i1]; rw [hN.1 63 (by decide)]
  · simp [va_up, ic, i0, i1]; rw [hN.1 68 (by decide)]
  · simp [va_up, ic, i0, i1]; rw [hN.1 69 (by decide)]
  · simp [va_up, ic, i0, i1]; rw [hN.1 70 (by decide)]
  · simp [va_up, ic, i0, i1]; rw [hN.1 61 (by decide)]

set_option maxHeartbeats 4000000 in
set_option maxRecDepth 100000 in
theorem k_X7_restore {S : mx_Sc} {f : Bool} {M : Nat → Int → Int} {L : Nat → Nat → Int64} {Rf : Nat → Nat → Option Nat} (hR : mx_rf Rf) {b : Bool} (hb : M 48 41 = bI b) : mx_C S mX7_restore [.ref 48] (f, mx_SH, M, L, Rf) 0 0 (fun v9 h9 => ∃ N, h9 = (f, mx_SH, N, L, Rf) ∧ v9 = some (.int (iI (bI b))) ∧ N 48 4 = 0 ∧ ((b = false ∧ cdP M N 0) ∨ (b = true ∧ (∀ x, x ≠ 48 → x ≠ 61 → x ≠ 63 → x ≠ 68 → x ≠ 69 → x ≠ 70 → N x = M x) ∧ N 48 29 = M 48 42 ∧ (∀ k, k ≠ 4 → k ≠ 29 → N 48 k = M 48 k) ∧ (∀ i, 0 ≤ i → i < 30 → N 63 i = M 76 i) ∧ (∀ i, 0 ≤ i → i < 1800 → N 68 i = M 77 i ∧ N 69 i = M 78 i) ∧ (∀ i, 0 ≤ i → i < 100 → N 70 i = M 79 i) ∧ (∀ i, 0 ≤ i → i < 3 → N 61 i = M 80 i)))) (fun _ _ => False) := by
  refine mx_C_of (by decide) (by simp [Value.category]) (Nat.le_of_ble_eq_true rfl) rfl ?_
  show mx_E S mX7_restore 0 [some (.ref 48)] [] (f, mx_SH, M, L, Rf) 0 0 _ _
  refine ms_aload_n dX7_restore_0 rfl ?_
  refine mi_iconst dX7_restore_1 ?_
  refine ms_putI (z := 4) dX7_restore_2 (fo_X7_131 rfl) (by first | rfl | assumption) rfl rfl rfl ?_
  refine mx_gen (fun N => cdP M N 0) cdP.mk' (fun N hN => ?_)
  have e53 : N 53 = M 53 := hN.1 53 (by decide)
  have e63 : N 63 = M 63 := hN.1 63 (by decide)
  have eTR : sp_tR N = sp_tR M := by simp only [sp_tR, hN.1 53 (by decide), hN.1 54 (by decide), hN.1 55 (by decide), hN.1 58 (by decide), hN.1 59 (by decide), hN.1 60 (by decide)]
  have e41 : N 48 41 = bI b := (hN.2.2 41 (by decide)).trans hb
  refine ms_aload_n dX7_restore_5 rfl ?_
  refine ms_getI (z := 41) dX7_restore_6 (fo_X7_254 rfl) (by first | rfl | assumption) rfl rfl ?_
  rw [e41]
  refine mi_if_neB (tgt := 14) dX7_restore_9 (by decide) (fun c_9 => ?_) (fun c_9 => ?_)
  · refine ms_aload_n dX7_restore_14 rfl ?_
    refine ms_aload_n dX7_restore_15 rfl ?_
    refine ms_getI (z := 42) dX7_restore_16 (fo_X7_370 rfl) (by first | rfl | assumption) rfl rfl ?_
    refine ms_putI (z := 29) dX7_restore_19 (fo_X7_248 rfl) (by first | rfl | assumption) rfl rfl rfl ?_
    refine ms_aload_n dX7_restore_22 rfl ?_
    refine ms_getR dX7_restore_23 (fo_X7_77 rfl) (by first | rfl | assumption) rfl (by first | assumption | exact rf_48_25 hR ) ?_
    refine ms_aload_n dX7_restore_26 rfl ?_
    refine ms_getR dX7_restore_27 (fo_X7_116 rfl) (by first | rfl | assumption) rfl (by first | assumption | exact rf_48_43 hR ) ?_
    refine ms_callS2 dX7_restore_30 cv_X7_restore_X7_be (k_X7_be (a := 63) (b := 76) (by decide) (by decide) rfl rfl (by decide) (by decide) (by decide)) (Nat.le_of_ble_eq_true rfl) rfl (fun _ _ z => z.elim) (fun v9 h9 hp9 => ?_)
    obtain ⟨rfl, rfl⟩ := hp9
    refine ms_aload_n dX7_restore_33 rfl ?_
    refine ms_getR dX7_restore_34 (fo_X7_92 rfl) (by first | rfl | assumption) rfl (by first | assumption | exact rf_48_31 hR ) ?_
    refine ms_aload_n dX7_restore_37 rfl ?_
    refine ms_getR dX7_restore_38 (fo_X7_119 rfl) (by first | rfl | assumption) rfl (by first | assumption | exact rf_48_44 hR ) ?_
    refine ms_callS2 dX7_restore_41 cv_X7_restore_X7_be (k_X7_be (a := 68) (b := 77) (by decide) (by decide) rfl rfl (by decide) (by decide) (by decide)) (Nat.le_of_ble_eq_true rfl) rfl (fun _ _ z => z.elim) (fun v9 h9 hp9 => ?_)
    obtain ⟨rfl, rfl⟩ := hp9
    refine ms_aload_n dX7_restore_44 rfl ?_
    refine ms_getR dX7_restore_45 (fo_X7_95 rfl) (by first | rfl | assumption) rfl (by first | assumption | exact rf_48_32 hR ) ?_
    refine ms_aload_n dX7_restore_48 rfl ?_
    refine ms_getR dX7_restore_49 (fo_X7_122 rfl) (by first | rfl | assumption) rfl (by first | assumption | exact rf_48_45 hR ) ?_
    refine ms_callS2 dX7_restore_52 cv_X7_restore_X7_be (k_X7_be (a := 69) (b := 78) (by decide) (by decide) rfl rfl (by decide) (by decide) (by decide)) (Nat.le_of_ble_eq_true rfl) rfl (fun _ _ z => z.elim) (fun v9 h9 hp9 => ?_)
    obtain ⟨rfl, rfl⟩ := hp9
    refine ms_aload_n dX7_restore_55 rfl ?_
    refine ms_getR dX7_restore_56 (fo_X7_98 rfl) (by first | rfl | assumption) rfl (by first | assumption | exact rf_48_33 hR ) ?_
    refine ms_aload_n dX7_restore_59 rfl ?_
    refine ms_getR dX7_restore_60 (fo_X7_125 rfl) (by first | rfl | assumption) rfl (by first | assumption | exact rf_48_46 hR ) ?_
    refine ms_callS2 dX7_restore_63 cv_X7_restore_X7_be (k_X7_be (a := 70) (b := 79) (by decide) (by decide) rfl rfl (by decide) (by decide) (by decide)) (Nat.le_of_ble_eq_true rfl) rfl (fun _ _ z => z.elim) (fun v9 h9 hp9 => ?_)
    obtain ⟨rfl, rfl⟩ := hp9
    refine ms_aload_n dX7_restore_66 rfl ?_
    refine ms_getR dX7_restore_67 (fo_X7_67 rfl) (by first | rfl | assumption) rfl (by first | assumption | exact rf_48_13 hR ) ?_
    refine ms_aload_n dX7_restore_70 rfl ?_
    refine ms_getR dX7_restore_71 (fo_X7_128 rfl) (by first | rfl | assumption) rfl (by first | assumption | exact rf_48_47 hR ) ?_
    refine ms_callS2 dX7_restore_74 cv_X7_restore_X7_be (k_X7_be (a := 61) (b := 80) (by decide) (by decide) rfl rfl (by decide) (by decide) (by decide)) (Nat.le_of_ble_eq_true rfl) rfl (fun _ _ z => z.elim) (fun v9 h9 hp9 => ?_)
    obtain ⟨rfl, rfl⟩ := hp9
    refine mi_iconst dX7_restore_77 ?_
    refine ms_retZ dX7_restore_78 rfl (by first | exact Or.inl rfl | exact Or.inr rfl) ?_ (by simp)
    refine ⟨_, rfl, by rw [c_9]; rfl, ?_, Or.inr ⟨c_9, fun x x0 x1 x2 x3 x4 x5 => ?_, ?_, fun k k0 k1 => ?_, fun i i0 i1 => ?_, fun i i0 i1 => ⟨?_, ?_⟩, fun i i0 i1 => ?_, fun i i0 i1 => ?_⟩⟩
    · simp [va_up, iu]; exact hN.2.1
    · rw [up_n _ _ x1, up_n _ _ x5, up_n _ _ x4, up_n _ _ x3, up_n _ _ x2, up_n _ _ x0]; exact hN.1 x x0
    · simp [va_up, iu]; exact hN.2.2 42 (by decide)
    · simp [va_up, iu, k1]; exact hN.2.2 k k0
    · simp [va_up, ic, i0, i1]; rw [hN.1 76 (by decide)]
    · simp [va_up, ic, i0, i1]; rw [hN.1 77 (by decide)]
    · simp [va_up, ic, i0, i1]; rw [hN.1 78 (by decide)]
    · simp [va_up, ic, i0, i1]; rw [hN.1 79 (by decide)]
    · simp [va_up, ic, i0, i1]; rw [hN.1 80 (by decide)]
  · refine mi_iconst dX7_restore_12 ?_
    refine ms_retZ dX7_restore_13 rfl (by first | exact Or.inl rfl | exact Or.inr rfl) ⟨N, rfl, by rw [c_9]; rfl, hN.2.1, Or.inl ⟨c_9, hN⟩⟩ (by simp)

