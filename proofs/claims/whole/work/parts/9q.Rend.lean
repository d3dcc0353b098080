theorem ooN_q {v u : Int → Int} (h : qv v u) : ∀ k : Nat, k ≤ 6 → ooN v k = ooN u k
  | 0, _ => rfl
  | k + 1, hk => by
    simp only [ooN]
    rw [ooN_q h k (by omega), h.out (a := (k : Int)) (by omega)]
theorem frP_b {t : sp_T} {lk : Int → Int} {n : Int} {v : Int → Int} {x : Int} {w : Int → Int} (h : frP t lk n v x w) : -1 ≤ x ∧ x ≤ 1000 := by
  rcases h with ⟨d, b, h1, h2, h3, h4, h5, h6, h7, h8, h9, h10⟩ | h
  · omega
  · omega
set_option maxHeartbeats 4000000 in
set_option maxRecDepth 100000 in
theorem k_X7_end {S : mx_Sc} {f : Bool} {M : Nat → Int → Int} {L : Nat → Nat → Int64} {Rf : Nat → Nat → Option Nat} (hR : mx_rf Rf) (hT : sp_tok (sp_tR M)) (hv : sp_vok (sp_tR M) (M 63)) (hlk : sp_lok (sp_tR M) (M 57)) {n : Int} (hn : 0 ≤ n ∧ n ≤ 99) (hnn : M 48 29 = n) (hJ : ∀ i, 0 ≤ i → i < 18 → -1000 ≤ M 63 i ∧ M 63 i ≤ 1000) {k : Int} (hk32 : -2147483648 ≤ k ∧ k ≤ 2147483647) (hc : 0 ≤ k ∧ k < 2) : mx_C S mX7_end [.ref 48, .int (iI k)] (f, mx_SH, M, L, Rf) 0 0 (fun v9 h9 => ∃ N x w, h9 = (f, mx_SH, N, L, Rf) ∧ (∀ x, x ≠ 48 → x ≠ 64 → x ≠ 65 → x ≠ 67 → x ≠ 71 → x ≠ 72 → N x = M x) ∧ N 48 4 = 0 ∧ (∀ k, k ≠ 4 → N 48 k = M 48 k) ∧ nk N ∧ frP (sp_tR M) (M 57) n (M 63) x w ∧ v9 = some (.int (iI (if x = -1 ∨ k = 0 then x else odf (2 ^ (M 53 1).toNat - 1) (ooN w (M 53 1).toNat))))) (fun _ _ => False) := by
  refine mx_C_of (by decide) (by simp [Value.category]) (Nat.le_of_ble_eq_true rfl) rfl ?_
  show mx_E S mX7_end 0 [some (.ref 48), some (.int (iI k)), none] [] (f, mx_SH, M, L, Rf) 0 0 _ _
  have hT0 : 1 ≤ M 53 0 ∧ M 53 0 ≤ 30 := hT.1
  have hT1 : 0 ≤ M 53 1 ∧ M 53 1 ≤ 6 := hT.2.1
  have hT5 : 1 ≤ M 53 5 ∧ M 53 5 ≤ 99 := hT.2.2.2.2.2.1
  have hT6 : 0 ≤ M 53 6 ∧ M 53 6 ≤ 10 := hT.2.2.2.2.2.2.1
  refine ms_aload_n dX7_end_0 rfl ?_
  refine mi_iconst dX7_end_1 ?_
  refine ms_putI (z := 4) dX7_end_2 (fo_X7_131 rfl) (by first | rfl | assumption) rfl rfl rfl ?_
  refine mx_gen (fun N => cdP M N 0) cdP.mk' (fun N hN => ?_)
  have e53 : N 53 = M 53 := hN.1 53 (by decide)
  have e63 : N 63 = M 63 := hN.1 63 (by decide)
  have eTR : sp_tR N = sp_tR M := by simp only [sp_tR, hN.1 53 (by decide), hN.1 54 (by decide), hN.1 55 (by decide), hN.1 58 (by decide), hN.1 59 (by decide), hN.1 60 (by decide)]
  have e29 : N 48 29 = n := (hN.2.2 29 (by decide)).trans hnn
  have e57 : N 57 = M 57 := hN.1 57 (by decide)
  refine ms_iload_n dX7_end_5 rfl ?_
  refine mi_if_lt (tgt := 14) dX7_end_6 (by decide) (fun c_6 => ?_) (fun c_6 => ?_)
  · exact absurd c_6 (by omega)
  · refine ms_iload_n dX7_end_9 rfl ?_
    refine mi_iconst dX7_end_10 ?_
    refine mi_icmp_le (tgt := 20) dX7_end_11 (by decide) (fun c_11 => ?_) (fun c_11 => ?_)
    · refine ms_aload_n dX7_end_20 rfl ?_
      refine ms_callV0 (ci := 7) (r := (RX7, TX7, 48)) dX7_end_21 cv_X7_end_X7_roundBy (k_X7_roundBy (M := N) hR (by rw [eTR]; exact hT) (by rw [eTR, e63]; exact hv) (by rw [eTR, e57]; exact hlk) hn e29 (by rw [e63]; exact hJ)) rfl rfl (by first | rfl | assumption) (Nat.le_of_ble_eq_true rfl) rfl (fun _ _ z => z.elim) (fun v9 h9 hp9 => ?_)
      obtain ⟨N2, x, w, rfl, y1, y2, rfl, y3, y4⟩ := hp9
      rw [eTR, e57, e63] at y3
      have hxb := frP_b y3
      have eT2 : sp_tR N2 = sp_tR M := by rw [← eTR]; simp only [sp_tR, y1 53 (by decide) (by decide) (by decide) (by decide) (by decide), y1 54 (by decide) (by decide) (by decide) (by decide) (by decide), y1 55 (by decide) (by decide) (by decide) (by decide) (by decide), y1 58 (by decide) (by decide) (by decide) (by decide) (by decide), y1 59 (by decide) (by decide) (by decide) (by decide) (by decide), y1 60 (by decide) (by decide) (by decide) (by decide) (by decide)]
      have z53 : N2 53 = M 53 := by rw [y1 53 (by decide) (by decide) (by decide) (by decide) (by decide)]; exact e53
      have z48 : N2 48 = N 48 := y1 48 (by decide) (by decide) (by decide) (by decide) (by decide)
      have hfr : ∀ x, x ≠ 48 → x ≠ 64 → x ≠ 65 → x ≠ 67 → x ≠ 71 → x ≠ 72 → N2 x = M x := fun x a b c d e f => by rw [y1 x b c d e f]; exact hN.1 x a
      refine ms_istore_n dX7_end_24 (by decide) rfl ?_
      dsimp only [List.set, Nat.reduceAdd]
      refine ms_iload_n dX7_end_25 rfl ?_
      refine mi_iconst dX7_end_26 ?_
      refine mi_icmp_eq (tgt := 34) dX7_end_27 (by decide) (fun c_27 => ?_) (fun c_27 => ?_)
      · refine ms_iload_n dX7_end_34 rfl ?_
        refine ms_goto (tgt := 59) dX7_end_35 (by decide) ?_
        refine ms_ret dX7_end_59 rfl ⟨N2, x, w, rfl, hfr, by rw [z48]; exact hN.2.1, fun k hk => by rw [z48]; exact hN.2.2 k hk, y2, y3, by first | (rw [if_pos (by omega)]; done) | (rw [if_neg (by omega)]; done)⟩ (by simp)
      · refine ms_iload_n dX7_end_30 rfl ?_
        refine mi_if_ne (tgt := 38) dX7_end_31 (by decide) (fun c_31 => ?_) (fun c_31 => ?_)
        · have hal := al_lt (l := M 53 1) (by omega)
          have hvw : sp_vok (sp_tR M) w := by
            rcases y3 with ⟨d, b, h1, h2, h3, h4, h5, h6, h7, h8, h9, h10⟩ | h
            · rw [h10]
              exact run_vok hT hlk false false hn.1 hv _ (by omega)
            · exact absurd h.2 c_27
          refine mi_iconst dX7_end_38 ?_
          refine ms_aload_n dX7_end_39 rfl ?_
          refine ms_getR dX7_end_40 (fo_X7_43 rfl) (by first | rfl | assumption) rfl (by first | assumption | exact rf_48_5 hR ) ?_
          refine mi_iconst dX7_end_43 ?_
          refine ms_iald dX7_end_44 (by first | rfl | assumption) ?_
          rw [z53]
          refine mi_ishl (2 ^ (M 53 1).toNat) dX7_end_45 (p2_shl (by omega)) ?_
          refine mi_iconst dX7_end_46 ?_
          refine mi_isub dX7_end_47 ?_
          refine ms_aload_n dX7_end_48 rfl ?_
          refine ms_aload_n dX7_end_49 rfl ?_
          refine ms_getR dX7_end_50 (fo_X7_80 rfl) (by first | rfl | assumption) rfl (by first | assumption | exact rf_48_26 hR ) ?_
          refine ms_callV1 (ci := 7) (r := (RX7, TX7, 48)) dX7_end_53 cv_X7_end_X7_outOf (k_X7_outOf (M := N2) hR (by rw [eT2]; exact hT) (r := 64) (by decide) rfl (by rw [eT2]; exact (y4.resolve_left c_27).vok hT hvw)) rfl rfl (by first | rfl | assumption) (Nat.le_of_ble_eq_true rfl) rfl (fun _ _ z => z.elim) (fun v9 h9 hp9 => ?_)
          obtain ⟨rfl, rfl⟩ := hp9
          rw [z53, ooN_q (y4.resolve_left c_27) _ (by omega)]
          have hob := (ooN_b w (M 53 1).toNat (by omega)).1
          refine mi_iconst dX7_end_56 ?_
          refine mi_ixor (-1 - ooN w (M 53 1).toNat) dX7_end_57 (oxm hob) ?_
          refine mi_iand (odf (2 ^ (M 53 1).toNat - 1) (ooN w (M 53 1).toNat)) dX7_end_58 (odf_e hal hob).1 ?_
          refine ms_ret dX7_end_59 rfl ⟨N2, x, w, rfl, hfr, by rw [z48]; exact hN.2.1, fun k hk => by rw [z48]; exact hN.2.2 k hk, y2, y3, by first | (rw [if_pos (by omega)]; done) | (rw [if_neg (by omega)]; done)⟩ (by simp)
        · refine ms_iload_n dX7_end_34 rfl ?_
          refine ms_goto (tgt := 59) dX7_end_35 (by decide) ?_
          refine ms_ret dX7_end_59 rfl ⟨N2, x, w, rfl, hfr, by rw [z48]; exact hN.2.1, fun k hk => by rw [z48]; exact hN.2.2 k hk, y2, y3, by first | (rw [if_pos (by omega)]; done) | (rw [if_neg (by omega)]; done)⟩ (by simp)
    · exact absurd c_11 (by omega)

set_option maxHeartbeats 4000000 in
set_option maxRecDepth 100000 in
theorem k_X7_end_x {S : mx_Sc} {f : Bool} {M : Nat → Int → Int} {L : Nat → Nat → Int64} {Rf : Nat → Nat → Option Nat} (hR : mx_rf Rf) {k : Int} (hk32 : -2147483648 ≤ k ∧ k ≤ 2147483647) (hc : ¬ (0 ≤ k ∧ k < 2)) : mx_C S mX7_end [.ref 48, .int (iI k)] (f, mx_SH, M, L, Rf) 0 0 (fun v9 h9 => ∃ N, h9 = (f, mx_SH, N, L, Rf) ∧ cdP M N 1 ∧ v9 = some (.int (iI (0)))) (fun _ _ => False) := by
  refine mx_C_of (by decide) (by simp [Value.category]) (Nat.le_of_ble_eq_true rfl) rfl ?_
  show mx_E S mX7_end 0 [some (.ref 48), some (.int (iI k)), none] [] (f, mx_SH, M, L, Rf) 0 0 _ _
  refine ms_aload_n dX7_end_0 rfl ?_
  refine mi_iconst dX7_end_1 ?_
  refine ms_putI (z := 4) dX7_end_2 (fo_X7_131 rfl) (by first | rfl | assumption) rfl rfl rfl ?_
  refine mx_gen (fun N => cdP M N 0) cdP.mk' (fun N hN => ?_)
  have e53 : N 53 = M 53 := hN.1 53 (by decide)
  have e63 : N 63 = M 63 := hN.1 63 (by decide)
  have eTR : sp_tR N = sp_tR M := by simp only [sp_tR, hN.1 53 (by decide), hN.1 54 (by decide), hN.1 55 (by decide), hN.1 58 (by decide), hN.1 59 (by decide), hN.1 60 (by decide)]
  refine ms_iload_n dX7_end_5 rfl ?_
  refine mi_if_lt (tgt := 14) dX7_end_6 (by decide) (fun c_6 => ?_) (fun c_6 => ?_)
  · refine ms_aload_n dX7_end_14 rfl ?_
    refine mi_iconst dX7_end_15 ?_
    refine ms_callV1 (ci := 7) (r := (RX7, TX7, 48)) dX7_end_16 cv_X7_end_X7_fail (k_X7_fail (M := N) hR) rfl rfl (by first | rfl | assumption) (Nat.le_of_ble_eq_true rfl) rfl (fun _ _ z => z.elim) (fun v9 h9 hp9 => ?_)
    obtain ⟨rfl, rfl⟩ := hp9
    refine ms_ret dX7_end_19 rfl ⟨_, rfl, hN.set, rfl⟩ (by simp)
  · refine ms_iload_n dX7_end_9 rfl ?_
    refine mi_iconst dX7_end_10 ?_
    refine mi_icmp_le (tgt := 20) dX7_end_11 (by decide) (fun c_11 => ?_) (fun c_11 => ?_)
    · exact absurd c_11 (by omega)
    · refine ms_aload_n dX7_end_14 rfl ?_
      refine mi_iconst dX7_end_15 ?_
      refine ms_callV1 (ci := 7) (r := (RX7, TX7, 48)) dX7_end_16 cv_X7_end_X7_fail (k_X7_fail (M := N) hR) rfl rfl (by first | rfl | assumption) (Nat.le_of_ble_eq_true rfl) rfl (fun _ _ z => z.elim) (fun v9 h9 hp9 => ?_)
      obtain ⟨rfl, rfl⟩ := hp9
      refine ms_ret dX7_end_19 rfl ⟨_, rfl, hN.set, rfl⟩ (by simp)

theorem p9_3 {m : Nat} (h : m ≤ 3) : (9 : Int) ^ m ≤ 729 ∧ 1 ≤ (9 : Int) ^ m := by
  rcases (show m = 0 ∨ m = 1 ∨ m = 2 ∨ m = 3 by omega) with rfl | rfl | rfl | rfl <;> decide
set_option maxHeartbeats 4000000 in
set_option maxRecDepth 100000 in
theorem l_X7_p9 {S : mx_Sc} {f : Bool} {M : Nat → Int → Int} {L : Nat → Nat → Int64} {Rf : Nat → Nat → Option Nat} {m : Nat} (hm : m ≤ 3) : ∀ (kk : Nat) (k : Nat), k + kk = m → mx_E S mX7_powerOf9 4 [some (.int (iI (m : Int))), some (.int (iI ((9 : Int) ^ k))), some (.int (iI (k : Int)))] [] (f, mx_SH, M, L, Rf) 0 0 (fun v9 h9 => h9 = (f, mx_SH, M, L, Rf) ∧ v9 = some (.int (iI ((9 : Int) ^ m)))) (fun _ _ => False) := by
  intro kk
  induction kk with
  | zero => 
    intro k g1
    have ek : k = m := by omega
    subst ek
    refine ms_iload_n dX7_powerOf9_4 rfl ?_
    refine ms_iload_n dX7_powerOf9_5 rfl ?_
    refine mi_icmp_ge (tgt := 20) dX7_powerOf9_6 (by decide) (fun c_6 => ?_) (fun c_6 => ?_)
    · refine ms_iload_n dX7_powerOf9_20 rfl ?_
      refine ms_ret dX7_powerOf9_21 rfl ⟨rfl, rfl⟩ (by simp)
    · exact absurd c_6 (by omega)
  | succ kk ih => 
    intro k g1
    refine ms_iload_n dX7_powerOf9_4 rfl ?_
    refine ms_iload_n dX7_powerOf9_5 rfl ?_
    refine mi_icmp_ge (tgt := 20) dX7_powerOf9_6 (by decide) (fun c_6 => ?_) (fun c_6 => ?_)
    · exact absurd c_6 (by omega)
    · refine ms_iload_n dX7_powerOf9_9 rfl ?_
      refine mi_bipush dX7_powerOf9_10 (by decide) ?_
      refine mi_imul dX7_powerOf9_12 ?_
      refine ms_istore_n dX7_powerOf9_13 (by decide) rfl ?_
      dsimp only [List.set, Nat.reduceAdd]
      refine mi_iinc dX7_powerOf9_14 rfl (by decide) rfl ?_
      dsimp only [List.set, Nat.reduceAdd]
      refine ms_goto (tgt := 4) dX7_powerOf9_17 (by decide) ?_
      have i9 := ih (k + 1) (by omega)
      rw [Int.pow_succ] at i9
      exact i9

set_option maxHeartbeats 4000000 in
set_option maxRecDepth 100000 in
theorem k_X7_powerOf9 {S : mx_Sc} {f : Bool} {M : Nat → Int → Int} {L : Nat → Nat → Int64} {Rf : Nat → Nat → Option Nat} {m : Nat} (hm : m ≤ 3) : mx_C S mX7_powerOf9 [.int (iI (m : Int))] (f, mx_SH, M, L, Rf) 0 0 (fun v9 h9 => h9 = (f, mx_SH, M, L, Rf) ∧ v9 = some (.int (iI ((9 : Int) ^ m)))) (fun _ _ => False) := by
  refine mx_C_of (by decide) (by simp [Value.category]) (Nat.le_of_ble_eq_true rfl) rfl ?_
  show mx_E S mX7_powerOf9 0 [some (.int (iI (m : Int))), none, none] [] (f, mx_SH, M, L, Rf) 0 0 _ _
  refine mi_iconst dX7_powerOf9_0 ?_
  refine ms_istore_n dX7_powerOf9_1 (by decide) rfl ?_
  dsimp only [List.set, Nat.reduceAdd]
  refine mi_iconst dX7_powerOf9_2 ?_
  refine ms_istore_n dX7_powerOf9_3 (by decide) rfl ?_
  dsimp only [List.set, Nat.reduceAdd]
  exact l_X7_p9 (S := S) (f := f) (M := M) (L := L) (Rf := Rf) hm m 0 (by omega)

/-- the choice of the j-th mother from the last on, in a row of nines -/
def c9 (w : Int) (j : Nat) : Int := w / 9 ^ j % 9
theorem c9_b (w : Int) (j : Nat) : 0 ≤ c9 w j ∧ c9 w j < 9 := by unfold c9; omega
theorem c9_s {w : Int} (hw : 0 ≤ w) (j : Nat) : w / 9 ^ j / 9 = w / 9 ^ (j + 1) := by
  rw [Int.pow_succ, Int.ediv_ediv_of_nonneg (Int.le_of_lt (Int.pow_pos (by decide)))]
/-- whether a row can be -/
def irP (v : Int → Int) (c : Nat → Int) (m : Nat) (w : Int) : Prop := ∀ j : Nat, j < m → cgB v (c j) (c9 w j) = true
noncomputable def irB (v : Int → Int) (c : Nat → Int) (m : Nat) (w : Int) : Bool := @decide (irP v c m w) (Classical.propDecidable _)
theorem irB_t {v : Int → Int} {c : Nat → Int} {m : Nat} {w : Int} (h : irP v c m w) : irB v c m w = true := @decide_eq_true _ (Classical.propDecidable _) h
theorem irB_f {v : Int → Int} {c : Nat → Int} {m : Nat} {w : Int} (h : ¬ irP v c m w) : irB v c m w = false := @decide_eq_false _ (Classical.propDecidable _) h
theorem irB_i {v : Int → Int} {c : Nat → Int} {m : Nat} {w : Int} (h : irB v c m w = true) : irP v c m w := @of_decide_eq_true _ (Classical.propDecidable _) h
theorem irB_n {v : Int → Int} {c : Nat → Int} {m : Nat} {w : Int} (h : irB v c m w = false) : ¬ irP v c m w := @of_decide_eq_false _ (Classical.propDecidable _) h
theorem dv_b {w : Int} (hw : 0 ≤ w) (j : Nat) : 0 ≤ w / 9 ^ j ∧ w / 9 ^ j ≤ w := ⟨Int.ediv_nonneg hw (Int.le_of_lt (Int.pow_pos (by decide))), Int.ediv_le_self _ hw⟩
set_option maxHeartbeats 4000000 in
set_option maxRecDepth 100000 in
theorem l_X7_ir {S : mx_Sc} {f : Bool} {M : Nat → Int → Int} {L : Nat → Nat → Int64} {Rf : Nat → Nat → Option Nat} (hR : mx_rf Rf) (hT : sp_tok (sp_tR M)) (hv : sp_vok (sp_tR M) (M 63)) {m : Nat} {c : Nat → Int} (hm3 : m ≤ 3) (hmm : M 48 38 = (m : Int)) (hch : ∀ j : Nat, j < m → M 73 ((m : Int) - 1 - (j : Int)) = c j ∧ 0 ≤ c j ∧ c j < M 53 1) {w : Int} (hw : 0 ≤ w ∧ w < 9 ^ m) : ∀ (kk : Nat) (j : Nat), j + kk = m → (∀ i : Nat, i < j → cgB (M 63) (c i) (c9 w i) = true) → mx_E S mX7_isRow 9 [some (.ref 48), some (.int (iI w)), some (.int (iI (w / 9 ^ j))), some (.int (iI ((m : Int) - 1 - (j : Int))))] [] (f, mx_SH, M, L, Rf) 0 0 (fun v9 h9 => h9 = (f, mx_SH, M, L, Rf) ∧ v9 = some (.int (iI (bI (irB (M 63) c m w))))) (fun _ _ => False) := by
  intro kk
  induction kk with
  | zero => 
    intro j g1 q1
    have ej : j = m := by omega
    subst ej
    refine ms_iload_n dX7_isRow_9 rfl ?_
    refine mi_if_lt (tgt := 43) dX7_isRow_10 (by decide) (fun c_10 => ?_) (fun c_10 => ?_)
    · refine mi_iconst dX7_isRow_43 ?_
      refine ms_retZ dX7_isRow_44 rfl (by first | exact Or.inl rfl | exact Or.inr rfl) ⟨rfl, by rw [irB_t q1]; rfl⟩ (by simp)
    · exact absurd c_10 (by omega)
  | succ kk ih => 
    intro j g1 q1
    have h9 := p9_3 hm3
    have hdb := dv_b hw.1 j
    have hcj := hch j (by omega)
    refine ms_iload_n dX7_isRow_9 rfl ?_
    refine mi_if_lt (tgt := 43) dX7_isRow_10 (by decide) (fun c_10 => ?_) (fun c_10 => ?_)
    · exact absurd c_10 (by omega)
    · refine ms_aload_n dX7_isRow_13 rfl ?_
      refine ms_aload_n dX7_isRow_14 rfl ?_
      refine ms_getR dX7_isRow_15 (fo_X7_107 rfl) (by first | rfl | assumption) rfl (by first | assumption | exact rf_48_36 hR ) ?_
      refine ms_iload_n dX7_isRow_18 rfl ?_
      refine ms_iald dX7_isRow_19 (by first | rfl | assumption) ?_
      refine ms_iload_n dX7_isRow_20 rfl ?_
      refine mi_bipush dX7_isRow_21 (by decide) ?_
      refine mi_irem dX7_isRow_23 ?_
      rw [hcj.1]
      refine ms_callV2 (ci := 7) (r := (RX7, TX7, 48)) dX7_isRow_24 cv_X7_isRow_X7_canGive (k_X7_canGive hR hT hv (l := c j) (c := w / 9 ^ j % 9) ⟨hcj.2.1, hcj.2.2⟩ (by omega)) rfl rfl (by first | rfl | assumption) (Nat.le_of_ble_eq_true rfl) rfl (fun _ _ z => z.elim) (fun v9 h9 hp9 => ?_)
      obtain ⟨rfl, rfl⟩ := hp9
      refine mi_if_neB (tgt := 32) dX7_isRow_27 (by decide) (fun c_27 => ?_) (fun c_27 => ?_)
      · refine ms_iload_n dX7_isRow_32 rfl ?_
        refine mi_bipush dX7_isRow_33 (by decide) ?_
        refine mi_idiv dX7_isRow_35 ?_
        refine ms_istore_n dX7_isRow_36 (by decide) rfl ?_
        dsimp only [List.set, Nat.reduceAdd]
        refine mi_iinc dX7_isRow_37 rfl (by decide) rfl ?_
        dsimp only [List.set, Nat.reduceAdd]
        refine ms_goto (tgt := 9) dX7_isRow_40 (by decide) ?_
        have i9 := ih (j + 1) (by omega) (fun i hi => by by_cases e : i = j; (subst e; exact c_27); exact q1 i (by omega))
        rw [← c9_s hw.1, show (m : Int) - 1 - ((j + 1 : Nat) : Int) = (m : Int) - 1 - (j : Int) + -1 by omega] at i9
        exact i9
      · refine mi_iconst dX7_isRow_30 ?_
        refine ms_retZ dX7_isRow_31 rfl (by first | exact Or.inl rfl | exact Or.inr rfl) ⟨rfl, by rw [irB_f (fun z => absurd (z j (by omega)) (by unfold c9; rw [c_27]; decide))]; rfl⟩ (by simp)

set_option maxHeartbeats 4000000 in
set_option maxRecDepth 100000 in
theorem k_X7_isRow {S : mx_Sc} {f : Bool} {M : Nat → Int → Int} {L : Nat → Nat → Int64} {Rf : Nat → Nat → Option Nat} (hR : mx_rf Rf) (hT : sp_tok (sp_tR M)) (hv : sp_vok (sp_tR M) (M 63)) {m : Nat} {c : Nat → Int} (hm3 : m ≤ 3) (hmm : M 48 38 = (m : Int)) (hch : ∀ j : Nat, j < m → M 73 ((m : Int) - 1 - (j : Int)) = c j ∧ 0 ≤ c j ∧ c j < M 53 1) {w : Int} (hw : 0 ≤ w ∧ w < 9 ^ m) : mx_C S mX7_isRow [.ref 48, .int (iI w)] (f, mx_SH, M, L, Rf) 0 0 (fun v9 h9 => h9 = (f, mx_SH, M, L, Rf) ∧ v9 = some (.int (iI (bI (irB (M 63) c m w))))) (fun _ _ => False) := by
  refine mx_C_of (by decide) (by simp [Value.category]) (Nat.le_of_ble_eq_true rfl) rfl ?_
  show mx_E S mX7_isRow 0 [some (.ref 48), some (.int (iI w)), none, none] [] (f, mx_SH, M, L, Rf) 0 0 _ _
  refine ms_iload_n dX7_isRow_0 rfl ?_
  refine ms_istore_n dX7_isRow_1 (by decide) rfl ?_
  dsimp only [List.set, Nat.reduceAdd]
  refine ms_aload_n dX7_isRow_2 rfl ?_
  refine ms_getI (z := 38) dX7_isRow_3 (fo_X7_329 rfl) (by first | rfl | assumption) rfl rfl ?_
  refine mi_iconst dX7_isRow_6 ?_
  refine mi_isub dX7_isRow_7 ?_
  rw [hmm]
  refine ms_istore_n dX7_isRow_8 (by decide) rfl ?_
  dsimp only [List.set, Nat.reduceAdd]
  have i9 := l_X7_ir (S := S) (f := f) (L := L) hR hT hv hm3 hmm hch hw m 0 (by omega) (fun i hi => by omega)
  rw [show w / 9 ^ 0 = w by rw [Int.pow_zero, Int.ediv_one], show (m : Int) - 1 - ((0 : Nat) : Int) = (m : Int) - 1 by omega] at i9
  exact i9

def btR (m : Nat) (w : Int) : Nat → Int
  | 0 => 0
  | k + 1 => 10 * btR m w k + c9 w (m - 1 - k)
set_option maxHeartbeats 4000000 in
set_option maxRecDepth 100000 in
theorem l_X7_bt {S : mx_Sc} {f : Bool} {M : Nat → Int → Int} {L : Nat → Nat → Int64} {Rf : Nat → Nat → Option Nat} (hR : mx_rf Rf) {m : Nat} (hm3 : m ≤ 3) (hmm : M 48 38 = (m : Int)) {w : Int} (hw : 0 ≤ w ∧ w < 9 ^ m) : ∀ (kk : Nat) (k : Nat), k + kk = m → mx_E S mX7_byTens 4 [some (.ref 48), some (.int (iI w)), some (.int (iI (btR m w k))), some (.int (iI (k : Int)))] [] (f, mx_SH, M, L, Rf) 0 0 (fun v9 h9 => h9 = (f, mx_SH, M, L, Rf) ∧ v9 = some (.int (iI (btR m w m)))) (fun _ _ => False) := by
  intro kk
  induction kk with
  | zero => 
    intro k g1
    have ek : k = m := by omega
    subst ek
    refine ms_iload_n dX7_byTens_4 rfl ?_
    refine ms_aload_n dX7_byTens_5 rfl ?_
    refine ms_getI (z := 38) dX7_byTens_6 (fo_X7_329 rfl) (by first | rfl | assumption) rfl rfl ?_
    refine mi_icmp_ge (tgt := 40) dX7_byTens_9 (by decide) (fun c_9 => ?_) (fun c_9 => ?_)
    · refine ms_iload_n dX7_byTens_40 rfl ?_
      refine ms_ret dX7_byTens_41 rfl ⟨rfl, rfl⟩ (by simp)
    · exact absurd c_9 (by omega)
  | succ kk ih => 
    intro k g1
    have h9 := p9_3 hm3
    have h9k := p9_3 (m := m - 1 - k) (by omega)
    have hdb := dv_b hw.1 (m - 1 - k)
    have em : M 48 38 - 1 - (k : Int) = ((m - 1 - k : Nat) : Int) := by omega
    refine ms_iload_n dX7_byTens_4 rfl ?_
    refine ms_aload_n dX7_byTens_5 rfl ?_
    refine ms_getI (z := 38) dX7_byTens_6 (fo_X7_329 rfl) (by first | rfl | assumption) rfl rfl ?_
    refine mi_icmp_ge (tgt := 40) dX7_byTens_9 (by decide) (fun c_9 => ?_) (fun c_9 => ?_)
    · exact absurd c_9 (by omega)
    · refine mi_bipush dX7_byTens_12 (by decide) ?_
      refine ms_iload_n dX7_byTens_14 rfl ?_
      refine mi_imul dX7_byTens_15 ?_
      refine ms_iload_n dX7_byTens_16 rfl ?_
      refine ms_aload_n dX7_byTens_17 rfl ?_
      refine ms_getI (z := 38) dX7_byTens_18 (fo_X7_329 rfl) (by first | rfl | assumption) rfl rfl ?_
      refine mi_iconst dX7_byTens_21 ?_
      refine mi_isub dX7_byTens_22 ?_
      refine ms_iload_n dX7_byTens_23 rfl ?_
      refine mi_isub dX7_byTens_24 ?_
      rw [em]
      refine ms_callS1 dX7_byTens_25 cv_X7_byTens_X7_powerOf9 (k_X7_powerOf9 (m := m - 1 - k) (by omega)) (Nat.le_of_ble_eq_true rfl) rfl (fun _ _ z => z.elim) (fun v9 h9 hp9 => ?_)
      obtain ⟨rfl, rfl⟩ := hp9
      refine mi_idiv dX7_byTens_28 ?_
      refine mi_bipush dX7_byTens_29 (by decide) ?_
      refine mi_irem dX7_byTens_31 ?_
      refine mi_iadd dX7_byTens_32 ?_
      refine ms_istore_n dX7_byTens_33 (by decide) rfl ?_
      dsimp only [List.set, Nat.reduceAdd]
      refine mi_iinc dX7_byTens_34 rfl (by decide) rfl ?_
      dsimp only [List.set, Nat.reduceAdd]
      refine ms_goto (tgt := 4) dX7_byTens_37 (by decide) ?_
      exact ih (k + 1) (by omega)

set_option maxHeartbeats 4000000 in
set_option maxRecDepth 100000 in
theorem k_X7_byTens {S : mx_Sc} {f : Bool} {M : Nat → Int → Int} {L : Nat → Nat → Int64} {Rf : Nat → Nat → Option Nat} (hR : mx_rf Rf) {m : Nat} (hm3 : m ≤ 3) (hmm : M 48 38 = (m : Int)) {w : Int} (hw : 0 ≤ w ∧ w < 9 ^ m) : mx_C S mX7_byTens [.ref 48, .int (iI w)] (f, mx_SH, M, L, Rf) 0 0 (fun v9 h9 => h9 = (f, mx_SH, M, L, Rf) ∧ v9 = some (.int (iI (btR m w m)))) (fun _ _ => False) := by
  refine mx_C_of (by decide) (by simp [Value.category]) (Nat.le_of_ble_eq_true rfl) rfl ?_
  show mx_E S mX7_byTens 0 [some (.ref 48), some (.int (iI w)), none, none] [] (f, mx_SH, M, L, Rf) 0 0 _ _
  refine mi_iconst dX7_byTens_0 ?_
  refine ms_istore_n dX7_byTens_1 (by decide) rfl ?_
  dsimp only [List.set, Nat.reduceAdd]
  refine mi_iconst dX7_byTens_2 ?_
  refine ms_istore_n dX7_byTens_3 (by decide) rfl ?_
  dsimp only [List.set, Nat.reduceAdd]
  exact l_X7_bt (S := S) (f := f) (L := L) hR hm3 hmm hw m 0 (by omega)

