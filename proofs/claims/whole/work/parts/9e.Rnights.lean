theorem icx_st {f g : Int → Int} {sp dp k : Int} (hk : 0 ≤ k) : iu (ic f g sp dp k) (dp + k) (f (sp + k)) = ic f g sp dp (k + 1) := by
  funext j
  simp only [iu, ic]
  by_cases e : j = dp + k
  · rw [if_pos e, if_pos (by omega)]
    congr 1
    omega
  · rw [if_neg e]
    by_cases h : dp ≤ j ∧ j < dp + k
    · rw [if_pos h, if_pos (by omega)]
    · rw [if_neg h, if_neg (by omega)]
theorem icx_0 {f g : Int → Int} {sp dp : Int} : ic f g sp dp 0 = g := by
  funext j
  simp only [ic]
  rw [if_neg (by omega)]
def nmS (M : Nat → Int → Int) (n : Int) (N : Nat → Int → Int) (k : Nat) (m : Int) : Prop := (∀ x, x ≠ 48 → x ≠ 63 → x ≠ 65 → x ≠ 67 → x ≠ 68 → x ≠ 69 → x ≠ 70 → N x = M x) ∧ (∀ j, j ≠ 29 → N 48 j = M 48 j) ∧ N 48 29 = n + k ∧ N 63 = sp_run (sp_tR M) (M 57) false false n k (M 63) ∧ sp_vok (sp_tR M) (N 63) ∧ sp_cnt (sp_tR M) (N 63) = sp_cnt (sp_tR M) (M 63) + 2 * m ∧ (0 ≤ m ∧ m ≤ 3) ∧
  (∀ j, (j < n * 18 ∨ (n + k) * 18 ≤ j) → N 68 j = M 68 j) ∧ (∀ j, (j < (n + 1) * 18 ∨ (n + k + 1) * 18 ≤ j) → N 69 j = M 69 j) ∧ (∀ j, (j < n ∨ n + k ≤ j) → N 70 j = M 70 j) ∧
  (∀ (j : Nat) (q : Int), j < k → 0 ≤ q → q < 18 → N 68 ((n + j) * 18 + q) = sp_run (sp_tR M) (M 57) false false n j (M 63) q ∧ N 69 ((n + j + 1) * 18 + q) = sp_run (sp_tR M) (M 57) false false n (j + 1) (M 63) q) ∧ ∀ j : Nat, j < k → N 70 (n + j) = ooN (sp_run (sp_tR M) (M 57) false false n j (M 63)) (M 53 1).toNat
set_option maxHeartbeats 4000000 in
set_option maxRecDepth 100000 in
theorem l_X7_niA {S : mx_Sc} {f : Bool} {M : Nat → Int → Int} {L : Nat → Nat → Int64} {Rf : Nat → Nat → Option Nat} (hR : mx_rf Rf) {P : Option Value → mx_H → Prop} {PX : String → mx_H → Prop} {u m k g : Int} (hg : 0 ≤ g ∧ g ≤ 99) (hg29 : M 48 29 = g) : ∀ (kk : Nat) (i : Int) (N : Nat → Int → Int), 0 ≤ i → i + kk = 18 → (∀ x, x ≠ 68 → N x = M x) → N 68 = ic (M 63) (M 68) 0 (18 * g) i → (∀ (N : Nat → Int → Int) (i : Int), (∀ x, x ≠ 68 → N x = M x) → N 68 = ic (M 63) (M 68) 0 (18 * g) 18 → mx_E S mX7_nights 95 [some (.ref 48), some (.int (iI u)), some (.int (iI m)), some (.int (iI k)), some (.int (iI i))] [] (f, mx_SH, N, L, Rf) 0 0 P PX) → mx_E S mX7_nights 60 [some (.ref 48), some (.int (iI u)), some (.int (iI m)), some (.int (iI k)), some (.int (iI i))] [] (f, mx_SH, N, L, Rf) 0 0 P PX := by
  intro kk
  induction kk with
  | zero => 
    intro i N g0 g1 q1 q2 hK
    refine ms_iload dX7_nights_60 rfl ?_
    refine mi_bipush dX7_nights_62 (by decide) ?_
    refine mi_icmp_ge (tgt := 95) dX7_nights_64 (by decide) (fun c_64 => ?_) (fun c_64 => ?_)
    · exact hK N i q1 (by rw [q2, show i = 18 by omega])
    · exact absurd c_64 (by omega)
  | succ kk ih => 
    intro i N g0 g1 q1 q2 hK
    have e29 : N 48 29 = g := by rw [q1 48 (by decide)]; exact hg29
    have e63 : N 63 = M 63 := q1 63 (by decide)
    refine ms_iload dX7_nights_60 rfl ?_
    refine mi_bipush dX7_nights_62 (by decide) ?_
    refine mi_icmp_ge (tgt := 95) dX7_nights_64 (by decide) (fun c_64 => ?_) (fun c_64 => ?_)
    · exact absurd c_64 (by omega)
    · refine ms_aload_n dX7_nights_67 rfl ?_
      refine ms_getR dX7_nights_68 (fo_X7_92 rfl) (by first | rfl | assumption) rfl (by first | assumption | exact rf_48_31 hR ) ?_
      refine mi_bipush dX7_nights_71 (by decide) ?_
      refine ms_aload_n dX7_nights_73 rfl ?_
      refine ms_getI (z := 29) dX7_nights_74 (fo_X7_248 rfl) (by first | rfl | assumption) rfl rfl ?_
      refine mi_imul dX7_nights_77 ?_
      refine ms_iload dX7_nights_78 rfl ?_
      refine mi_iadd dX7_nights_80 ?_
      refine ms_aload_n dX7_nights_81 rfl ?_
      refine ms_getR dX7_nights_82 (fo_X7_77 rfl) (by first | rfl | assumption) rfl (by first | assumption | exact rf_48_25 hR ) ?_
      refine ms_iload dX7_nights_85 rfl ?_
      refine ms_iald dX7_nights_87 (by first | rfl | assumption) ?_
      refine ms_iast dX7_nights_88 (by first | rfl | assumption) ?_
      refine mi_iinc dX7_nights_89 rfl (by decide) rfl ?_
      dsimp only [List.set, Nat.reduceAdd]
      refine ms_goto (tgt := 60) dX7_nights_92 (by decide) ?_
      refine ih (i + 1) _ (by omega) (by omega) (fun x hx => by rw [up_n _ _ hx]; exact q1 x hx) ?_ hK
      rw [up_s, e29, e63, q2, ← icx_st (by omega), Int.zero_add]

set_option maxHeartbeats 4000000 in
set_option maxRecDepth 100000 in
theorem l_X7_niB {S : mx_Sc} {f : Bool} {M : Nat → Int → Int} {L : Nat → Nat → Int64} {Rf : Nat → Nat → Option Nat} (hR : mx_rf Rf) {P : Option Value → mx_H → Prop} {PX : String → mx_H → Prop} {u m k g : Int} (hg : 0 ≤ g ∧ g ≤ 99) (hg29 : M 48 29 = g) : ∀ (kk : Nat) (i : Int) (N : Nat → Int → Int), 0 ≤ i → i + kk = 18 → (∀ x, x ≠ 69 → N x = M x) → N 69 = ic (M 63) (M 69) 0 (18 * g) i → (∀ (N : Nat → Int → Int) (i : Int), (∀ x, x ≠ 69 → N x = M x) → N 69 = ic (M 63) (M 69) 0 (18 * g) 18 → mx_E S mX7_nights 180 [some (.ref 48), some (.int (iI u)), some (.int (iI m)), some (.int (iI k)), some (.int (iI i))] [] (f, mx_SH, N, L, Rf) 0 0 P PX) → mx_E S mX7_nights 145 [some (.ref 48), some (.int (iI u)), some (.int (iI m)), some (.int (iI k)), some (.int (iI i))] [] (f, mx_SH, N, L, Rf) 0 0 P PX := by
  intro kk
  induction kk with
  | zero => 
    intro i N g0 g1 q1 q2 hK
    refine ms_iload dX7_nights_145 rfl ?_
    refine mi_bipush dX7_nights_147 (by decide) ?_
    refine mi_icmp_ge (tgt := 180) dX7_nights_149 (by decide) (fun c_149 => ?_) (fun c_149 => ?_)
    · exact hK N i q1 (by rw [q2, show i = 18 by omega])
    · exact absurd c_149 (by omega)
  | succ kk ih => 
    intro i N g0 g1 q1 q2 hK
    have e29 : N 48 29 = g := by rw [q1 48 (by decide)]; exact hg29
    have e63 : N 63 = M 63 := q1 63 (by decide)
    refine ms_iload dX7_nights_145 rfl ?_
    refine mi_bipush dX7_nights_147 (by decide) ?_
    refine mi_icmp_ge (tgt := 180) dX7_nights_149 (by decide) (fun c_149 => ?_) (fun c_149 => ?_)
    · exact absurd c_149 (by omega)
    · refine ms_aload_n dX7_nights_152 rfl ?_
      refine ms_getR dX7_nights_153 (fo_X7_95 rfl) (by first | rfl | assumption) rfl (by first | assumption | exact rf_48_32 hR ) ?_
      refine mi_bipush dX7_nights_156 (by decide) ?_
      refine ms_aload_n dX7_nights_158 rfl ?_
      refine ms_getI (z := 29) dX7_nights_159 (fo_X7_248 rfl) (by first | rfl | assumption) rfl rfl ?_
      refine mi_imul dX7_nights_162 ?_
      refine ms_iload dX7_nights_163 rfl ?_
      refine mi_iadd dX7_nights_165 ?_
      refine ms_aload_n dX7_nights_166 rfl ?_
      refine ms_getR dX7_nights_167 (fo_X7_77 rfl) (by first | rfl | assumption) rfl (by first | assumption | exact rf_48_25 hR ) ?_
      refine ms_iload dX7_nights_170 rfl ?_
      refine ms_iald dX7_nights_172 (by first | rfl | assumption) ?_
      refine ms_iast dX7_nights_173 (by first | rfl | assumption) ?_
      refine mi_iinc dX7_nights_174 rfl (by decide) rfl ?_
      dsimp only [List.set, Nat.reduceAdd]
      refine ms_goto (tgt := 145) dX7_nights_177 (by decide) ?_
      refine ih (i + 1) _ (by omega) (by omega) (fun x hx => by rw [up_n _ _ hx]; exact q1 x hx) ?_ hK
      rw [up_s, e29, e63, q2, ← icx_st (by omega), Int.zero_add]

set_option maxHeartbeats 4000000 in
set_option maxRecDepth 100000 in
theorem l_X7_ni {S : mx_Sc} {f : Bool} {M : Nat → Int → Int} {L : Nat → Nat → Int64} {Rf : Nat → Nat → Option Nat} (hR : mx_rf Rf) (hT : sp_tok (sp_tR M)) (hv : sp_vok (sp_tR M) (M 63)) (hlk : sp_lok (sp_tR M) (M 57)) {n : Int} (hn : 0 ≤ n ∧ n ≤ 99) (hnn : M 48 29 = n) {u : Int} (hu : 0 ≤ u) (hnu : n + u ≤ M 53 5) : ∀ (kk : Nat) (k : Nat) (N : Nat → Int → Int) (m : Int) (o4 : Option Value), k + kk = u → nmS M n N k m → mx_E S mX7_nights 52 [some (.ref 48), some (.int (iI u)), some (.int (iI m)), some (.int (iI (k : Int))), o4] [] (f, mx_SH, N, L, Rf) 0 0 (fun v9 h9 => ∃ N m, h9 = (f, mx_SH, N, L, Rf) ∧ v9 = some (.int (iI m)) ∧ nmS M n N u.toNat m) (fun _ _ => False) := by
  intro kk
  induction kk with
  | zero => 
    intro k N m o4 g1 q1
    have hT0 : 1 ≤ M 53 0 ∧ M 53 0 ≤ 30 := hT.1
    have hT1 : 0 ≤ M 53 1 ∧ M 53 1 ≤ 6 := hT.2.1
    have hT5 : 1 ≤ M 53 5 ∧ M 53 5 ≤ 99 := hT.2.2.2.2.2.1
    have hT6 : 0 ≤ M 53 6 ∧ M 53 6 ≤ 10 := hT.2.2.2.2.2.2.1
    refine ms_iload_n dX7_nights_52 rfl ?_
    refine ms_iload_n dX7_nights_53 rfl ?_
    refine mi_icmp_ge (tgt := 186) dX7_nights_54 (by decide) (fun c_54 => ?_) (fun c_54 => ?_)
    · refine ms_iload_n dX7_nights_186 rfl ?_
      refine ms_ret dX7_nights_187 rfl ⟨N, m, rfl, rfl, by rw [show u.toNat = k by omega]; exact q1⟩ (by simp)
    · exact absurd c_54 (by omega)
  | succ kk ih => 
    intro k N m o4 g1 q1
    have hT0 : 1 ≤ M 53 0 ∧ M 53 0 ≤ 30 := hT.1
    have hT1 : 0 ≤ M 53 1 ∧ M 53 1 ≤ 6 := hT.2.1
    have hT5 : 1 ≤ M 53 5 ∧ M 53 5 ≤ 99 := hT.2.2.2.2.2.1
    have hT6 : 0 ≤ M 53 6 ∧ M 53 6 ≤ 10 := hT.2.2.2.2.2.2.1
    obtain ⟨s1, s2, s3, s4, s5, s6, s7, s8, s9, s10, s11, s12⟩ := q1
    have eT : sp_tR N = sp_tR M := by simp only [sp_tR, s1 53 (by decide) (by decide) (by decide) (by decide) (by decide) (by decide) (by decide), s1 54 (by decide) (by decide) (by decide) (by decide) (by decide) (by decide) (by decide), s1 55 (by decide) (by decide) (by decide) (by decide) (by decide) (by decide) (by decide), s1 58 (by decide) (by decide) (by decide) (by decide) (by decide) (by decide) (by decide), s1 59 (by decide) (by decide) (by decide) (by decide) (by decide) (by decide) (by decide), s1 60 (by decide) (by decide) (by decide) (by decide) (by decide) (by decide) (by decide)]
    have e53 : N 53 = M 53 := s1 53 (by decide) (by decide) (by decide) (by decide) (by decide) (by decide) (by decide)
    have e57 : N 57 = M 57 := s1 57 (by decide) (by decide) (by decide) (by decide) (by decide) (by decide) (by decide)
    have hgb : 0 ≤ n + (k : Int) ∧ n + (k : Int) ≤ 98 := by omega
    refine ms_iload_n dX7_nights_52 rfl ?_
    refine ms_iload_n dX7_nights_53 rfl ?_
    refine mi_icmp_ge (tgt := 186) dX7_nights_54 (by decide) (fun c_54 => ?_) (fun c_54 => ?_)
    · exact absurd c_54 (by omega)
    · refine mi_iconst dX7_nights_57 ?_
      refine ms_istore dX7_nights_58 (by decide) rfl ?_
      dsimp only [List.set, Nat.reduceAdd]
      refine l_X7_niA (S := S) (f := f) (L := L) (M := N) (u := u) (m := m) (k := (k : Int)) (g := n + k) hR (by omega) s3 18 0 N (by omega) (by omega) (fun _ _ => rfl) (by rw [icx_0]) (fun N1 i9 r1 r2 => ?_)
      have r48 : N1 48 29 = n + k := by rw [r1 48 (by decide)]; exact s3
      have r63 : N1 63 = N 63 := r1 63 (by decide)
      have r53 : N1 53 = M 53 := by rw [r1 53 (by decide)]; exact e53
      have r57 : N1 57 = M 57 := by rw [r1 57 (by decide)]; exact e57
      have rT : sp_tR N1 = sp_tR M := by rw [← eT]; simp only [sp_tR, r1 53 (by decide), r1 54 (by decide), r1 55 (by decide), r1 58 (by decide), r1 59 (by decide), r1 60 (by decide)]
      refine ms_aload_n dX7_nights_95 rfl ?_
      refine ms_getR dX7_nights_96 (fo_X7_98 rfl) (by first | rfl | assumption) rfl (by first | assumption | exact rf_48_33 hR ) ?_
      refine ms_aload_n dX7_nights_99 rfl ?_
      refine ms_getI (z := 29) dX7_nights_100 (fo_X7_248 rfl) (by first | rfl | assumption) rfl rfl ?_
      refine ms_aload_n dX7_nights_103 rfl ?_
      refine ms_aload_n dX7_nights_104 rfl ?_
      refine ms_getR dX7_nights_105 (fo_X7_77 rfl) (by first | rfl | assumption) rfl (by first | assumption | exact rf_48_25 hR ) ?_
      refine ms_callV1 (ci := 7) (r := (RX7, TX7, 48)) dX7_nights_108 cv_X7_nights_X7_outOf (k_X7_outOf (M := N1) hR (by rw [rT]; exact hT) (r := 63) (by decide) rfl (by rw [rT, r63]; exact s5)) rfl rfl (by first | rfl | assumption) (Nat.le_of_ble_eq_true rfl) rfl (fun _ _ z => z.elim) (fun v9 h9 hp9 => ?_)
      obtain ⟨rfl, rfl⟩ := hp9
      rw [r63, r53]
      refine ms_iast dX7_nights_111 (by first | rfl | assumption) ?_
      refine mx_gen (fun N2 => (∀ x, x ≠ 70 → N2 x = N1 x) ∧ N2 70 = iu (N1 70) (n + k) (ooN (N 63) (M 53 1).toNat)) ⟨fun x hx => up_n _ _ hx, by rw [up_s, r48]⟩ (fun N2 hN2 => ?_)
      obtain ⟨t1, t70⟩ := hN2
      have t48 : N2 48 29 = n + k := by rw [t1 48 (by decide)]; exact r48
      have t63 : N2 63 = N 63 := (t1 63 (by decide)).trans r63
      have t57 : N2 57 = M 57 := (t1 57 (by decide)).trans r57
      have tT : sp_tR N2 = sp_tR M := by rw [← rT]; simp only [sp_tR, t1 53 (by decide), t1 54 (by decide), t1 55 (by decide), t1 58 (by decide), t1 59 (by decide), t1 60 (by decide)]
      refine ms_iload_n dX7_nights_112 rfl ?_
      refine ms_aload_n dX7_nights_113 rfl ?_
      refine ms_aload_n dX7_nights_114 rfl ?_
      refine ms_getR dX7_nights_115 (fo_X7_77 rfl) (by first | rfl | assumption) rfl (by first | assumption | exact rf_48_25 hR ) ?_
      refine ms_aload_n dX7_nights_118 rfl ?_
      refine ms_getI (z := 29) dX7_nights_119 (fo_X7_248 rfl) (by first | rfl | assumption) rfl rfl ?_
      refine ms_aload_n dX7_nights_122 rfl ?_
      refine ms_getR dX7_nights_123 (fo_X7_55 rfl) (by first | rfl | assumption) rfl (by first | assumption | exact rf_48_9 hR ) ?_
      refine mi_iconst dX7_nights_126 ?_
      refine ms_callV4 (ci := 7) (r := (RX7, TX7, 48)) dX7_nights_127 cv_X7_nights_X7_goNight (k_X7_goNight (M := N2) hR (by rw [tT]; exact hT) (r := 63) (by decide) rfl (wr := 57) (by decide) rfl (by decide) (hf := false) (ng := false) (n := N2 48 29) (by omega) (by decide) (by decide) (by decide) (by decide) (by rw [tT, t63]; exact s5) (by rw [tT, t57]; exact hlk)) rfl rfl (by first | rfl | assumption) (Nat.le_of_ble_eq_true rfl) rfl (fun _ _ z => z.elim) (fun v9 h9 hp9 => ?_)
      obtain ⟨N3, m3, rfl, rfl, u1, u2, u3, u4, u5, u6⟩ := hp9
      rw [tT, t48, t57, t63] at u2
      rw [tT] at u3
      rw [tT, t63] at u6
      have u48 : N3 48 = N2 48 := u1 48 (by decide) (by decide) (by decide)
      have run1 : N3 63 = sp_run (sp_tR M) (M 57) false false n (k + 1) (M 63) := by rw [u2, s4]; rfl
      have hle := sp_cnt_le (sp_tR M) (N3 63)
      have hge := sp_cnt_le (sp_tR M) (M 63)
      have hlt9 : (((sp_tR M).1 1).toNat : Int) ≤ 6 := by simp only; omega
      refine mi_iadd dX7_nights_130 ?_
      refine ms_istore_n dX7_nights_131 (by decide) rfl ?_
      dsimp only [List.set, Nat.reduceAdd]
      refine ms_aload_n dX7_nights_132 rfl ?_
      refine ms_dup dX7_nights_133 rfl ?_
      refine ms_getI (z := 29) dX7_nights_134 (fo_X7_248 rfl) (by first | rfl | assumption) rfl rfl ?_
      refine mi_iconst dX7_nights_137 ?_
      refine mi_iadd dX7_nights_138 ?_
      refine ms_putI (z := 29) dX7_nights_139 (fo_X7_248 rfl) (by first | rfl | assumption) rfl rfl rfl ?_
      refine mx_gen (fun N4 => (∀ x, x ≠ 48 → N4 x = N3 x) ∧ (∀ j, j ≠ 29 → N4 48 j = M 48 j) ∧ N4 48 29 = n + k + 1) ⟨fun x hx => up_n _ _ hx, fun j hj => by rw [up_s, iu_n _ _ hj, u48, t1 48 (by decide), r1 48 (by decide)]; exact s2 j hj, by rw [up_s, iu_s, u48, t48]⟩ (fun N4 hN4 => ?_)
      obtain ⟨v1, v48, v29⟩ := hN4
      refine mi_iconst dX7_nights_142 ?_
      refine ms_istore dX7_nights_143 (by decide) rfl ?_
      dsimp only [List.set, Nat.reduceAdd]
      refine l_X7_niB (S := S) (f := f) (L := L) (M := N4) (u := u) (m := m + m3) (k := (k : Int)) (g := n + k + 1) hR (by omega) v29 18 0 N4 (by omega) (by omega) (fun _ _ => rfl) (by rw [icx_0]) (fun N5 i9 w1 w2 => ?_)
      refine mi_iinc dX7_nights_180 rfl (by decide) rfl ?_
      dsimp only [List.set, Nat.reduceAdd]
      refine ms_goto (tgt := 52) dX7_nights_183 (by decide) ?_
      have f63 : N5 63 = sp_run (sp_tR M) (M 57) false false n (k + 1) (M 63) := by rw [w1 63 (by decide), v1 63 (by decide)]; exact run1
      have f68 : N5 68 = ic (N 63) (N 68) 0 (18 * (n + k)) 18 := by rw [w1 68 (by decide), v1 68 (by decide), u1 68 (by decide) (by decide) (by decide), t1 68 (by decide), r2]
      have f69 : N5 69 = ic (N3 63) (N 69) 0 (18 * (n + k + 1)) 18 := by rw [w2, v1 63 (by decide), v1 69 (by decide), u1 69 (by decide) (by decide) (by decide), t1 69 (by decide), r1 69 (by decide)]
      have f70 : N5 70 = iu (N 70) (n + k) (ooN (N 63) (M 53 1).toNat) := by rw [w1 70 (by decide), v1 70 (by decide), u1 70 (by decide) (by decide) (by decide), t70, r1 70 (by decide)]
      refine ih (k + 1) N5 (m + m3) _ (by omega) ⟨fun x x0 x1 x2 x3 x4 x5 x6 => ?_, fun j hj => ?_, ?_, f63, ?_, ?_, by omega, fun j hj => ?_, fun j hj => ?_, fun j hj => ?_, fun j q hj q0 q1 => ?_, fun j hj => ?_⟩
      · rw [w1 x x5, v1 x x0, u1 x x1 x2 x3, t1 x x6, r1 x x4]; exact s1 x x0 x1 x2 x3 x4 x5 x6
      · rw [w1 48 (by decide)]; exact v48 j hj
      · rw [w1 48 (by decide), v29]; omega
      · rw [w1 63 (by decide), v1 63 (by decide)]; exact u3
      · rw [w1 63 (by decide), v1 63 (by decide), u6, s6]; omega
      · rw [f68]; unfold ic; rw [if_neg (by omega)]; exact s8 j (by omega)
      · rw [f69]; unfold ic; rw [if_neg (by omega)]; exact s9 j (by omega)
      · rw [f70, iu_n _ _ (by omega)]; exact s10 j (by omega)
      · by_cases e : j = k
        · subst e
          rw [f68, f69]
          unfold ic
          rw [if_pos (by omega), if_pos (by omega), run1, s4]
          exact ⟨by congr 1; omega, by congr 1; omega⟩
        · rw [f68, f69]
          unfold ic
          rw [if_neg (by omega), if_neg (by omega)]
          exact s11 j q (by omega) q0 q1
      · by_cases e : j = k
        · subst e
          rw [f70, iu_s, s4]
        · rw [f70, iu_n _ _ (by omega)]
          exact s12 j (by omega)

set_option maxHeartbeats 4000000 in
set_option maxRecDepth 100000 in
theorem k_X7_nights {S : mx_Sc} {f : Bool} {M : Nat → Int → Int} {L : Nat → Nat → Int64} {Rf : Nat → Nat → Option Nat} (hR : mx_rf Rf) (hT : sp_tok (sp_tR M)) (hv : sp_vok (sp_tR M) (M 63)) (hlk : sp_lok (sp_tR M) (M 57)) {n : Int} (hn : 0 ≤ n ∧ n ≤ 99) (hnn : M 48 29 = n) (hrf : 0 ≤ M 61 2 ∧ M 61 2 ≤ 1000000) {u : Int} (hu32 : -2147483648 ≤ u ∧ u ≤ 2147483647) (hc : 0 ≤ u ∧ u ≤ 99) : mx_C S mX7_nights [.ref 48, .int (iI u)] (f, mx_SH, M, L, Rf) 0 0 (fun v9 h9 => (M 53 5 < n + u ∧ ∃ N, h9 = (f, mx_SH, N, L, Rf) ∧ v9 = some (.int (iI (-1))) ∧ N 48 4 = 0 ∧ (∀ k, k ≠ 4 → N 48 k = M 48 k) ∧ (∀ x, x ≠ 48 → x ≠ 61 → N x = M x) ∧ N 61 = iu (M 61) 2 (M 61 2 + 1)) ∨ (n + u ≤ M 53 5 ∧ ∃ N M2 m, h9 = (f, mx_SH, N, L, Rf) ∧ v9 = some (.int (iI m)) ∧ cdP M M2 0 ∧ nmS M2 n N u.toNat m)) (fun _ _ => False) := by
  refine mx_C_of (by decide) (by simp [Value.category]) (Nat.le_of_ble_eq_true rfl) rfl ?_
  show mx_E S mX7_nights 0 [some (.ref 48), some (.int (iI u)), none, none, none] [] (f, mx_SH, M, L, Rf) 0 0 _ _
  have hT0 : 1 ≤ M 53 0 ∧ M 53 0 ≤ 30 := hT.1
  have hT1 : 0 ≤ M 53 1 ∧ M 53 1 ≤ 6 := hT.2.1
  have hT5 : 1 ≤ M 53 5 ∧ M 53 5 ≤ 99 := hT.2.2.2.2.2.1
  have hT6 : 0 ≤ M 53 6 ∧ M 53 6 ≤ 10 := hT.2.2.2.2.2.2.1
  refine ms_aload_n dX7_nights_0 rfl ?_
  refine mi_iconst dX7_nights_1 ?_
  refine ms_putI (z := 4) dX7_nights_2 (fo_X7_131 rfl) (by first | rfl | assumption) rfl rfl rfl ?_
  refine mx_gen (fun N => cdP M N 0) cdP.mk' (fun N hN => ?_)
  have e53 : N 53 = M 53 := hN.1 53 (by decide)
  have e63 : N 63 = M 63 := hN.1 63 (by decide)
  have eTR : sp_tR N = sp_tR M := by simp only [sp_tR, hN.1 53 (by decide), hN.1 54 (by decide), hN.1 55 (by decide), hN.1 58 (by decide), hN.1 59 (by decide), hN.1 60 (by decide)]
  have e29 : N 48 29 = n := (hN.2.2 29 (by decide)).trans hnn
  have e57 : N 57 = M 57 := hN.1 57 (by decide)
  refine ms_iload_n dX7_nights_5 rfl ?_
  refine mi_iconst dX7_nights_6 ?_
  refine mi_bipush dX7_nights_7 (by decide) ?_
  refine ms_callS3 dX7_nights_9 cv_X7_nights_X7_isIn (k_X7_isIn (f := f) (M := N) (L := L) (Rf := Rf) hu32 (a := 0) (b := 99) (by decide) (by decide)) (Nat.le_of_ble_eq_true rfl) rfl (fun _ _ z => z.elim) (fun v9 h9 hp9 => ?_)
  obtain ⟨rfl, rfl⟩ := hp9
  refine mi_if_neB (tgt := 21) dX7_nights_12 (by decide) (fun c_12 => ?_) (fun c_12 => ?_)
  · refine ms_aload_n dX7_nights_21 rfl ?_
    refine ms_getI (z := 29) dX7_nights_22 (fo_X7_248 rfl) (by first | rfl | assumption) rfl rfl ?_
    refine ms_iload_n dX7_nights_25 rfl ?_
    refine mi_iadd dX7_nights_26 ?_
    refine ms_aload_n dX7_nights_27 rfl ?_
    refine ms_getR dX7_nights_28 (fo_X7_43 rfl) (by first | rfl | assumption) rfl (by first | assumption | exact rf_48_5 hR ) ?_
    refine mi_iconst dX7_nights_31 ?_
    refine ms_iald dX7_nights_32 (by first | rfl | assumption) ?_
    rw [e53]
    refine mi_icmp_le (tgt := 48) dX7_nights_33 (by decide) (fun c_33 => ?_) (fun c_33 => ?_)
    · refine mi_iconst dX7_nights_48 ?_
      refine ms_istore_n dX7_nights_49 (by decide) rfl ?_
      dsimp only [List.set, Nat.reduceAdd]
      refine mi_iconst dX7_nights_50 ?_
      refine ms_istore_n dX7_nights_51 (by decide) rfl ?_
      dsimp only [List.set, Nat.reduceAdd]
      refine ms_conseq (fun v9 h9 hp => ?_) (fun _ _ z => z) (l_X7_ni (S := S) (f := f) (L := L) (M := N) (n := n) (u := u) hR (by rw [eTR]; exact hT) (by rw [eTR, e63]; exact hv) (by rw [eTR, e57]; exact hlk) hn e29 hc.1 (by rw [e53]; omega) u.toNat 0 N 0 none (by omega) ⟨fun _ _ _ _ _ _ _ _ => rfl, fun _ _ => rfl, by omega, rfl, by rw [eTR, e63]; exact hv, by omega, by decide, fun _ _ => rfl, fun _ _ => rfl, fun _ _ => rfl, fun j q hj => by omega, fun j hj => by omega⟩)
      obtain ⟨N2, m, y1, y2, y3⟩ := hp
      exact Or.inr ⟨by omega, N2, N, m, y1, y2, hN, y3⟩
    · refine ms_aload_n dX7_nights_36 rfl ?_
      refine ms_getR dX7_nights_37 (fo_X7_67 rfl) (by first | rfl | assumption) rfl (by first | assumption | exact rf_48_13 hR ) ?_
      refine mi_iconst dX7_nights_40 ?_
      refine ms_dup2 dX7_nights_41 rfl rfl ?_
      refine ms_iald dX7_nights_42 (by first | rfl | assumption) ?_
      refine mi_iconst dX7_nights_43 ?_
      refine mi_iadd dX7_nights_44 ?_
      refine ms_iast dX7_nights_45 (by first | rfl | assumption) ?_
      refine mi_iconst dX7_nights_46 ?_
      refine ms_ret dX7_nights_47 rfl (Or.inl ⟨by omega, _, rfl, rfl, by rw [up_n _ _ (by decide)]; exact hN.2.1, fun k hk => by rw [up_n _ _ (by decide)]; exact hN.2.2 k hk, fun x x0 x1 => by rw [up_n _ _ x1]; exact hN.1 x x0, by rw [up_s, hN.1 61 (by decide)]⟩) (by simp)
  · exact absurd (of_decide_eq_false c_12) (by omega)

set_option maxHeartbeats 4000000 in
set_option maxRecDepth 100000 in
theorem k_X7_nights_x {S : mx_Sc} {f : Bool} {M : Nat → Int → Int} {L : Nat → Nat → Int64} {Rf : Nat → Nat → Option Nat} (hR : mx_rf Rf) {u : Int} (hu32 : -2147483648 ≤ u ∧ u ≤ 2147483647) (hc : ¬ (0 ≤ u ∧ u ≤ 99)) : mx_C S mX7_nights [.ref 48, .int (iI u)] (f, mx_SH, M, L, Rf) 0 0 (fun v9 h9 => ∃ N, h9 = (f, mx_SH, N, L, Rf) ∧ cdP M N 1 ∧ v9 = some (.int (iI (0)))) (fun _ _ => False) := by
  refine mx_C_of (by decide) (by simp [Value.category]) (Nat.le_of_ble_eq_true rfl) rfl ?_
  show mx_E S mX7_nights 0 [some (.ref 48), some (.int (iI u)), none, none, none] [] (f, mx_SH, M, L, Rf) 0 0 _ _
  refine ms_aload_n dX7_nights_0 rfl ?_
  refine mi_iconst dX7_nights_1 ?_
  refine ms_putI (z := 4) dX7_nights_2 (fo_X7_131 rfl) (by first | rfl | assumption) rfl rfl rfl ?_
  refine mx_gen (fun N => cdP M N 0) cdP.mk' (fun N hN => ?_)
  have e53 : N 53 = M 53 := hN.1 53 (by decide)
  have e63 : N 63 = M 63 := hN.1 63 (by decide)
  have eTR : sp_tR N = sp_tR M := by simp only [sp_tR, hN.1 53 (by decide), hN.1 54 (by decide), hN.1 55 (by decide), hN.1 58 (by decide), hN.1 59 (by decide), hN.1 60 (by decide)]
  refine ms_iload_n dX7_nights_5 rfl ?_
  refine mi_iconst dX7_nights_6 ?_
  refine mi_bipush dX7_nights_7 (by decide) ?_
  refine ms_callS3 dX7_nights_9 cv_X7_nights_X7_isIn (k_X7_isIn (f := f) (M := N) (L := L) (Rf := Rf) hu32 (a := 0) (b := 99) (by decide) (by decide)) (Nat.le_of_ble_eq_true rfl) rfl (fun _ _ z => z.elim) (fun v9 h9 hp9 => ?_)
  obtain ⟨rfl, rfl⟩ := hp9
  refine mi_if_neB (tgt := 21) dX7_nights_12 (by decide) (fun c_12 => ?_) (fun c_12 => ?_)
  · exact absurd (of_decide_eq_true c_12) hc
  · refine ms_aload_n dX7_nights_15 rfl ?_
    refine mi_iconst dX7_nights_16 ?_
    refine ms_callV1 (ci := 7) (r := (RX7, TX7, 48)) dX7_nights_17 cv_X7_nights_X7_fail (k_X7_fail (M := N) hR) rfl rfl (by first | rfl | assumption) (Nat.le_of_ble_eq_true rfl) rfl (fun _ _ z => z.elim) (fun v9 h9 hp9 => ?_)
    obtain ⟨rfl, rfl⟩ := hp9
    refine ms_ret dX7_nights_20 rfl ⟨_, rfl, hN.set, rfl⟩ (by simp)

