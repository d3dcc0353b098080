set_option maxHeartbeats 4000000 in
set_option maxRecDepth 100000 in
theorem l_X7_yrN {S : mx_Sc} {f : Bool} {M : Nat → Int → Int} {L : Nat → Nat → Int64} {Rf : Nat → Nat → Option Nat} (hR : mx_rf Rf) {P : Option Value → mx_H → Prop} {PX : String → mx_H → Prop} (hT : sp_tok (sp_tR M)) {lk v : Int → Int} (hlk : sp_lok (sp_tR M) lk) (hl66 : ∀ l, 0 ≤ l → l < M 53 1 → M 66 l = lk l) (hv0 : sp_vok (sp_tR M) v) {l sd u z4 z5 : Int} : ∀ (kk : Nat) (j : Nat) (N : Nat → Int → Int), (j : Int) + kk = M 53 5 → trP M N → N 64 = sp_run (sp_tR M) lk false false 0 j v → (∀ (N : Nat → Int → Int) (z : Int), trP M N → N 64 = sp_run (sp_tR M) lk false false 0 (M 53 5).toNat v → mx_E S mX7_years 100 [some (.ref 48), some (.int (iI l)), some (.int (iI sd)), some (.int (iI u)), some (.int (iI z4)), some (.int (iI z5)), some (.int (iI z))] [] (f, mx_SH, N, L, Rf) 0 0 P PX) → mx_E S mX7_years 67 [some (.ref 48), some (.int (iI l)), some (.int (iI sd)), some (.int (iI u)), some (.int (iI z4)), some (.int (iI z5)), some (.int (iI (j : Int)))] [] (f, mx_SH, N, L, Rf) 0 0 P PX := by
  intro kk
  induction kk with
  | zero => 
    intro j N g1 q1 q2 hK
    have hT0 : 1 ≤ M 53 0 ∧ M 53 0 ≤ 30 := hT.1
    have hT1 : 0 ≤ M 53 1 ∧ M 53 1 ≤ 6 := hT.2.1
    have hT5 : 1 ≤ M 53 5 ∧ M 53 5 ≤ 99 := hT.2.2.2.2.2.1
    have hT6 : 0 ≤ M 53 6 ∧ M 53 6 ≤ 10 := hT.2.2.2.2.2.2.1
    have hTr := q1.T
    have h66 : N 66 = M 66 := q1.x (by decide)
    have h53 : N 53 = M 53 := q1.x (by decide)
    have hvr : sp_vok (sp_tR M) (N 64) := by rw [q2]; exact run_vok hT hlk false false (by omega) hv0 j (by omega)
    have hlk6 : sp_lok (sp_tR M) (M 66) := lok_cg hl66 hlk
    refine ms_iload dX7_years_67 rfl ?_
    refine ms_aload_n dX7_years_69 rfl ?_
    refine ms_getR dX7_years_70 (fo_X7_43 rfl) (by first | rfl | assumption) rfl (by first | assumption | exact rf_48_5 hR ) ?_
    refine mi_iconst dX7_years_73 ?_
    refine ms_iald dX7_years_74 (by first | rfl | assumption) ?_
    rw [h53]
    refine mi_icmp_ge (tgt := 100) dX7_years_75 (by decide) (fun c_75 => ?_) (fun c_75 => ?_)
    · exact hK N _ q1 (by rw [q2, show (M 53 5).toNat = j by omega])
    · exact absurd c_75 (by omega)
  | succ kk ih => 
    intro j N g1 q1 q2 hK
    have hT0 : 1 ≤ M 53 0 ∧ M 53 0 ≤ 30 := hT.1
    have hT1 : 0 ≤ M 53 1 ∧ M 53 1 ≤ 6 := hT.2.1
    have hT5 : 1 ≤ M 53 5 ∧ M 53 5 ≤ 99 := hT.2.2.2.2.2.1
    have hT6 : 0 ≤ M 53 6 ∧ M 53 6 ≤ 10 := hT.2.2.2.2.2.2.1
    have hTr := q1.T
    have h66 : N 66 = M 66 := q1.x (by decide)
    have h53 : N 53 = M 53 := q1.x (by decide)
    have hvr : sp_vok (sp_tR M) (N 64) := by rw [q2]; exact run_vok hT hlk false false (by omega) hv0 j (by omega)
    have hlk6 : sp_lok (sp_tR M) (M 66) := lok_cg hl66 hlk
    refine ms_iload dX7_years_67 rfl ?_
    refine ms_aload_n dX7_years_69 rfl ?_
    refine ms_getR dX7_years_70 (fo_X7_43 rfl) (by first | rfl | assumption) rfl (by first | assumption | exact rf_48_5 hR ) ?_
    refine mi_iconst dX7_years_73 ?_
    refine ms_iald dX7_years_74 (by first | rfl | assumption) ?_
    rw [h53]
    refine mi_icmp_ge (tgt := 100) dX7_years_75 (by decide) (fun c_75 => ?_) (fun c_75 => ?_)
    · exact absurd c_75 (by omega)
    · refine ms_aload_n dX7_years_78 rfl ?_
      refine ms_aload_n dX7_years_79 rfl ?_
      refine ms_getR dX7_years_80 (fo_X7_80 rfl) (by first | rfl | assumption) rfl (by first | assumption | exact rf_48_26 hR ) ?_
      refine ms_iload dX7_years_83 rfl ?_
      refine ms_aload_n dX7_years_85 rfl ?_
      refine ms_getR dX7_years_86 (fo_X7_86 rfl) (by first | rfl | assumption) rfl (by first | assumption | exact rf_48_28 hR ) ?_
      refine mi_iconst dX7_years_89 ?_
      refine ms_callV4 (ci := 7) (r := (RX7, TX7, 48)) dX7_years_90 cv_X7_years_X7_goNight (k_X7_goNight (M := N) hR (by rw [hTr]; exact hT) (r := 64) (by decide) rfl (wr := 66) (by decide) rfl (by decide) (hf := false) (ng := false) (n := (j : Int)) (by omega) (by decide) (by decide) (by decide) (by decide) (by rw [hTr]; exact hvr) (by rw [hTr, h66]; exact hlk6)) rfl rfl (by first | rfl | assumption) (Nat.le_of_ble_eq_true rfl) rfl (fun _ _ z => z.elim) (fun v9 h9 hp9 => ?_)
      obtain ⟨N3, m3, rfl, rfl, u1, u2, u3, u4, u5, u6⟩ := hp9
      rw [hTr, h66] at u2
      rw [hTr] at u3
      have u2' : N3 64 = sp_night (sp_tR M) lk false false (0 + (j : Int)) (N 64) := by
        rw [u2, Int.zero_add]
        unfold sp_night
        rw [mv_lk hl66]
      refine ms_pop dX7_years_93 rfl ?_
      refine mi_iinc dX7_years_94 rfl (by decide) rfl ?_
      dsimp only [List.set, Nat.reduceAdd]
      refine ms_goto (tgt := 67) dX7_years_97 (by decide) ?_
      exact ih (j + 1) N3 (by omega) ⟨fun x x1 x2 x3 => by rw [u1 x x1 x2 x3]; exact q1.1 x x1 x2 x3, fun _ => u3.nk⟩ (by rw [u2', q2]; rfl) hK

/-- the frame of years -/
def yrP (M N : Nat → Int → Int) : Prop := (∀ x, x ≠ 48 → x ≠ 64 → x ≠ 65 → x ≠ 66 → x ≠ 67 → N x = M x) ∧ (∀ k, k ≠ 40 → N 48 k = M 48 k) ∧ (nk M → nk N)
theorem anv_b (K : Int) (g : Int → Int) : anv K g = bgv (fun i => if i < 3 * K then g i else 0) := rfl
theorem bgv_ok {t : sp_T} (hT : sp_tok t) {g : Int → Int} (h : ∀ l, 0 ≤ l → l < t.1 1 → 0 ≤ g (3 * l) ∧ 0 ≤ g (3 * l + 1) ∧ 0 ≤ g (3 * l + 2) ∧ g (3 * l) + g (3 * l + 1) + g (3 * l + 2) = t.1 0) : sp_vok t (bgv g) := by
  have h1 := hT.2.1
  refine ⟨fun l l0 l1 => ?_, fun l l0 l1 => ?_⟩
  · unfold bgv
    rw [if_pos (by omega), if_pos (by omega), if_pos (by omega)]
    exact h l l0 l1
  · unfold bgv
    rw [if_neg (by omega), if_neg (by omega)]
    omega
set_option maxHeartbeats 4000000 in
set_option maxRecDepth 100000 in
theorem l_X7_yr {S : mx_Sc} {f : Bool} {M : Nat → Int → Int} {L : Nat → Nat → Int64} {Rf : Nat → Nat → Option Nat} (hR : mx_rf Rf) (hT : sp_tok (sp_tR M)) (hv0 : sp_vok (sp_tR M) (bgv (fun i => if i < 3 * M 53 1 then M 56 i else 0))) {l s u : Int} (hl : 0 ≤ l ∧ l < M 53 1) (hu : 0 ≤ u ∧ u ≤ 40) : ∀ (kk : Nat) (i : Nat) (N : Nat → Int → Int) (o6 : Option Value), (i : Int) + kk = u → yrP M N → N 48 40 = ysd (sp_tR M) s i → mx_E S mX7_years 46 [some (.ref 48), some (.int (iI l)), some (.int (iI s)), some (.int (iI u)), some (.int (iI (yal (sp_tR M) (fun i => if i < 3 * M 53 1 then M 56 i else 0) s l i))), some (.int (iI (i : Int))), o6] [] (f, mx_SH, N, L, Rf) 0 0 (fun v9 h9 => ∃ N, h9 = (f, mx_SH, N, L, Rf) ∧ yrP M N ∧ v9 = some (.int (iI (yal (sp_tR M) (fun i => if i < 3 * M 53 1 then M 56 i else 0) s l u.toNat)))) (fun _ _ => False) := by
  intro kk
  induction kk with
  | zero => 
    intro i N o6 g1 q1 q2
    have hT0 : 1 ≤ M 53 0 ∧ M 53 0 ≤ 30 := hT.1
    have hT1 : 0 ≤ M 53 1 ∧ M 53 1 ≤ 6 := hT.2.1
    have hT5 : 1 ≤ M 53 5 ∧ M 53 5 ≤ 99 := hT.2.2.2.2.2.1
    have hT6 : 0 ≤ M 53 6 ∧ M 53 6 ≤ 10 := hT.2.2.2.2.2.2.1
    refine ms_iload dX7_years_46 rfl ?_
    refine ms_iload_n dX7_years_48 rfl ?_
    refine mi_icmp_ge (tgt := 127) dX7_years_49 (by decide) (fun c_49 => ?_) (fun c_49 => ?_)
    · refine ms_iload dX7_years_127 rfl ?_
      refine ms_ret dX7_years_129 rfl ⟨N, rfl, q1, by rw [show u.toNat = i by omega]⟩ (by simp)
    · exact absurd c_49 (by omega)
  | succ kk ih => 
    intro i N o6 g1 q1 q2
    have hT0 : 1 ≤ M 53 0 ∧ M 53 0 ≤ 30 := hT.1
    have hT1 : 0 ≤ M 53 1 ∧ M 53 1 ≤ 6 := hT.2.1
    have hT5 : 1 ≤ M 53 5 ∧ M 53 5 ≤ 99 := hT.2.2.2.2.2.1
    have hT6 : 0 ≤ M 53 6 ∧ M 53 6 ≤ 10 := hT.2.2.2.2.2.2.1
    have eT : sp_tR N = sp_tR M := by simp only [sp_tR, q1.1 53 (by decide) (by decide) (by decide) (by decide) (by decide), q1.1 54 (by decide) (by decide) (by decide) (by decide) (by decide), q1.1 55 (by decide) (by decide) (by decide) (by decide) (by decide), q1.1 58 (by decide) (by decide) (by decide) (by decide) (by decide), q1.1 59 (by decide) (by decide) (by decide) (by decide) (by decide), q1.1 60 (by decide) (by decide) (by decide) (by decide) (by decide)]
    have x53 : N 53 = M 53 := q1.1 53 (by decide) (by decide) (by decide) (by decide) (by decide)
    refine ms_iload dX7_years_46 rfl ?_
    refine ms_iload_n dX7_years_48 rfl ?_
    refine mi_icmp_ge (tgt := 127) dX7_years_49 (by decide) (fun c_49 => ?_) (fun c_49 => ?_)
    · exact absurd c_49 (by omega)
    · refine ms_aload_n dX7_years_52 rfl ?_
      refine ms_callV0 (ci := 7) (r := (RX7, TX7, 48)) dX7_years_53 cv_X7_years_X7_drawLiked (k_X7_drawLiked (M := N) hR (by rw [eT]; exact hT) (s := ysd (sp_tR M) s i) q2) rfl rfl (by first | rfl | assumption) (Nat.le_of_ble_eq_true rfl) rfl (fun _ _ z => z.elim) (fun v9 h9 hp9 => ?_)
      obtain ⟨N1, rfl, rfl, r1, r2, r3, r4⟩ := hp9
      rw [eT, x53] at r3
      rw [eT, x53] at r4
      have y53 : N1 53 = M 53 := by rw [r1 53 (by decide) (by decide)]; exact x53
      have y56 : N1 56 = M 56 := by rw [r1 56 (by decide) (by decide)]; exact q1.1 56 (by decide) (by decide) (by decide) (by decide) (by decide)
      have eT1 : sp_tR N1 = sp_tR M := by rw [← eT]; simp only [sp_tR, r1 53 (by decide) (by decide), r1 54 (by decide) (by decide), r1 55 (by decide) (by decide), r1 58 (by decide) (by decide), r1 59 (by decide) (by decide), r1 60 (by decide) (by decide)]
      refine ms_aload_n dX7_years_56 rfl ?_
      refine ms_aload_n dX7_years_57 rfl ?_
      refine ms_getR dX7_years_58 (fo_X7_80 rfl) (by first | rfl | assumption) rfl (by first | assumption | exact rf_48_26 hR ) ?_
      refine ms_callV1 (ci := 7) (r := (RX7, TX7, 48)) dX7_years_61 cv_X7_years_X7_anew (k_X7_anew (M := N1) hR (by rw [y53]; exact hT1) (r := 64) (Or.inr rfl)) rfl rfl (by first | rfl | assumption) (Nat.le_of_ble_eq_true rfl) rfl (fun _ _ z => z.elim) (fun v9 h9 hp9 => ?_)
      obtain ⟨g, rfl, rfl, hg⟩ := hp9
      rw [y53, y56, anv_b] at hg
      have hqg : qv g (bgv (fun i => if i < 3 * M 53 1 then M 56 i else 0)) := hg
      have eT2 : sp_tR (va_up N1 64 g) = sp_tR M := by rw [(trP.be (hqg.vok hT hv0)).T]; exact eT1
      have z53 : va_up N1 64 g 53 = M 53 := by rw [up_n _ _ (by decide)]; exact y53
      refine mi_iconst dX7_years_64 ?_
      refine ms_istore dX7_years_65 (by decide) rfl ?_
      dsimp only [List.set, Nat.reduceAdd]
      refine l_X7_yrN (S := S) (f := f) (L := L) (M := va_up N1 64 g) (lk := sp_dl (sp_tR M) (ysd (sp_tR M) s i)) (v := g) (l := l) (sd := s) (u := u) (z4 := yal (sp_tR M) (fun i => if i < 3 * M 53 1 then M 56 i else 0) s l i) (z5 := (i : Int)) hR (by rw [eT2]; exact hT) (by rw [eT2]; exact dl_lok hT _) (fun k k0 k1 => by rw [up_n _ _ (by decide)]; exact r4 k k0 (by rw [z53] at k1; exact k1)) (by rw [eT2]; exact hqg.vok hT hv0) (M 53 5).toNat 0 _ (by rw [z53]; omega) trP.rf (by rw [up_s]; rfl) (fun N5 z y1 y2 => ?_)
      rw [eT2, z53] at y2
      have x64 : N5 64 = sp_run (sp_tR M) (sp_dl (sp_tR M) (ysd (sp_tR M) s i)) false false 0 (M 53 5).toNat g := y2
      have hv5 : sp_vok (sp_tR M) (N5 64) := by rw [x64]; exact run_vok hT (dl_lok hT _) false false (by omega) (hqg.vok hT hv0) _ (by omega)
      have ho5 : sp_out (N5 64) l = sp_out (sp_run (sp_tR M) (sp_dl (sp_tR M) (ysd (sp_tR M) s i)) false false 0 (M 53 5).toNat (bgv (fun i => if i < 3 * M 53 1 then M 56 i else 0))) l := by rw [x64]; exact (hqg.run hT (dl_lok hT _) false false 0 _).out (by omega)
      refine ms_iload dX7_years_100 rfl ?_
      refine ms_aload_n dX7_years_102 rfl ?_
      refine ms_getR dX7_years_103 (fo_X7_80 rfl) (by first | rfl | assumption) rfl (by first | assumption | exact rf_48_26 hR ) ?_
      refine ms_iload_n dX7_years_106 rfl ?_
      refine ms_callS2 dX7_years_107 cv_X7_years_X7_isOut (k_X7_isOut (M := N5) (r := 64) (by decide) rfl (l := l) (by omega) (hv5.2 l (by omega) (by omega)).1) (Nat.le_of_ble_eq_true rfl) rfl (fun _ _ z => z.elim) (fun v9 h9 hp9 => ?_)
      obtain ⟨rfl, rfl⟩ := hp9
      rw [ho5]
      refine mi_if_eqB (tgt := 117) dX7_years_110 (by decide) (fun c_110 => ?_) (fun c_110 => ?_)
      · refine mi_iconst dX7_years_117 ?_
        refine mi_iadd dX7_years_118 ?_
        refine ms_istore dX7_years_119 (by decide) rfl ?_
        dsimp only [List.set, Nat.reduceAdd]
        refine mi_iinc dX7_years_121 rfl (by decide) rfl ?_
        dsimp only [List.set, Nat.reduceAdd]
        refine ms_goto (tgt := 46) dX7_years_124 (by decide) ?_
        have i9 := ih (i + 1) N5 (some (.int (iI z))) (by omega) ⟨fun x x0 x1 x2 x3 x4 => by rw [y1.1 x x1 x2 x4, up_n _ _ x1, r1 x x0 x3]; exact q1.1 x x0 x1 x2 x3 x4, fun k hk => by rw [y1.1 48 (by decide) (by decide) (by decide), up_n _ _ (by decide), r2 k hk]; exact q1.2.1 k hk, fun _ => hv5.nk⟩ (by rw [y1.1 48 (by decide) (by decide) (by decide), up_n _ _ (by decide), r3]; rfl)
        simp only [yal] at i9
        rw [if_neg (show ¬ sp_out (sp_run (sp_tR M) (sp_dl (sp_tR M) (ysd (sp_tR M) s i)) false false 0 ((sp_tR M).1 5).toNat (bgv (fun i => if i < 3 * M 53 1 then M 56 i else 0))) l = true from fun z => absurd (z.symm.trans c_110) (by decide))] at i9
        exact i9
      · refine mi_iconst dX7_years_113 ?_
        refine ms_goto (tgt := 118) dX7_years_114 (by decide) ?_
        refine mi_iadd dX7_years_118 ?_
        refine ms_istore dX7_years_119 (by decide) rfl ?_
        dsimp only [List.set, Nat.reduceAdd]
        refine mi_iinc dX7_years_121 rfl (by decide) rfl ?_
        dsimp only [List.set, Nat.reduceAdd]
        refine ms_goto (tgt := 46) dX7_years_124 (by decide) ?_
        have i9 := ih (i + 1) N5 (some (.int (iI z))) (by omega) ⟨fun x x0 x1 x2 x3 x4 => by rw [y1.1 x x1 x2 x4, up_n _ _ x1, r1 x x0 x3]; exact q1.1 x x0 x1 x2 x3 x4, fun k hk => by rw [y1.1 48 (by decide) (by decide) (by decide), up_n _ _ (by decide), r2 k hk]; exact q1.2.1 k hk, fun _ => hv5.nk⟩ (by rw [y1.1 48 (by decide) (by decide) (by decide), up_n _ _ (by decide), r3]; rfl)
        simp only [yal] at i9
        rw [if_pos (show sp_out (sp_run (sp_tR M) (sp_dl (sp_tR M) (ysd (sp_tR M) s i)) false false 0 ((sp_tR M).1 5).toNat (bgv (fun i => if i < 3 * M 53 1 then M 56 i else 0))) l = true from c_110)] at i9
        exact i9

set_option maxHeartbeats 4000000 in
set_option maxRecDepth 100000 in
theorem k_X7_years {S : mx_Sc} {f : Bool} {M : Nat → Int → Int} {L : Nat → Nat → Int64} {Rf : Nat → Nat → Option Nat} (hR : mx_rf Rf) (hT : sp_tok (sp_tR M)) (hv0 : sp_vok (sp_tR M) (bgv (fun i => if i < 3 * M 53 1 then M 56 i else 0))) {s : Int} {l : Int} (hl32 : -2147483648 ≤ l ∧ l ≤ 2147483647) {u : Int} (hu32 : -2147483648 ≤ u ∧ u ≤ 2147483647) (hl : 0 ≤ l ∧ l < M 53 1) (hu : 0 ≤ u ∧ u ≤ 40) : mx_C S mX7_years [.ref 48, .int (iI l), .int (iI s), .int (iI u)] (f, mx_SH, M, L, Rf) 0 0 (fun v9 h9 => ∃ N, h9 = (f, mx_SH, N, L, Rf) ∧ (∀ x, x ≠ 48 → x ≠ 64 → x ≠ 65 → x ≠ 66 → x ≠ 67 → N x = M x) ∧ N 48 4 = 0 ∧ (∀ k, k ≠ 4 → k ≠ 40 → N 48 k = M 48 k) ∧ (nk M → nk N) ∧ v9 = some (.int (iI (yal (sp_tR M) (fun i => if i < 3 * M 53 1 then M 56 i else 0) s l u.toNat)))) (fun _ _ => False) := by
  refine mx_C_of (by decide) (by simp [Value.category]) (Nat.le_of_ble_eq_true rfl) rfl ?_
  show mx_E S mX7_years 0 [some (.ref 48), some (.int (iI l)), some (.int (iI s)), some (.int (iI u)), none, none, none] [] (f, mx_SH, M, L, Rf) 0 0 _ _
  have hT0 : 1 ≤ M 53 0 ∧ M 53 0 ≤ 30 := hT.1
  have hT1 : 0 ≤ M 53 1 ∧ M 53 1 ≤ 6 := hT.2.1
  have hT5 : 1 ≤ M 53 5 ∧ M 53 5 ≤ 99 := hT.2.2.2.2.2.1
  have hT6 : 0 ≤ M 53 6 ∧ M 53 6 ≤ 10 := hT.2.2.2.2.2.2.1
  refine ms_aload_n dX7_years_0 rfl ?_
  refine mi_iconst dX7_years_1 ?_
  refine ms_putI (z := 4) dX7_years_2 (fo_X7_131 rfl) (by first | rfl | assumption) rfl rfl rfl ?_
  refine mx_gen (fun N => cdP M N 0) cdP.mk' (fun N hN => ?_)
  have e53 : N 53 = M 53 := hN.1 53 (by decide)
  have e63 : N 63 = M 63 := hN.1 63 (by decide)
  have eTR : sp_tR N = sp_tR M := by simp only [sp_tR, hN.1 53 (by decide), hN.1 54 (by decide), hN.1 55 (by decide), hN.1 58 (by decide), hN.1 59 (by decide), hN.1 60 (by decide)]
  have e56 : N 56 = M 56 := hN.1 56 (by decide)
  refine ms_aload_n dX7_years_5 rfl ?_
  refine ms_iload_n dX7_years_6 rfl ?_
  refine ms_callV1 (ci := 7) (r := (RX7, TX7, 48)) dX7_years_7 cv_X7_years_X7_isLamp (k_X7_isLamp (M := N) hR (by rw [e53]; exact hT1) hl32) rfl rfl (by first | rfl | assumption) (Nat.le_of_ble_eq_true rfl) rfl (fun _ _ z => z.elim) (fun v9 h9 hp9 => ?_)
  obtain ⟨rfl, rfl⟩ := hp9
  rw [e53]
  refine mi_if_neB (tgt := 19) dX7_years_10 (by decide) (fun c_10 => ?_) (fun c_10 => ?_)
  · refine ms_iload_n dX7_years_19 rfl ?_
    refine mi_iconst dX7_years_20 ?_
    refine mi_bipush dX7_years_21 (by decide) ?_
    refine ms_callS3 dX7_years_23 cv_X7_years_X7_isIn (k_X7_isIn (f := f) (M := N) (L := L) (Rf := Rf) hu32 (a := 0) (b := 40) (by decide) (by decide)) (Nat.le_of_ble_eq_true rfl) rfl (fun _ _ z => z.elim) (fun v9 h9 hp9 => ?_)
    obtain ⟨rfl, rfl⟩ := hp9
    refine mi_if_neB (tgt := 35) dX7_years_26 (by decide) (fun c_26 => ?_) (fun c_26 => ?_)
    · refine ms_aload_n dX7_years_35 rfl ?_
      refine ms_iload_n dX7_years_36 rfl ?_
      refine ms_putI (z := 40) dX7_years_37 (fo_X7_363 rfl) (by first | rfl | assumption) rfl rfl rfl ?_
      refine mx_gen (fun N2 => (∀ x, x ≠ 48 → N2 x = N x) ∧ (∀ k, k ≠ 40 → N2 48 k = N 48 k) ∧ N2 48 40 = s) ⟨fun x hx => up_n _ _ hx, fun k hk => by rw [up_s, iu_n _ _ hk], by rw [up_s, iu_s]⟩ (fun N2 hN2 => ?_)
      have eT2 : sp_tR N2 = sp_tR M := by rw [← eTR]; simp only [sp_tR, hN2.1 53 (by decide), hN2.1 54 (by decide), hN2.1 55 (by decide), hN2.1 58 (by decide), hN2.1 59 (by decide), hN2.1 60 (by decide)]
      have z53 : N2 53 = M 53 := by rw [hN2.1 53 (by decide)]; exact e53
      have z56 : N2 56 = M 56 := by rw [hN2.1 56 (by decide)]; exact e56
      refine mi_iconst dX7_years_40 ?_
      refine ms_istore dX7_years_41 (by decide) rfl ?_
      dsimp only [List.set, Nat.reduceAdd]
      refine mi_iconst dX7_years_43 ?_
      refine ms_istore dX7_years_44 (by decide) rfl ?_
      dsimp only [List.set, Nat.reduceAdd]
      refine ms_conseq (fun v9 h9 hp => ?_) (fun _ _ z => z) (l_X7_yr (S := S) (f := f) (L := L) (M := N2) (l := l) (s := s) (u := u) hR (by rw [eT2]; exact hT) (by rw [eT2, z53, z56]; exact hv0) (by rw [z53]; exact hl) hu u.toNat 0 N2 none (by omega) ⟨fun _ _ _ _ _ _ => rfl, fun _ _ => rfl, id⟩ hN2.2.2)
      obtain ⟨N3, y1, y2, y3⟩ := hp
      rw [eT2, z53, z56] at y3
      exact ⟨N3, y1, fun x x0 x1 x2 x3 x4 => by rw [y2.1 x x0 x1 x2 x3 x4, hN2.1 x x0]; exact hN.1 x x0, by rw [y2.2.1 4 (by decide), hN2.2.1 4 (by decide)]; exact hN.2.1, fun k k0 k1 => by rw [y2.2.1 k k1, hN2.2.1 k k1]; exact hN.2.2 k k0, fun z => y2.2.2 (fun l l0 l1 => by rw [hN2.1 64 (by decide), hN.1 64 (by decide)]; exact z l l0 l1), y3⟩
    · exact absurd (of_decide_eq_false c_26) (by omega)
  · exact absurd (of_decide_eq_false c_10) (by omega)

set_option maxHeartbeats 4000000 in
set_option maxRecDepth 100000 in
theorem k_X7_years_x {S : mx_Sc} {f : Bool} {M : Nat → Int → Int} {L : Nat → Nat → Int64} {Rf : Nat → Nat → Option Nat} (hR : mx_rf Rf) (hT : sp_tok (sp_tR M)) {s : Int} {l : Int} (hl32 : -2147483648 ≤ l ∧ l ≤ 2147483647) {u : Int} (hu32 : -2147483648 ≤ u ∧ u ≤ 2147483647) (hc : ¬ (0 ≤ l ∧ l < M 53 1)) : mx_C S mX7_years [.ref 48, .int (iI l), .int (iI s), .int (iI u)] (f, mx_SH, M, L, Rf) 0 0 (fun v9 h9 => ∃ N, h9 = (f, mx_SH, N, L, Rf) ∧ cdP M N 1 ∧ v9 = some (.int (iI (0)))) (fun _ _ => False) := by
  refine mx_C_of (by decide) (by simp [Value.category]) (Nat.le_of_ble_eq_true rfl) rfl ?_
  show mx_E S mX7_years 0 [some (.ref 48), some (.int (iI l)), some (.int (iI s)), some (.int (iI u)), none, none, none] [] (f, mx_SH, M, L, Rf) 0 0 _ _
  have hT0 : 1 ≤ M 53 0 ∧ M 53 0 ≤ 30 := hT.1
  have hT1 : 0 ≤ M 53 1 ∧ M 53 1 ≤ 6 := hT.2.1
  have hT5 : 1 ≤ M 53 5 ∧ M 53 5 ≤ 99 := hT.2.2.2.2.2.1
  have hT6 : 0 ≤ M 53 6 ∧ M 53 6 ≤ 10 := hT.2.2.2.2.2.2.1
  refine ms_aload_n dX7_years_0 rfl ?_
  refine mi_iconst dX7_years_1 ?_
  refine ms_putI (z := 4) dX7_years_2 (fo_X7_131 rfl) (by first | rfl | assumption) rfl rfl rfl ?_
  refine mx_gen (fun N => cdP M N 0) cdP.mk' (fun N hN => ?_)
  have e53 : N 53 = M 53 := hN.1 53 (by decide)
  have e63 : N 63 = M 63 := hN.1 63 (by decide)
  have eTR : sp_tR N = sp_tR M := by simp only [sp_tR, hN.1 53 (by decide), hN.1 54 (by decide), hN.1 55 (by decide), hN.1 58 (by decide), hN.1 59 (by decide), hN.1 60 (by decide)]
  refine ms_aload_n dX7_years_5 rfl ?_
  refine ms_iload_n dX7_years_6 rfl ?_
  refine ms_callV1 (ci := 7) (r := (RX7, TX7, 48)) dX7_years_7 cv_X7_years_X7_isLamp (k_X7_isLamp (M := N) hR (by rw [e53]; exact hT1) hl32) rfl rfl (by first | rfl | assumption) (Nat.le_of_ble_eq_true rfl) rfl (fun _ _ z => z.elim) (fun v9 h9 hp9 => ?_)
  obtain ⟨rfl, rfl⟩ := hp9
  rw [e53]
  refine mi_if_neB (tgt := 19) dX7_years_10 (by decide) (fun c_10 => ?_) (fun c_10 => ?_)
  · exact absurd (of_decide_eq_true c_10) hc
  · refine ms_aload_n dX7_years_13 rfl ?_
    refine mi_iconst dX7_years_14 ?_
    refine ms_callV1 (ci := 7) (r := (RX7, TX7, 48)) dX7_years_15 cv_X7_years_X7_fail (k_X7_fail (M := N) hR) rfl rfl (by first | rfl | assumption) (Nat.le_of_ble_eq_true rfl) rfl (fun _ _ z => z.elim) (fun v9 h9 hp9 => ?_)
    obtain ⟨rfl, rfl⟩ := hp9
    refine ms_ret dX7_years_18 rfl ⟨_, rfl, hN.set, rfl⟩ (by simp)

set_option maxHeartbeats 4000000 in
set_option maxRecDepth 100000 in
theorem k_X7_years_y {S : mx_Sc} {f : Bool} {M : Nat → Int → Int} {L : Nat → Nat → Int64} {Rf : Nat → Nat → Option Nat} (hR : mx_rf Rf) (hT : sp_tok (sp_tR M)) {s : Int} {l : Int} (hl32 : -2147483648 ≤ l ∧ l ≤ 2147483647) {u : Int} (hu32 : -2147483648 ≤ u ∧ u ≤ 2147483647) (hl : 0 ≤ l ∧ l < M 53 1) (hc : ¬ (0 ≤ u ∧ u ≤ 40)) : mx_C S mX7_years [.ref 48, .int (iI l), .int (iI s), .int (iI u)] (f, mx_SH, M, L, Rf) 0 0 (fun v9 h9 => ∃ N, h9 = (f, mx_SH, N, L, Rf) ∧ cdP M N 2 ∧ v9 = some (.int (iI (0)))) (fun _ _ => False) := by
  refine mx_C_of (by decide) (by simp [Value.category]) (Nat.le_of_ble_eq_true rfl) rfl ?_
  show mx_E S mX7_years 0 [some (.ref 48), some (.int (iI l)), some (.int (iI s)), some (.int (iI u)), none, none, none] [] (f, mx_SH, M, L, Rf) 0 0 _ _
  have hT0 : 1 ≤ M 53 0 ∧ M 53 0 ≤ 30 := hT.1
  have hT1 : 0 ≤ M 53 1 ∧ M 53 1 ≤ 6 := hT.2.1
  have hT5 : 1 ≤ M 53 5 ∧ M 53 5 ≤ 99 := hT.2.2.2.2.2.1
  have hT6 : 0 ≤ M 53 6 ∧ M 53 6 ≤ 10 := hT.2.2.2.2.2.2.1
  refine ms_aload_n dX7_years_0 rfl ?_
  refine mi_iconst dX7_years_1 ?_
  refine ms_putI (z := 4) dX7_years_2 (fo_X7_131 rfl) (by first | rfl | assumption) rfl rfl rfl ?_
  refine mx_gen (fun N => cdP M N 0) cdP.mk' (fun N hN => ?_)
  have e53 : N 53 = M 53 := hN.1 53 (by decide)
  have e63 : N 63 = M 63 := hN.1 63 (by decide)
  have eTR : sp_tR N = sp_tR M := by simp only [sp_tR, hN.1 53 (by decide), hN.1 54 (by decide), hN.1 55 (by decide), hN.1 58 (by decide), hN.1 59 (by decide), hN.1 60 (by decide)]
  refine ms_aload_n dX7_years_5 rfl ?_
  refine ms_iload_n dX7_years_6 rfl ?_
  refine ms_callV1 (ci := 7) (r := (RX7, TX7, 48)) dX7_years_7 cv_X7_years_X7_isLamp (k_X7_isLamp (M := N) hR (by rw [e53]; exact hT1) hl32) rfl rfl (by first | rfl | assumption) (Nat.le_of_ble_eq_true rfl) rfl (fun _ _ z => z.elim) (fun v9 h9 hp9 => ?_)
  obtain ⟨rfl, rfl⟩ := hp9
  rw [e53]
  refine mi_if_neB (tgt := 19) dX7_years_10 (by decide) (fun c_10 => ?_) (fun c_10 => ?_)
  · refine ms_iload_n dX7_years_19 rfl ?_
    refine mi_iconst dX7_years_20 ?_
    refine mi_bipush dX7_years_21 (by decide) ?_
    refine ms_callS3 dX7_years_23 cv_X7_years_X7_isIn (k_X7_isIn (f := f) (M := N) (L := L) (Rf := Rf) hu32 (a := 0) (b := 40) (by decide) (by decide)) (Nat.le_of_ble_eq_true rfl) rfl (fun _ _ z => z.elim) (fun v9 h9 hp9 => ?_)
    obtain ⟨rfl, rfl⟩ := hp9
    refine mi_if_neB (tgt := 35) dX7_years_26 (by decide) (fun c_26 => ?_) (fun c_26 => ?_)
    · exact absurd (of_decide_eq_true c_26) hc
    · refine ms_aload_n dX7_years_29 rfl ?_
      refine mi_iconst dX7_years_30 ?_
      refine ms_callV1 (ci := 7) (r := (RX7, TX7, 48)) dX7_years_31 cv_X7_years_X7_fail (k_X7_fail (M := N) hR) rfl rfl (by first | rfl | assumption) (Nat.le_of_ble_eq_true rfl) rfl (fun _ _ z => z.elim) (fun v9 h9 hp9 => ?_)
      obtain ⟨rfl, rfl⟩ := hp9
      refine ms_ret dX7_years_34 rfl ⟨_, rfl, hN.set, rfl⟩ (by simp)
  · exact absurd (of_decide_eq_false c_10) (by omega)

