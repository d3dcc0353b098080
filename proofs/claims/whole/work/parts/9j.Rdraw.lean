set_option maxHeartbeats 4000000 in
theorem l_X7_dlN {S : mx_Sc} {f : Bool} {M : Nat → Int → Int} {L : Nat → Nat → Int64} {Rf : Nat → Nat → Option Nat} (hR : mx_rf Rf) {P : Option Value → mx_H → Prop} {PX : String → mx_H → Prop} (hT : sp_tok (sp_tR M)) {l : Int} (hl : 0 ≤ l ∧ l < M 53 1) : ∀ (kk : Nat) (j : Int), 0 ≤ j → j + kk = sp_ac (sp_tR M) l (M 53 1).toNat → mx_E S mX7_drawLiked 37 [some (.ref 48), some (.int (iI l)), some (.int (iI (sp_ac (sp_tR M) l (M 53 1).toNat)))] [] (f, mx_SH, M, L, Rf) 0 0 P PX → mx_E S mX7_drawLiked 21 [some (.ref 48), some (.int (iI l)), some (.int (iI j))] [] (f, mx_SH, M, L, Rf) 0 0 P PX := by
  intro kk
  induction kk with
  | zero =>
    intro j g0 g1 hK
    have hT0 : 1 ≤ M 53 0 ∧ M 53 0 ≤ 30 := hT.1
    have hT1 : 0 ≤ M 53 1 ∧ M 53 1 ≤ 6 := hT.2.1
    have hT5 : 1 ≤ M 53 5 ∧ M 53 5 ≤ 99 := hT.2.2.2.2.2.1
    have hT6 : 0 ≤ M 53 6 ∧ M 53 6 ≤ 10 := hT.2.2.2.2.2.2.1
    have hle := sp_ac_le (sp_tR M) l (M 53 1).toNat
    have hni := nth_iff (t := sp_tR M) (l := l) (j := j) g0 (M 53 1).toNat
    have hnr := nth_rng (sp_tR M) l j (M 53 1).toNat
    refine ms_aload_n dX7_drawLiked_21 rfl ?_
    refine ms_iload_n dX7_drawLiked_22 rfl ?_
    refine ms_iload_n dX7_drawLiked_23 rfl ?_
    refine ms_callV2 (ci := 7) (r := (RX7, TX7, 48)) dX7_drawLiked_24 cv_X7_drawLiked_X7_other (k_X7_other hR hT hl (j := j) (by omega)) rfl rfl (by first | rfl | assumption) (Nat.le_of_ble_eq_true rfl) rfl (fun _ _ z => z.elim) (fun v9 h9 hp9 => ?_)
    obtain ⟨rfl, rfl⟩ := hp9
    refine mi_iconst dX7_drawLiked_27 ?_
    refine mi_icmp_eq (tgt := 37) dX7_drawLiked_28 (by decide) (fun c_28 => ?_) (fun c_28 => ?_)
    · rw [show j = sp_ac (sp_tR M) l (M 53 1).toNat by omega]
      exact hK
    · exact absurd (hni.mp c_28) (by omega)
  | succ kk ih =>
    intro j g0 g1 hK
    have hT0 : 1 ≤ M 53 0 ∧ M 53 0 ≤ 30 := hT.1
    have hT1 : 0 ≤ M 53 1 ∧ M 53 1 ≤ 6 := hT.2.1
    have hT5 : 1 ≤ M 53 5 ∧ M 53 5 ≤ 99 := hT.2.2.2.2.2.1
    have hT6 : 0 ≤ M 53 6 ∧ M 53 6 ≤ 10 := hT.2.2.2.2.2.2.1
    have hle := sp_ac_le (sp_tR M) l (M 53 1).toNat
    have hni := nth_iff (t := sp_tR M) (l := l) (j := j) g0 (M 53 1).toNat
    have hnr := nth_rng (sp_tR M) l j (M 53 1).toNat
    refine ms_aload_n dX7_drawLiked_21 rfl ?_
    refine ms_iload_n dX7_drawLiked_22 rfl ?_
    refine ms_iload_n dX7_drawLiked_23 rfl ?_
    refine ms_callV2 (ci := 7) (r := (RX7, TX7, 48)) dX7_drawLiked_24 cv_X7_drawLiked_X7_other (k_X7_other hR hT hl (j := j) (by omega)) rfl rfl (by first | rfl | assumption) (Nat.le_of_ble_eq_true rfl) rfl (fun _ _ z => z.elim) (fun v9 h9 hp9 => ?_)
    obtain ⟨rfl, rfl⟩ := hp9
    refine mi_iconst dX7_drawLiked_27 ?_
    refine mi_icmp_eq (tgt := 37) dX7_drawLiked_28 (by decide) (fun c_28 => ?_) (fun c_28 => ?_)
    · exact absurd c_28 (hni.mpr (by omega))
    · refine mi_iinc dX7_drawLiked_31 rfl (by decide) rfl ?_
      dsimp only [List.set, Nat.reduceAdd]
      refine ms_goto (tgt := 21) dX7_drawLiked_34 (by decide) ?_
      exact ih (j + 1) (by omega) (by omega) hK
set_option maxHeartbeats 4000000 in
set_option maxRecDepth 100000 in
theorem l_X7_dl {S : mx_Sc} {f : Bool} {M : Nat → Int → Int} {L : Nat → Nat → Int64} {Rf : Nat → Nat → Option Nat} (hR : mx_rf Rf) (hT : sp_tok (sp_tR M)) {s : Int} : ∀ (kk : Nat) (i : Nat) (N : Nat → Int → Int) (o2 : Option Value), (i : Int) + kk = M 53 1 → (∀ x, x ≠ 48 → x ≠ 66 → N x = M x) → (∀ k, k ≠ 40 → N 48 k = M 48 k) → N 48 40 = sp_ds (sp_tR M) s i → (∀ k : Int, 0 ≤ k → k < i → N 66 k = sp_dl (sp_tR M) s k) → mx_E S mX7_drawLiked 2 [some (.ref 48), some (.int (iI (i : Int))), o2] [] (f, mx_SH, N, L, Rf) 0 0 (fun v9 h9 => ∃ N, h9 = (f, mx_SH, N, L, Rf) ∧ v9 = none ∧ (∀ x, x ≠ 48 → x ≠ 66 → N x = M x) ∧ (∀ k, k ≠ 40 → N 48 k = M 48 k) ∧ N 48 40 = sp_ds (sp_tR M) s (M 53 1).toNat ∧ ∀ k, 0 ≤ k → k < M 53 1 → N 66 k = sp_dl (sp_tR M) s k) (fun _ _ => False) := by
  intro kk
  induction kk with
  | zero => 
    intro i N o2 g1 q1 q2 q3 q4
    have hT0 : 1 ≤ M 53 0 ∧ M 53 0 ≤ 30 := hT.1
    have hT1 : 0 ≤ M 53 1 ∧ M 53 1 ≤ 6 := hT.2.1
    have hT5 : 1 ≤ M 53 5 ∧ M 53 5 ≤ 99 := hT.2.2.2.2.2.1
    have hT6 : 0 ≤ M 53 6 ∧ M 53 6 ≤ 10 := hT.2.2.2.2.2.2.1
    have eT : sp_tR N = sp_tR M := by simp only [sp_tR, q1 53 (by decide) (by decide), q1 54 (by decide) (by decide), q1 55 (by decide) (by decide), q1 58 (by decide) (by decide), q1 59 (by decide) (by decide), q1 60 (by decide) (by decide)]
    have x53 : N 53 = M 53 := q1 53 (by decide) (by decide)
    have x54 : N 54 = M 54 := q1 54 (by decide) (by decide)
    refine ms_iload_n dX7_drawLiked_2 rfl ?_
    refine ms_aload_n dX7_drawLiked_3 rfl ?_
    refine ms_getR dX7_drawLiked_4 (fo_X7_43 rfl) (by first | rfl | assumption) rfl (by first | assumption | exact rf_48_5 hR ) ?_
    refine mi_iconst dX7_drawLiked_7 ?_
    refine ms_iald dX7_drawLiked_8 (by first | rfl | assumption) ?_
    rw [x53]
    refine mi_icmp_ge (tgt := 100) dX7_drawLiked_9 (by decide) (fun c_9 => ?_) (fun c_9 => ?_)
    · refine ms_retV dX7_drawLiked_100 rfl ⟨N, rfl, rfl, q1, q2, by rw [q3, show (M 53 1).toNat = i by omega], fun k k0 k1 => q4 k k0 (by omega)⟩ (by simp)
    · exact absurd c_9 (by omega)
  | succ kk ih => 
    intro i N o2 g1 q1 q2 q3 q4
    have hT0 : 1 ≤ M 53 0 ∧ M 53 0 ≤ 30 := hT.1
    have hT1 : 0 ≤ M 53 1 ∧ M 53 1 ≤ 6 := hT.2.1
    have hT5 : 1 ≤ M 53 5 ∧ M 53 5 ≤ 99 := hT.2.2.2.2.2.1
    have hT6 : 0 ≤ M 53 6 ∧ M 53 6 ≤ 10 := hT.2.2.2.2.2.2.1
    have eT : sp_tR N = sp_tR M := by simp only [sp_tR, q1 53 (by decide) (by decide), q1 54 (by decide) (by decide), q1 55 (by decide) (by decide), q1 58 (by decide) (by decide), q1 59 (by decide) (by decide), q1 60 (by decide) (by decide)]
    have x53 : N 53 = M 53 := q1 53 (by decide) (by decide)
    have x54 : N 54 = M 54 := q1 54 (by decide) (by decide)
    have hle := sp_ac_le (sp_tR M) (i : Int) (M 53 1).toNat
    have hkd := (hT.2.2.2.2.2.2.2.1 (i : Int) (by omega) (by show (i : Int) < M 53 1; omega)).1
    simp only at hkd
    refine ms_iload_n dX7_drawLiked_2 rfl ?_
    refine ms_aload_n dX7_drawLiked_3 rfl ?_
    refine ms_getR dX7_drawLiked_4 (fo_X7_43 rfl) (by first | rfl | assumption) rfl (by first | assumption | exact rf_48_5 hR ) ?_
    refine mi_iconst dX7_drawLiked_7 ?_
    refine ms_iald dX7_drawLiked_8 (by first | rfl | assumption) ?_
    rw [x53]
    refine mi_icmp_ge (tgt := 100) dX7_drawLiked_9 (by decide) (fun c_9 => ?_) (fun c_9 => ?_)
    · exact absurd c_9 (by omega)
    · refine ms_aload_n dX7_drawLiked_12 rfl ?_
      refine ms_getR dX7_drawLiked_13 (fo_X7_86 rfl) (by first | rfl | assumption) rfl (by first | assumption | exact rf_48_28 hR ) ?_
      refine ms_iload_n dX7_drawLiked_16 rfl ?_
      refine mi_iconst dX7_drawLiked_17 ?_
      refine ms_iast dX7_drawLiked_18 (by first | rfl | assumption) ?_
      refine mi_iconst dX7_drawLiked_19 ?_
      refine ms_istore_n dX7_drawLiked_20 (by decide) rfl ?_
      dsimp only [List.set, Nat.reduceAdd]
      have eT1 : sp_tR (va_up N 66 (iu (N 66) (i : Int) (-1))) = sp_tR M := by rw [← eT]; simp only [sp_tR, up_n N _ (show (53 : Nat) ≠ 66 by decide), up_n N _ (show (54 : Nat) ≠ 66 by decide), up_n N _ (show (55 : Nat) ≠ 66 by decide), up_n N _ (show (58 : Nat) ≠ 66 by decide), up_n N _ (show (59 : Nat) ≠ 66 by decide), up_n N _ (show (60 : Nat) ≠ 66 by decide)]
      have y53 : va_up N 66 (iu (N 66) (i : Int) (-1)) 53 = M 53 := by rw [up_n _ _ (by decide)]; exact x53
      have y54 : va_up N 66 (iu (N 66) (i : Int) (-1)) 54 = M 54 := by rw [up_n _ _ (by decide)]; exact x54
      refine l_X7_dlN (S := S) (f := f) (L := L) (M := va_up N 66 (iu (N 66) (i : Int) (-1))) hR (by rw [eT1]; exact hT) (l := (i : Int)) (by rw [y53]; omega) (sp_ac (sp_tR M) (i : Int) (M 53 1).toNat).toNat 0 (by omega) (by rw [eT1, y53]; omega) ?_
      rw [eT1, y53]
      refine ms_aload_n dX7_drawLiked_37 rfl ?_
      refine ms_getR dX7_drawLiked_38 (fo_X7_46 rfl) (by first | rfl | assumption) rfl (by first | assumption | exact rf_48_6 hR ) ?_
      refine ms_iload_n dX7_drawLiked_41 rfl ?_
      refine ms_iald dX7_drawLiked_42 (by first | rfl | assumption) ?_
      refine mi_iconst dX7_drawLiked_43 ?_
      rw [y54]
      refine mi_icmp_eq (tgt := 94) dX7_drawLiked_44 (by decide) (fun c_44 => ?_) (fun c_44 => ?_)
      · refine mi_iinc dX7_drawLiked_94 rfl (by decide) rfl ?_
        dsimp only [List.set, Nat.reduceAdd]
        refine ms_goto (tgt := 2) dX7_drawLiked_97 (by decide) ?_
        have hcn : sp_can (sp_tR M) (i : Int) = false := decide_eq_false (fun z => z.1 c_44)
        refine ih (i + 1) _ _ (by omega) (fun x x0 x1 => by rw [up_n _ _ x1]; exact q1 x x0 x1) (fun k hk => by rw [up_n _ _ (by decide)]; exact q2 k hk) (by rw [up_n _ _ (by decide), q3]; simp only [sp_ds]; rw [if_neg (by rw [hcn]; decide)]) (fun k k0 k1 => ?_)
        rw [up_s]
        by_cases e : k = (i : Int)
        · rw [e, iu_s]
          unfold sp_dl
          rw [if_neg (by rw [hcn]; decide)]
        · rw [iu_n _ _ e]; exact q4 k k0 (by omega)
      · refine ms_iload_n dX7_drawLiked_47 rfl ?_
        refine mi_if_ne (tgt := 54) dX7_drawLiked_48 (by decide) (fun c_48 => ?_) (fun c_48 => ?_)
        · have hcn : sp_can (sp_tR M) (i : Int) = true := decide_eq_true ⟨c_44, by simp only; omega⟩
          have hds : sp_ds (sp_tR M) s (i + 1) = sp_ds (sp_tR M) s i * 1103515245 + 12345 := by simp only [sp_ds]; rw [if_pos hcn]
          refine mx_gen (fun N2 => (∀ x, x ≠ 66 → N2 x = N x) ∧ N2 66 = iu (N 66) (i : Int) (-1)) ⟨fun x hx => up_n _ _ hx, up_s _ _ _⟩ (fun N2 hN2 => ?_)
          have z40 : N2 48 40 = sp_ds (sp_tR M) s i := by rw [hN2.1 48 (by decide)]; exact q3
          refine ms_aload_n dX7_drawLiked_54 rfl ?_
          refine ms_aload_n dX7_drawLiked_55 rfl ?_
          refine ms_getI (z := 40) dX7_drawLiked_56 (fo_X7_363 rfl) (by first | rfl | assumption) rfl rfl ?_
          refine ms_ldcw dX7_drawLiked_59 lc_X7_drawLiked_366 ?_
          rw [c1103]
          refine mi_imul dX7_drawLiked_62 ?_
          refine mi_sipush dX7_drawLiked_63 (by decide) ?_
          refine mi_iadd dX7_drawLiked_66 ?_
          refine ms_putI (z := 40) dX7_drawLiked_67 (fo_X7_363 rfl) (by first | rfl | assumption) rfl rfl rfl ?_
          rw [z40, ← hds]
          have eT2 : sp_tR (va_up N2 48 (iu (N2 48) 40 (sp_ds (sp_tR M) s (i + 1)))) = sp_tR M := by rw [← eT]; simp only [sp_tR, up_n N2 _ (show (53 : Nat) ≠ 48 by decide), up_n N2 _ (show (54 : Nat) ≠ 48 by decide), up_n N2 _ (show (55 : Nat) ≠ 48 by decide), up_n N2 _ (show (58 : Nat) ≠ 48 by decide), up_n N2 _ (show (59 : Nat) ≠ 48 by decide), up_n N2 _ (show (60 : Nat) ≠ 48 by decide), hN2.1 53 (by decide), hN2.1 54 (by decide), hN2.1 55 (by decide), hN2.1 58 (by decide), hN2.1 59 (by decide), hN2.1 60 (by decide)]
          have z53 : va_up N2 48 (iu (N2 48) 40 (sp_ds (sp_tR M) s (i + 1))) 53 = M 53 := by rw [up_n _ _ (by decide), hN2.1 53 (by decide)]; exact x53
          have hsd := sd_b (sd32 (iI (sp_ds (sp_tR M) s (i + 1))))
          have hsd2 : 0 ≤ sp_sd (sp_ds (sp_tR M) s (i + 1)) ∧ sp_sd (sp_ds (sp_tR M) s (i + 1)) < 32768 := hsd
          have hmod : 0 ≤ sp_sd (sp_ds (sp_tR M) s (i + 1)) % sp_ac (sp_tR M) (i : Int) (M 53 1).toNat ∧ sp_sd (sp_ds (sp_tR M) s (i + 1)) % sp_ac (sp_tR M) (i : Int) (M 53 1).toNat < 40000 := ⟨Int.emod_nonneg _ (by omega), by have := Int.emod_lt_of_pos (sp_sd (sp_ds (sp_tR M) s (i + 1))) (show 0 < sp_ac (sp_tR M) (i : Int) (M 53 1).toNat by omega); omega⟩
          refine ms_aload_n dX7_drawLiked_70 rfl ?_
          refine ms_getR dX7_drawLiked_71 (fo_X7_86 rfl) (by first | rfl | assumption) rfl (by first | assumption | exact rf_48_28 hR ) ?_
          refine ms_iload_n dX7_drawLiked_74 rfl ?_
          refine ms_aload_n dX7_drawLiked_75 rfl ?_
          refine ms_iload_n dX7_drawLiked_76 rfl ?_
          refine ms_aload_n dX7_drawLiked_77 rfl ?_
          refine ms_getI (z := 40) dX7_drawLiked_78 (fo_X7_363 rfl) (by first | rfl | assumption) rfl rfl ?_
          refine mi_bipush dX7_drawLiked_81 (by decide) ?_
          rw [show va_up N2 48 (iu (N2 48) 40 (sp_ds (sp_tR M) s (i + 1))) 48 40 = sp_ds (sp_tR M) s (i + 1) by rw [up_s, iu_s]]
          refine mi_ishr ((iI (sp_ds (sp_tR M) s (i + 1)) >>> (iI 16 &&& 31)).toInt) dX7_drawLiked_83 (iI_ti _).symm ?_
          refine mi_sipush dX7_drawLiked_84 (by decide) ?_
          refine mi_iand (sp_sd (sp_ds (sp_tR M) s (i + 1))) dX7_drawLiked_87 (by rw [iI_ti]; exact sd_sar _) ?_
          refine ms_iload_n dX7_drawLiked_88 rfl ?_
          refine mi_irem dX7_drawLiked_89 ?_
          refine ms_callV2 (ci := 7) (r := (RX7, TX7, 48)) dX7_drawLiked_90 cv_X7_drawLiked_X7_other (k_X7_other (M := va_up N2 48 (iu (N2 48) 40 (sp_ds (sp_tR M) s (i + 1)))) hR (by rw [eT2]; exact hT) (l := (i : Int)) (j := sp_sd (sp_ds (sp_tR M) s (i + 1)) % sp_ac (sp_tR M) (i : Int) (M 53 1).toNat) (by rw [z53]; omega) (by omega)) rfl rfl (by first | rfl | assumption) (Nat.le_of_ble_eq_true rfl) rfl (fun _ _ z => z.elim) (fun v9 h9 hp9 => ?_)
          obtain ⟨rfl, rfl⟩ := hp9
          rw [eT2, z53]
          refine ms_iast dX7_drawLiked_93 (by first | rfl | assumption) ?_
          refine mi_iinc dX7_drawLiked_94 rfl (by decide) rfl ?_
          dsimp only [List.set, Nat.reduceAdd]
          refine ms_goto (tgt := 2) dX7_drawLiked_97 (by decide) ?_
          refine ih (i + 1) _ _ (by omega) (fun x x0 x1 => by rw [up_n _ _ x1, up_n _ _ x0, hN2.1 x x1]; exact q1 x x0 x1) (fun k hk => by rw [up_n _ _ (by decide), up_s, iu_n _ _ hk, hN2.1 48 (by decide)]; exact q2 k hk) (by rw [up_n _ _ (by decide), up_s, iu_s]) (fun k k0 k1 => ?_)
          rw [up_s, up_n _ _ (by decide), hN2.2]
          by_cases e : k = (i : Int)
          · rw [e, iu_s]
            unfold sp_dl
            rw [if_pos hcn, Int.toNat_natCast]
          · rw [iu_n _ _ e, iu_n _ _ e]; exact q4 k k0 (by omega)
        · refine ms_goto (tgt := 94) dX7_drawLiked_51 (by decide) ?_
          refine mi_iinc dX7_drawLiked_94 rfl (by decide) rfl ?_
          dsimp only [List.set, Nat.reduceAdd]
          refine ms_goto (tgt := 2) dX7_drawLiked_97 (by decide) ?_
          have hcn : sp_can (sp_tR M) (i : Int) = false := decide_eq_false (fun z => by have := z.2; simp only at this; omega)
          refine ih (i + 1) _ _ (by omega) (fun x x0 x1 => by rw [up_n _ _ x1]; exact q1 x x0 x1) (fun k hk => by rw [up_n _ _ (by decide)]; exact q2 k hk) (by rw [up_n _ _ (by decide), q3]; simp only [sp_ds]; rw [if_neg (by rw [hcn]; decide)]) (fun k k0 k1 => ?_)
          rw [up_s]
          by_cases e : k = (i : Int)
          · rw [e, iu_s]
            unfold sp_dl
            rw [if_neg (by rw [hcn]; decide)]
          · rw [iu_n _ _ e]; exact q4 k k0 (by omega)

set_option maxHeartbeats 4000000 in
set_option maxRecDepth 100000 in
theorem k_X7_drawLiked {S : mx_Sc} {f : Bool} {M : Nat → Int → Int} {L : Nat → Nat → Int64} {Rf : Nat → Nat → Option Nat} (hR : mx_rf Rf) (hT : sp_tok (sp_tR M)) {s : Int} (hs : M 48 40 = s) : mx_C S mX7_drawLiked [.ref 48] (f, mx_SH, M, L, Rf) 0 0 (fun v9 h9 => ∃ N, h9 = (f, mx_SH, N, L, Rf) ∧ v9 = none ∧ (∀ x, x ≠ 48 → x ≠ 66 → N x = M x) ∧ (∀ k, k ≠ 40 → N 48 k = M 48 k) ∧ N 48 40 = sp_ds (sp_tR M) s (M 53 1).toNat ∧ ∀ k, 0 ≤ k → k < M 53 1 → N 66 k = sp_dl (sp_tR M) s k) (fun _ _ => False) := by
  refine mx_C_of (by decide) (by simp [Value.category]) (Nat.le_of_ble_eq_true rfl) rfl ?_
  show mx_E S mX7_drawLiked 0 [some (.ref 48), none, none] [] (f, mx_SH, M, L, Rf) 0 0 _ _
  have hT0 : 1 ≤ M 53 0 ∧ M 53 0 ≤ 30 := hT.1
  have hT1 : 0 ≤ M 53 1 ∧ M 53 1 ≤ 6 := hT.2.1
  have hT5 : 1 ≤ M 53 5 ∧ M 53 5 ≤ 99 := hT.2.2.2.2.2.1
  have hT6 : 0 ≤ M 53 6 ∧ M 53 6 ≤ 10 := hT.2.2.2.2.2.2.1
  refine mi_iconst dX7_drawLiked_0 ?_
  refine ms_istore_n dX7_drawLiked_1 (by decide) rfl ?_
  dsimp only [List.set, Nat.reduceAdd]
  exact l_X7_dl (S := S) (f := f) (L := L) hR hT (M 53 1).toNat 0 M none (by omega) (fun _ _ _ => rfl) (fun _ _ => rfl) hs (fun k k0 k1 => by omega)

