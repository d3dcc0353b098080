/-- couples that are near -/
def nrI (t : sp_T) (v : Int → Int) (p a : Int) : Nat → Int
  | 0 => 0
  | k + 1 => nrI t v p a k + (if a < k ∧ sp_out v a = false ∧ sp_out v k = false ∧ sp_far v a k ≤ p then 1 else 0)
def nrO (t : sp_T) (v : Int → Int) (p : Int) : Nat → Int
  | 0 => 0
  | k + 1 => nrO t v p k + nrI t v p k (t.1 1).toNat
theorem nrI_0 {t : sp_T} {v : Int → Int} {p a : Int} : ∀ k : Nat, (k : Int) ≤ a + 1 → nrI t v p a k = 0
  | 0, _ => rfl
  | k + 1, h => by
    simp only [nrI]
    rw [nrI_0 k (by omega), if_neg (by omega)]
    rfl
set_option maxHeartbeats 4000000 in
set_option maxRecDepth 100000 in
theorem l_X6_nrI {S : mx_Sc} {f : Bool} {M : Nat → Int → Int} {L : Nat → Nat → Int64} {Rf : Nat → Nat → Option Nat} (hR : mx_rf Rf) {t : Nat} (ht : t = 29 ∨ t = 37) (hT : sp_tok (sp_tC M t)) (hto : Rf 0 10 = some t) {v : Int → Int} (hsc : scR (sp_tC M t) M 3 v) (hv : sp_vok (sp_tC M t) v) {n : Int} (hn : 0 ≤ n ∧ n ≤ 99) (hnn : M 3 3 = n) {p : Int} (hp : 0 ≤ p ∧ p ≤ 30) {P : Option Value → mx_H → Prop} {PX : String → mx_H → Prop} {x c0 : Int} (hx : 0 ≤ x ∧ x < M t 1) : ∀ (kk : Nat) (j : Nat), (j : Int) ≥ x + 1 → (j : Int) + kk = M t 1 → (∀ z4 : Int, mx_E S mX6_near 105 [some (.ref 0), some (.int (iI p)), some (.int (iI (c0 + nrI (sp_tC M t) v p x (M t 1).toNat))), some (.int (iI x)), some (.int (iI z4))] [] (f, mx_SH, M, L, Rf) 0 0 P PX) → mx_E S mX6_near 38 [some (.ref 0), some (.int (iI p)), some (.int (iI (c0 + nrI (sp_tC M t) v p x j))), some (.int (iI x)), some (.int (iI (j : Int)))] [] (f, mx_SH, M, L, Rf) 0 0 P PX := by
  intro kk
  induction kk with
  | zero => 
    intro j g0 g1 hK
    have ht9 : t < 900 := by omega
    have hs_t := tc_s ht
    have hs_t1 := tc_s1 ht
    have hr_t1 := tc_r1 hR ht
    have hs_t2 := tc_s2 ht
    have hr_t2 := tc_r2 hR ht
    have hs_t3 := tc_s3 ht
    have hr_t3 := tc_r3 hR ht
    have hs_t4 := tc_s4 ht
    have hr_t4 := tc_r4 hR ht
    have hs_t5 := tc_s5 ht
    have hr_t5 := tc_r5 hR ht
    have hs_t6 := tc_s6 ht
    have hr_t6 := tc_r6 hR ht
    have hs_t7 := tc_s7 ht
    have hr_t7 := tc_r7 hR ht
    have hT0 : 1 ≤ M t 0 ∧ M t 0 ≤ 30 := hT.1
    have hT1 : 0 ≤ M t 1 ∧ M t 1 ≤ 6 := hT.2.1
    have hT2 : 1 ≤ M t 2 ∧ M t 2 ≤ 9 := hT.2.2.1
    have hT3 : 0 ≤ M t 3 ∧ M t 3 ≤ 9 := hT.2.2.2.1
    have hT4 : 0 ≤ M t 4 ∧ M t 4 ≤ 9 := hT.2.2.2.2.1
    have hT5 : 1 ≤ M t 5 ∧ M t 5 ≤ 99 := hT.2.2.2.2.2.1
    have hT6 : 0 ≤ M t 6 ∧ M t 6 ≤ 10 := hT.2.2.2.2.2.2.1
    have hTn : ((M t 1).toNat : Int) = M t 1 := Int.toNat_of_nonneg hT1.1
    have hTn6 : ((M t 6).toNat : Int) = M t 6 := Int.toNat_of_nonneg hT6.1
    refine ms_iload dX6_near_38 rfl ?_
    refine ms_aload_n dX6_near_40 rfl ?_
    refine ms_getR dX6_near_41 (fo_X6_50 rfl) (by first | rfl | assumption) rfl (by first | assumption ) ?_
    refine ms_getI (z := 1) dX6_near_44 (fo_X6_112 rfl) (by first | rfl | assumption) rfl rfl ?_
    refine mi_icmp_ge (tgt := 105) dX6_near_47 (by decide) (fun c_47 => ?_) (fun c_47 => ?_)
    · rw [show j = (M t 1).toNat by omega]
      exact hK _
    · exact absurd c_47 (by omega)
  | succ kk ih => 
    intro j g0 g1 hK
    have ht9 : t < 900 := by omega
    have hs_t := tc_s ht
    have hs_t1 := tc_s1 ht
    have hr_t1 := tc_r1 hR ht
    have hs_t2 := tc_s2 ht
    have hr_t2 := tc_r2 hR ht
    have hs_t3 := tc_s3 ht
    have hr_t3 := tc_r3 hR ht
    have hs_t4 := tc_s4 ht
    have hr_t4 := tc_r4 hR ht
    have hs_t5 := tc_s5 ht
    have hr_t5 := tc_r5 hR ht
    have hs_t6 := tc_s6 ht
    have hr_t6 := tc_r6 hR ht
    have hs_t7 := tc_s7 ht
    have hr_t7 := tc_r7 hR ht
    have hT0 : 1 ≤ M t 0 ∧ M t 0 ≤ 30 := hT.1
    have hT1 : 0 ≤ M t 1 ∧ M t 1 ≤ 6 := hT.2.1
    have hT2 : 1 ≤ M t 2 ∧ M t 2 ≤ 9 := hT.2.2.1
    have hT3 : 0 ≤ M t 3 ∧ M t 3 ≤ 9 := hT.2.2.2.1
    have hT4 : 0 ≤ M t 4 ∧ M t 4 ≤ 9 := hT.2.2.2.2.1
    have hT5 : 1 ≤ M t 5 ∧ M t 5 ≤ 99 := hT.2.2.2.2.2.1
    have hT6 : 0 ≤ M t 6 ∧ M t 6 ≤ 10 := hT.2.2.2.2.2.2.1
    have hTn : ((M t 1).toNat : Int) = M t 1 := Int.toNat_of_nonneg hT1.1
    have hTn6 : ((M t 6).toNat : Int) = M t 6 := Int.toNat_of_nonneg hT6.1
    have hfar := sp_far_le (t := sp_tC M t) hv (a := x) (b := (j : Int)) hx ⟨by omega, by show (j : Int) < M t 1; omega⟩
    simp only at hfar
    refine ms_iload dX6_near_38 rfl ?_
    refine ms_aload_n dX6_near_40 rfl ?_
    refine ms_getR dX6_near_41 (fo_X6_50 rfl) (by first | rfl | assumption) rfl (by first | assumption ) ?_
    refine ms_getI (z := 1) dX6_near_44 (fo_X6_112 rfl) (by first | rfl | assumption) rfl rfl ?_
    refine mi_icmp_ge (tgt := 105) dX6_near_47 (by decide) (fun c_47 => ?_) (fun c_47 => ?_)
    · exact absurd c_47 (by omega)
    · refine ms_aload_n dX6_near_50 rfl ?_
      refine ms_getR dX6_near_51 (fo_X6_16 rfl) (by first | rfl | assumption) rfl (by first | assumption | exact rf_0_2 hR ) ?_
      refine ms_getR dX6_near_54 (fo_X6_130 rfl) (by first | rfl | assumption) rfl (by first | assumption | exact rf_2_0 hR | exact rf_10_0 hR ) ?_
      refine ms_iload_n dX6_near_57 rfl ?_
      refine ms_callV1 (ci := 2) (r := (RX2, TX2, 6)) dX6_near_58 cv_X6_near_X2_isOut (k_X2_isOut (a := 3) (Or.inl rfl) (l := x) (by omega) hsc.2.2.1) rfl rfl (by first | rfl | assumption) (Nat.le_of_ble_eq_true rfl) rfl (fun _ _ z => z.elim) (fun v9 h9 hp9 => ?_)
      obtain ⟨rfl, rfl⟩ := hp9
      rw [hsc.2.2.2.1 x (by omega) (by omega)]
      refine mi_if_neB (tgt := 99) dX6_near_61 (by decide) (fun c_61 => ?_) (fun c_61 => ?_)
      · refine mi_iinc dX6_near_99 rfl (by decide) rfl ?_
        dsimp only [List.set, Nat.reduceAdd]
        refine ms_goto (tgt := 38) dX6_near_102 (by decide) ?_
        have i9 := ih (j + 1) (by omega) (by omega) hK
        rw [show nrI (sp_tC M t) v p x (j + 1) = nrI (sp_tC M t) v p x j from by simp only [nrI]; rw [if_neg (by rintro ⟨_, z, _⟩; rw [c_61] at z; cases z), Int.add_zero]] at i9
        exact i9
      · refine ms_aload_n dX6_near_64 rfl ?_
        refine ms_getR dX6_near_65 (fo_X6_16 rfl) (by first | rfl | assumption) rfl (by first | assumption | exact rf_0_2 hR ) ?_
        refine ms_getR dX6_near_68 (fo_X6_130 rfl) (by first | rfl | assumption) rfl (by first | assumption | exact rf_2_0 hR | exact rf_10_0 hR ) ?_
        refine ms_iload dX6_near_71 rfl ?_
        refine ms_callV1 (ci := 2) (r := (RX2, TX2, 6)) dX6_near_73 cv_X6_near_X2_isOut (k_X2_isOut (a := 3) (Or.inl rfl) (l := (j : Int)) (by omega) hsc.2.2.1) rfl rfl (by first | rfl | assumption) (Nat.le_of_ble_eq_true rfl) rfl (fun _ _ z => z.elim) (fun v9 h9 hp9 => ?_)
        obtain ⟨rfl, rfl⟩ := hp9
        rw [hsc.2.2.2.1 (j : Int) (by omega) (by omega)]
        refine mi_if_neB (tgt := 99) dX6_near_76 (by decide) (fun c_76 => ?_) (fun c_76 => ?_)
        · refine mi_iinc dX6_near_99 rfl (by decide) rfl ?_
          dsimp only [List.set, Nat.reduceAdd]
          refine ms_goto (tgt := 38) dX6_near_102 (by decide) ?_
          have i9 := ih (j + 1) (by omega) (by omega) hK
          rw [show nrI (sp_tC M t) v p x (j + 1) = nrI (sp_tC M t) v p x j from by simp only [nrI]; rw [if_neg (by rintro ⟨_, _, z, _⟩; rw [c_76] at z; cases z), Int.add_zero]] at i9
          exact i9
        · refine ms_aload_n dX6_near_79 rfl ?_
          refine ms_getR dX6_near_80 (fo_X6_16 rfl) (by first | rfl | assumption) rfl (by first | assumption | exact rf_0_2 hR ) ?_
          refine ms_getR dX6_near_83 (fo_X6_130 rfl) (by first | rfl | assumption) rfl (by first | assumption | exact rf_2_0 hR | exact rf_10_0 hR ) ?_
          refine ms_iload_n dX6_near_86 rfl ?_
          refine ms_iload dX6_near_87 rfl ?_
          refine ms_callV2 (ci := 2) (r := (RX2, TX2, 6)) dX6_near_89 cv_X6_near_X2_apart (k_X2_apart hR (a := 3) (Or.inl rfl) (l := x) (o := (j : Int)) (by omega) (by omega) (fun i8 i0 i1 => ⟨scR.b hT hsc hv (x := x) hx i0 i1, scR.b hT hsc hv (x := (j : Int)) ⟨by omega, by show (j : Int) < M t 1; omega⟩ i0 i1⟩)) rfl rfl (by first | rfl | assumption) (Nat.le_of_ble_eq_true rfl) rfl (fun _ _ z => z.elim) (fun v9 h9 hp9 => ?_)
          obtain ⟨rfl, rfl⟩ := hp9
          rw [hsc.far (x := x) (y := (j : Int)) hx ⟨by omega, by show (j : Int) < M t 1; omega⟩]
          refine ms_iload_n dX6_near_92 rfl ?_
          refine mi_icmp_gt (tgt := 99) dX6_near_93 (by decide) (fun c_93 => ?_) (fun c_93 => ?_)
          · refine mi_iinc dX6_near_99 rfl (by decide) rfl ?_
            dsimp only [List.set, Nat.reduceAdd]
            refine ms_goto (tgt := 38) dX6_near_102 (by decide) ?_
            have i9 := ih (j + 1) (by omega) (by omega) hK
            rw [show nrI (sp_tC M t) v p x (j + 1) = nrI (sp_tC M t) v p x j from by simp only [nrI]; rw [if_neg (by rintro ⟨_, _, _, z⟩; omega), Int.add_zero]] at i9
            exact i9
          · refine mi_iinc dX6_near_96 rfl (by decide) rfl ?_
            dsimp only [List.set, Nat.reduceAdd]
            refine mi_iinc dX6_near_99 rfl (by decide) rfl ?_
            dsimp only [List.set, Nat.reduceAdd]
            refine ms_goto (tgt := 38) dX6_near_102 (by decide) ?_
            have i9 := ih (j + 1) (by omega) (by omega) hK
            rw [show c0 + nrI (sp_tC M t) v p x (j + 1) = c0 + nrI (sp_tC M t) v p x j + 1 from by simp only [nrI]; rw [if_pos ⟨by omega, c_61, c_76, by omega⟩, Int.add_assoc]] at i9
            exact i9

set_option maxHeartbeats 4000000 in
set_option maxRecDepth 100000 in
theorem l_X6_nrO {S : mx_Sc} {f : Bool} {M : Nat → Int → Int} {L : Nat → Nat → Int64} {Rf : Nat → Nat → Option Nat} (hR : mx_rf Rf) {t : Nat} (ht : t = 29 ∨ t = 37) (hT : sp_tok (sp_tC M t)) (hto : Rf 0 10 = some t) {v : Int → Int} (hsc : scR (sp_tC M t) M 3 v) (hv : sp_vok (sp_tC M t) v) {n : Int} (hn : 0 ≤ n ∧ n ≤ 99) (hnn : M 3 3 = n) {p : Int} (hp : 0 ≤ p ∧ p ≤ 30) : ∀ (kk : Nat) (i : Nat) (o4 : Option Value), (i : Int) + kk = M t 1 → mx_E S mX6_near 22 [some (.ref 0), some (.int (iI p)), some (.int (iI (nrO (sp_tC M t) v p i))), some (.int (iI (i : Int))), o4] [] (f, mx_SH, M, L, Rf) 0 0 (fun v9 h9 => h9 = (f, mx_SH, M, L, Rf) ∧ v9 = some (.int (iI (nrO (sp_tC M t) v p (M t 1).toNat)))) (fun _ _ => False) := by
  intro kk
  induction kk with
  | zero => 
    intro i o4 g1
    have ht9 : t < 900 := by omega
    have hs_t := tc_s ht
    have hs_t1 := tc_s1 ht
    have hr_t1 := tc_r1 hR ht
    have hs_t2 := tc_s2 ht
    have hr_t2 := tc_r2 hR ht
    have hs_t3 := tc_s3 ht
    have hr_t3 := tc_r3 hR ht
    have hs_t4 := tc_s4 ht
    have hr_t4 := tc_r4 hR ht
    have hs_t5 := tc_s5 ht
    have hr_t5 := tc_r5 hR ht
    have hs_t6 := tc_s6 ht
    have hr_t6 := tc_r6 hR ht
    have hs_t7 := tc_s7 ht
    have hr_t7 := tc_r7 hR ht
    have hT0 : 1 ≤ M t 0 ∧ M t 0 ≤ 30 := hT.1
    have hT1 : 0 ≤ M t 1 ∧ M t 1 ≤ 6 := hT.2.1
    have hT2 : 1 ≤ M t 2 ∧ M t 2 ≤ 9 := hT.2.2.1
    have hT3 : 0 ≤ M t 3 ∧ M t 3 ≤ 9 := hT.2.2.2.1
    have hT4 : 0 ≤ M t 4 ∧ M t 4 ≤ 9 := hT.2.2.2.2.1
    have hT5 : 1 ≤ M t 5 ∧ M t 5 ≤ 99 := hT.2.2.2.2.2.1
    have hT6 : 0 ≤ M t 6 ∧ M t 6 ≤ 10 := hT.2.2.2.2.2.2.1
    have hTn : ((M t 1).toNat : Int) = M t 1 := Int.toNat_of_nonneg hT1.1
    have hTn6 : ((M t 6).toNat : Int) = M t 6 := Int.toNat_of_nonneg hT6.1
    refine ms_iload_n dX6_near_22 rfl ?_
    refine ms_aload_n dX6_near_23 rfl ?_
    refine ms_getR dX6_near_24 (fo_X6_50 rfl) (by first | rfl | assumption) rfl (by first | assumption ) ?_
    refine ms_getI (z := 1) dX6_near_27 (fo_X6_112 rfl) (by first | rfl | assumption) rfl rfl ?_
    refine mi_icmp_ge (tgt := 111) dX6_near_30 (by decide) (fun c_30 => ?_) (fun c_30 => ?_)
    · refine ms_iload_n dX6_near_111 rfl ?_
      refine ms_ret dX6_near_112 rfl ⟨rfl, by rw [show (M t 1).toNat = i by omega]⟩ (by simp)
    · exact absurd c_30 (by omega)
  | succ kk ih => 
    intro i o4 g1
    have ht9 : t < 900 := by omega
    have hs_t := tc_s ht
    have hs_t1 := tc_s1 ht
    have hr_t1 := tc_r1 hR ht
    have hs_t2 := tc_s2 ht
    have hr_t2 := tc_r2 hR ht
    have hs_t3 := tc_s3 ht
    have hr_t3 := tc_r3 hR ht
    have hs_t4 := tc_s4 ht
    have hr_t4 := tc_r4 hR ht
    have hs_t5 := tc_s5 ht
    have hr_t5 := tc_r5 hR ht
    have hs_t6 := tc_s6 ht
    have hr_t6 := tc_r6 hR ht
    have hs_t7 := tc_s7 ht
    have hr_t7 := tc_r7 hR ht
    have hT0 : 1 ≤ M t 0 ∧ M t 0 ≤ 30 := hT.1
    have hT1 : 0 ≤ M t 1 ∧ M t 1 ≤ 6 := hT.2.1
    have hT2 : 1 ≤ M t 2 ∧ M t 2 ≤ 9 := hT.2.2.1
    have hT3 : 0 ≤ M t 3 ∧ M t 3 ≤ 9 := hT.2.2.2.1
    have hT4 : 0 ≤ M t 4 ∧ M t 4 ≤ 9 := hT.2.2.2.2.1
    have hT5 : 1 ≤ M t 5 ∧ M t 5 ≤ 99 := hT.2.2.2.2.2.1
    have hT6 : 0 ≤ M t 6 ∧ M t 6 ≤ 10 := hT.2.2.2.2.2.2.1
    have hTn : ((M t 1).toNat : Int) = M t 1 := Int.toNat_of_nonneg hT1.1
    have hTn6 : ((M t 6).toNat : Int) = M t 6 := Int.toNat_of_nonneg hT6.1
    refine ms_iload_n dX6_near_22 rfl ?_
    refine ms_aload_n dX6_near_23 rfl ?_
    refine ms_getR dX6_near_24 (fo_X6_50 rfl) (by first | rfl | assumption) rfl (by first | assumption ) ?_
    refine ms_getI (z := 1) dX6_near_27 (fo_X6_112 rfl) (by first | rfl | assumption) rfl rfl ?_
    refine mi_icmp_ge (tgt := 111) dX6_near_30 (by decide) (fun c_30 => ?_) (fun c_30 => ?_)
    · exact absurd c_30 (by omega)
    · refine ms_iload_n dX6_near_33 rfl ?_
      refine mi_iconst dX6_near_34 ?_
      refine mi_iadd dX6_near_35 ?_
      refine ms_istore dX6_near_36 (by decide) rfl ?_
      dsimp only [List.set, Nat.reduceAdd]
      have i9 := l_X6_nrI (S := S) (f := f) (L := L) (P := (fun v9 h9 => h9 = (f, mx_SH, M, L, Rf) ∧ v9 = some (.int (iI (nrO (sp_tC M t) v p (M t 1).toNat))))) (PX := fun _ _ => False) hR ht hT hto hsc hv hn hnn hp (x := (i : Int)) (c0 := nrO (sp_tC M t) v p i) ⟨by omega, by omega⟩ kk (i + 1) (by omega) (by omega)
      rw [nrI_0 (i + 1) (by omega), Int.add_zero] at i9
      refine i9 (fun z4 => ?_)
      refine mi_iinc dX6_near_105 rfl (by decide) rfl ?_
      dsimp only [List.set, Nat.reduceAdd]
      refine ms_goto (tgt := 22) dX6_near_108 (by decide) ?_
      exact ih (i + 1) _ (by omega)

set_option maxHeartbeats 4000000 in
set_option maxRecDepth 100000 in
theorem k_X6_near {S : mx_Sc} {f : Bool} {M : Nat → Int → Int} {L : Nat → Nat → Int64} {Rf : Nat → Nat → Option Nat} (hR : mx_rf Rf) {t : Nat} (ht : t = 29 ∨ t = 37) (hT : sp_tok (sp_tC M t)) (hto : Rf 0 10 = some t) {v : Int → Int} (hsc : scR (sp_tC M t) M 3 v) (hv : sp_vok (sp_tC M t) v) {n : Int} (hn : 0 ≤ n ∧ n ≤ 99) (hnn : M 3 3 = n) {p : Int} (hp : 0 ≤ p ∧ p ≤ 30) (hp32 : -2147483648 ≤ p ∧ p ≤ 2147483647) : mx_C S mX6_near [.ref 0, .int (iI p)] (f, mx_SH, M, L, Rf) 0 0 (fun v9 h9 => h9 = (f, mx_SH, M, L, Rf) ∧ v9 = some (.int (iI (nrO (sp_tC M t) v p (M t 1).toNat)))) (fun _ _ => False) := by
  refine mx_C_of (by decide) (by simp [Value.category]) (Nat.le_of_ble_eq_true rfl) rfl ?_
  show mx_E S mX6_near 0 [some (.ref 0), some (.int (iI p)), none, none, none] [] (f, mx_SH, M, L, Rf) 0 0 _ _
  have ht9 : t < 900 := by omega
  have hs_t := tc_s ht
  have hs_t1 := tc_s1 ht
  have hr_t1 := tc_r1 hR ht
  have hs_t2 := tc_s2 ht
  have hr_t2 := tc_r2 hR ht
  have hs_t3 := tc_s3 ht
  have hr_t3 := tc_r3 hR ht
  have hs_t4 := tc_s4 ht
  have hr_t4 := tc_r4 hR ht
  have hs_t5 := tc_s5 ht
  have hr_t5 := tc_r5 hR ht
  have hs_t6 := tc_s6 ht
  have hr_t6 := tc_r6 hR ht
  have hs_t7 := tc_s7 ht
  have hr_t7 := tc_r7 hR ht
  have hT0 : 1 ≤ M t 0 ∧ M t 0 ≤ 30 := hT.1
  have hT1 : 0 ≤ M t 1 ∧ M t 1 ≤ 6 := hT.2.1
  have hT2 : 1 ≤ M t 2 ∧ M t 2 ≤ 9 := hT.2.2.1
  have hT3 : 0 ≤ M t 3 ∧ M t 3 ≤ 9 := hT.2.2.2.1
  have hT4 : 0 ≤ M t 4 ∧ M t 4 ≤ 9 := hT.2.2.2.2.1
  have hT5 : 1 ≤ M t 5 ∧ M t 5 ≤ 99 := hT.2.2.2.2.2.1
  have hT6 : 0 ≤ M t 6 ∧ M t 6 ≤ 10 := hT.2.2.2.2.2.2.1
  have hTn : ((M t 1).toNat : Int) = M t 1 := Int.toNat_of_nonneg hT1.1
  have hTn6 : ((M t 6).toNat : Int) = M t 6 := Int.toNat_of_nonneg hT6.1
  refine ms_iload_n dX6_near_0 rfl ?_
  refine mi_if_lt (tgt := 10) dX6_near_1 (by decide) (fun c_1 => ?_) (fun c_1 => ?_)
  · exact absurd c_1 (by omega)
  · refine ms_iload_n dX6_near_4 rfl ?_
    refine mi_bipush dX6_near_5 (by decide) ?_
    refine mi_icmp_le (tgt := 18) dX6_near_7 (by decide) (fun c_7 => ?_) (fun c_7 => ?_)
    · refine mi_iconst dX6_near_18 ?_
      refine ms_istore_n dX6_near_19 (by decide) rfl ?_
      dsimp only [List.set, Nat.reduceAdd]
      refine mi_iconst dX6_near_20 ?_
      refine ms_istore_n dX6_near_21 (by decide) rfl ?_
      dsimp only [List.set, Nat.reduceAdd]
      exact l_X6_nrO hR ht hT hto hsc hv hn hnn hp (M t 1).toNat 0 none (by omega)
    · exact absurd c_7 (by omega)

set_option maxHeartbeats 4000000 in
set_option maxRecDepth 100000 in
theorem k_X6_near_x {S : mx_Sc} {f : Bool} {M : Nat → Int → Int} {L : Nat → Nat → Int64} {Rf : Nat → Nat → Option Nat} (hR : mx_rf Rf) {p : Int} (hp32 : -2147483648 ≤ p ∧ p ≤ 2147483647) (hc : ¬ (0 ≤ p ∧ p ≤ 30)) : mx_C S mX6_near [.ref 0, .int (iI p)] (f, mx_SH, M, L, Rf) 1 6 (fun _ _ => False) (fun e9 h9 => e9 = "java/lang/IllegalArgumentException" ∧ h9 = (false, mx_SH, M, L, Rf)) := by
  refine mx_C_of (by decide) (by simp [Value.category]) (Nat.le_of_ble_eq_true rfl) rfl ?_
  show mx_E S mX6_near 0 [some (.ref 0), some (.int (iI p)), none, none, none] [] (f, mx_SH, M, L, Rf) 1 6 _ _
  refine ms_iload_n dX6_near_0 rfl ?_
  refine mi_if_lt (tgt := 10) dX6_near_1 (by decide) (fun c_1 => ?_) (fun c_1 => ?_)
  · refine ms_throw th_X6_near_I dX6_near_10 dX6_near_13 dX6_near_14 dX6_near_17 (Nat.le_of_ble_eq_true rfl) ⟨rfl, rfl⟩
  · refine ms_iload_n dX6_near_4 rfl ?_
    refine mi_bipush dX6_near_5 (by decide) ?_
    refine mi_icmp_le (tgt := 18) dX6_near_7 (by decide) (fun c_7 => ?_) (fun c_7 => ?_)
    · exact absurd hc (by simp only [Classical.not_not]; omega)
    · refine ms_throw th_X6_near_I dX6_near_10 dX6_near_13 dX6_near_14 dX6_near_17 (Nat.le_of_ble_eq_true rfl) ⟨rfl, rfl⟩

/-- the row at the beginning -/
def bgv (g : Int → Int) : Int → Int := fun i => if i < 18 then g i else -1
theorem mv_lk {t : sp_T} {lk lk2 : Int → Int} (h : ∀ l, 0 ≤ l → l < t.1 1 → lk l = lk2 l) (hf ng : Bool) (n : Int) (v : Int → Int) : sp_mv t lk hf ng n v = sp_mv t lk2 hf ng n v := by
  funext i
  unfold sp_mv
  by_cases e : 0 ≤ i ∧ i < 3 * t.1 1 ∧ sp_out v (i / 3) = false
  · rw [if_pos e, if_pos e, h (i / 3) (by omega) (by omega)]
  · rw [if_neg e, if_neg e]
theorem run_lk {t : sp_T} {lk lk2 : Int → Int} (h : ∀ l, 0 ≤ l → l < t.1 1 → lk l = lk2 l) (hf ng : Bool) (n : Int) (v : Int → Int) : ∀ k : Nat, sp_run t lk hf ng n k v = sp_run t lk2 hf ng n k v
  | 0 => rfl
  | k + 1 => by
    show sp_wed t (n + k) (sp_mv t lk hf ng (n + k) (sp_run t lk hf ng n k v)) = sp_wed t (n + k) (sp_mv t lk2 hf ng (n + k) (sp_run t lk2 hf ng n k v))
    rw [run_lk h hf ng n v k, mv_lk h]
theorem nth_rng (t : sp_T) (l j : Int) : ∀ k : Nat, -1 ≤ sp_nth t l j k ∧ sp_nth t l j k < k ∨ sp_nth t l j k = -1
  | 0 => Or.inr rfl
  | k + 1 => by
    have h := nth_rng t l j k
    simp only [sp_nth]
    split
    · omega
    · split
      · exact Or.inl ⟨by omega, by omega⟩
      · exact Or.inr rfl
theorem dl_lok {t : sp_T} (hT : sp_tok t) (s : Int) : sp_lok t (sp_dl t s) := fun l l0 l1 => by
  have h6 := hT.2.1
  unfold sp_dl
  split
  · have h := nth_rng t l (sp_sd (sp_ds t s (l.toNat + 1)) % sp_ac t l (t.1 1).toNat) (t.1 1).toNat
    omega
  · omega
theorem lok_cg {t : sp_T} {lk lk2 : Int → Int} (h : ∀ l, 0 ≤ l → l < t.1 1 → lk l = lk2 l) (h2 : sp_lok t lk2) : sp_lok t lk := fun l l0 l1 => by
  rw [h l l0 l1]
  exact h2 l l0 l1
def ysd (t : sp_T) (s : Int) : Nat → Int
  | 0 => s
  | k + 1 => sp_ds t (ysd t s k) (t.1 1).toNat
def yal (t : sp_T) (g : Int → Int) (s l : Int) : Nat → Int
  | 0 => 0
  | k + 1 => yal t g s l k + (if sp_out (sp_run t (sp_dl t (ysd t s k)) false false 0 (t.1 5).toNat (bgv g)) l = true then 0 else 1)
theorem bgv_sc {t : sp_T} (hT : sp_tok t) {M : Nat → Int → Int} {a : Nat} {g : Int → Int} (h1 : ∀ i, 0 ≤ i → i < 18 → M (a + 1) i = g i) (h2 : ∀ l, 0 ≤ l → l < 6 → M (a + 2) l = -1 ∧ M (a + 3) l = -1) (h4 : M a 4 = 0) (h5 : M a 5 = 0) : scR t M a (bgv g) := by
  have h6 := hT.2.1
  have ho : ∀ l, 0 ≤ l → sp_out (bgv g) l = false := fun l l0 => by
    unfold sp_out bgv
    rw [if_neg (by omega)]
    rfl
  refine ⟨fun i i0 i1 => ?_, fun l l0 l1 => ?_, by rw [h4]; omega, fun l l0 l1 => ?_, ?_⟩
  · rw [h1 i i0 (by omega)]
    unfold bgv
    rw [if_pos (by omega)]
  · have h := h2 l l0 l1
    unfold bgv
    rw [if_neg (by omega), if_neg (by omega)]
    exact h
  · rw [h4, ho l l0]
    unfold ob
    rw [Int.zero_ediv]
    rfl
  · rw [h5]
    have hc : sp_cnt t (bgv g) = 0 := by
      unfold sp_cnt
      generalize (t.1 1).toNat = K
      induction K with
      | zero => rfl
      | succ K ih =>
        simp only [itN]
        rw [ih, ho _ (by omega)]
        rfl
    rw [hc]
    rfl
