set_option maxHeartbeats 4000000 in
set_option maxRecDepth 100000 in
theorem l_X2_maI {S : mx_Sc} {f : Bool} {M : Nat → Int → Int} {L : Nat → Nat → Int64} {Rf : Nat → Nat → Option Nat} (hR : mx_rf Rf) {t : Nat} (ht : t = 29 ∨ t = 37) (hT : sp_tok (sp_tC M t)) {a : Nat} (ha : a = 3 ∨ a = 11 ∨ a = 18) {n : Int} (hn : 0 ≤ n ∧ n ≤ 1200) (hnn : M a 3 = n) {P : Option Value → mx_H → Prop} {PX : String → mx_H → Prop} {x : Int} (hx : 0 ≤ x ∧ x < M t 1) {u : Int → Int} : ∀ (kk : Nat) (j : Nat) (N : Nat → Int → Int), (j : Int) ≥ x + 1 → j + kk = M t 1 → (∀ x, x ≠ a → x ≠ a + 2 → x ≠ a + 3 → N x = M x) → (∀ k, k ≠ 4 → k ≠ 5 → N a k = M a k) → scR (sp_tC M t) N a (itN (fun b v => sp_in (sp_tC M t) n x b v) j u) → sp_vok (sp_tC M t) (itN (fun b v => sp_in (sp_tC M t) n x b v) j u) → (∀ (N : Nat → Int → Int) (b2 : Int), (∀ x, x ≠ a → x ≠ a + 2 → x ≠ a + 3 → N x = M x) → (∀ k, k ≠ 4 → k ≠ 5 → N a k = M a k) → scR (sp_tC M t) N a (sp_wedA (sp_tC M t) n x u) → sp_vok (sp_tC M t) (sp_wedA (sp_tC M t) n x u) → mx_E S mX2_marryAll 78 [some (.ref a), some (.ref t), some (.int (iI x)), some (.int (iI b2))] [] (f, mx_SH, N, L, Rf) 0 0 P PX) → mx_E S mX2_marryAll 14 [some (.ref a), some (.ref t), some (.int (iI x)), some (.int (iI (j : Int)))] [] (f, mx_SH, N, L, Rf) 0 0 P PX := by
  intro kk
  induction kk with
  | zero => 
    intro j N g0 g1 q1 q2 hsc hv hK
    have ht9 : t < 900 := by omega
    have hs_t := tc_s ht
    have hs_t1 := tc_s1 ht
    have hr_t1 := tc_r1 hR ht
    have hs_t2 := tc_s2 ht
    have hr_t2 := tc_r2 hR ht
    have hs_t3 := tc_s3 ht
    have hr_t3 := tc_r3 hR ht
    have hs_t4 := tc_s4 ht
    have hr_t4 := tc_r4 hR ht
    have hs_t5 := tc_s5 ht
    have hr_t5 := tc_r5 hR ht
    have hs_t6 := tc_s6 ht
    have hr_t6 := tc_r6 hR ht
    have hs_t7 := tc_s7 ht
    have hr_t7 := tc_r7 hR ht
    have ha9 : a < 900 := by omega
    have hs_a := sc_s ha
    have hs_a1 := sc_s1 ha
    have hr_a1 := sc_r1 hR ha
    have hs_a2 := sc_s2 ha
    have hr_a2 := sc_r2 hR ha
    have hs_a3 := sc_s3 ha
    have hr_a3 := sc_r3 hR ha
    have hT0 : 1 ≤ M t 0 ∧ M t 0 ≤ 30 := hT.1
    have hT1 : 0 ≤ M t 1 ∧ M t 1 ≤ 6 := hT.2.1
    have hT2 : 1 ≤ M t 2 ∧ M t 2 ≤ 9 := hT.2.2.1
    have hT3 : 0 ≤ M t 3 ∧ M t 3 ≤ 9 := hT.2.2.2.1
    have hT4 : 0 ≤ M t 4 ∧ M t 4 ≤ 9 := hT.2.2.2.2.1
    have hT5 : 1 ≤ M t 5 ∧ M t 5 ≤ 99 := hT.2.2.2.2.2.1
    have hT6 : 0 ≤ M t 6 ∧ M t 6 ≤ 10 := hT.2.2.2.2.2.2.1
    have hTn : ((M t 1).toNat : Int) = M t 1 := Int.toNat_of_nonneg hT1.1
    have hTn6 : ((M t 6).toNat : Int) = M t 6 := Int.toNat_of_nonneg hT6.1
    have eT : sp_tC N t = sp_tC M t := tC_fr (fun y _ _ => q1 y (by omega) (by omega) (by omega))
    have eN : ∀ k, N t k = M t k := fun k => by rw [q1 t (by omega) (by omega) (by omega)]
    have eN1 := eN 1
    have eN3 := eN 3
    have eS : ∀ k, N (t + 2) k = M (t + 2) k := fun k => by rw [q1 (t + 2) (by omega) (by omega) (by omega)]
    refine ms_iload_n dX2_marryAll_14 rfl ?_
    refine ms_aload_n dX2_marryAll_15 rfl ?_
    refine ms_getI (z := 1) dX2_marryAll_16 (fo_X2_40 rfl) (by first | rfl | assumption) rfl rfl ?_
    refine mi_icmp_ge (tgt := 78) dX2_marryAll_19 (by decide) (fun c_19 => ?_) (fun c_19 => ?_)
    · have hw9 : sp_wedA (sp_tC M t) n x u = (itN (fun b v => sp_in (sp_tC M t) n x b v) j u) := by unfold sp_wedA; simp only; rw [show (M t 1).toNat = j by omega]
      exact hK N _ q1 q2 (by rw [hw9]; exact hsc) (by rw [hw9]; exact hv)
    · exact absurd c_19 (by omega)
  | succ kk ih => 
    intro j N g0 g1 q1 q2 hsc hv hK
    have ht9 : t < 900 := by omega
    have hs_t := tc_s ht
    have hs_t1 := tc_s1 ht
    have hr_t1 := tc_r1 hR ht
    have hs_t2 := tc_s2 ht
    have hr_t2 := tc_r2 hR ht
    have hs_t3 := tc_s3 ht
    have hr_t3 := tc_r3 hR ht
    have hs_t4 := tc_s4 ht
    have hr_t4 := tc_r4 hR ht
    have hs_t5 := tc_s5 ht
    have hr_t5 := tc_r5 hR ht
    have hs_t6 := tc_s6 ht
    have hr_t6 := tc_r6 hR ht
    have hs_t7 := tc_s7 ht
    have hr_t7 := tc_r7 hR ht
    have ha9 : a < 900 := by omega
    have hs_a := sc_s ha
    have hs_a1 := sc_s1 ha
    have hr_a1 := sc_r1 hR ha
    have hs_a2 := sc_s2 ha
    have hr_a2 := sc_r2 hR ha
    have hs_a3 := sc_s3 ha
    have hr_a3 := sc_r3 hR ha
    have hT0 : 1 ≤ M t 0 ∧ M t 0 ≤ 30 := hT.1
    have hT1 : 0 ≤ M t 1 ∧ M t 1 ≤ 6 := hT.2.1
    have hT2 : 1 ≤ M t 2 ∧ M t 2 ≤ 9 := hT.2.2.1
    have hT3 : 0 ≤ M t 3 ∧ M t 3 ≤ 9 := hT.2.2.2.1
    have hT4 : 0 ≤ M t 4 ∧ M t 4 ≤ 9 := hT.2.2.2.2.1
    have hT5 : 1 ≤ M t 5 ∧ M t 5 ≤ 99 := hT.2.2.2.2.2.1
    have hT6 : 0 ≤ M t 6 ∧ M t 6 ≤ 10 := hT.2.2.2.2.2.2.1
    have hTn : ((M t 1).toNat : Int) = M t 1 := Int.toNat_of_nonneg hT1.1
    have hTn6 : ((M t 6).toNat : Int) = M t 6 := Int.toNat_of_nonneg hT6.1
    have eT : sp_tC N t = sp_tC M t := tC_fr (fun y _ _ => q1 y (by omega) (by omega) (by omega))
    have eN : ∀ k, N t k = M t k := fun k => by rw [q1 t (by omega) (by omega) (by omega)]
    have eN1 := eN 1
    have eN3 := eN 3
    have eS : ∀ k, N (t + 2) k = M (t + 2) k := fun k => by rw [q1 (t + 2) (by omega) (by omega) (by omega)]
    have hsa : 0 ≤ M (t + 2) x ∧ M (t + 2) x ≤ 1 := (hT.2.2.2.2.2.2.2.1 x hx.1 hx.2).2
    have hsj : 0 ≤ M (t + 2) (j : Int) ∧ M (t + 2) (j : Int) ≤ 1 := (hT.2.2.2.2.2.2.2.1 (j : Int) (by omega) (by show (j : Int) < M t 1; omega)).2
    have esa := eS x
    have esj := eS (j : Int)
    have hfar := sp_far_le (t := sp_tC M t) hv (a := x) (b := (j : Int)) hx ⟨by omega, by show (j : Int) < M t 1; omega⟩
    simp only at hfar
    refine ms_iload_n dX2_marryAll_14 rfl ?_
    refine ms_aload_n dX2_marryAll_15 rfl ?_
    refine ms_getI (z := 1) dX2_marryAll_16 (fo_X2_40 rfl) (by first | rfl | assumption) rfl rfl ?_
    refine mi_icmp_ge (tgt := 78) dX2_marryAll_19 (by decide) (fun c_19 => ?_) (fun c_19 => ?_)
    · exact absurd c_19 (by omega)
    · refine ms_aload_n dX2_marryAll_22 rfl ?_
      refine ms_iload_n dX2_marryAll_23 rfl ?_
      refine ms_callV1 (ci := 2) (r := (RX2, TX2, 6)) dX2_marryAll_24 cv_X2_marryAll_X2_isOut (k_X2_isOut ha (l := x) (by omega) hsc.2.2.1) rfl rfl (by first | rfl | assumption) (Nat.le_of_ble_eq_true rfl) rfl (fun _ _ z => z.elim) (fun v9 h9 hp9 => ?_)
      obtain ⟨rfl, rfl⟩ := hp9
      rw [hsc.2.2.2.1 x (by omega) (by omega)]
      refine mi_if_neB (tgt := 78) dX2_marryAll_27 (by decide) (fun c_27 => ?_) (fun c_27 => ?_)
      · have hw9 : sp_wedA (sp_tC M t) n x u = (itN (fun b v => sp_in (sp_tC M t) n x b v) j u) := by unfold sp_wedA; simp only; rw [show (M t 1).toNat = j + (kk + 1) by omega]; exact in_out c_27 (kk + 1)
        exact hK N _ q1 q2 (by rw [hw9]; exact hsc) (by rw [hw9]; exact hv)
      · refine ms_aload_n dX2_marryAll_30 rfl ?_
        refine ms_iload_n dX2_marryAll_31 rfl ?_
        refine ms_callV1 (ci := 2) (r := (RX2, TX2, 6)) dX2_marryAll_32 cv_X2_marryAll_X2_isOut (k_X2_isOut ha (l := (j : Int)) (by omega) hsc.2.2.1) rfl rfl (by first | rfl | assumption) (Nat.le_of_ble_eq_true rfl) rfl (fun _ _ z => z.elim) (fun v9 h9 hp9 => ?_)
        obtain ⟨rfl, rfl⟩ := hp9
        rw [hsc.2.2.2.1 (j : Int) (by omega) (by omega)]
        refine mi_if_neB (tgt := 72) dX2_marryAll_35 (by decide) (fun c_35 => ?_) (fun c_35 => ?_)
        · refine mi_iinc dX2_marryAll_72 rfl (by decide) rfl ?_
          dsimp only [List.set, Nat.reduceAdd]
          refine ms_goto (tgt := 14) dX2_marryAll_75 (by decide) ?_
          have hw9 : itN (fun b v => sp_in (sp_tC M t) n x b v) (j + 1) u = (itN (fun b v => sp_in (sp_tC M t) n x b v) j u) := if_pos (Or.inr (Or.inr (Or.inl c_35)))
          exact ih (j + 1) N (by omega) (by omega) q1 q2 (by rw [hw9]; exact hsc) (by rw [hw9]; exact hv) hK
        · refine ms_aload_n dX2_marryAll_38 rfl ?_
          refine ms_getR dX2_marryAll_39 (fo_X2_47 rfl) (by first | rfl | assumption) rfl (by first | assumption | exact rf_29_8 hR | exact rf_37_8 hR ) ?_
          refine ms_iload_n dX2_marryAll_42 rfl ?_
          refine ms_iald dX2_marryAll_43 (by first | rfl | assumption) ?_
          refine ms_aload_n dX2_marryAll_44 rfl ?_
          refine ms_getR dX2_marryAll_45 (fo_X2_47 rfl) (by first | rfl | assumption) rfl (by first | assumption | exact rf_29_8 hR | exact rf_37_8 hR ) ?_
          refine ms_iload_n dX2_marryAll_48 rfl ?_
          refine ms_iald dX2_marryAll_49 (by first | rfl | assumption) ?_
          refine mi_icmp_eq (tgt := 72) dX2_marryAll_50 (by decide) (fun c_50 => ?_) (fun c_50 => ?_)
          · refine mi_iinc dX2_marryAll_72 rfl (by decide) rfl ?_
            dsimp only [List.set, Nat.reduceAdd]
            refine ms_goto (tgt := 14) dX2_marryAll_75 (by decide) ?_
            have hw9 : itN (fun b v => sp_in (sp_tC M t) n x b v) (j + 1) u = (itN (fun b v => sp_in (sp_tC M t) n x b v) j u) := if_pos (Or.inr (Or.inr (Or.inr (Or.inl (by show M (t + 2) x = M (t + 2) (j : Int); omega)))))
            exact ih (j + 1) N (by omega) (by omega) q1 q2 (by rw [hw9]; exact hsc) (by rw [hw9]; exact hv) hK
          · refine ms_aload_n dX2_marryAll_53 rfl ?_
            refine ms_iload_n dX2_marryAll_54 rfl ?_
            refine ms_iload_n dX2_marryAll_55 rfl ?_
            refine ms_callV2 (ci := 2) (r := (RX2, TX2, 6)) dX2_marryAll_56 cv_X2_marryAll_X2_apart (k_X2_apart hR ha (l := x) (o := (j : Int)) (by omega) (by omega) (fun i8 i0 i1 => ⟨scR.b hT hsc hv (x := x) (by simp only; omega) i0 i1, scR.b hT hsc hv (x := (j : Int)) (by simp only; omega) i0 i1⟩)) rfl rfl (by first | rfl | assumption) (Nat.le_of_ble_eq_true rfl) rfl (fun _ _ z => z.elim) (fun v9 h9 hp9 => ?_)
            obtain ⟨rfl, rfl⟩ := hp9
            rw [hsc.far (x := x) (y := (j : Int)) (by simp only; omega) (by simp only; omega)]
            refine ms_aload_n dX2_marryAll_59 rfl ?_
            refine ms_getI (z := 3) dX2_marryAll_60 (fo_X2_54 rfl) (by first | rfl | assumption) rfl rfl ?_
            refine mi_icmp_gt (tgt := 72) dX2_marryAll_63 (by decide) (fun c_63 => ?_) (fun c_63 => ?_)
            · refine mi_iinc dX2_marryAll_72 rfl (by decide) rfl ?_
              dsimp only [List.set, Nat.reduceAdd]
              refine ms_goto (tgt := 14) dX2_marryAll_75 (by decide) ?_
              have hw9 : itN (fun b v => sp_in (sp_tC M t) n x b v) (j + 1) u = (itN (fun b v => sp_in (sp_tC M t) n x b v) j u) := if_pos (Or.inr (Or.inr (Or.inr (Or.inr (by show M t 3 < _; omega)))))
              exact ih (j + 1) N (by omega) (by omega) q1 q2 (by rw [hw9]; exact hsc) (by rw [hw9]; exact hv) hK
            · refine ms_aload_n dX2_marryAll_66 rfl ?_
              refine ms_iload_n dX2_marryAll_67 rfl ?_
              refine ms_iload_n dX2_marryAll_68 rfl ?_
              refine ms_callV2 (ci := 2) (r := (RX2, TX2, 6)) dX2_marryAll_69 cv_X2_marryAll_X2_marry (k_X2_marry (M := N) (n := n) hR ha hT hsc (l := x) (o := (j : Int)) hx ⟨by omega, by show (j : Int) < M t 1; omega⟩ (by omega) c_27 c_35 (by rw [q2 3 (by decide) (by decide)]; exact hnn)) rfl rfl (by first | rfl | assumption) (Nat.le_of_ble_eq_true rfl) rfl (fun _ _ z => z.elim) (fun v9 h9 hp9 => ?_)
              obtain ⟨N2, rfl, rfl, z1, z2, z3⟩ := hp9
              refine mi_iinc dX2_marryAll_72 rfl (by decide) rfl ?_
              dsimp only [List.set, Nat.reduceAdd]
              refine ms_goto (tgt := 14) dX2_marryAll_75 (by decide) ?_
              have hw9 : itN (fun b v => sp_in (sp_tC M t) n x b v) (j + 1) u = sp_marry (itN (fun b v => sp_in (sp_tC M t) n x b v) j u) x (j : Int) n := if_neg (by rintro (z | z | z | z | z); omega; (rw [c_27] at z; cases z); (rw [c_35] at z; cases z); (simp only at z; omega); (simp only at z; omega))
              exact ih (j + 1) N2 (by omega) (by omega) (fun y y1 y2 y3 => by rw [z1 y y1 y2 y3, q1 y y1 y2 y3]) (fun k k1 k2 => by rw [z2 k k1 k2, q2 k k1 k2]) (by rw [hw9]; exact z3) (by rw [hw9]; exact sp_marry_ok hT hv hx ⟨by omega, by show (j : Int) < M t 1; omega⟩ hn) hK

set_option maxHeartbeats 4000000 in
set_option maxRecDepth 100000 in
theorem l_X2_maO {S : mx_Sc} {f : Bool} {M : Nat → Int → Int} {L : Nat → Nat → Int64} {Rf : Nat → Nat → Option Nat} (hR : mx_rf Rf) {t : Nat} (ht : t = 29 ∨ t = 37) (hT : sp_tok (sp_tC M t)) {a : Nat} (ha : a = 3 ∨ a = 11 ∨ a = 18) {n : Int} (hn : 0 ≤ n ∧ n ≤ 1200) (hnn : M a 3 = n) {v : Int → Int} : ∀ (kk : Nat) (i : Nat) (N : Nat → Int → Int) (o7 : Option Value), i + kk = M t 1 → (∀ x, x ≠ a → x ≠ a + 2 → x ≠ a + 3 → N x = M x) → (∀ k, k ≠ 4 → k ≠ 5 → N a k = M a k) → scR (sp_tC M t) N a (itN (fun b v => sp_wedA (sp_tC M t) n b v) i v) → sp_vok (sp_tC M t) (itN (fun b v => sp_wedA (sp_tC M t) n b v) i v) → mx_E S mX2_marryAll 2 [some (.ref a), some (.ref t), some (.int (iI (i : Int))), o7] [] (f, mx_SH, N, L, Rf) 0 0 (fun v9 h9 => ∃ N, h9 = (f, mx_SH, N, L, Rf) ∧ v9 = none ∧ (∀ x, x ≠ a → x ≠ a + 2 → x ≠ a + 3 → N x = M x) ∧ (∀ k, k ≠ 4 → k ≠ 5 → N a k = M a k) ∧ scR (sp_tC M t) N a (sp_wed (sp_tC M t) n v) ∧ sp_vok (sp_tC M t) (sp_wed (sp_tC M t) n v)) (fun _ _ => False) := by
  intro kk
  induction kk with
  | zero => 
    intro i N o7 g1 q1 q2 hsc hv
    have ht9 : t < 900 := by omega
    have hs_t := tc_s ht
    have hs_t1 := tc_s1 ht
    have hr_t1 := tc_r1 hR ht
    have hs_t2 := tc_s2 ht
    have hr_t2 := tc_r2 hR ht
    have hs_t3 := tc_s3 ht
    have hr_t3 := tc_r3 hR ht
    have hs_t4 := tc_s4 ht
    have hr_t4 := tc_r4 hR ht
    have hs_t5 := tc_s5 ht
    have hr_t5 := tc_r5 hR ht
    have hs_t6 := tc_s6 ht
    have hr_t6 := tc_r6 hR ht
    have hs_t7 := tc_s7 ht
    have hr_t7 := tc_r7 hR ht
    have ha9 : a < 900 := by omega
    have hs_a := sc_s ha
    have hs_a1 := sc_s1 ha
    have hr_a1 := sc_r1 hR ha
    have hs_a2 := sc_s2 ha
    have hr_a2 := sc_r2 hR ha
    have hs_a3 := sc_s3 ha
    have hr_a3 := sc_r3 hR ha
    have hT0 : 1 ≤ M t 0 ∧ M t 0 ≤ 30 := hT.1
    have hT1 : 0 ≤ M t 1 ∧ M t 1 ≤ 6 := hT.2.1
    have hT2 : 1 ≤ M t 2 ∧ M t 2 ≤ 9 := hT.2.2.1
    have hT3 : 0 ≤ M t 3 ∧ M t 3 ≤ 9 := hT.2.2.2.1
    have hT4 : 0 ≤ M t 4 ∧ M t 4 ≤ 9 := hT.2.2.2.2.1
    have hT5 : 1 ≤ M t 5 ∧ M t 5 ≤ 99 := hT.2.2.2.2.2.1
    have hT6 : 0 ≤ M t 6 ∧ M t 6 ≤ 10 := hT.2.2.2.2.2.2.1
    have hTn : ((M t 1).toNat : Int) = M t 1 := Int.toNat_of_nonneg hT1.1
    have hTn6 : ((M t 6).toNat : Int) = M t 6 := Int.toNat_of_nonneg hT6.1
    have eT : sp_tC N t = sp_tC M t := tC_fr (fun y _ _ => q1 y (by omega) (by omega) (by omega))
    have eN : ∀ k, N t k = M t k := fun k => by rw [q1 t (by omega) (by omega) (by omega)]
    have eN1 := eN 1
    have eN3 := eN 3
    have eS : ∀ k, N (t + 2) k = M (t + 2) k := fun k => by rw [q1 (t + 2) (by omega) (by omega) (by omega)]
    refine ms_iload_n dX2_marryAll_2 rfl ?_
    refine ms_aload_n dX2_marryAll_3 rfl ?_
    refine ms_getI (z := 1) dX2_marryAll_4 (fo_X2_40 rfl) (by first | rfl | assumption) rfl rfl ?_
    refine mi_icmp_ge (tgt := 84) dX2_marryAll_7 (by decide) (fun c_7 => ?_) (fun c_7 => ?_)
    · have hw9 : sp_wed (sp_tC M t) n v = (itN (fun b v => sp_wedA (sp_tC M t) n b v) i v) := by unfold sp_wed; simp only; rw [show (M t 1).toNat = i by omega]
      exact ms_retV dX2_marryAll_84 rfl ⟨N, rfl, rfl, q1, q2, by rw [hw9]; exact hsc, by rw [hw9]; exact hv⟩ (by simp)
    · exact absurd c_7 (by omega)
  | succ kk ih => 
    intro i N o7 g1 q1 q2 hsc hv
    have ht9 : t < 900 := by omega
    have hs_t := tc_s ht
    have hs_t1 := tc_s1 ht
    have hr_t1 := tc_r1 hR ht
    have hs_t2 := tc_s2 ht
    have hr_t2 := tc_r2 hR ht
    have hs_t3 := tc_s3 ht
    have hr_t3 := tc_r3 hR ht
    have hs_t4 := tc_s4 ht
    have hr_t4 := tc_r4 hR ht
    have hs_t5 := tc_s5 ht
    have hr_t5 := tc_r5 hR ht
    have hs_t6 := tc_s6 ht
    have hr_t6 := tc_r6 hR ht
    have hs_t7 := tc_s7 ht
    have hr_t7 := tc_r7 hR ht
    have ha9 : a < 900 := by omega
    have hs_a := sc_s ha
    have hs_a1 := sc_s1 ha
    have hr_a1 := sc_r1 hR ha
    have hs_a2 := sc_s2 ha
    have hr_a2 := sc_r2 hR ha
    have hs_a3 := sc_s3 ha
    have hr_a3 := sc_r3 hR ha
    have hT0 : 1 ≤ M t 0 ∧ M t 0 ≤ 30 := hT.1
    have hT1 : 0 ≤ M t 1 ∧ M t 1 ≤ 6 := hT.2.1
    have hT2 : 1 ≤ M t 2 ∧ M t 2 ≤ 9 := hT.2.2.1
    have hT3 : 0 ≤ M t 3 ∧ M t 3 ≤ 9 := hT.2.2.2.1
    have hT4 : 0 ≤ M t 4 ∧ M t 4 ≤ 9 := hT.2.2.2.2.1
    have hT5 : 1 ≤ M t 5 ∧ M t 5 ≤ 99 := hT.2.2.2.2.2.1
    have hT6 : 0 ≤ M t 6 ∧ M t 6 ≤ 10 := hT.2.2.2.2.2.2.1
    have hTn : ((M t 1).toNat : Int) = M t 1 := Int.toNat_of_nonneg hT1.1
    have hTn6 : ((M t 6).toNat : Int) = M t 6 := Int.toNat_of_nonneg hT6.1
    have eT : sp_tC N t = sp_tC M t := tC_fr (fun y _ _ => q1 y (by omega) (by omega) (by omega))
    have eN : ∀ k, N t k = M t k := fun k => by rw [q1 t (by omega) (by omega) (by omega)]
    have eN1 := eN 1
    have eN3 := eN 3
    have eS : ∀ k, N (t + 2) k = M (t + 2) k := fun k => by rw [q1 (t + 2) (by omega) (by omega) (by omega)]
    refine ms_iload_n dX2_marryAll_2 rfl ?_
    refine ms_aload_n dX2_marryAll_3 rfl ?_
    refine ms_getI (z := 1) dX2_marryAll_4 (fo_X2_40 rfl) (by first | rfl | assumption) rfl rfl ?_
    refine mi_icmp_ge (tgt := 84) dX2_marryAll_7 (by decide) (fun c_7 => ?_) (fun c_7 => ?_)
    · exact absurd c_7 (by omega)
    · refine ms_iload_n dX2_marryAll_10 rfl ?_
      refine mi_iconst dX2_marryAll_11 ?_
      refine mi_iadd dX2_marryAll_12 ?_
      refine ms_istore_n dX2_marryAll_13 (by decide) rfl ?_
      dsimp only [List.set, Nat.reduceAdd]
      refine l_X2_maI (S := S) (f := f) (L := L) (n := n) (P := (fun v9 h9 => ∃ N, h9 = (f, mx_SH, N, L, Rf) ∧ v9 = none ∧ (∀ x, x ≠ a → x ≠ a + 2 → x ≠ a + 3 → N x = M x) ∧ (∀ k, k ≠ 4 → k ≠ 5 → N a k = M a k) ∧ scR (sp_tC M t) N a (sp_wed (sp_tC M t) n v) ∧ sp_vok (sp_tC M t) (sp_wed (sp_tC M t) n v))) (PX := fun _ _ => False) hR ht hT ha hn hnn (x := (i : Int)) ⟨by omega, by omega⟩ (u := (itN (fun b v => sp_wedA (sp_tC M t) n b v) i v)) kk (i + 1) N (by omega) (by omega) q1 q2 ?_ ?_ (fun N2 b2 z1 z2 z3 z4 => ?_)
      · rw [in_low (i + 1) (by omega)]; exact hsc
      · rw [in_low (i + 1) (by omega)]; exact hv
      refine mi_iinc dX2_marryAll_78 rfl (by decide) rfl ?_
      dsimp only [List.set, Nat.reduceAdd]
      refine ms_goto (tgt := 2) dX2_marryAll_81 (by decide) ?_
      exact ih (i + 1) N2 _ (by omega) z1 z2 z3 z4

set_option maxHeartbeats 4000000 in
set_option maxRecDepth 100000 in
theorem k_X2_marryAll {S : mx_Sc} {f : Bool} {M : Nat → Int → Int} {L : Nat → Nat → Int64} {Rf : Nat → Nat → Option Nat} (hR : mx_rf Rf) {t : Nat} (ht : t = 29 ∨ t = 37) (hT : sp_tok (sp_tC M t)) {a : Nat} (ha : a = 3 ∨ a = 11 ∨ a = 18) {n : Int} (hn : 0 ≤ n ∧ n ≤ 1200) (hnn : M a 3 = n) {v : Int → Int} (hsc : scR (sp_tC M t) M a v) (hv : sp_vok (sp_tC M t) v) : mx_C S mX2_marryAll [.ref a, .ref t] (f, mx_SH, M, L, Rf) 0 0 (fun v9 h9 => ∃ N, h9 = (f, mx_SH, N, L, Rf) ∧ v9 = none ∧ (∀ x, x ≠ a → x ≠ a + 2 → x ≠ a + 3 → N x = M x) ∧ (∀ k, k ≠ 4 → k ≠ 5 → N a k = M a k) ∧ scR (sp_tC M t) N a (sp_wed (sp_tC M t) n v) ∧ sp_vok (sp_tC M t) (sp_wed (sp_tC M t) n v)) (fun _ _ => False) := by
  refine mx_C_of (by decide) (by simp [Value.category]) (Nat.le_of_ble_eq_true rfl) rfl ?_
  show mx_E S mX2_marryAll 0 [some (.ref a), some (.ref t), none, none] [] (f, mx_SH, M, L, Rf) 0 0 _ _
  have hT0 : 1 ≤ M t 0 ∧ M t 0 ≤ 30 := hT.1
  have hT1 : 0 ≤ M t 1 ∧ M t 1 ≤ 6 := hT.2.1
  have hT2 : 1 ≤ M t 2 ∧ M t 2 ≤ 9 := hT.2.2.1
  have hT3 : 0 ≤ M t 3 ∧ M t 3 ≤ 9 := hT.2.2.2.1
  have hT4 : 0 ≤ M t 4 ∧ M t 4 ≤ 9 := hT.2.2.2.2.1
  have hT5 : 1 ≤ M t 5 ∧ M t 5 ≤ 99 := hT.2.2.2.2.2.1
  have hT6 : 0 ≤ M t 6 ∧ M t 6 ≤ 10 := hT.2.2.2.2.2.2.1
  have hTn : ((M t 1).toNat : Int) = M t 1 := Int.toNat_of_nonneg hT1.1
  have hTn6 : ((M t 6).toNat : Int) = M t 6 := Int.toNat_of_nonneg hT6.1
  refine mi_iconst dX2_marryAll_0 ?_
  refine ms_istore_n dX2_marryAll_1 (by decide) rfl ?_
  dsimp only [List.set, Nat.reduceAdd]
  exact l_X2_maO hR ht hT ha hn hnn (M t 1).toNat 0 M none (by omega) (fun _ _ _ _ => rfl) (fun _ _ _ => rfl) hsc hv

