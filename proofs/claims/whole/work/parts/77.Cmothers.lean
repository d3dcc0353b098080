theorem and_low {x o : Int} (ho : 0 ≤ o ∧ o < 64) (hx : -2147483648 ≤ x ∧ x ≤ 2147483647) (h : iI x &&& iI (-1 - o) = iI 0) : 0 ≤ x ∧ x ≤ o := by
  have hm : iI (-1 - o) = ~~~ (iI o) := fin_of (n := 64) (P := fun o => iI (-1 - o) = ~~~ (iI o)) (by decide +kernel) ho.1 ho.2
  rw [hm] at h
  have h1 : (iI x).toBitVec &&& ~~~ (iI o).toBitVec = 0#32 := by
    have h2 := congrArg Int32.toBitVec h
    exact h2
  have h3 : (iI x).toBitVec = (iI x).toBitVec &&& (iI o).toBitVec := by
    apply BitVec.eq_of_getLsbD_eq
    intro i hi
    have h4 := congrArg (fun b : BitVec 32 => b.getLsbD i) h1
    simp only [BitVec.getLsbD_and, BitVec.getLsbD_not] at h4 ⊢
    have h5 : (0#32).getLsbD i = false := by simp
    rw [h5] at h4
    cases e1 : (iI x).toBitVec.getLsbD i <;> cases e2 : (iI o).toBitVec.getLsbD i <;> simp_all
  have h6 : (iI x).toBitVec.toNat ≤ (iI o).toBitVec.toNat := by
    rw [h3, BitVec.toNat_and]
    exact Nat.and_le_right
  have h7 : (iI o).toBitVec.toNat = o.toNat := fin_of (n := 64) (P := fun o => (iI o).toBitVec.toNat = o.toNat) (by decide +kernel) ho.1 ho.2
  have h8 : (iI x).toInt = x := iI_toInt hx.1 (by omega)
  have h9 : (iI x).toInt = (iI x).toBitVec.toInt := rfl
  rw [BitVec.toInt_eq_toNat_of_lt (by omega)] at h9
  omega
theorem and_low0 : ∀ k : Fin 7, ∀ x : Fin 64, (x.val : Int) < 2 ^ ((k.val : Int)).toNat → odf (x.val : Int) (2 ^ ((k.val : Int)).toNat - 1) = 0 := by decide +kernel
theorem and_low1 {k x : Int} (hk : 0 ≤ k ∧ k < 7) (hx : 0 ≤ x ∧ x < 2 ^ k.toNat) : iI x &&& iI (-1 - (2 ^ k.toNat - 1)) = iI 0 := by
  have ha := al_lt hk
  have h1 := (odf_e (a := x) (b := 2 ^ k.toNat - 1) (by omega) ha).1
  rw [h1, fin_of (n := 7) (P := fun k => x < 2 ^ k.toNat → odf x (2 ^ k.toNat - 1) = 0) (fun i => fin_of (n := 64) (P := fun x => x < 2 ^ ((i.val : Int)).toNat → odf x (2 ^ ((i.val : Int)).toNat - 1) = 0) (fun j => and_low0 i j) (by omega) (by omega)) hk.1 hk.2 hx.2]
def oan (a b : Int) : Int := ((a.toNat &&& b.toNat : Nat) : Int)
theorem oan0 : ∀ a b : Fin 64, iI (a.val : Int) &&& iI (b.val : Int) = iI (oan (a.val : Int) (b.val : Int)) ∧ (0 ≤ oan (a.val : Int) (b.val : Int) ∧ oan (a.val : Int) (b.val : Int) < 64) ∧ (oan (a.val : Int) (b.val : Int) = 0 ↔ ∀ l : Fin 6, ob (a.val : Int) (l.val : Int) = 1 → ob (b.val : Int) (l.val : Int) = 0) := by decide +kernel
theorem oan_e {a b : Int} (ha : 0 ≤ a ∧ a < 64) (hb : 0 ≤ b ∧ b < 64) : iI a &&& iI b = iI (oan a b) ∧ (0 ≤ oan a b ∧ oan a b < 64) ∧ (oan a b = 0 ↔ ∀ l : Fin 6, ob a (l.val : Int) = 1 → ob b (l.val : Int) = 0) := fin_of (n := 64) (P := fun a => iI a &&& iI b = iI (oan a b) ∧ (0 ≤ oan a b ∧ oan a b < 64) ∧ (oan a b = 0 ↔ ∀ l : Fin 6, ob a (l.val : Int) = 1 → ob b (l.val : Int) = 0)) (fun i => fin_of (n := 64) (P := fun b => iI (i.val : Int) &&& iI b = iI (oan (i.val : Int) b) ∧ (0 ≤ oan (i.val : Int) b ∧ oan (i.val : Int) b < 64) ∧ (oan (i.val : Int) b = 0 ↔ ∀ l : Fin 6, ob (i.val : Int) (l.val : Int) = 1 → ob b (l.val : Int) = 0)) (fun j => oan0 i j) hb.1 hb.2) ha.1 ha.2
/-- some lamps, three at most, none of them out -/
def chP (K : Int) (v : Int → Int) (x : Int) : Prop := (0 < x ∧ x < 2 ^ K.toNat) ∧ (∀ l, 0 ≤ l → l < 6 → ob x l = 1 → sp_out v l = false) ∧ (bl x).length ≤ 3
noncomputable def chB (K : Int) (v : Int → Int) (x : Int) : Bool := @decide (chP K v x) (Classical.propDecidable _)
theorem chB_t {K : Int} {v : Int → Int} {x : Int} (h : chP K v x) : chB K v x = true := @decide_eq_true _ (Classical.propDecidable _) h
theorem chB_f {K : Int} {v : Int → Int} {x : Int} (h : ¬ chP K v x) : chB K v x = false := @decide_eq_false _ (Classical.propDecidable _) h
set_option maxHeartbeats 4000000 in
set_option maxRecDepth 100000 in
theorem k_X6_areChildren {S : mx_Sc} {f : Bool} {M : Nat → Int → Int} {L : Nat → Nat → Int64} {Rf : Nat → Nat → Option Nat} (hR : mx_rf Rf) {t : Nat} (ht : t = 29 ∨ t = 37) (hT : sp_tok (sp_tC M t)) (hto : Rf 0 10 = some t) {v : Int → Int} (hsc : scR (sp_tC M t) M 3 v) {x : Int} (hx32 : -2147483648 ≤ x ∧ x ≤ 2147483647) : mx_C S mX6_areChildren [.ref 0, .int (iI x)] (f, mx_SH, M, L, Rf) 0 0 (fun v9 h9 => h9 = (f, mx_SH, M, L, Rf) ∧ v9 = some (.int (iI (bI (chB (M t 1) v x))))) (fun _ _ => False) := by
  refine mx_C_of (by decide) (by simp [Value.category]) (Nat.le_of_ble_eq_true rfl) rfl ?_
  show mx_E S mX6_areChildren 0 [some (.ref 0), some (.int (iI x)), none] [] (f, mx_SH, M, L, Rf) 0 0 _ _
  have ht9 : t < 900 := by omega
  have hs_t := tc_s ht
  have hs_t1 := tc_s1 ht
  have hr_t1 := tc_r1 hR ht
  have hs_t2 := tc_s2 ht
  have hr_t2 := tc_r2 hR ht
  have hs_t3 := tc_s3 ht
  have hr_t3 := tc_r3 hR ht
  have hs_t4 := tc_s4 ht
  have hr_t4 := tc_r4 hR ht
  have hs_t5 := tc_s5 ht
  have hr_t5 := tc_r5 hR ht
  have hs_t6 := tc_s6 ht
  have hr_t6 := tc_r6 hR ht
  have hs_t7 := tc_s7 ht
  have hr_t7 := tc_r7 hR ht
  have hT0 : 1 ≤ M t 0 ∧ M t 0 ≤ 30 := hT.1
  have hT1 : 0 ≤ M t 1 ∧ M t 1 ≤ 6 := hT.2.1
  have hT2 : 1 ≤ M t 2 ∧ M t 2 ≤ 9 := hT.2.2.1
  have hT3 : 0 ≤ M t 3 ∧ M t 3 ≤ 9 := hT.2.2.2.1
  have hT4 : 0 ≤ M t 4 ∧ M t 4 ≤ 9 := hT.2.2.2.2.1
  have hT5 : 1 ≤ M t 5 ∧ M t 5 ≤ 99 := hT.2.2.2.2.2.1
  have hT6 : 0 ≤ M t 6 ∧ M t 6 ≤ 10 := hT.2.2.2.2.2.2.1
  have hTn : ((M t 1).toNat : Int) = M t 1 := Int.toNat_of_nonneg hT1.1
  have hTn6 : ((M t 6).toNat : Int) = M t 6 := Int.toNat_of_nonneg hT6.1
  have hal := al_lt (l := M t 1) (by omega)
  have hob := hsc.2.2.1
  obtain ⟨z, hz, hz32⟩ : ∃ z, iI x &&& iI (-1 - (2 ^ (M t 1).toNat - 1)) = iI z ∧ (-2147483648 ≤ z ∧ z ≤ 2147483647) := ⟨_, (iI_ti _).symm, by have h1 := Int32.le_toInt (iI x &&& iI (-1 - (2 ^ (M t 1).toNat - 1))); have h2 := Int32.toInt_lt (iI x &&& iI (-1 - (2 ^ (M t 1).toNat - 1))); omega⟩
  refine ms_iload_n dX6_areChildren_0 rfl ?_
  refine ms_aload_n dX6_areChildren_1 rfl ?_
  refine ms_callV0 (ci := 6) (r := (RX6, TX6, 15)) dX6_areChildren_2 cv_X6_areChildren_X6_allLamps (k_X6_allLamps hR ht hT hto) rfl rfl (by first | rfl | assumption) (Nat.le_of_ble_eq_true rfl) rfl (fun _ _ z => z.elim) (fun v9 h9 hp9 => ?_)
  obtain ⟨rfl, rfl⟩ := hp9
  refine mi_iconst dX6_areChildren_5 ?_
  refine mi_ixor (-1 - (2 ^ (M t 1).toNat - 1)) dX6_areChildren_6 (oxm hal) ?_
  refine mi_iand (z) dX6_areChildren_7 hz ?_
  refine mi_if_ne (tgt := 30) dX6_areChildren_8 (by decide) (fun c_8 => ?_) (fun c_8 => ?_)
  · refine mi_iconst dX6_areChildren_30 ?_
    refine ms_istore_n dX6_areChildren_31 (by decide) rfl ?_
    dsimp only [List.set, Nat.reduceAdd]
    refine ms_iload_n dX6_areChildren_32 rfl ?_
    refine mi_if_eq (tgt := 52) dX6_areChildren_33 (by decide) (fun c_33 => ?_) (fun c_33 => ?_)
    · refine mi_iconst dX6_areChildren_52 ?_
      refine ms_retZ dX6_areChildren_53 rfl (by first | exact Or.inl rfl | exact Or.inr rfl) ?_ (by simp)
      exact ⟨rfl, by rw [chB_f (fun q => c_8 (by rw [and_low1 (by omega) ⟨by have := q.1.1; omega, q.1.2⟩, iI_eq (by omega)] at hz; omega))]; rfl⟩
    · exact absurd c_33 (by omega)
  · have z0 : z = 0 := c_8
    rw [z0] at hz
    have hx := and_low hal hx32 hz
    have hoan := oan_e (a := x) (b := M 3 4) (by omega) hob
    refine ms_iload_n dX6_areChildren_11 rfl ?_
    refine ms_aload_n dX6_areChildren_12 rfl ?_
    refine ms_getR dX6_areChildren_13 (fo_X6_16 rfl) (by first | rfl | assumption) rfl (by first | assumption | exact rf_0_2 hR ) ?_
    refine ms_getR dX6_areChildren_16 (fo_X6_130 rfl) (by first | rfl | assumption) rfl (by first | assumption | exact rf_2_0 hR | exact rf_10_0 hR ) ?_
    refine ms_getI (z := 4) dX6_areChildren_19 (fo_X6_213 rfl) (by first | rfl | assumption) rfl rfl ?_
    refine mi_iand (oan x (M 3 4)) dX6_areChildren_22 hoan.1 ?_
    refine mi_if_ne (tgt := 30) dX6_areChildren_23 (by decide) (fun c_23 => ?_) (fun c_23 => ?_)
    · refine mi_iconst dX6_areChildren_30 ?_
      refine ms_istore_n dX6_areChildren_31 (by decide) rfl ?_
      dsimp only [List.set, Nat.reduceAdd]
      refine ms_iload_n dX6_areChildren_32 rfl ?_
      refine mi_if_eq (tgt := 52) dX6_areChildren_33 (by decide) (fun c_33 => ?_) (fun c_33 => ?_)
      · refine mi_iconst dX6_areChildren_52 ?_
        refine ms_retZ dX6_areChildren_53 rfl (by first | exact Or.inl rfl | exact Or.inr rfl) ?_ (by simp)
        exact ⟨rfl, by rw [chB_f (fun q => c_23 (hoan.2.2.mpr (fun l hl => by have h1 := hsc.2.2.2.1 (l.val : Int) (by omega) (by omega); rw [q.2.1 (l.val : Int) (by omega) (by omega) hl] at h1; exact h1)))]; rfl⟩
      · exact absurd c_33 (by omega)
    · refine mi_iconst dX6_areChildren_26 ?_
      refine ms_goto (tgt := 31) dX6_areChildren_27 (by decide) ?_
      refine ms_istore_n dX6_areChildren_31 (by decide) rfl ?_
      dsimp only [List.set, Nat.reduceAdd]
      refine ms_iload_n dX6_areChildren_32 rfl ?_
      refine mi_if_eq (tgt := 52) dX6_areChildren_33 (by decide) (fun c_33 => ?_) (fun c_33 => ?_)
      · exact absurd c_33 (by omega)
      · refine ms_iload_n dX6_areChildren_36 rfl ?_
        refine mi_if_eq (tgt := 52) dX6_areChildren_37 (by decide) (fun c_37 => ?_) (fun c_37 => ?_)
        · refine mi_iconst dX6_areChildren_52 ?_
          refine ms_retZ dX6_areChildren_53 rfl (by first | exact Or.inl rfl | exact Or.inr rfl) ?_ (by simp)
          exact ⟨rfl, by rw [chB_f (fun q => by have := q.1.1; omega)]; rfl⟩
        · refine ms_iload_n dX6_areChildren_40 rfl ?_
          refine ms_callS1 dX6_areChildren_41 cv_X6_areChildren_J6_bitCount_0f7a4 (k_bitC (o := x) (by omega)) (Nat.le_of_ble_eq_true rfl) rfl (fun _ _ z => z.elim) (fun v9 h9 hp9 => ?_)
          obtain ⟨rfl, rfl⟩ := hp9
          have hpc := bl_pcn (lm := x) (by omega)
          have hbl6 : (bl x).length ≤ 6 := by unfold bl blp; exact Nat.le_trans (List.length_filter_le _ _) (by decide)
          refine mi_iconst dX6_areChildren_44 ?_
          refine mi_icmp_gt (tgt := 52) dX6_areChildren_45 (by decide) (fun c_45 => ?_) (fun c_45 => ?_)
          · refine mi_iconst dX6_areChildren_52 ?_
            refine ms_retZ dX6_areChildren_53 rfl (by first | exact Or.inl rfl | exact Or.inr rfl) ?_ (by simp)
            exact ⟨rfl, by rw [chB_f (fun q => by have := q.2.2; omega)]; rfl⟩
          · refine mi_iconst dX6_areChildren_48 ?_
            refine ms_goto (tgt := 53) dX6_areChildren_49 (by decide) ?_
            refine ms_retZ dX6_areChildren_53 rfl (by first | exact Or.inl rfl | exact Or.inr rfl) ⟨rfl, by
    rw [chB_t ⟨⟨by omega, by omega⟩, fun l h0 h1 h2 => ?_, by omega⟩]
    · rfl
    · have h3 := hsc.2.2.2.1 l h0 h1
      have h4 := hoan.2.2.mp c_23 ⟨l.toNat, by omega⟩
      rw [show ((l.toNat : Nat) : Int) = l by omega] at h4
      rw [h4 h2] at h3
      cases e : sp_out v l
      · rfl
      · rw [e] at h3
        exact absurd h3 (by decide)⟩ (by simp)

set_option maxHeartbeats 4000000 in
set_option maxRecDepth 100000 in
theorem k_X6_mothers {S : mx_Sc} {f : Bool} {M : Nat → Int → Int} {L : Nat → Nat → Int64} {Rf : Nat → Nat → Option Nat} (hR : mx_rf Rf) {t : Nat} (ht : t = 29 ∨ t = 37) (hT : sp_tok (sp_tC M t)) (hto : Rf 0 10 = some t) {v : Int → Int} (hsc : scR (sp_tC M t) M 3 v) (hv : sp_vok (sp_tC M t) v) {n : Int} (hn : 0 ≤ n ∧ n ≤ 99) (hnn : M 3 3 = n) (hlk : sp_lok (sp_tC M t) (M (t + 3))) (hne : n ≤ M t 5) {x : Int} (hx32 : -2147483648 ≤ x ∧ x ≤ 2147483647) {k : Int} (hk32 : -2147483648 ≤ k ∧ k ≤ 2147483647) (hc : 0 ≤ k ∧ k < 2) (hch : chP (M t 1) v x) : mx_C S mX6_mothers [.ref 0, .int (iI x), .int (iI k)] (f, mx_SH, M, L, Rf) 0 0 (fun v9 h9 => ∃ N Rf2 y, h9 = (f, mx_SH, N, L, Rf2) ∧ mx_rf Rf2 ∧ (∀ y, y ≠ 46 → Rf2 y = Rf y) ∧ (∀ x, x ≠ 46 → x ≠ 25 → x ≠ 26 → x ≠ 27 → x ≠ 28 → x ≠ 18 → x ≠ 19 → x ≠ 20 → x ≠ 21 → x ≠ 47 → N x = M x) ∧ (∀ (w j : Nat), (w : Int) < 7 ^ (bl x).length → j < (bl x).length → N 28 ((w : Int) * 3 + (j : Int)) = vlR (sp_tC M t) (M (t + 3)) n v (fun j => (bl x).getD j 0) (bl x).length w j) ∧ v9 = some (.int (iI y)) ∧ ((k = 0 ∧ y = rsC (N 28) (bl x).length (7 ^ (bl x).length)) ∨ (k = 1 ∧ ((y = -1 ∧ ∀ k : Nat, (k : Int) < 7 ^ (bl x).length → rsB (N 28) (bl x).length (k : Int) = false) ∨ (∃ k : Nat, (k : Int) < 7 ^ (bl x).length ∧ rsB (N 28) (bl x).length (k : Int) = true ∧ (∀ k2 : Nat, k2 < k → rsB (N 28) (bl x).length (k2 : Int) = false) ∧ y = fgR (bl x).length (k : Int) (bl x).length))))) (fun _ _ => False) := by
  refine mx_C_of (by decide) (by simp [Value.category]) (Nat.le_of_ble_eq_true rfl) rfl ?_
  show mx_E S mX6_mothers 0 [some (.ref 0), some (.int (iI x)), some (.int (iI k))] [] (f, mx_SH, M, L, Rf) 0 0 _ _
  have ht9 : t < 900 := by omega
  have hs_t := tc_s ht
  have hs_t1 := tc_s1 ht
  have hr_t1 := tc_r1 hR ht
  have hs_t2 := tc_s2 ht
  have hr_t2 := tc_r2 hR ht
  have hs_t3 := tc_s3 ht
  have hr_t3 := tc_r3 hR ht
  have hs_t4 := tc_s4 ht
  have hr_t4 := tc_r4 hR ht
  have hs_t5 := tc_s5 ht
  have hr_t5 := tc_r5 hR ht
  have hs_t6 := tc_s6 ht
  have hr_t6 := tc_r6 hR ht
  have hs_t7 := tc_s7 ht
  have hr_t7 := tc_r7 hR ht
  have hT0 : 1 ≤ M t 0 ∧ M t 0 ≤ 30 := hT.1
  have hT1 : 0 ≤ M t 1 ∧ M t 1 ≤ 6 := hT.2.1
  have hT2 : 1 ≤ M t 2 ∧ M t 2 ≤ 9 := hT.2.2.1
  have hT3 : 0 ≤ M t 3 ∧ M t 3 ≤ 9 := hT.2.2.2.1
  have hT4 : 0 ≤ M t 4 ∧ M t 4 ≤ 9 := hT.2.2.2.2.1
  have hT5 : 1 ≤ M t 5 ∧ M t 5 ≤ 99 := hT.2.2.2.2.2.1
  have hT6 : 0 ≤ M t 6 ∧ M t 6 ≤ 10 := hT.2.2.2.2.2.2.1
  have hTn : ((M t 1).toNat : Int) = M t 1 := Int.toNat_of_nonneg hT1.1
  have hTn6 : ((M t 6).toNat : Int) = M t 6 := Int.toNat_of_nonneg hT6.1
  have hx64 : 0 ≤ x ∧ x < 64 := by
    have := hch.1
    have := al_lt (l := M t 1) (by omega)
    omega
  have hbk : ∀ k, 0 ≤ k → k < 6 → ob x k = 1 → k < M t 1 := fun k k0 k1 k2 => by
    refine Classical.byContradiction fun q => ?_
    have h1 : (2 : Int) ^ (M t 1).toNat ≤ 2 ^ k.toNat := by
      have := Nat.pow_le_pow_right (n := 2) (by omega) (show (M t 1).toNat ≤ k.toNat by omega)
      exact_mod_cast this
    unfold ob at k2
    rw [Int.ediv_eq_zero_of_lt (by omega) (by have := hch.1.2; omega)] at k2
    exact absurd k2 (by decide)
  refine ms_iload_n dX6_mothers_0 rfl ?_
  refine ms_callS1 dX6_mothers_1 cv_X6_mothers_X6_requireFirstOrSecond (k_X6_requireFS hR hk32 hc) (Nat.le_of_ble_eq_true rfl) rfl (fun _ _ z => z.elim) (fun v9 h9 hp9 => ?_)
  obtain ⟨rfl, rfl⟩ := hp9
  refine ms_aload_n dX6_mothers_4 rfl ?_
  refine ms_iload_n dX6_mothers_5 rfl ?_
  refine ms_callV1 (ci := 6) (r := (RX6, TX6, 15)) dX6_mothers_6 cv_X6_mothers_X6_areChildren (k_X6_areChildren hR ht hT hto hsc (x := x) hx32) rfl rfl (by first | rfl | assumption) (Nat.le_of_ble_eq_true rfl) rfl (fun _ _ z => z.elim) (fun v9 h9 hp9 => ?_)
  obtain ⟨rfl, rfl⟩ := hp9
  rw [chB_t hch]
  refine mi_if_neB (tgt := 20) dX6_mothers_9 (by decide) (fun c_9 => ?_) (fun c_9 => ?_)
  · refine ms_aload_n dX6_mothers_20 rfl ?_
    refine ms_getR dX6_mothers_21 (fo_X6_75 rfl) (by first | rfl | assumption) rfl (by first | assumption | exact rf_0_9 hR ) ?_
    refine ms_aload_n dX6_mothers_24 rfl ?_
    refine ms_getR dX6_mothers_25 (fo_X6_50 rfl) (by first | rfl | assumption) rfl (by first | assumption ) ?_
    refine ms_aload_n dX6_mothers_28 rfl ?_
    refine ms_getR dX6_mothers_29 (fo_X6_50 rfl) (by first | rfl | assumption) rfl (by first | assumption ) ?_
    refine ms_getR dX6_mothers_32 (fo_X6_154 rfl) (by first | rfl | assumption) rfl (by first | assumption | exact rf_29_9 hR | exact rf_37_9 hR ) ?_
    refine mi_iconst dX6_mothers_35 ?_
    refine ms_callV3 (ci := 5) (r := (RX5, TX5, 5)) dX6_mothers_36 cv_X6_mothers_X5_obey (k_X5_obey (hf := false) (ng := false) (wr := t + 3) hR ht hT) rfl rfl (by first | rfl | assumption) (Nat.le_of_ble_eq_true rfl) rfl (fun _ _ z => z.elim) (fun v9 h9 hp9 => ?_)
    obtain ⟨N1, Rf2, rfl, rfl, hR, hRx, hR1, hR12, hNx, hN4, hN3⟩ := hp9
    have hto : Rf2 0 10 = some t := by rw [hRx 0 (by decide)]; exact hto
    have eT1 : sp_tC N1 t = sp_tC M t := tC_fr (fun y _ _ => hNx y (by omega))
    have eN1 : ∀ k, N1 t k = M t k := fun k => by rw [hNx t (by omega)]
    have elk : N1 (t + 3) = M (t + 3) := hNx (t + 3) (by omega)
    refine ms_aload_n dX6_mothers_39 rfl ?_
    refine ms_getR dX6_mothers_40 (fo_X6_43 rfl) (by first | rfl | assumption) rfl (by first | assumption | exact rf_0_8 hR ) ?_
    refine ms_aload_n dX6_mothers_43 rfl ?_
    refine ms_getR dX6_mothers_44 (fo_X6_75 rfl) (by first | rfl | assumption) rfl (by first | assumption | exact rf_0_9 hR ) ?_
    refine ms_aload_n dX6_mothers_47 rfl ?_
    refine ms_getR dX6_mothers_48 (fo_X6_16 rfl) (by first | rfl | assumption) rfl (by first | assumption | exact rf_0_2 hR ) ?_
    refine ms_getR dX6_mothers_51 (fo_X6_130 rfl) (by first | rfl | assumption) rfl (by first | assumption | exact rf_2_0 hR | exact rf_10_0 hR ) ?_
    refine ms_aload_n dX6_mothers_54 rfl ?_
    refine ms_getR dX6_mothers_55 (fo_X6_26 rfl) (by first | rfl | assumption) rfl (by first | assumption | exact rf_0_4 hR ) ?_
    refine ms_iload_n dX6_mothers_58 rfl ?_
    refine ms_callV4 (ci := 0) (r := (RX0, TX0, 5)) dX6_mothers_59 cv_X6_mothers_X0_hear (k_X0_hear (M := N1) (v := v) (n := n) (lm := x) hR ht (by rw [eT1]; exact hT) hR1 hR12 (by rw [eT1, elk]; exact hlk) hN4 (by rw [eN1]; exact hN3) (by rw [eT1]; exact hsc.fr (hNx _ (by decide)) (hNx _ (by decide)) (hNx _ (by decide)) (hNx _ (by decide))) (by rw [eT1]; exact hv) hn (by rw [hNx 3 (by decide)]; exact hnn) (by rw [eN1]; exact hne) hx64 hch.2.2 (fun k k0 k1 k2 => by rw [eN1]; exact hbk k k0 k1 k2)) rfl rfl (by first | rfl | assumption) (Nat.le_of_ble_eq_true rfl) rfl (fun _ _ z => z.elim) (fun v9 h9 hp9 => ?_)
    obtain ⟨N, rfl, rfl, w1, w2, w3, w4, w5⟩ := hp9
    rw [eT1, elk] at w5
    have hwb : ∀ (w : Int) (j : Nat), 0 ≤ w → w < 7 ^ (bl x).length → j < (bl x).length → 0 ≤ N 28 (w * 3 + (j : Int)) ∧ N 28 (w * 3 + (j : Int)) ≤ 1200 := fun w j h0 h1 h2 => by
      have h9 := w5 w.toNat j (by omega) h2
      rw [show ((w.toNat : Nat) : Int) = w by omega] at h9
      rw [h9]
      exact vl_b hT hlk hn hv (fun j2 hj2 => ⟨(bl_at hj2).2.1, hbk _ (bl_at hj2).2.1 (bl_at hj2).2.2 (bl_at hj2).1⟩) h2
    refine ms_iload_n dX6_mothers_62 rfl ?_
    refine mi_if_ne (tgt := 74) dX6_mothers_63 (by decide) (fun c_63 => ?_) (fun c_63 => ?_)
    · refine ms_aload_n dX6_mothers_74 rfl ?_
      refine ms_getR dX6_mothers_75 (fo_X6_43 rfl) (by first | rfl | assumption) rfl (by first | assumption | exact rf_0_8 hR ) ?_
      refine ms_callV0 (ci := 0) (r := (RX0, TX0, 5)) dX6_mothers_78 cv_X6_mothers_X0_firstRest (k_X0_firstRest (M := N) hR hch.2.2 w2 (fun j hj => (w4 j hj).2) hwb w3) rfl rfl (by first | rfl | assumption) (Nat.le_of_ble_eq_true rfl) rfl (fun _ _ z => z.elim) (fun v9 h9 hp9 => ?_)
      obtain ⟨rfl, y, rfl, hy⟩ := hp9
      refine ms_ret dX6_mothers_81 rfl ⟨N, Rf2, y, rfl, hR, hRx, fun x x0 x1 x2 x3 x4 x5 x6 x7 x8 x9 => by rw [w1 x x1 x2 x3 x4 x5 x6 x7 x8 x9, hNx x x0], w5, rfl, Or.inr ⟨by omega, hy⟩⟩ (by simp)
    · refine ms_aload_n dX6_mothers_66 rfl ?_
      refine ms_getR dX6_mothers_67 (fo_X6_43 rfl) (by first | rfl | assumption) rfl (by first | assumption | exact rf_0_8 hR ) ?_
      refine ms_callV0 (ci := 0) (r := (RX0, TX0, 5)) dX6_mothers_70 cv_X6_mothers_X0_countRests (k_X0_countRests (M := N) hR hch.2.2 w2 (fun j hj => (w4 j hj).2) hwb w3) rfl rfl (by first | rfl | assumption) (Nat.le_of_ble_eq_true rfl) rfl (fun _ _ z => z.elim) (fun v9 h9 hp9 => ?_)
      obtain ⟨rfl, rfl⟩ := hp9
      refine ms_ret dX6_mothers_73 rfl ⟨N, Rf2, _, rfl, hR, hRx, fun x x0 x1 x2 x3 x4 x5 x6 x7 x8 x9 => by rw [w1 x x1 x2 x3 x4 x5 x6 x7 x8 x9, hNx x x0], w5, rfl, Or.inl ⟨c_63, rfl⟩⟩ (by simp)
  · exact absurd c_9 (by decide)

set_option maxHeartbeats 4000000 in
set_option maxRecDepth 100000 in
theorem k_X6_mothers_x {S : mx_Sc} {f : Bool} {M : Nat → Int → Int} {L : Nat → Nat → Int64} {Rf : Nat → Nat → Option Nat} (hR : mx_rf Rf) {t : Nat} (ht : t = 29 ∨ t = 37) (hT : sp_tok (sp_tC M t)) (hto : Rf 0 10 = some t) {x : Int} (hx32 : -2147483648 ≤ x ∧ x ≤ 2147483647) {k : Int} (hk32 : -2147483648 ≤ k ∧ k ≤ 2147483647) (hc : ¬ (0 ≤ k ∧ k < 2)) : mx_C S mX6_mothers [.ref 0, .int (iI x), .int (iI k)] (f, mx_SH, M, L, Rf) 1 6 (fun _ _ => False) (fun e9 h9 => e9 = "java/util/NoSuchElementException" ∧ h9 = (false, mx_SH, M, L, Rf)) := by
  refine mx_C_of (by decide) (by simp [Value.category]) (Nat.le_of_ble_eq_true rfl) rfl ?_
  show mx_E S mX6_mothers 0 [some (.ref 0), some (.int (iI x)), some (.int (iI k))] [] (f, mx_SH, M, L, Rf) 1 6 _ _
  have ht9 : t < 900 := by omega
  have hs_t := tc_s ht
  have hs_t1 := tc_s1 ht
  have hr_t1 := tc_r1 hR ht
  have hs_t2 := tc_s2 ht
  have hr_t2 := tc_r2 hR ht
  have hs_t3 := tc_s3 ht
  have hr_t3 := tc_r3 hR ht
  have hs_t4 := tc_s4 ht
  have hr_t4 := tc_r4 hR ht
  have hs_t5 := tc_s5 ht
  have hr_t5 := tc_r5 hR ht
  have hs_t6 := tc_s6 ht
  have hr_t6 := tc_r6 hR ht
  have hs_t7 := tc_s7 ht
  have hr_t7 := tc_r7 hR ht
  have hT0 : 1 ≤ M t 0 ∧ M t 0 ≤ 30 := hT.1
  have hT1 : 0 ≤ M t 1 ∧ M t 1 ≤ 6 := hT.2.1
  have hT2 : 1 ≤ M t 2 ∧ M t 2 ≤ 9 := hT.2.2.1
  have hT3 : 0 ≤ M t 3 ∧ M t 3 ≤ 9 := hT.2.2.2.1
  have hT4 : 0 ≤ M t 4 ∧ M t 4 ≤ 9 := hT.2.2.2.2.1
  have hT5 : 1 ≤ M t 5 ∧ M t 5 ≤ 99 := hT.2.2.2.2.2.1
  have hT6 : 0 ≤ M t 6 ∧ M t 6 ≤ 10 := hT.2.2.2.2.2.2.1
  have hTn : ((M t 1).toNat : Int) = M t 1 := Int.toNat_of_nonneg hT1.1
  have hTn6 : ((M t 6).toNat : Int) = M t 6 := Int.toNat_of_nonneg hT6.1
  by_cases h0 : 0 ≤ k ∧ k < 2
  rotate_left 1
  · refine ms_iload_n dX6_mothers_0 rfl ?_
    refine ms_callSx1 (bc := 0) (bs := 0) dX6_mothers_1 cv_X6_mothers_X6_requireFirstOrSecond (k_X6_requireFS_x hR hk32 h0) rfl rfl (Nat.le_of_ble_eq_true rfl) rfl (fun _ _ z => by first | exact z.elim | exact z) (fun v9 h9 hp9 => ?_)
    skip
    exact hp9.elim
  exact absurd (by exact h0) hc

set_option maxHeartbeats 4000000 in
set_option maxRecDepth 100000 in
theorem k_X6_mothers_y {S : mx_Sc} {f : Bool} {M : Nat → Int → Int} {L : Nat → Nat → Int64} {Rf : Nat → Nat → Option Nat} (hR : mx_rf Rf) {t : Nat} (ht : t = 29 ∨ t = 37) (hT : sp_tok (sp_tC M t)) (hto : Rf 0 10 = some t) {v : Int → Int} (hsc : scR (sp_tC M t) M 3 v) {x : Int} (hx32 : -2147483648 ≤ x ∧ x ≤ 2147483647) {k : Int} (hk32 : -2147483648 ≤ k ∧ k ≤ 2147483647) (hc : 0 ≤ k ∧ k < 2) (hch : ¬ chP (M t 1) v x) : mx_C S mX6_mothers [.ref 0, .int (iI x), .int (iI k)] (f, mx_SH, M, L, Rf) 1 6 (fun _ _ => False) (fun e9 h9 => e9 = "java/lang/IllegalArgumentException" ∧ h9 = (false, mx_SH, M, L, Rf)) := by
  refine mx_C_of (by decide) (by simp [Value.category]) (Nat.le_of_ble_eq_true rfl) rfl ?_
  show mx_E S mX6_mothers 0 [some (.ref 0), some (.int (iI x)), some (.int (iI k))] [] (f, mx_SH, M, L, Rf) 1 6 _ _
  have ht9 : t < 900 := by omega
  have hs_t := tc_s ht
  have hs_t1 := tc_s1 ht
  have hr_t1 := tc_r1 hR ht
  have hs_t2 := tc_s2 ht
  have hr_t2 := tc_r2 hR ht
  have hs_t3 := tc_s3 ht
  have hr_t3 := tc_r3 hR ht
  have hs_t4 := tc_s4 ht
  have hr_t4 := tc_r4 hR ht
  have hs_t5 := tc_s5 ht
  have hr_t5 := tc_r5 hR ht
  have hs_t6 := tc_s6 ht
  have hr_t6 := tc_r6 hR ht
  have hs_t7 := tc_s7 ht
  have hr_t7 := tc_r7 hR ht
  have hT0 : 1 ≤ M t 0 ∧ M t 0 ≤ 30 := hT.1
  have hT1 : 0 ≤ M t 1 ∧ M t 1 ≤ 6 := hT.2.1
  have hT2 : 1 ≤ M t 2 ∧ M t 2 ≤ 9 := hT.2.2.1
  have hT3 : 0 ≤ M t 3 ∧ M t 3 ≤ 9 := hT.2.2.2.1
  have hT4 : 0 ≤ M t 4 ∧ M t 4 ≤ 9 := hT.2.2.2.2.1
  have hT5 : 1 ≤ M t 5 ∧ M t 5 ≤ 99 := hT.2.2.2.2.2.1
  have hT6 : 0 ≤ M t 6 ∧ M t 6 ≤ 10 := hT.2.2.2.2.2.2.1
  have hTn : ((M t 1).toNat : Int) = M t 1 := Int.toNat_of_nonneg hT1.1
  have hTn6 : ((M t 6).toNat : Int) = M t 6 := Int.toNat_of_nonneg hT6.1
  refine ms_iload_n dX6_mothers_0 rfl ?_
  refine ms_callS1 dX6_mothers_1 cv_X6_mothers_X6_requireFirstOrSecond (k_X6_requireFS hR hk32 hc) (Nat.le_of_ble_eq_true rfl) rfl (fun _ _ z => z.elim) (fun v9 h9 hp9 => ?_)
  obtain ⟨rfl, rfl⟩ := hp9
  refine ms_aload_n dX6_mothers_4 rfl ?_
  refine ms_iload_n dX6_mothers_5 rfl ?_
  refine ms_callV1 (ci := 6) (r := (RX6, TX6, 15)) dX6_mothers_6 cv_X6_mothers_X6_areChildren (k_X6_areChildren hR ht hT hto hsc (x := x) hx32) rfl rfl (by first | rfl | assumption) (Nat.le_of_ble_eq_true rfl) rfl (fun _ _ z => z.elim) (fun v9 h9 hp9 => ?_)
  obtain ⟨rfl, rfl⟩ := hp9
  rw [chB_f hch]
  refine mi_if_neB (tgt := 20) dX6_mothers_9 (by decide) (fun c_9 => ?_) (fun c_9 => ?_)
  · exact absurd c_9 (by decide)
  · refine ms_throw th_X6_mothers_I dX6_mothers_12 dX6_mothers_15 dX6_mothers_16 dX6_mothers_19 (Nat.le_of_ble_eq_true rfl) ⟨rfl, rfl⟩

