theorem iu_iu (g : Int → Int) (k x y : Int) : iu (iu g k x) k y = iu g k y := by
  funext j
  simp only [iu]
  split <;> rfl
/-- six lamps' red and green in one long -/
def pkS (g : Int → Int) : Nat → Int64
  | 0 => Int64.ofNat 0
  | k + 1 => ((pkS g k <<< ((iI 10).toInt64 &&& 63)) ||| (iI (g ((k : Int) * 3) * 32)).toInt64) ||| (iI (g ((k : Int) * 3 + 1))).toInt64
theorem pkS_s (g : Int → Int) (k : Nat) : pkS g (k + 1) = ((pkS g k <<< ((iI 10).toInt64 &&& 63)) ||| (iI (g ((k : Int) * 3) * 32)).toInt64) ||| (iI (g ((k : Int) * 3 + 1))).toInt64 := rfl
theorem sh5 {x : Int} (h : 0 ≤ x ∧ x < 32) : iI x <<< (iI 5 &&& 31) = iI (x * 32) := fin_of (n := 32) (P := fun x => iI x <<< (iI 5 &&& 31) = iI (x * 32)) (by decide +kernel) h.1 h.2
set_option maxHeartbeats 4000000 in
set_option maxRecDepth 100000 in
theorem l_X2_pk {S : mx_Sc} {f : Bool} {M : Nat → Int → Int} {L : Nat → Nat → Int64} {Rf : Nat → Nat → Option Nat} (hR : mx_rf Rf) {a : Nat} (ha : a = 3 ∨ a = 11 ∨ a = 18) (hb : ∀ i, 0 ≤ i → i < 18 → 0 ≤ M (a + 1) i ∧ M (a + 1) i < 32) : ∀ (kk : Nat) (i : Nat), (i : Int) + kk = 6 → mx_E S mX2_packColours 4 [some (.ref a), some (.long (pkS (M (a + 1)) i)), none, some (.int (iI (i : Int)))] [] (f, mx_SH, M, L, Rf) 0 0 (fun v9 h9 => h9 = (f, mx_SH, M, L, Rf) ∧ v9 = some (.long (pkS (M (a + 1)) 6))) (fun _ _ => False) := by
  intro kk
  induction kk with
  | zero => 
    intro i g1
    have ha9 : a < 900 := by omega
    have hs_a := sc_s ha
    have hs_a1 := sc_s1 ha
    have hr_a1 := sc_r1 hR ha
    have hs_a2 := sc_s2 ha
    have hr_a2 := sc_r2 hR ha
    have hs_a3 := sc_s3 ha
    have hr_a3 := sc_r3 hR ha
    have ei : i = 6 := by omega
    subst ei
    refine ms_iload_n dX2_packColours_4 rfl ?_
    refine mi_bipush dX2_packColours_5 (by decide) ?_
    refine mi_icmp_ge (tgt := 45) dX2_packColours_7 (by decide) (fun c_7 => ?_) (fun c_7 => ?_)
    · refine ms_lload_n dX2_packColours_45 rfl ?_
      refine ms_retL dX2_packColours_46 rfl ⟨rfl, rfl⟩ (by simp)
    · exact absurd c_7 (by omega)
  | succ kk ih => 
    intro i g1
    have ha9 : a < 900 := by omega
    have hs_a := sc_s ha
    have hs_a1 := sc_s1 ha
    have hr_a1 := sc_r1 hR ha
    have hs_a2 := sc_s2 ha
    have hr_a2 := sc_r2 hR ha
    have hs_a3 := sc_s3 ha
    have hr_a3 := sc_r3 hR ha
    have h1 := hb ((i : Int) * 3) (by omega) (by omega)
    refine ms_iload_n dX2_packColours_4 rfl ?_
    refine mi_bipush dX2_packColours_5 (by decide) ?_
    refine mi_icmp_ge (tgt := 45) dX2_packColours_7 (by decide) (fun c_7 => ?_) (fun c_7 => ?_)
    · exact absurd c_7 (by omega)
    · refine ms_lload_n dX2_packColours_10 rfl ?_
      refine mi_bipush dX2_packColours_11 (by decide) ?_
      refine ms_lshl dX2_packColours_13 ?_
      refine ms_aload_n dX2_packColours_14 rfl ?_
      refine ms_getR dX2_packColours_15 (fo_X2_9 rfl) (by first | rfl | assumption) rfl (by first | assumption | exact rf_3_0 hR | exact rf_11_0 hR | exact rf_18_0 hR ) ?_
      refine ms_iload_n dX2_packColours_18 rfl ?_
      refine mi_iconst dX2_packColours_19 ?_
      refine mi_imul dX2_packColours_20 ?_
      refine ms_iald dX2_packColours_21 (by first | rfl | assumption) ?_
      refine mi_iconst dX2_packColours_22 ?_
      refine mi_ishl (M (a + 1) ((i : Int) * 3) * 32) dX2_packColours_23 (sh5 h1) ?_
      refine ms_i2l dX2_packColours_24 ?_
      refine ms_lor dX2_packColours_25 ?_
      refine ms_aload_n dX2_packColours_26 rfl ?_
      refine ms_getR dX2_packColours_27 (fo_X2_9 rfl) (by first | rfl | assumption) rfl (by first | assumption | exact rf_3_0 hR | exact rf_11_0 hR | exact rf_18_0 hR ) ?_
      refine ms_iload_n dX2_packColours_30 rfl ?_
      refine mi_iconst dX2_packColours_31 ?_
      refine mi_imul dX2_packColours_32 ?_
      refine mi_iconst dX2_packColours_33 ?_
      refine mi_iadd dX2_packColours_34 ?_
      refine ms_iald dX2_packColours_35 (by first | rfl | assumption) ?_
      refine ms_i2l dX2_packColours_36 ?_
      refine ms_lor dX2_packColours_37 ?_
      refine ms_lstore_n dX2_packColours_38 (by decide) rfl ?_
      dsimp only [List.set, Nat.reduceAdd]
      refine mi_iinc dX2_packColours_39 rfl (by decide) rfl ?_
      dsimp only [List.set, Nat.reduceAdd]
      refine ms_goto (tgt := 4) dX2_packColours_42 (by decide) ?_
      have i9 := ih (i + 1) (by omega)
      rw [pkS_s] at i9
      exact i9

set_option maxHeartbeats 4000000 in
set_option maxRecDepth 100000 in
theorem k_X2_packColours {S : mx_Sc} {f : Bool} {M : Nat → Int → Int} {L : Nat → Nat → Int64} {Rf : Nat → Nat → Option Nat} (hR : mx_rf Rf) {a : Nat} (ha : a = 3 ∨ a = 11 ∨ a = 18) (hb : ∀ i, 0 ≤ i → i < 18 → 0 ≤ M (a + 1) i ∧ M (a + 1) i < 32) : mx_C S mX2_packColours [.ref a] (f, mx_SH, M, L, Rf) 0 0 (fun v9 h9 => h9 = (f, mx_SH, M, L, Rf) ∧ v9 = some (.long (pkS (M (a + 1)) 6))) (fun _ _ => False) := by
  refine mx_C_of (by decide) (by simp [Value.category]) (Nat.le_of_ble_eq_true rfl) rfl ?_
  show mx_E S mX2_packColours 0 [some (.ref a), none, none, none] [] (f, mx_SH, M, L, Rf) 0 0 _ _
  refine ms_lconst dX2_packColours_0 rfl ?_
  refine ms_lstore_n dX2_packColours_1 (by decide) rfl ?_
  dsimp only [List.set, Nat.reduceAdd]
  refine mi_iconst dX2_packColours_2 ?_
  refine ms_istore_n dX2_packColours_3 (by decide) rfl ?_
  dsimp only [List.set, Nat.reduceAdd]
  exact l_X2_pk hR ha hb 6 0 (by omega)

/-- what a seed tells -/
def sd32 (x : Int32) : Int32 := (x.toUInt32 >>> ((iI 16).toUInt32 &&& Int32.toUInt32 31)).toInt32
def sp_sd (s : Int) : Int := (sd32 (iI s) &&& iI 32767).toInt
theorem c1103 : (1103515245 : Int32) = iI 1103515245 := by decide
theorem iI_ti (x : Int32) : iI x.toInt = x := Int32.ofInt_toInt x
theorem sd_b (x : Int32) : 0 ≤ (x &&& iI 32767).toInt ∧ (x &&& iI 32767).toInt < 32768 := by
  have h1 : (x &&& iI 32767).toInt = (x.toBitVec &&& (32767#32)).toInt := rfl
  have h2 : (x.toBitVec &&& (32767#32)).toNat ≤ 32767 := by
    rw [BitVec.toNat_and]
    exact Nat.and_le_right
  rw [h1, BitVec.toInt_eq_toNat_of_lt (by omega)]
  omega
def sp_can (t : sp_T) (k : Int) : Bool := decide (t.2.1 k ≠ 4 ∧ 0 < sp_ac t k (t.1 1).toNat)
def sp_ds (t : sp_T) (s : Int) : Nat → Int
  | 0 => s
  | k + 1 => if sp_can t k = true then sp_ds t s k * 1103515245 + 12345 else sp_ds t s k
def sp_dl (t : sp_T) (s : Int) (k : Int) : Int := if sp_can t k = true then sp_nth t k (sp_sd (sp_ds t s (k.toNat + 1)) % sp_ac t k (t.1 1).toNat) (t.1 1).toNat else -1
set_option maxHeartbeats 4000000 in
set_option maxRecDepth 100000 in
theorem l_X6_dr {S : mx_Sc} {f : Bool} {M : Nat → Int → Int} {L : Nat → Nat → Int64} {Rf : Nat → Nat → Option Nat} (hR : mx_rf Rf) {t : Nat} (ht : t = 29 ∨ t = 37) (hT : sp_tok (sp_tC M t)) (hto : Rf 0 10 = some t) {s : Int} : ∀ (kk : Nat) (i : Nat) (N : Nat → Int → Int) (o4 : Option Value), (i : Int) + kk = M t 1 → (∀ x, x ≠ 23 → N x = M x) → (∀ k : Int, 0 ≤ k → k < i → N 23 k = sp_dl (sp_tC M t) s k) → mx_E S mX6_drawLikes 4 [some (.ref 0), some (.int (iI s)), some (.int (iI (sp_ds (sp_tC M t) s i))), some (.int (iI (i : Int))), o4] [] (f, mx_SH, N, L, Rf) 0 0 (fun v9 h9 => ∃ g, h9 = (f, mx_SH, va_up M 23 g, L, Rf) ∧ v9 = some (.int (iI (sp_ds (sp_tC M t) s (M t 1).toNat))) ∧ ∀ k, 0 ≤ k → k < M t 1 → g k = sp_dl (sp_tC M t) s k) (fun _ _ => False) := by
  intro kk
  induction kk with
  | zero => 
    intro i N o4 g1 q1 q2
    have ht9 : t < 900 := by omega
    have hs_t := tc_s ht
    have hs_t1 := tc_s1 ht
    have hr_t1 := tc_r1 hR ht
    have hs_t2 := tc_s2 ht
    have hr_t2 := tc_r2 hR ht
    have hs_t3 := tc_s3 ht
    have hr_t3 := tc_r3 hR ht
    have hs_t4 := tc_s4 ht
    have hr_t4 := tc_r4 hR ht
    have hs_t5 := tc_s5 ht
    have hr_t5 := tc_r5 hR ht
    have hs_t6 := tc_s6 ht
    have hr_t6 := tc_r6 hR ht
    have hs_t7 := tc_s7 ht
    have hr_t7 := tc_r7 hR ht
    have hT0 : 1 ≤ M t 0 ∧ M t 0 ≤ 30 := hT.1
    have hT1 : 0 ≤ M t 1 ∧ M t 1 ≤ 6 := hT.2.1
    have hT2 : 1 ≤ M t 2 ∧ M t 2 ≤ 9 := hT.2.2.1
    have hT3 : 0 ≤ M t 3 ∧ M t 3 ≤ 9 := hT.2.2.2.1
    have hT4 : 0 ≤ M t 4 ∧ M t 4 ≤ 9 := hT.2.2.2.2.1
    have hT5 : 1 ≤ M t 5 ∧ M t 5 ≤ 99 := hT.2.2.2.2.2.1
    have hT6 : 0 ≤ M t 6 ∧ M t 6 ≤ 10 := hT.2.2.2.2.2.2.1
    have hTn : ((M t 1).toNat : Int) = M t 1 := Int.toNat_of_nonneg hT1.1
    have hTn6 : ((M t 6).toNat : Int) = M t 6 := Int.toNat_of_nonneg hT6.1
    have eN1 : N t 1 = M t 1 := by rw [q1 t (by omega)]
    refine ms_iload_n dX6_drawLikes_4 rfl ?_
    refine ms_aload_n dX6_drawLikes_5 rfl ?_
    refine ms_getR dX6_drawLikes_6 (fo_X6_50 rfl) (by first | rfl | assumption) rfl (by first | assumption ) ?_
    refine ms_getI (z := 1) dX6_drawLikes_9 (fo_X6_112 rfl) (by first | rfl | assumption) rfl rfl ?_
    refine mi_icmp_ge (tgt := 91) dX6_drawLikes_12 (by decide) (fun c_12 => ?_) (fun c_12 => ?_)
    · refine ms_iload_n dX6_drawLikes_91 rfl ?_
      refine ms_ret dX6_drawLikes_92 rfl ⟨N 23, by rw [show N = va_up M 23 (N 23) from up_ext (fun x hx => q1 x hx) rfl]; simp [va_up], by rw [show (M t 1).toNat = i by omega], fun k k0 k1 => q2 k k0 (by omega)⟩ (by simp)
    · exact absurd c_12 (by omega)
  | succ kk ih => 
    intro i N o4 g1 q1 q2
    have ht9 : t < 900 := by omega
    have hs_t := tc_s ht
    have hs_t1 := tc_s1 ht
    have hr_t1 := tc_r1 hR ht
    have hs_t2 := tc_s2 ht
    have hr_t2 := tc_r2 hR ht
    have hs_t3 := tc_s3 ht
    have hr_t3 := tc_r3 hR ht
    have hs_t4 := tc_s4 ht
    have hr_t4 := tc_r4 hR ht
    have hs_t5 := tc_s5 ht
    have hr_t5 := tc_r5 hR ht
    have hs_t6 := tc_s6 ht
    have hr_t6 := tc_r6 hR ht
    have hs_t7 := tc_s7 ht
    have hr_t7 := tc_r7 hR ht
    have hT0 : 1 ≤ M t 0 ∧ M t 0 ≤ 30 := hT.1
    have hT1 : 0 ≤ M t 1 ∧ M t 1 ≤ 6 := hT.2.1
    have hT2 : 1 ≤ M t 2 ∧ M t 2 ≤ 9 := hT.2.2.1
    have hT3 : 0 ≤ M t 3 ∧ M t 3 ≤ 9 := hT.2.2.2.1
    have hT4 : 0 ≤ M t 4 ∧ M t 4 ≤ 9 := hT.2.2.2.2.1
    have hT5 : 1 ≤ M t 5 ∧ M t 5 ≤ 99 := hT.2.2.2.2.2.1
    have hT6 : 0 ≤ M t 6 ∧ M t 6 ≤ 10 := hT.2.2.2.2.2.2.1
    have hTn : ((M t 1).toNat : Int) = M t 1 := Int.toNat_of_nonneg hT1.1
    have hTn6 : ((M t 6).toNat : Int) = M t 6 := Int.toNat_of_nonneg hT6.1
    have eN1 : N t 1 = M t 1 := by rw [q1 t (by omega)]
    have eT : sp_tC N t = sp_tC M t := tC_fr (fun y _ _ => q1 y (by omega))
    have eK : N (t + 1) (i : Int) = M (t + 1) (i : Int) := by rw [q1 (t + 1) (by omega)]
    have hki : 0 ≤ M (t + 1) (i : Int) ∧ M (t + 1) (i : Int) ≤ 4 := (hT.2.2.2.2.2.2.2.1 (i : Int) (by omega) (by show (i : Int) < M t 1; omega)).1
    have hac := sp_ac_le (sp_tC M t) i (M t 1).toNat
    have hsd := sd_b (sd32 (iI (sp_ds (sp_tC M t) s i * 1103515245 + 12345)))
    have hsd2 : 0 ≤ sp_sd (sp_ds (sp_tC M t) s i * 1103515245 + 12345) ∧ sp_sd (sp_ds (sp_tC M t) s i * 1103515245 + 12345) < 32768 := hsd
    refine ms_iload_n dX6_drawLikes_4 rfl ?_
    refine ms_aload_n dX6_drawLikes_5 rfl ?_
    refine ms_getR dX6_drawLikes_6 (fo_X6_50 rfl) (by first | rfl | assumption) rfl (by first | assumption ) ?_
    refine ms_getI (z := 1) dX6_drawLikes_9 (fo_X6_112 rfl) (by first | rfl | assumption) rfl rfl ?_
    refine mi_icmp_ge (tgt := 91) dX6_drawLikes_12 (by decide) (fun c_12 => ?_) (fun c_12 => ?_)
    · exact absurd c_12 (by omega)
    · refine ms_aload_n dX6_drawLikes_15 rfl ?_
      refine ms_getR dX6_drawLikes_16 (fo_X6_50 rfl) (by first | rfl | assumption) rfl (by first | assumption ) ?_
      refine ms_iload_n dX6_drawLikes_19 rfl ?_
      refine ms_callV1 (ci := 4) (r := (RX4, TX4, 14)) dX6_drawLikes_20 cv_X6_drawLikes_X4_countAcross (k_X4_countAcross (M := N) hR ht (by rw [eT]; exact hT) (l := (i : Int)) (by omega)) rfl rfl (by first | rfl | assumption) (Nat.le_of_ble_eq_true rfl) rfl (fun _ _ z => z.elim) (fun v9 h9 hp9 => ?_)
      obtain ⟨rfl, rfl⟩ := hp9
      rw [eT, eN1]
      refine ms_istore dX6_drawLikes_23 (by decide) rfl ?_
      dsimp only [List.set, Nat.reduceAdd]
      refine ms_aload_n dX6_drawLikes_25 rfl ?_
      refine ms_getR dX6_drawLikes_26 (fo_X6_34 rfl) (by first | rfl | assumption) rfl (by first | assumption | exact rf_0_6 hR ) ?_
      refine ms_iload_n dX6_drawLikes_29 rfl ?_
      refine mi_iconst dX6_drawLikes_30 ?_
      refine ms_iast dX6_drawLikes_31 (by first | rfl | assumption) ?_
      refine ms_aload_n dX6_drawLikes_32 rfl ?_
      refine ms_getR dX6_drawLikes_33 (fo_X6_50 rfl) (by first | rfl | assumption) rfl (by first | assumption ) ?_
      refine ms_getR dX6_drawLikes_36 (fo_X6_145 rfl) (by first | rfl | assumption) rfl (by first | assumption | exact rf_29_7 hR | exact rf_37_7 hR ) ?_
      refine ms_iload_n dX6_drawLikes_39 rfl ?_
      refine ms_iald dX6_drawLikes_40 (by first | rfl | assumption) ?_
      refine mi_iconst dX6_drawLikes_41 ?_
      rw [show va_up N 23 (iu (N 23) (i : Int) (-1)) (t + 1) (i : Int) = M (t + 1) (i : Int) by rw [up_n _ _ (by omega)]; exact eK]
      refine mi_icmp_eq (tgt := 85) dX6_drawLikes_42 (by decide) (fun c_42 => ?_) (fun c_42 => ?_)
      · refine mi_iinc dX6_drawLikes_85 rfl (by decide) rfl ?_
        dsimp only [List.set, Nat.reduceAdd]
        refine ms_goto (tgt := 4) dX6_drawLikes_88 (by decide) ?_
        have hcn : sp_can (sp_tC M t) i = false := decide_eq_false (by rintro ⟨z, _⟩; exact z c_42)
        have hds : sp_ds (sp_tC M t) s (i + 1) = sp_ds (sp_tC M t) s i := if_neg (by rw [hcn]; decide)
        have i9 := ih (i + 1) (va_up N 23 (iu (N 23) (i : Int) (-1))) (some (.int (iI (sp_ac (sp_tC M t) i (M t 1).toNat)))) (by omega) (fun x hx => by rw [up_n _ _ hx]; exact q1 x hx) (fun k k0 k1 => ?_)
        · rw [hds] at i9
          exact i9
        · rw [up_s]
          by_cases e : k = i
          · subst e
            rw [iu_s]
            unfold sp_dl
            rw [if_neg (by rw [hcn]; decide)]
          · rw [iu_n _ _ e]
            exact q2 k k0 (by omega)
      · refine ms_iload dX6_drawLikes_45 rfl ?_
        refine mi_if_le (tgt := 85) dX6_drawLikes_47 (by decide) (fun c_47 => ?_) (fun c_47 => ?_)
        · refine mi_iinc dX6_drawLikes_85 rfl (by decide) rfl ?_
          dsimp only [List.set, Nat.reduceAdd]
          refine ms_goto (tgt := 4) dX6_drawLikes_88 (by decide) ?_
          have hcn : sp_can (sp_tC M t) i = false := decide_eq_false (by rintro ⟨_, z⟩; simp only at z; omega)
          have hds : sp_ds (sp_tC M t) s (i + 1) = sp_ds (sp_tC M t) s i := if_neg (by rw [hcn]; decide)
          have i9 := ih (i + 1) (va_up N 23 (iu (N 23) (i : Int) (-1))) (some (.int (iI (sp_ac (sp_tC M t) i (M t 1).toNat)))) (by omega) (fun x hx => by rw [up_n _ _ hx]; exact q1 x hx) (fun k k0 k1 => ?_)
          · rw [hds] at i9
            exact i9
          · rw [up_s]
            by_cases e : k = i
            · subst e
              rw [iu_s]
              unfold sp_dl
              rw [if_neg (by rw [hcn]; decide)]
            · rw [iu_n _ _ e]
              exact q2 k k0 (by omega)
        · refine ms_iload_n dX6_drawLikes_50 rfl ?_
          refine ms_ldcw dX6_drawLikes_51 lc_X6_drawLikes_296 ?_
          rw [c1103]
          refine mi_imul dX6_drawLikes_54 ?_
          refine mi_sipush dX6_drawLikes_55 (by decide) ?_
          refine mi_iadd dX6_drawLikes_58 ?_
          refine ms_istore_n dX6_drawLikes_59 (by decide) rfl ?_
          dsimp only [List.set, Nat.reduceAdd]
          refine ms_aload_n dX6_drawLikes_60 rfl ?_
          refine ms_getR dX6_drawLikes_61 (fo_X6_34 rfl) (by first | rfl | assumption) rfl (by first | assumption | exact rf_0_6 hR ) ?_
          refine ms_iload_n dX6_drawLikes_64 rfl ?_
          refine ms_aload_n dX6_drawLikes_65 rfl ?_
          refine ms_getR dX6_drawLikes_66 (fo_X6_50 rfl) (by first | rfl | assumption) rfl (by first | assumption ) ?_
          refine ms_iload_n dX6_drawLikes_69 rfl ?_
          refine ms_iload_n dX6_drawLikes_70 rfl ?_
          refine mi_bipush dX6_drawLikes_71 (by decide) ?_
          refine mi_iushr ((sd32 (iI (sp_ds (sp_tC M t) s i * 1103515245 + 12345))).toInt) dX6_drawLikes_73 (iI_ti _).symm ?_
          refine mi_sipush dX6_drawLikes_74 (by decide) ?_
          refine mi_iand (sp_sd (sp_ds (sp_tC M t) s i * 1103515245 + 12345)) dX6_drawLikes_77 (by rw [iI_ti]; exact (iI_ti _).symm) ?_
          refine ms_iload dX6_drawLikes_78 rfl ?_
          refine mi_irem dX6_drawLikes_80 ?_
          refine ms_callV2 (ci := 4) (r := (RX4, TX4, 14)) dX6_drawLikes_81 cv_X6_drawLikes_X4_findAcross (k_X4_findAcross (M := va_up N 23 (iu (N 23) (i : Int) (-1))) hR ht (by rw [show sp_tC (va_up N 23 (iu (N 23) (i : Int) (-1))) t = sp_tC M t from by rw [← eT]; exact tC_fr (fun y _ _ => up_n _ _ (by omega))]; exact hT) (l := (i : Int)) (by rw [up_n _ _ (by omega)]; omega) (j := sp_sd (sp_ds (sp_tC M t) s i * 1103515245 + 12345) % sp_ac (sp_tC M t) i (M t 1).toNat) (by have := Int.emod_nonneg (sp_sd (sp_ds (sp_tC M t) s i * 1103515245 + 12345)) (show sp_ac (sp_tC M t) i (M t 1).toNat ≠ 0 by omega); have := Int.emod_lt_of_pos (sp_sd (sp_ds (sp_tC M t) s i * 1103515245 + 12345)) (show 0 < sp_ac (sp_tC M t) i (M t 1).toNat by omega); omega)) rfl rfl (by first | rfl | assumption) (Nat.le_of_ble_eq_true rfl) rfl (fun _ _ z => z.elim) (fun v9 h9 hp9 => ?_)
          obtain ⟨rfl, rfl⟩ := hp9
          rw [show sp_tC (va_up N 23 (iu (N 23) (i : Int) (-1))) t = sp_tC M t from by rw [← eT]; exact tC_fr (fun y _ _ => up_n _ _ (by omega)), show va_up N 23 (iu (N 23) (i : Int) (-1)) t 1 = M t 1 by rw [up_n _ _ (by omega)]; exact eN1]
          refine ms_iast dX6_drawLikes_84 (by first | rfl | assumption) ?_
          refine mi_iinc dX6_drawLikes_85 rfl (by decide) rfl ?_
          dsimp only [List.set, Nat.reduceAdd]
          refine ms_goto (tgt := 4) dX6_drawLikes_88 (by decide) ?_
          have hcn : sp_can (sp_tC M t) i = true := decide_eq_true ⟨c_42, by simp only; omega⟩
          have hds : sp_ds (sp_tC M t) s (i + 1) = sp_ds (sp_tC M t) s i * 1103515245 + 12345 := if_pos hcn
          have i9 := ih (i + 1) (va_up N 23 (iu (N 23) (i : Int) (sp_nth (sp_tC M t) i (sp_sd (sp_ds (sp_tC M t) s i * 1103515245 + 12345) % sp_ac (sp_tC M t) i (M t 1).toNat) (M t 1).toNat))) (some (.int (iI (sp_ac (sp_tC M t) i (M t 1).toNat)))) (by omega) (fun x hx => by rw [up_n _ _ hx]; exact q1 x hx) (fun k k0 k1 => ?_)
          · rw [hds] at i9
            rw [bx_uu, up_s, iu_iu]
            exact i9
          · rw [up_s]
            by_cases e : k = i
            · subst e
              rw [iu_s]
              unfold sp_dl
              rw [if_pos hcn, show ((i : Int)).toNat = i by omega, hds]
            · rw [iu_n _ _ e]
              exact q2 k k0 (by omega)

set_option maxHeartbeats 4000000 in
set_option maxRecDepth 100000 in
theorem k_X6_drawLikes {S : mx_Sc} {f : Bool} {M : Nat → Int → Int} {L : Nat → Nat → Int64} {Rf : Nat → Nat → Option Nat} (hR : mx_rf Rf) {t : Nat} (ht : t = 29 ∨ t = 37) (hT : sp_tok (sp_tC M t)) (hto : Rf 0 10 = some t) {s : Int} : mx_C S mX6_drawLikes [.ref 0, .int (iI s)] (f, mx_SH, M, L, Rf) 0 0 (fun v9 h9 => ∃ g, h9 = (f, mx_SH, va_up M 23 g, L, Rf) ∧ v9 = some (.int (iI (sp_ds (sp_tC M t) s (M t 1).toNat))) ∧ ∀ k, 0 ≤ k → k < M t 1 → g k = sp_dl (sp_tC M t) s k) (fun _ _ => False) := by
  refine mx_C_of (by decide) (by simp [Value.category]) (Nat.le_of_ble_eq_true rfl) rfl ?_
  show mx_E S mX6_drawLikes 0 [some (.ref 0), some (.int (iI s)), none, none, none] [] (f, mx_SH, M, L, Rf) 0 0 _ _
  have ht9 : t < 900 := by omega
  have hs_t := tc_s ht
  have hs_t1 := tc_s1 ht
  have hr_t1 := tc_r1 hR ht
  have hs_t2 := tc_s2 ht
  have hr_t2 := tc_r2 hR ht
  have hs_t3 := tc_s3 ht
  have hr_t3 := tc_r3 hR ht
  have hs_t4 := tc_s4 ht
  have hr_t4 := tc_r4 hR ht
  have hs_t5 := tc_s5 ht
  have hr_t5 := tc_r5 hR ht
  have hs_t6 := tc_s6 ht
  have hr_t6 := tc_r6 hR ht
  have hs_t7 := tc_s7 ht
  have hr_t7 := tc_r7 hR ht
  have hT0 : 1 ≤ M t 0 ∧ M t 0 ≤ 30 := hT.1
  have hT1 : 0 ≤ M t 1 ∧ M t 1 ≤ 6 := hT.2.1
  have hT2 : 1 ≤ M t 2 ∧ M t 2 ≤ 9 := hT.2.2.1
  have hT3 : 0 ≤ M t 3 ∧ M t 3 ≤ 9 := hT.2.2.2.1
  have hT4 : 0 ≤ M t 4 ∧ M t 4 ≤ 9 := hT.2.2.2.2.1
  have hT5 : 1 ≤ M t 5 ∧ M t 5 ≤ 99 := hT.2.2.2.2.2.1
  have hT6 : 0 ≤ M t 6 ∧ M t 6 ≤ 10 := hT.2.2.2.2.2.2.1
  have hTn : ((M t 1).toNat : Int) = M t 1 := Int.toNat_of_nonneg hT1.1
  have hTn6 : ((M t 6).toNat : Int) = M t 6 := Int.toNat_of_nonneg hT6.1
  refine ms_iload_n dX6_drawLikes_0 rfl ?_
  refine ms_istore_n dX6_drawLikes_1 (by decide) rfl ?_
  dsimp only [List.set, Nat.reduceAdd]
  refine mi_iconst dX6_drawLikes_2 ?_
  refine ms_istore_n dX6_drawLikes_3 (by decide) rfl ?_
  dsimp only [List.set, Nat.reduceAdd]
  exact l_X6_dr hR ht hT hto (M t 1).toNat 0 M none (by omega) (fun _ _ => rfl) (fun k k0 k1 => by omega)

