/-- a bit of a small number -/
def ob (o l : Int) : Int := o / 2 ^ l.toNat % 2
theorem ob_01 (o l : Int) : ob o l = 0 ∨ ob o l = 1 := by
  unfold ob
  omega
theorem fin_of {P : Int → Prop} {n : Nat} (h : ∀ i : Fin n, P (i.val : Int)) {z : Int} (h0 : 0 ≤ z) (h1 : z < n) : P z := by
  obtain ⟨k, rfl⟩ := Int.eq_ofNat_of_zero_le h0
  exact h ⟨k, by omega⟩
theorem ob_ush0 : ∀ o : Fin 64, ∀ l : Fin 6, ((iI (o.val : Int)).toUInt32 >>> ((iI (l.val : Int)).toUInt32 &&& Int32.toUInt32 31)).toInt32 = iI ((o.val : Int) / 2 ^ ((l.val : Int)).toNat) := by decide +kernel
theorem ob_ush {o l : Int} (h : 0 ≤ o ∧ o < 64) (h2 : 0 ≤ l ∧ l < 6) : ((iI o).toUInt32 >>> ((iI l).toUInt32 &&& Int32.toUInt32 31)).toInt32 = iI (o / 2 ^ l.toNat) := fin_of (n := 64) (P := fun o => ((iI o).toUInt32 >>> ((iI l).toUInt32 &&& Int32.toUInt32 31)).toInt32 = iI (o / 2 ^ l.toNat)) (fun i => fin_of (n := 6) (P := fun l => ((iI (i.val : Int)).toUInt32 >>> ((iI l).toUInt32 &&& Int32.toUInt32 31)).toInt32 = iI ((i.val : Int) / 2 ^ l.toNat)) (fun j => ob_ush0 i j) h2.1 h2.2) h.1 h.2
theorem ob_and10 : ∀ o : Fin 64, iI (o.val : Int) &&& iI 1 = iI ((o.val : Int) % 2) := by decide +kernel
theorem ob_and1 {o : Int} (h : 0 ≤ o ∧ o < 64) : iI o &&& iI 1 = iI (o % 2) := fin_of (n := 64) (P := fun o => iI o &&& iI 1 = iI (o % 2)) ob_and10 h.1 h.2
theorem ob_le {o l : Int} (h : 0 ≤ o ∧ o < 64) : 0 ≤ o / 2 ^ l.toNat ∧ o / 2 ^ l.toNat < 64 := by
  have h1 : (0 : Int) < 2 ^ l.toNat := Int.pow_pos (by omega)
  exact ⟨Int.ediv_nonneg h.1 (by omega), Int.lt_of_le_of_lt (Int.ediv_le_self _ h.1) h.2⟩

abbrev sp_tC (M : Nat → Int → Int) (t : Nat) : sp_T := (M t, M (t + 1), M (t + 2), M (t + 5), M (t + 6), M (t + 7))
/-- the scene at a holds the row v -/
def scR (t : sp_T) (M : Nat → Int → Int) (a : Nat) (v : Int → Int) : Prop := (∀ i, 0 ≤ i → i < 3 * t.1 1 → M (a + 1) i = v i) ∧ (∀ l, 0 ≤ l → l < 6 → M (a + 2) l = v (18 + l) ∧ M (a + 3) l = v (24 + l)) ∧ (0 ≤ M a 4 ∧ M a 4 < 64) ∧ (∀ l, 0 ≤ l → l < 6 → ob (M a 4) l = bI (sp_out v l)) ∧ M a 5 = sp_cnt t v / 2
theorem scR.far {t : sp_T} {M : Nat → Int → Int} {a : Nat} {v : Int → Int} (h : scR t M a v) {x y : Int} (hx : 0 ≤ x ∧ x < t.1 1) (hy : 0 ≤ y ∧ y < t.1 1) : sp_far (M (a + 1)) x y = sp_far v x y := by
  unfold sp_far
  rw [h.1 (3 * x) (by omega) (by omega), h.1 (3 * x + 1) (by omega) (by omega), h.1 (3 * x + 2) (by omega) (by omega), h.1 (3 * y) (by omega) (by omega), h.1 (3 * y + 1) (by omega) (by omega), h.1 (3 * y + 2) (by omega) (by omega)]
theorem scR.b {t : sp_T} (hT : sp_tok t) {M : Nat → Int → Int} {a : Nat} {v : Int → Int} (h : scR t M a v) (hv : sp_vok t v) {x : Int} (hx : 0 ≤ x ∧ x < t.1 1) {o : Int} (h0 : 0 ≤ o) (h1 : o < 3) : 0 ≤ M (a + 1) (x * 3 + o) ∧ M (a + 1) (x * 3 + o) ≤ 1000 := by
  have h2 := hT.1
  rw [h.1 _ (by omega) (by omega), show x * 3 + o = 3 * x + o by omega]
  have h3 := hv.s hx.1 hx.2
  unfold s3 at h3
  simp only at h3
  rcases (show o = 0 ∨ o = 1 ∨ o = 2 by omega) with rfl | rfl | rfl <;> omega
theorem tc_s {t : Nat} (h : t = 29 ∨ t = 37) : mx_SH[t]? = some (7, 14) := by rcases h with rfl | rfl <;> rfl
theorem tc_s1 {t : Nat} (h : t = 29 ∨ t = 37) : mx_SH[t + 1]? = some (0, 6) := by rcases h with rfl | rfl <;> rfl
theorem tc_r1 {t : Nat} {Rf : Nat → Nat → Option Nat} (hR : mx_rf Rf) (h : t = 29 ∨ t = 37) : Rf t 7 = some (t + 1) := by
  rcases h with rfl | rfl
  · exact rf_29_7 hR
  · exact rf_37_7 hR
theorem tc_s2 {t : Nat} (h : t = 29 ∨ t = 37) : mx_SH[t + 2]? = some (0, 6) := by rcases h with rfl | rfl <;> rfl
theorem tc_r2 {t : Nat} {Rf : Nat → Nat → Option Nat} (hR : mx_rf Rf) (h : t = 29 ∨ t = 37) : Rf t 8 = some (t + 2) := by
  rcases h with rfl | rfl
  · exact rf_29_8 hR
  · exact rf_37_8 hR
theorem tc_s3 {t : Nat} (h : t = 29 ∨ t = 37) : mx_SH[t + 3]? = some (0, 6) := by rcases h with rfl | rfl <;> rfl
theorem tc_r3 {t : Nat} {Rf : Nat → Nat → Option Nat} (hR : mx_rf Rf) (h : t = 29 ∨ t = 37) : Rf t 9 = some (t + 3) := by
  rcases h with rfl | rfl
  · exact rf_29_9 hR
  · exact rf_37_9 hR
theorem tc_s4 {t : Nat} (h : t = 29 ∨ t = 37) : mx_SH[t + 4]? = some (0, 18) := by rcases h with rfl | rfl <;> rfl
theorem tc_r4 {t : Nat} {Rf : Nat → Nat → Option Nat} (hR : mx_rf Rf) (h : t = 29 ∨ t = 37) : Rf t 10 = some (t + 4) := by
  rcases h with rfl | rfl
  · exact rf_29_10 hR
  · exact rf_37_10 hR
theorem tc_s5 {t : Nat} (h : t = 29 ∨ t = 37) : mx_SH[t + 5]? = some (0, 10) := by rcases h with rfl | rfl <;> rfl
theorem tc_r5 {t : Nat} {Rf : Nat → Nat → Option Nat} (hR : mx_rf Rf) (h : t = 29 ∨ t = 37) : Rf t 11 = some (t + 5) := by
  rcases h with rfl | rfl
  · exact rf_29_11 hR
  · exact rf_37_11 hR
theorem tc_s6 {t : Nat} (h : t = 29 ∨ t = 37) : mx_SH[t + 6]? = some (0, 10) := by rcases h with rfl | rfl <;> rfl
theorem tc_r6 {t : Nat} {Rf : Nat → Nat → Option Nat} (hR : mx_rf Rf) (h : t = 29 ∨ t = 37) : Rf t 12 = some (t + 6) := by
  rcases h with rfl | rfl
  · exact rf_29_12 hR
  · exact rf_37_12 hR
theorem tc_s7 {t : Nat} (h : t = 29 ∨ t = 37) : mx_SH[t + 7]? = some (0, 10) := by rcases h with rfl | rfl <;> rfl
theorem tc_r7 {t : Nat} {Rf : Nat → Nat → Option Nat} (hR : mx_rf Rf) (h : t = 29 ∨ t = 37) : Rf t 13 = some (t + 7) := by
  rcases h with rfl | rfl
  · exact rf_29_13 hR
  · exact rf_37_13 hR
theorem sc_s {a : Nat} (h : a = 3 ∨ a = 11 ∨ a = 18) : mx_SH[a]? = some (5, 6) := by rcases h with rfl | rfl | rfl <;> rfl
theorem sc_s1 {a : Nat} (h : a = 3 ∨ a = 11 ∨ a = 18) : mx_SH[a + 1]? = some (0, 18) := by rcases h with rfl | rfl | rfl <;> rfl
theorem sc_r1 {a : Nat} {Rf : Nat → Nat → Option Nat} (hR : mx_rf Rf) (h : a = 3 ∨ a = 11 ∨ a = 18) : Rf a 0 = some (a + 1) := by
  rcases h with rfl | rfl | rfl
  · exact rf_3_0 hR
  · exact rf_11_0 hR
  · exact rf_18_0 hR
theorem sc_s2 {a : Nat} (h : a = 3 ∨ a = 11 ∨ a = 18) : mx_SH[a + 2]? = some (0, 6) := by rcases h with rfl | rfl | rfl <;> rfl
theorem sc_r2 {a : Nat} {Rf : Nat → Nat → Option Nat} (hR : mx_rf Rf) (h : a = 3 ∨ a = 11 ∨ a = 18) : Rf a 1 = some (a + 2) := by
  rcases h with rfl | rfl | rfl
  · exact rf_3_1 hR
  · exact rf_11_1 hR
  · exact rf_18_1 hR
theorem sc_s3 {a : Nat} (h : a = 3 ∨ a = 11 ∨ a = 18) : mx_SH[a + 3]? = some (0, 6) := by rcases h with rfl | rfl | rfl <;> rfl
theorem sc_r3 {a : Nat} {Rf : Nat → Nat → Option Nat} (hR : mx_rf Rf) (h : a = 3 ∨ a = 11 ∨ a = 18) : Rf a 2 = some (a + 3) := by
  rcases h with rfl | rfl | rfl
  · exact rf_3_2 hR
  · exact rf_11_2 hR
  · exact rf_18_2 hR
set_option maxHeartbeats 4000000 in
set_option maxRecDepth 100000 in
theorem k_X2_isOut {S : mx_Sc} {f : Bool} {M : Nat → Int → Int} {L : Nat → Nat → Int64} {Rf : Nat → Nat → Option Nat} {a : Nat} (ha : a = 3 ∨ a = 11 ∨ a = 18) {l : Int} (hl : 0 ≤ l ∧ l < 6) (ho : 0 ≤ M a 4 ∧ M a 4 < 64) : mx_C S mX2_isOut [.ref a, .int (iI l)] (f, mx_SH, M, L, Rf) 0 0 (fun v9 h9 => h9 = (f, mx_SH, M, L, Rf) ∧ v9 = some (.int (iI (ob (M a 4) l)))) (fun _ _ => False) := by
  refine mx_C_of (by decide) (by simp [Value.category]) (Nat.le_of_ble_eq_true rfl) rfl ?_
  show mx_E S mX2_isOut 0 [some (.ref a), some (.int (iI l))] [] (f, mx_SH, M, L, Rf) 0 0 _ _
  have hs_a := sc_s ha
  refine ms_aload_n dX2_isOut_0 rfl ?_
  refine ms_getI (z := 4) dX2_isOut_1 (fo_X2_34 rfl) (by first | rfl | assumption) rfl rfl ?_
  refine ms_iload_n dX2_isOut_4 rfl ?_
  refine mi_iushr (M a 4 / 2 ^ l.toNat) dX2_isOut_5 (ob_ush ho hl) ?_
  refine mi_iconst dX2_isOut_6 ?_
  refine mi_iand (M a 4 / 2 ^ l.toNat % 2) dX2_isOut_7 (ob_and1 (ob_le ho)) ?_
  refine mi_if_eq (tgt := 15) dX2_isOut_8 (by decide) (fun c_8 => ?_) (fun c_8 => ?_)
  · refine mi_iconst dX2_isOut_15 ?_
    refine ms_retZ dX2_isOut_16 rfl (by first | exact Or.inl rfl | exact Or.inr rfl) ⟨rfl, by first | (rw [show ob (M a 4) l = 0 from c_8]) | (rw [show ob (M a 4) l = 1 from (ob_01 (M a 4) l).resolve_left c_8])⟩ (by simp)
  · refine mi_iconst dX2_isOut_11 ?_
    refine ms_goto (tgt := 16) dX2_isOut_12 (by decide) ?_
    refine ms_retZ dX2_isOut_16 rfl (by first | exact Or.inl rfl | exact Or.inr rfl) ⟨rfl, by first | (rw [show ob (M a 4) l = 0 from c_8]) | (rw [show ob (M a 4) l = 1 from (ob_01 (M a 4) l).resolve_left c_8])⟩ (by simp)

set_option maxHeartbeats 4000000 in
set_option maxRecDepth 100000 in
theorem k_X2_apart {S : mx_Sc} {f : Bool} {M : Nat → Int → Int} {L : Nat → Nat → Int64} {Rf : Nat → Nat → Option Nat} (hR : mx_rf Rf) {a : Nat} (ha : a = 3 ∨ a = 11 ∨ a = 18) {l o : Int} (hl : 0 ≤ l ∧ l < 6) (ho : 0 ≤ o ∧ o < 6) (hv : ∀ i, 0 ≤ i → i < 3 → (0 ≤ M (a + 1) (l * 3 + i) ∧ M (a + 1) (l * 3 + i) ≤ 1000) ∧ (0 ≤ M (a + 1) (o * 3 + i) ∧ M (a + 1) (o * 3 + i) ≤ 1000)) : mx_C S mX2_apart [.ref a, .int (iI l), .int (iI o)] (f, mx_SH, M, L, Rf) 0 0 (fun v9 h9 => h9 = (f, mx_SH, M, L, Rf) ∧ v9 = some (.int (iI (sp_far (M (a + 1)) l o)))) (fun _ _ => False) := by
  refine mx_C_of (by decide) (by simp [Value.category]) (Nat.le_of_ble_eq_true rfl) rfl ?_
  show mx_E S mX2_apart 0 [some (.ref a), some (.int (iI l)), some (.int (iI o)), none, none, none] [] (f, mx_SH, M, L, Rf) 0 0 _ _
  have ha9 : a < 900 := by omega
  have hs_a := sc_s ha
  have hs_a1 := sc_s1 ha
  have hr_a1 := sc_r1 hR ha
  have hs_a2 := sc_s2 ha
  have hr_a2 := sc_r2 hR ha
  have hs_a3 := sc_s3 ha
  have hr_a3 := sc_r3 hR ha
  have v0 := hv 0 (by omega) (by omega)
  have v1 := hv 1 (by omega) (by omega)
  have v2 := hv 2 (by omega) (by omega)
  refine mi_iconst dX2_apart_0 ?_
  refine ms_istore_n dX2_apart_1 (by decide) rfl ?_
  dsimp only [List.set, Nat.reduceAdd]
  refine mi_iconst dX2_apart_2 ?_
  refine ms_istore dX2_apart_3 (by decide) rfl ?_
  dsimp only [List.set, Nat.reduceAdd]
  refine ms_iload dX2_apart_5 rfl ?_
  refine mi_iconst dX2_apart_7 ?_
  refine mi_icmp_ge (tgt := 58) dX2_apart_8 (by decide) (fun c_8 => ?_) (fun c_8 => ?_)
  · exact absurd c_8 (by omega)
  · refine ms_aload_n dX2_apart_11 rfl ?_
    refine ms_getR dX2_apart_12 (fo_X2_9 rfl) (by first | rfl | assumption) rfl (by first | assumption | exact rf_3_0 hR | exact rf_11_0 hR | exact rf_18_0 hR ) ?_
    refine ms_iload_n dX2_apart_15 rfl ?_
    refine mi_iconst dX2_apart_16 ?_
    refine mi_imul dX2_apart_17 ?_
    refine ms_iload dX2_apart_18 rfl ?_
    refine mi_iadd dX2_apart_20 ?_
    refine ms_iald dX2_apart_21 (by first | rfl | assumption) ?_
    refine ms_aload_n dX2_apart_22 rfl ?_
    refine ms_getR dX2_apart_23 (fo_X2_9 rfl) (by first | rfl | assumption) rfl (by first | assumption | exact rf_3_0 hR | exact rf_11_0 hR | exact rf_18_0 hR ) ?_
    refine ms_iload_n dX2_apart_26 rfl ?_
    refine mi_iconst dX2_apart_27 ?_
    refine mi_imul dX2_apart_28 ?_
    refine ms_iload dX2_apart_29 rfl ?_
    refine mi_iadd dX2_apart_31 ?_
    refine ms_iald dX2_apart_32 (by first | rfl | assumption) ?_
    refine mi_isub dX2_apart_33 ?_
    refine ms_istore dX2_apart_34 (by decide) rfl ?_
    dsimp only [List.set, Nat.reduceAdd]
    refine ms_iload_n dX2_apart_36 rfl ?_
    refine ms_iload dX2_apart_37 rfl ?_
    refine mi_if_ge (tgt := 48) dX2_apart_39 (by decide) (fun c_39 => ?_) (fun c_39 => ?_)
    · refine ms_iload dX2_apart_48 rfl ?_
      refine mi_iadd dX2_apart_50 ?_
      refine ms_istore_n dX2_apart_51 (by decide) rfl ?_
      dsimp only [List.set, Nat.reduceAdd]
      refine mi_iincL (1) dX2_apart_52 rfl (by decide) rfl (by decide) ?_
      dsimp only [List.set, Nat.reduceAdd]
      refine ms_goto (tgt := 5) dX2_apart_55 (by decide) ?_
      refine ms_iload dX2_apart_5 rfl ?_
      refine mi_iconst dX2_apart_7 ?_
      refine mi_icmp_ge (tgt := 58) dX2_apart_8 (by decide) (fun c_8 => ?_) (fun c_8 => ?_)
      · exact absurd c_8 (by omega)
      · refine ms_aload_n dX2_apart_11 rfl ?_
        refine ms_getR dX2_apart_12 (fo_X2_9 rfl) (by first | rfl | assumption) rfl (by first | assumption | exact rf_3_0 hR | exact rf_11_0 hR | exact rf_18_0 hR ) ?_
        refine ms_iload_n dX2_apart_15 rfl ?_
        refine mi_iconst dX2_apart_16 ?_
        refine mi_imul dX2_apart_17 ?_
        refine ms_iload dX2_apart_18 rfl ?_
        refine mi_iadd dX2_apart_20 ?_
        refine ms_iald dX2_apart_21 (by first | rfl | assumption) ?_
        refine ms_aload_n dX2_apart_22 rfl ?_
        refine ms_getR dX2_apart_23 (fo_X2_9 rfl) (by first | rfl | assumption) rfl (by first | assumption | exact rf_3_0 hR | exact rf_11_0 hR | exact rf_18_0 hR ) ?_
        refine ms_iload_n dX2_apart_26 rfl ?_
        refine mi_iconst dX2_apart_27 ?_
        refine mi_imul dX2_apart_28 ?_
        refine ms_iload dX2_apart_29 rfl ?_
        refine mi_iadd dX2_apart_31 ?_
        refine ms_iald dX2_apart_32 (by first | rfl | assumption) ?_
        refine mi_isub dX2_apart_33 ?_
        refine ms_istore dX2_apart_34 (by decide) rfl ?_
        dsimp only [List.set, Nat.reduceAdd]
        refine ms_iload_n dX2_apart_36 rfl ?_
        refine ms_iload dX2_apart_37 rfl ?_
        refine mi_if_ge (tgt := 48) dX2_apart_39 (by decide) (fun c_39 => ?_) (fun c_39 => ?_)
        · refine ms_iload dX2_apart_48 rfl ?_
          refine mi_iadd dX2_apart_50 ?_
          refine ms_istore_n dX2_apart_51 (by decide) rfl ?_
          dsimp only [List.set, Nat.reduceAdd]
          refine mi_iincL (2) dX2_apart_52 rfl (by decide) rfl (by decide) ?_
          dsimp only [List.set, Nat.reduceAdd]
          refine ms_goto (tgt := 5) dX2_apart_55 (by decide) ?_
          refine ms_iload dX2_apart_5 rfl ?_
          refine mi_iconst dX2_apart_7 ?_
          refine mi_icmp_ge (tgt := 58) dX2_apart_8 (by decide) (fun c_8 => ?_) (fun c_8 => ?_)
          · exact absurd c_8 (by omega)
          · refine ms_aload_n dX2_apart_11 rfl ?_
            refine ms_getR dX2_apart_12 (fo_X2_9 rfl) (by first | rfl | assumption) rfl (by first | assumption | exact rf_3_0 hR | exact rf_11_0 hR | exact rf_18_0 hR ) ?_
            refine ms_iload_n dX2_apart_15 rfl ?_
            refine mi_iconst dX2_apart_16 ?_
            refine mi_imul dX2_apart_17 ?_
            refine ms_iload dX2_apart_18 rfl ?_
            refine mi_iadd dX2_apart_20 ?_
            refine ms_iald dX2_apart_21 (by first | rfl | assumption) ?_
            refine ms_aload_n dX2_apart_22 rfl ?_
            refine ms_getR dX2_apart_23 (fo_X2_9 rfl) (by first | rfl | assumption) rfl (by first | assumption | exact rf_3_0 hR | exact rf_11_0 hR | exact rf_18_0 hR ) ?_
            refine ms_iload_n dX2_apart_26 rfl ?_
            refine mi_iconst dX2_apart_27 ?_
            refine mi_imul dX2_apart_28 ?_
            refine ms_iload dX2_apart_29 rfl ?_
            refine mi_iadd dX2_apart_31 ?_
            refine ms_iald dX2_apart_32 (by first | rfl | assumption) ?_
            refine mi_isub dX2_apart_33 ?_
            refine ms_istore dX2_apart_34 (by decide) rfl ?_
            dsimp only [List.set, Nat.reduceAdd]
            refine ms_iload_n dX2_apart_36 rfl ?_
            refine ms_iload dX2_apart_37 rfl ?_
            refine mi_if_ge (tgt := 48) dX2_apart_39 (by decide) (fun c_39 => ?_) (fun c_39 => ?_)
            · refine ms_iload dX2_apart_48 rfl ?_
              refine mi_iadd dX2_apart_50 ?_
              refine ms_istore_n dX2_apart_51 (by decide) rfl ?_
              dsimp only [List.set, Nat.reduceAdd]
              refine mi_iincL (3) dX2_apart_52 rfl (by decide) rfl (by decide) ?_
              dsimp only [List.set, Nat.reduceAdd]
              refine ms_goto (tgt := 5) dX2_apart_55 (by decide) ?_
              refine ms_iload dX2_apart_5 rfl ?_
              refine mi_iconst dX2_apart_7 ?_
              refine mi_icmp_ge (tgt := 58) dX2_apart_8 (by decide) (fun c_8 => ?_) (fun c_8 => ?_)
              · refine ms_iload_n dX2_apart_58 rfl ?_
                refine mi_iconst dX2_apart_59 ?_
                refine mi_idiv dX2_apart_60 ?_
                refine ms_ret dX2_apart_61 rfl ⟨rfl, congrArg (fun z => some (Value.int (iI z))) (by simp only [sp_far, show 3 * l = l * 3 + 0 by omega, show 3 * o = o * 3 + 0 by omega, show l * 3 + 0 + 1 = l * 3 + 1 by omega, show l * 3 + 0 + 2 = l * 3 + 2 by omega, show o * 3 + 0 + 1 = o * 3 + 1 by omega, show o * 3 + 0 + 2 = o * 3 + 2 by omega]; omega)⟩ (by simp)
              · exact absurd c_8 (by omega)
            · refine ms_iload dX2_apart_42 rfl ?_
              refine mi_ineg dX2_apart_44 ?_
              refine ms_goto (tgt := 50) dX2_apart_45 (by decide) ?_
              refine mi_iadd dX2_apart_50 ?_
              refine ms_istore_n dX2_apart_51 (by decide) rfl ?_
              dsimp only [List.set, Nat.reduceAdd]
              refine mi_iincL (3) dX2_apart_52 rfl (by decide) rfl (by decide) ?_
              dsimp only [List.set, Nat.reduceAdd]
              refine ms_goto (tgt := 5) dX2_apart_55 (by decide) ?_
              refine ms_iload dX2_apart_5 rfl ?_
              refine mi_iconst dX2_apart_7 ?_
              refine mi_icmp_ge (tgt := 58) dX2_apart_8 (by decide) (fun c_8 => ?_) (fun c_8 => ?_)
              · refine ms_iload_n dX2_apart_58 rfl ?_
                refine mi_iconst dX2_apart_59 ?_
                refine mi_idiv dX2_apart_60 ?_
                refine ms_ret dX2_apart_61 rfl ⟨rfl, congrArg (fun z => some (Value.int (iI z))) (by simp only [sp_far, show 3 * l = l * 3 + 0 by omega, show 3 * o = o * 3 + 0 by omega, show l * 3 + 0 + 1 = l * 3 + 1 by omega, show l * 3 + 0 + 2 = l * 3 + 2 by omega, show o * 3 + 0 + 1 = o * 3 + 1 by omega, show o * 3 + 0 + 2 = o * 3 + 2 by omega]; omega)⟩ (by simp)
              · exact absurd c_8 (by omega)
        · refine ms_iload dX2_apart_42 rfl ?_
          refine mi_ineg dX2_apart_44 ?_
          refine ms_goto (tgt := 50) dX2_apart_45 (by decide) ?_
          refine mi_iadd dX2_apart_50 ?_
          refine ms_istore_n dX2_apart_51 (by decide) rfl ?_
          dsimp only [List.set, Nat.reduceAdd]
          refine mi_iincL (2) dX2_apart_52 rfl (by decide) rfl (by decide) ?_
          dsimp only [List.set, Nat.reduceAdd]
          refine ms_goto (tgt := 5) dX2_apart_55 (by decide) ?_
          refine ms_iload dX2_apart_5 rfl ?_
          refine mi_iconst dX2_apart_7 ?_
          refine mi_icmp_ge (tgt := 58) dX2_apart_8 (by decide) (fun c_8 => ?_) (fun c_8 => ?_)
          · exact absurd c_8 (by omega)
          · refine ms_aload_n dX2_apart_11 rfl ?_
            refine ms_getR dX2_apart_12 (fo_X2_9 rfl) (by first | rfl | assumption) rfl (by first | assumption | exact rf_3_0 hR | exact rf_11_0 hR | exact rf_18_0 hR ) ?_
            refine ms_iload_n dX2_apart_15 rfl ?_
            refine mi_iconst dX2_apart_16 ?_
            refine mi_imul dX2_apart_17 ?_
            refine ms_iload dX2_apart_18 rfl ?_
            refine mi_iadd dX2_apart_20 ?_
            refine ms_iald dX2_apart_21 (by first | rfl | assumption) ?_
            refine ms_aload_n dX2_apart_22 rfl ?_
            refine ms_getR dX2_apart_23 (fo_X2_9 rfl) (by first | rfl | assumption) rfl (by first | assumption | exact rf_3_0 hR | exact rf_11_0 hR | exact rf_18_0 hR ) ?_
            refine ms_iload_n dX2_apart_26 rfl ?_
            refine mi_iconst dX2_apart_27 ?_
            refine mi_imul dX2_apart_28 ?_
            refine ms_iload dX2_apart_29 rfl ?_
            refine mi_iadd dX2_apart_31 ?_
            refine ms_iald dX2_apart_32 (by first | rfl | assumption) ?_
            refine mi_isub dX2_apart_33 ?_
            refine ms_istore dX2_apart_34 (by decide) rfl ?_
            dsimp only [List.set, Nat.reduceAdd]
            refine ms_iload_n dX2_apart_36 rfl ?_
            refine ms_iload dX2_apart_37 rfl ?_
            refine mi_if_ge (tgt := 48) dX2_apart_39 (by decide) (fun c_39 => ?_) (fun c_39 => ?_)
            · refine ms_iload dX2_apart_48 rfl ?_
              refine mi_iadd dX2_apart_50 ?_
              refine ms_istore_n dX2_apart_51 (by decide) rfl ?_
              dsimp only [List.set, Nat.reduceAdd]
              refine mi_iincL (3) dX2_apart_52 rfl (by decide) rfl (by decide) ?_
              dsimp only [List.set, Nat.reduceAdd]
              refine ms_goto (tgt := 5) dX2_apart_55 (by decide) ?_
              refine ms_iload dX2_apart_5 rfl ?_
              refine mi_iconst dX2_apart_7 ?_
              refine mi_icmp_ge (tgt := 58) dX2_apart_8 (by decide) (fun c_8 => ?_) (fun c_8 => ?_)
              · refine ms_iload_n dX2_apart_58 rfl ?_
                refine mi_iconst dX2_apart_59 ?_
                refine mi_idiv dX2_apart_60 ?_
                refine ms_ret dX2_apart_61 rfl ⟨rfl, congrArg (fun z => some (Value.int (iI z))) (by simp only [sp_far, show 3 * l = l * 3 + 0 by omega, show 3 * o = o * 3 + 0 by omega, show l * 3 + 0 + 1 = l * 3 + 1 by omega, show l * 3 + 0 + 2 = l * 3 + 2 by omega, show o * 3 + 0 + 1 = o * 3 + 1 by omega, show o * 3 + 0 + 2 = o * 3 + 2 by omega]; omega)⟩ (by simp)
              · exact absurd c_8 (by omega)
            · refine ms_iload dX2_apart_42 rfl ?_
              refine mi_ineg dX2_apart_44 ?_
              refine ms_goto (tgt := 50) dX2_apart_45 (by decide) ?_
              refine mi_iadd dX2_apart_50 ?_
              refine ms_istore_n dX2_apart_51 (by decide) rfl ?_
              dsimp only [List.set, Nat.reduceAdd]
              refine mi_iincL (3) dX2_apart_52 rfl (by decide) rfl (by decide) ?_
              dsimp only [List.set, Nat.reduceAdd]
              refine ms_goto (tgt := 5) dX2_apart_55 (by decide) ?_
              refine ms_iload dX2_apart_5 rfl ?_
              refine mi_iconst dX2_apart_7 ?_
              refine mi_icmp_ge (tgt := 58) dX2_apart_8 (by decide) (fun c_8 => ?_) (fun c_8 => ?_)
              · refine ms_iload_n dX2_apart_58 rfl ?_
                refine mi_iconst dX2_apart_59 ?_
                refine mi_idiv dX2_apart_60 ?_
                refine ms_ret dX2_apart_61 rfl ⟨rfl, congrArg (fun z => some (Value.int (iI z))) (by simp only [sp_far, show 3 * l = l * 3 + 0 by omega, show 3 * o = o * 3 + 0 by omega, show l * 3 + 0 + 1 = l * 3 + 1 by omega, show l * 3 + 0 + 2 = l * 3 + 2 by omega, show o * 3 + 0 + 1 = o * 3 + 1 by omega, show o * 3 + 0 + 2 = o * 3 + 2 by omega]; omega)⟩ (by simp)
              · exact absurd c_8 (by omega)
    · refine ms_iload dX2_apart_42 rfl ?_
      refine mi_ineg dX2_apart_44 ?_
      refine ms_goto (tgt := 50) dX2_apart_45 (by decide) ?_
      refine mi_iadd dX2_apart_50 ?_
      refine ms_istore_n dX2_apart_51 (by decide) rfl ?_
      dsimp only [List.set, Nat.reduceAdd]
      refine mi_iincL (1) dX2_apart_52 rfl (by decide) rfl (by decide) ?_
      dsimp only [List.set, Nat.reduceAdd]
      refine ms_goto (tgt := 5) dX2_apart_55 (by decide) ?_
      refine ms_iload dX2_apart_5 rfl ?_
      refine mi_iconst dX2_apart_7 ?_
      refine mi_icmp_ge (tgt := 58) dX2_apart_8 (by decide) (fun c_8 => ?_) (fun c_8 => ?_)
      · exact absurd c_8 (by omega)
      · refine ms_aload_n dX2_apart_11 rfl ?_
        refine ms_getR dX2_apart_12 (fo_X2_9 rfl) (by first | rfl | assumption) rfl (by first | assumption | exact rf_3_0 hR | exact rf_11_0 hR | exact rf_18_0 hR ) ?_
        refine ms_iload_n dX2_apart_15 rfl ?_
        refine mi_iconst dX2_apart_16 ?_
        refine mi_imul dX2_apart_17 ?_
        refine ms_iload dX2_apart_18 rfl ?_
        refine mi_iadd dX2_apart_20 ?_
        refine ms_iald dX2_apart_21 (by first | rfl | assumption) ?_
        refine ms_aload_n dX2_apart_22 rfl ?_
        refine ms_getR dX2_apart_23 (fo_X2_9 rfl) (by first | rfl | assumption) rfl (by first | assumption | exact rf_3_0 hR | exact rf_11_0 hR | exact rf_18_0 hR ) ?_
        refine ms_iload_n dX2_apart_26 rfl ?_
        refine mi_iconst dX2_apart_27 ?_
        refine mi_imul dX2_apart_28 ?_
        refine ms_iload dX2_apart_29 rfl ?_
        refine mi_iadd dX2_apart_31 ?_
        refine ms_iald dX2_apart_32 (by first | rfl | assumption) ?_
        refine mi_isub dX2_apart_33 ?_
        refine ms_istore dX2_apart_34 (by decide) rfl ?_
        dsimp only [List.set, Nat.reduceAdd]
        refine ms_iload_n dX2_apart_36 rfl ?_
        refine ms_iload dX2_apart_37 rfl ?_
        refine mi_if_ge (tgt := 48) dX2_apart_39 (by decide) (fun c_39 => ?_) (fun c_39 => ?_)
        · refine ms_iload dX2_apart_48 rfl ?_
          refine mi_iadd dX2_apart_50 ?_
          refine ms_istore_n dX2_apart_51 (by decide) rfl ?_
          dsimp only [List.set, Nat.reduceAdd]
          refine mi_iincL (2) dX2_apart_52 rfl (by decide) rfl (by decide) ?_
          dsimp only [List.set, Nat.reduceAdd]
          refine ms_goto (tgt := 5) dX2_apart_55 (by decide) ?_
          refine ms_iload dX2_apart_5 rfl ?_
          refine mi_iconst dX2_apart_7 ?_
          refine mi_icmp_ge (tgt := 58) dX2_apart_8 (by decide) (fun c_8 => ?_) (fun c_8 => ?_)
          · exact absurd c_8 (by omega)
          · refine ms_aload_n dX2_apart_11 rfl ?_
            refine ms_getR dX2_apart_12 (fo_X2_9 rfl) (by first | rfl | assumption) rfl (by first | assumption | exact rf_3_0 hR | exact rf_11_0 hR | exact rf_18_0 hR ) ?_
            refine ms_iload_n dX2_apart_15 rfl ?_
            refine mi_iconst dX2_apart_16 ?_
            refine mi_imul dX2_apart_17 ?_
            refine ms_iload dX2_apart_18 rfl ?_
            refine mi_iadd dX2_apart_20 ?_
            refine ms_iald dX2_apart_21 (by first | rfl | assumption) ?_
            refine ms_aload_n dX2_apart_22 rfl ?_
            refine ms_getR dX2_apart_23 (fo_X2_9 rfl) (by first | rfl | assumption) rfl (by first | assumption | exact rf_3_0 hR | exact rf_11_0 hR | exact rf_18_0 hR ) ?_
            refine ms_iload_n dX2_apart_26 rfl ?_
            refine mi_iconst dX2_apart_27 ?_
            refine mi_imul dX2_apart_28 ?_
            refine ms_iload dX2_apart_29 rfl ?_
            refine mi_iadd dX2_apart_31 ?_
            refine ms_iald dX2_apart_32 (by first | rfl | assumption) ?_
            refine mi_isub dX2_apart_33 ?_
            refine ms_istore dX2_apart_34 (by decide) rfl ?_
            dsimp only [List.set, Nat.reduceAdd]
            refine ms_iload_n dX2_apart_36 rfl ?_
            refine ms_iload dX2_apart_37 rfl ?_
            refine mi_if_ge (tgt := 48) dX2_apart_39 (by decide) (fun c_39 => ?_) (fun c_39 => ?_)
            · refine ms_iload dX2_apart_48 rfl ?_
              refine mi_iadd dX2_apart_50 ?_
              refine ms_istore_n dX2_apart_51 (by decide) rfl ?_
              dsimp only [List.set, Nat.reduceAdd]
              refine mi_iincL (3) dX2_apart_52 rfl (by decide) rfl (by decide) ?_
              dsimp only [List.set, Nat.reduceAdd]
              refine ms_goto (tgt := 5) dX2_apart_55 (by decide) ?_
              refine ms_iload dX2_apart_5 rfl ?_
              refine mi_iconst dX2_apart_7 ?_
              refine mi_icmp_ge (tgt := 58) dX2_apart_8 (by decide) (fun c_8 => ?_) (fun c_8 => ?_)
              · refine ms_iload_n dX2_apart_58 rfl ?_
                refine mi_iconst dX2_apart_59 ?_
                refine mi_idiv dX2_apart_60 ?_
                refine ms_ret dX2_apart_61 rfl ⟨rfl, congrArg (fun z => some (Value.int (iI z))) (by simp only [sp_far, show 3 * l = l * 3 + 0 by omega, show 3 * o = o * 3 + 0 by omega, show l * 3 + 0 + 1 = l * 3 + 1 by omega, show l * 3 + 0 + 2 = l * 3 + 2 by omega, show o * 3 + 0 + 1 = o * 3 + 1 by omega, show o * 3 + 0 + 2 = o * 3 + 2 by omega]; omega)⟩ (by simp)
              · exact absurd c_8 (by omega)
            · refine ms_iload dX2_apart_42 rfl ?_
              refine mi_ineg dX2_apart_44 ?_
              refine ms_goto (tgt := 50) dX2_apart_45 (by decide) ?_
              refine mi_iadd dX2_apart_50 ?_
              refine ms_istore_n dX2_apart_51 (by decide) rfl ?_
              dsimp only [List.set, Nat.reduceAdd]
              refine mi_iincL (3) dX2_apart_52 rfl (by decide) rfl (by decide) ?_
              dsimp only [List.set, Nat.reduceAdd]
              refine ms_goto (tgt := 5) dX2_apart_55 (by decide) ?_
              refine ms_iload dX2_apart_5 rfl ?_
              refine mi_iconst dX2_apart_7 ?_
              refine mi_icmp_ge (tgt := 58) dX2_apart_8 (by decide) (fun c_8 => ?_) (fun c_8 => ?_)
              · refine ms_iload_n dX2_apart_58 rfl ?_
                refine mi_iconst dX2_apart_59 ?_
                refine mi_idiv dX2_apart_60 ?_
                refine ms_ret dX2_apart_61 rfl ⟨rfl, congrArg (fun z => some (Value.int (iI z))) (by simp only [sp_far, show 3 * l = l * 3 + 0 by omega, show 3 * o = o * 3 + 0 by omega, show l * 3 + 0 + 1 = l * 3 + 1 by omega, show l * 3 + 0 + 2 = l * 3 + 2 by omega, show o * 3 + 0 + 1 = o * 3 + 1 by omega, show o * 3 + 0 + 2 = o * 3 + 2 by omega]; omega)⟩ (by simp)
              · exact absurd c_8 (by omega)
        · refine ms_iload dX2_apart_42 rfl ?_
          refine mi_ineg dX2_apart_44 ?_
          refine ms_goto (tgt := 50) dX2_apart_45 (by decide) ?_
          refine mi_iadd dX2_apart_50 ?_
          refine ms_istore_n dX2_apart_51 (by decide) rfl ?_
          dsimp only [List.set, Nat.reduceAdd]
          refine mi_iincL (2) dX2_apart_52 rfl (by decide) rfl (by decide) ?_
          dsimp only [List.set, Nat.reduceAdd]
          refine ms_goto (tgt := 5) dX2_apart_55 (by decide) ?_
          refine ms_iload dX2_apart_5 rfl ?_
          refine mi_iconst dX2_apart_7 ?_
          refine mi_icmp_ge (tgt := 58) dX2_apart_8 (by decide) (fun c_8 => ?_) (fun c_8 => ?_)
          · exact absurd c_8 (by omega)
          · refine ms_aload_n dX2_apart_11 rfl ?_
            refine ms_getR dX2_apart_12 (fo_X2_9 rfl) (by first | rfl | assumption) rfl (by first | assumption | exact rf_3_0 hR | exact rf_11_0 hR | exact rf_18_0 hR ) ?_
            refine ms_iload_n dX2_apart_15 rfl ?_
            refine mi_iconst dX2_apart_16 ?_
            refine mi_imul dX2_apart_17 ?_
            refine ms_iload dX2_apart_18 rfl ?_
            refine mi_iadd dX2_apart_20 ?_
            refine ms_iald dX2_apart_21 (by first | rfl | assumption) ?_
            refine ms_aload_n dX2_apart_22 rfl ?_
            refine ms_getR dX2_apart_23 (fo_X2_9 rfl) (by first | rfl | assumption) rfl (by first | assumption | exact rf_3_0 hR | exact rf_11_0 hR | exact rf_18_0 hR ) ?_
            refine ms_iload_n dX2_apart_26 rfl ?_
            refine mi_iconst dX2_apart_27 ?_
            refine mi_imul dX2_apart_28 ?_
            refine ms_iload dX2_apart_29 rfl ?_
            refine mi_iadd dX2_apart_31 ?_
            refine ms_iald dX2_apart_32 (by first | rfl | assumption) ?_
            refine mi_isub dX2_apart_33 ?_
            refine ms_istore dX2_apart_34 (by decide) rfl ?_
            dsimp only [List.set, Nat.reduceAdd]
            refine ms_iload_n dX2_apart_36 rfl ?_
            refine ms_iload dX2_apart_37 rfl ?_
            refine mi_if_ge (tgt := 48) dX2_apart_39 (by decide) (fun c_39 => ?_) (fun c_39 => ?_)
            · refine ms_iload dX2_apart_48 rfl ?_
              refine mi_iadd dX2_apart_50 ?_
              refine ms_istore_n dX2_apart_51 (by decide) rfl ?_
              dsimp only [List.set, Nat.reduceAdd]
              refine mi_iincL (3) dX2_apart_52 rfl (by decide) rfl (by decide) ?_
              dsimp only [List.set, Nat.reduceAdd]
              refine ms_goto (tgt := 5) dX2_apart_55 (by decide) ?_
              refine ms_iload dX2_apart_5 rfl ?_
              refine mi_iconst dX2_apart_7 ?_
              refine mi_icmp_ge (tgt := 58) dX2_apart_8 (by decide) (fun c_8 => ?_) (fun c_8 => ?_)
              · refine ms_iload_n dX2_apart_58 rfl ?_
                refine mi_iconst dX2_apart_59 ?_
                refine mi_idiv dX2_apart_60 ?_
                refine ms_ret dX2_apart_61 rfl ⟨rfl, congrArg (fun z => some (Value.int (iI z))) (by simp only [sp_far, show 3 * l = l * 3 + 0 by omega, show 3 * o = o * 3 + 0 by omega, show l * 3 + 0 + 1 = l * 3 + 1 by omega, show l * 3 + 0 + 2 = l * 3 + 2 by omega, show o * 3 + 0 + 1 = o * 3 + 1 by omega, show o * 3 + 0 + 2 = o * 3 + 2 by omega]; omega)⟩ (by simp)
              · exact absurd c_8 (by omega)
            · refine ms_iload dX2_apart_42 rfl ?_
              refine mi_ineg dX2_apart_44 ?_
              refine ms_goto (tgt := 50) dX2_apart_45 (by decide) ?_
              refine mi_iadd dX2_apart_50 ?_
              refine ms_istore_n dX2_apart_51 (by decide) rfl ?_
              dsimp only [List.set, Nat.reduceAdd]
              refine mi_iincL (3) dX2_apart_52 rfl (by decide) rfl (by decide) ?_
              dsimp only [List.set, Nat.reduceAdd]
              refine ms_goto (tgt := 5) dX2_apart_55 (by decide) ?_
              refine ms_iload dX2_apart_5 rfl ?_
              refine mi_iconst dX2_apart_7 ?_
              refine mi_icmp_ge (tgt := 58) dX2_apart_8 (by decide) (fun c_8 => ?_) (fun c_8 => ?_)
              · refine ms_iload_n dX2_apart_58 rfl ?_
                refine mi_iconst dX2_apart_59 ?_
                refine mi_idiv dX2_apart_60 ?_
                refine ms_ret dX2_apart_61 rfl ⟨rfl, congrArg (fun z => some (Value.int (iI z))) (by simp only [sp_far, show 3 * l = l * 3 + 0 by omega, show 3 * o = o * 3 + 0 by omega, show l * 3 + 0 + 1 = l * 3 + 1 by omega, show l * 3 + 0 + 2 = l * 3 + 2 by omega, show o * 3 + 0 + 1 = o * 3 + 1 by omega, show o * 3 + 0 + 2 = o * 3 + 2 by omega]; omega)⟩ (by simp)
              · exact absurd c_8 (by omega)

set_option maxHeartbeats 4000000 in
set_option maxRecDepth 100000 in
theorem l_X4_hides {S : mx_Sc} {f : Bool} {M : Nat → Int → Int} {L : Nat → Nat → Int64} {Rf : Nat → Nat → Option Nat} (hR : mx_rf Rf) {t : Nat} (ht : t = 29 ∨ t = 37) (hT : sp_tok (sp_tC M t)) {n x y : Int} (hn : -5000 ≤ n ∧ n ≤ 5000) (hx : -5000 ≤ x ∧ x ≤ 5000) (hy : -5000 ≤ y ∧ y ≤ 5000) : ∀ (kk : Nat) (i : Int), 0 ≤ i → i + kk = M t 6 → (∀ j, 0 ≤ j → j < i → (fun f => decide (M (t + 5) f = n ∧ M (t + 6) f = x ∧ M (t + 7) f = y)) j = false) → mx_E S mX4_hides 3 [some (.ref t), some (.int (iI n)), some (.int (iI x)), some (.int (iI y)), some (.int (iI i))] [] (f, mx_SH, M, L, Rf) 0 0 (fun v9 h9 => h9 = (f, mx_SH, M, L, Rf) ∧ v9 = some (.int (iI (bI (sp_hid (sp_tC M t) n x y))))) (fun _ _ => False) := by
  intro kk
  induction kk with
  | zero => 
    intro i h0 h1 hq
    have ht9 : t < 900 := by omega
    have hs_t := tc_s ht
    have hs_t1 := tc_s1 ht
    have hr_t1 := tc_r1 hR ht
    have hs_t2 := tc_s2 ht
    have hr_t2 := tc_r2 hR ht
    have hs_t3 := tc_s3 ht
    have hr_t3 := tc_r3 hR ht
    have hs_t4 := tc_s4 ht
    have hr_t4 := tc_r4 hR ht
    have hs_t5 := tc_s5 ht
    have hr_t5 := tc_r5 hR ht
    have hs_t6 := tc_s6 ht
    have hr_t6 := tc_r6 hR ht
    have hs_t7 := tc_s7 ht
    have hr_t7 := tc_r7 hR ht
    have hT0 : 1 ≤ M t 0 ∧ M t 0 ≤ 30 := hT.1
    have hT1 : 0 ≤ M t 1 ∧ M t 1 ≤ 6 := hT.2.1
    have hT2 : 1 ≤ M t 2 ∧ M t 2 ≤ 9 := hT.2.2.1
    have hT3 : 0 ≤ M t 3 ∧ M t 3 ≤ 9 := hT.2.2.2.1
    have hT4 : 0 ≤ M t 4 ∧ M t 4 ≤ 9 := hT.2.2.2.2.1
    have hT5 : 1 ≤ M t 5 ∧ M t 5 ≤ 99 := hT.2.2.2.2.2.1
    have hT6 : 0 ≤ M t 6 ∧ M t 6 ≤ 10 := hT.2.2.2.2.2.2.1
    have hTn : ((M t 1).toNat : Int) = M t 1 := Int.toNat_of_nonneg hT1.1
    have hTn6 : ((M t 6).toNat : Int) = M t 6 := Int.toNat_of_nonneg hT6.1
    refine ms_iload dX4_hides_3 rfl ?_
    refine ms_aload_n dX4_hides_5 rfl ?_
    refine ms_getI (z := 6) dX4_hides_6 (fo_X4_55 rfl) (by first | rfl | assumption) rfl rfl ?_
    refine mi_icmp_ge (tgt := 53) dX4_hides_9 (by decide) (fun c_9 => ?_) (fun c_9 => ?_)
    · refine mi_iconst dX4_hides_53 ?_
      refine ms_retZ dX4_hides_54 rfl (by first | exact Or.inl rfl | exact Or.inr rfl) ⟨rfl, by rw [show sp_hid (sp_tC M t) n x y = false from anyN_false (fun j g0 g1 => hq j g0 (by simp only at g1; omega))]; rfl⟩ (by simp)
    · exact absurd c_9 (by omega)
  | succ kk ih => 
    intro i h0 h1 hq
    have ht9 : t < 900 := by omega
    have hs_t := tc_s ht
    have hs_t1 := tc_s1 ht
    have hr_t1 := tc_r1 hR ht
    have hs_t2 := tc_s2 ht
    have hr_t2 := tc_r2 hR ht
    have hs_t3 := tc_s3 ht
    have hr_t3 := tc_r3 hR ht
    have hs_t4 := tc_s4 ht
    have hr_t4 := tc_r4 hR ht
    have hs_t5 := tc_s5 ht
    have hr_t5 := tc_r5 hR ht
    have hs_t6 := tc_s6 ht
    have hr_t6 := tc_r6 hR ht
    have hs_t7 := tc_s7 ht
    have hr_t7 := tc_r7 hR ht
    have hT0 : 1 ≤ M t 0 ∧ M t 0 ≤ 30 := hT.1
    have hT1 : 0 ≤ M t 1 ∧ M t 1 ≤ 6 := hT.2.1
    have hT2 : 1 ≤ M t 2 ∧ M t 2 ≤ 9 := hT.2.2.1
    have hT3 : 0 ≤ M t 3 ∧ M t 3 ≤ 9 := hT.2.2.2.1
    have hT4 : 0 ≤ M t 4 ∧ M t 4 ≤ 9 := hT.2.2.2.2.1
    have hT5 : 1 ≤ M t 5 ∧ M t 5 ≤ 99 := hT.2.2.2.2.2.1
    have hT6 : 0 ≤ M t 6 ∧ M t 6 ≤ 10 := hT.2.2.2.2.2.2.1
    have hTn : ((M t 1).toNat : Int) = M t 1 := Int.toNat_of_nonneg hT1.1
    have hTn6 : ((M t 6).toNat : Int) = M t 6 := Int.toNat_of_nonneg hT6.1
    have hf := hT.2.2.2.2.2.2.2.2 i h0 (by show i < M t 6; omega)
    have hf1 : 0 ≤ M (t + 5) i ∧ M (t + 5) i ≤ 99 := hf.1
    have hf2 : 0 ≤ M (t + 6) i ∧ M (t + 6) i ≤ 5 := hf.2.1
    have hf3 : 0 ≤ M (t + 7) i ∧ M (t + 7) i ≤ 5 := hf.2.2
    refine ms_iload dX4_hides_3 rfl ?_
    refine ms_aload_n dX4_hides_5 rfl ?_
    refine ms_getI (z := 6) dX4_hides_6 (fo_X4_55 rfl) (by first | rfl | assumption) rfl rfl ?_
    refine mi_icmp_ge (tgt := 53) dX4_hides_9 (by decide) (fun c_9 => ?_) (fun c_9 => ?_)
    · exact absurd c_9 (by omega)
    · refine ms_aload_n dX4_hides_12 rfl ?_
      refine ms_getR dX4_hides_13 (fo_X4_24 rfl) (by first | rfl | assumption) rfl (by first | assumption | exact rf_29_11 hR | exact rf_37_11 hR ) ?_
      refine ms_iload dX4_hides_16 rfl ?_
      refine ms_iald dX4_hides_18 (by first | rfl | assumption) ?_
      refine ms_iload_n dX4_hides_19 rfl ?_
      refine mi_icmp_ne (tgt := 47) dX4_hides_20 (by decide) (fun c_20 => ?_) (fun c_20 => ?_)
      · refine mi_iinc dX4_hides_47 rfl (by decide) rfl ?_
        dsimp only [List.set, Nat.reduceAdd]
        refine ms_goto (tgt := 3) dX4_hides_50 (by decide) ?_
        exact ih (i + 1) (by omega) (by omega) (lt_st hq (by simp only [decide_eq_false_iff_not]; omega))
      · refine ms_aload_n dX4_hides_23 rfl ?_
        refine ms_getR dX4_hides_24 (fo_X4_27 rfl) (by first | rfl | assumption) rfl (by first | assumption | exact rf_29_12 hR | exact rf_37_12 hR ) ?_
        refine ms_iload dX4_hides_27 rfl ?_
        refine ms_iald dX4_hides_29 (by first | rfl | assumption) ?_
        refine ms_iload_n dX4_hides_30 rfl ?_
        refine mi_icmp_ne (tgt := 47) dX4_hides_31 (by decide) (fun c_31 => ?_) (fun c_31 => ?_)
        · refine mi_iinc dX4_hides_47 rfl (by decide) rfl ?_
          dsimp only [List.set, Nat.reduceAdd]
          refine ms_goto (tgt := 3) dX4_hides_50 (by decide) ?_
          exact ih (i + 1) (by omega) (by omega) (lt_st hq (by simp only [decide_eq_false_iff_not]; omega))
        · refine ms_aload_n dX4_hides_34 rfl ?_
          refine ms_getR dX4_hides_35 (fo_X4_30 rfl) (by first | rfl | assumption) rfl (by first | assumption | exact rf_29_13 hR | exact rf_37_13 hR ) ?_
          refine ms_iload dX4_hides_38 rfl ?_
          refine ms_iald dX4_hides_40 (by first | rfl | assumption) ?_
          refine ms_iload_n dX4_hides_41 rfl ?_
          refine mi_icmp_ne (tgt := 47) dX4_hides_42 (by decide) (fun c_42 => ?_) (fun c_42 => ?_)
          · refine mi_iinc dX4_hides_47 rfl (by decide) rfl ?_
            dsimp only [List.set, Nat.reduceAdd]
            refine ms_goto (tgt := 3) dX4_hides_50 (by decide) ?_
            exact ih (i + 1) (by omega) (by omega) (lt_st hq (by simp only [decide_eq_false_iff_not]; omega))
          · refine mi_iconst dX4_hides_45 ?_
            refine ms_retZ dX4_hides_46 rfl (by first | exact Or.inl rfl | exact Or.inr rfl) ⟨rfl, by rw [show sp_hid (sp_tC M t) n x y = true from anyN_true h0 (by simp only; omega) (by simp only [decide_eq_true_eq]; omega)]; rfl⟩ (by simp)

set_option maxHeartbeats 4000000 in
set_option maxRecDepth 100000 in
theorem k_X4_hides {S : mx_Sc} {f : Bool} {M : Nat → Int → Int} {L : Nat → Nat → Int64} {Rf : Nat → Nat → Option Nat} (hR : mx_rf Rf) {t : Nat} (ht : t = 29 ∨ t = 37) (hT : sp_tok (sp_tC M t)) {n x y : Int} (hn : -5000 ≤ n ∧ n ≤ 5000) (hx : -5000 ≤ x ∧ x ≤ 5000) (hy : -5000 ≤ y ∧ y ≤ 5000) : mx_C S mX4_hides [.ref t, .int (iI n), .int (iI x), .int (iI y)] (f, mx_SH, M, L, Rf) 0 0 (fun v9 h9 => h9 = (f, mx_SH, M, L, Rf) ∧ v9 = some (.int (iI (bI (sp_hid (sp_tC M t) n x y))))) (fun _ _ => False) := by
  refine mx_C_of (by decide) (by simp [Value.category]) (Nat.le_of_ble_eq_true rfl) rfl ?_
  show mx_E S mX4_hides 0 [some (.ref t), some (.int (iI n)), some (.int (iI x)), some (.int (iI y)), none] [] (f, mx_SH, M, L, Rf) 0 0 _ _
  have ht9 : t < 900 := by omega
  have hs_t := tc_s ht
  have hs_t1 := tc_s1 ht
  have hr_t1 := tc_r1 hR ht
  have hs_t2 := tc_s2 ht
  have hr_t2 := tc_r2 hR ht
  have hs_t3 := tc_s3 ht
  have hr_t3 := tc_r3 hR ht
  have hs_t4 := tc_s4 ht
  have hr_t4 := tc_r4 hR ht
  have hs_t5 := tc_s5 ht
  have hr_t5 := tc_r5 hR ht
  have hs_t6 := tc_s6 ht
  have hr_t6 := tc_r6 hR ht
  have hs_t7 := tc_s7 ht
  have hr_t7 := tc_r7 hR ht
  have hT0 : 1 ≤ M t 0 ∧ M t 0 ≤ 30 := hT.1
  have hT1 : 0 ≤ M t 1 ∧ M t 1 ≤ 6 := hT.2.1
  have hT2 : 1 ≤ M t 2 ∧ M t 2 ≤ 9 := hT.2.2.1
  have hT3 : 0 ≤ M t 3 ∧ M t 3 ≤ 9 := hT.2.2.2.1
  have hT4 : 0 ≤ M t 4 ∧ M t 4 ≤ 9 := hT.2.2.2.2.1
  have hT5 : 1 ≤ M t 5 ∧ M t 5 ≤ 99 := hT.2.2.2.2.2.1
  have hT6 : 0 ≤ M t 6 ∧ M t 6 ≤ 10 := hT.2.2.2.2.2.2.1
  have hTn : ((M t 1).toNat : Int) = M t 1 := Int.toNat_of_nonneg hT1.1
  have hTn6 : ((M t 6).toNat : Int) = M t 6 := Int.toNat_of_nonneg hT6.1
  refine mi_iconst dX4_hides_0 ?_
  refine ms_istore dX4_hides_1 (by decide) rfl ?_
  dsimp only [List.set, Nat.reduceAdd]
  exact l_X4_hides hR ht hT hn hx hy (M t 6).toNat 0 (by omega) (by omega) (fun j g0 g1 => by omega)

set_option maxHeartbeats 4000000 in
set_option maxRecDepth 100000 in
theorem l_X5_isHeld {S : mx_Sc} {f : Bool} {M : Nat → Int → Int} {L : Nat → Nat → Int64} {Rf : Nat → Nat → Option Nat} (hR : mx_rf Rf) {t : Nat} (ht : t = 29 ∨ t = 37) (hT : sp_tok (sp_tC M t)) {a : Nat} (ha : a = 3 ∨ a = 11 ∨ a = 18) (hwt : Rf 46 1 = some t) {v : Int → Int} (hsc : scR (sp_tC M t) M a v) (hv : sp_vok (sp_tC M t) v) {n l : Int} (hn : 0 ≤ n ∧ n ≤ 1200) (hnn : M a 3 = n) (hl : 0 ≤ l ∧ l < M t 1) (h4 : ¬ M (t + 1) l = 4) (h1 : ¬ (M (t + 1) l = 1 ∧ n % 2 = 0)) {z3 : Int} : ∀ (kk : Nat) (i : Int), 0 ≤ i → i + kk = M t 1 → (∀ j, 0 ≤ j → j < i → (fun w => decide (w ≠ l ∧ M (t + 1) w = 4 ∧ sp_out v w = false ∧ sp_far v l w ≤ M t 4)) j = false) → mx_E S mX5_isHeld 34 [some (.ref 46), some (.ref a), some (.int (iI l)), some (.int (iI z3)), some (.int (iI i))] [] (f, mx_SH, M, L, Rf) 0 0 (fun v9 h9 => h9 = (f, mx_SH, M, L, Rf) ∧ v9 = some (.int (iI (bI (sp_stays (sp_tC M t) v n l))))) (fun _ _ => False) := by
  intro kk
  induction kk with
  | zero => 
    intro i g0 g1 hq
    have ht9 : t < 900 := by omega
    have hs_t := tc_s ht
    have hs_t1 := tc_s1 ht
    have hr_t1 := tc_r1 hR ht
    have hs_t2 := tc_s2 ht
    have hr_t2 := tc_r2 hR ht
    have hs_t3 := tc_s3 ht
    have hr_t3 := tc_r3 hR ht
    have hs_t4 := tc_s4 ht
    have hr_t4 := tc_r4 hR ht
    have hs_t5 := tc_s5 ht
    have hr_t5 := tc_r5 hR ht
    have hs_t6 := tc_s6 ht
    have hr_t6 := tc_r6 hR ht
    have hs_t7 := tc_s7 ht
    have hr_t7 := tc_r7 hR ht
    have ha9 : a < 900 := by omega
    have hs_a := sc_s ha
    have hs_a1 := sc_s1 ha
    have hr_a1 := sc_r1 hR ha
    have hs_a2 := sc_s2 ha
    have hr_a2 := sc_r2 hR ha
    have hs_a3 := sc_s3 ha
    have hr_a3 := sc_r3 hR ha
    have hT0 : 1 ≤ M t 0 ∧ M t 0 ≤ 30 := hT.1
    have hT1 : 0 ≤ M t 1 ∧ M t 1 ≤ 6 := hT.2.1
    have hT2 : 1 ≤ M t 2 ∧ M t 2 ≤ 9 := hT.2.2.1
    have hT3 : 0 ≤ M t 3 ∧ M t 3 ≤ 9 := hT.2.2.2.1
    have hT4 : 0 ≤ M t 4 ∧ M t 4 ≤ 9 := hT.2.2.2.2.1
    have hT5 : 1 ≤ M t 5 ∧ M t 5 ≤ 99 := hT.2.2.2.2.2.1
    have hT6 : 0 ≤ M t 6 ∧ M t 6 ≤ 10 := hT.2.2.2.2.2.2.1
    have hTn : ((M t 1).toNat : Int) = M t 1 := Int.toNat_of_nonneg hT1.1
    have hTn6 : ((M t 6).toNat : Int) = M t 6 := Int.toNat_of_nonneg hT6.1
    refine ms_iload dX5_isHeld_34 rfl ?_
    refine ms_aload_n dX5_isHeld_36 rfl ?_
    refine ms_getR dX5_isHeld_37 (fo_X5_15 rfl) (by first | rfl | assumption) rfl (by first | assumption ) ?_
    refine ms_getI (z := 1) dX5_isHeld_40 (fo_X5_62 rfl) (by first | rfl | assumption) rfl rfl ?_
    refine mi_icmp_ge (tgt := 94) dX5_isHeld_43 (by decide) (fun c_43 => ?_) (fun c_43 => ?_)
    · refine mi_iconst dX5_isHeld_94 ?_
      refine ms_retZ dX5_isHeld_95 rfl (by first | exact Or.inl rfl | exact Or.inr rfl) ⟨rfl, by rw [sp_stays_f (t := sp_tC M t) h4 h1 (fun w w0 w1 => hq w w0 (by simp only at w1; omega))]; rfl⟩ (by simp)
    · exact absurd c_43 (by omega)
  | succ kk ih => 
    intro i g0 g1 hq
    have ht9 : t < 900 := by omega
    have hs_t := tc_s ht
    have hs_t1 := tc_s1 ht
    have hr_t1 := tc_r1 hR ht
    have hs_t2 := tc_s2 ht
    have hr_t2 := tc_r2 hR ht
    have hs_t3 := tc_s3 ht
    have hr_t3 := tc_r3 hR ht
    have hs_t4 := tc_s4 ht
    have hr_t4 := tc_r4 hR ht
    have hs_t5 := tc_s5 ht
    have hr_t5 := tc_r5 hR ht
    have hs_t6 := tc_s6 ht
    have hr_t6 := tc_r6 hR ht
    have hs_t7 := tc_s7 ht
    have hr_t7 := tc_r7 hR ht
    have ha9 : a < 900 := by omega
    have hs_a := sc_s ha
    have hs_a1 := sc_s1 ha
    have hr_a1 := sc_r1 hR ha
    have hs_a2 := sc_s2 ha
    have hr_a2 := sc_r2 hR ha
    have hs_a3 := sc_s3 ha
    have hr_a3 := sc_r3 hR ha
    have hT0 : 1 ≤ M t 0 ∧ M t 0 ≤ 30 := hT.1
    have hT1 : 0 ≤ M t 1 ∧ M t 1 ≤ 6 := hT.2.1
    have hT2 : 1 ≤ M t 2 ∧ M t 2 ≤ 9 := hT.2.2.1
    have hT3 : 0 ≤ M t 3 ∧ M t 3 ≤ 9 := hT.2.2.2.1
    have hT4 : 0 ≤ M t 4 ∧ M t 4 ≤ 9 := hT.2.2.2.2.1
    have hT5 : 1 ≤ M t 5 ∧ M t 5 ≤ 99 := hT.2.2.2.2.2.1
    have hT6 : 0 ≤ M t 6 ∧ M t 6 ≤ 10 := hT.2.2.2.2.2.2.1
    have hTn : ((M t 1).toNat : Int) = M t 1 := Int.toNat_of_nonneg hT1.1
    have hTn6 : ((M t 6).toNat : Int) = M t 6 := Int.toNat_of_nonneg hT6.1
    have hki : 0 ≤ M (t + 1) i ∧ M (t + 1) i ≤ 4 := (hT.2.2.2.2.2.2.2.1 i (by omega) (by show i < M t 1; omega)).1
    have hfar := sp_far_le (t := sp_tC M t) hv (a := l) (b := i) hl ⟨by omega, by show i < M t 1; omega⟩
    simp only at hfar
    refine ms_iload dX5_isHeld_34 rfl ?_
    refine ms_aload_n dX5_isHeld_36 rfl ?_
    refine ms_getR dX5_isHeld_37 (fo_X5_15 rfl) (by first | rfl | assumption) rfl (by first | assumption ) ?_
    refine ms_getI (z := 1) dX5_isHeld_40 (fo_X5_62 rfl) (by first | rfl | assumption) rfl rfl ?_
    refine mi_icmp_ge (tgt := 94) dX5_isHeld_43 (by decide) (fun c_43 => ?_) (fun c_43 => ?_)
    · exact absurd c_43 (by omega)
    · refine ms_aload_n dX5_isHeld_46 rfl ?_
      refine ms_getR dX5_isHeld_47 (fo_X5_15 rfl) (by first | rfl | assumption) rfl (by first | assumption ) ?_
      refine ms_getR dX5_isHeld_50 (fo_X5_97 rfl) (by first | rfl | assumption) rfl (by first | assumption | exact rf_29_7 hR | exact rf_37_7 hR ) ?_
      refine ms_iload dX5_isHeld_53 rfl ?_
      refine ms_iald dX5_isHeld_55 (by first | rfl | assumption) ?_
      refine mi_iconst dX5_isHeld_56 ?_
      refine mi_icmp_ne (tgt := 88) dX5_isHeld_57 (by decide) (fun c_57 => ?_) (fun c_57 => ?_)
      · refine mi_iinc dX5_isHeld_88 rfl (by decide) rfl ?_
        dsimp only [List.set, Nat.reduceAdd]
        refine ms_goto (tgt := 34) dX5_isHeld_91 (by decide) ?_
        exact ih (i + 1) (by omega) (by omega) (lt_st hq (decide_eq_false (by rintro ⟨q1, q2, q3, q4⟩; first | omega | (rw [c_66] at q3; cases q3))))
      · refine ms_aload_n dX5_isHeld_60 rfl ?_
        refine ms_iload dX5_isHeld_61 rfl ?_
        refine ms_callV1 (ci := 2) (r := (RX2, TX2, 6)) dX5_isHeld_63 cv_X5_isHeld_X2_isOut (k_X2_isOut ha (l := i) (by omega) hsc.2.2.1) rfl rfl (by first | rfl | assumption) (Nat.le_of_ble_eq_true rfl) rfl (fun _ _ z => z.elim) (fun v9 h9 hp9 => ?_)
        obtain ⟨rfl, rfl⟩ := hp9
        rw [hsc.2.2.2.1 i (by omega) (by omega)]
        refine mi_if_neB (tgt := 88) dX5_isHeld_66 (by decide) (fun c_66 => ?_) (fun c_66 => ?_)
        · refine mi_iinc dX5_isHeld_88 rfl (by decide) rfl ?_
          dsimp only [List.set, Nat.reduceAdd]
          refine ms_goto (tgt := 34) dX5_isHeld_91 (by decide) ?_
          exact ih (i + 1) (by omega) (by omega) (lt_st hq (decide_eq_false (by rintro ⟨q1, q2, q3, q4⟩; first | omega | (rw [c_66] at q3; cases q3))))
        · refine ms_aload_n dX5_isHeld_69 rfl ?_
          refine ms_iload_n dX5_isHeld_70 rfl ?_
          refine ms_iload dX5_isHeld_71 rfl ?_
          refine ms_callV2 (ci := 2) (r := (RX2, TX2, 6)) dX5_isHeld_73 cv_X5_isHeld_X2_apart (k_X2_apart hR ha (l := l) (o := i) (by omega) (by omega) (fun i8 i0 i1 => ⟨scR.b hT hsc hv (x := l) (by simp only; omega) i0 i1, scR.b hT hsc hv (x := i) (by simp only; omega) i0 i1⟩)) rfl rfl (by first | rfl | assumption) (Nat.le_of_ble_eq_true rfl) rfl (fun _ _ z => z.elim) (fun v9 h9 hp9 => ?_)
          obtain ⟨rfl, rfl⟩ := hp9
          rw [hsc.far (x := l) (y := i) (by simp only; omega) (by simp only; omega)]
          refine ms_aload_n dX5_isHeld_76 rfl ?_
          refine ms_getR dX5_isHeld_77 (fo_X5_15 rfl) (by first | rfl | assumption) rfl (by first | assumption ) ?_
          refine ms_getI (z := 4) dX5_isHeld_80 (fo_X5_108 rfl) (by first | rfl | assumption) rfl rfl ?_
          refine mi_icmp_gt (tgt := 88) dX5_isHeld_83 (by decide) (fun c_83 => ?_) (fun c_83 => ?_)
          · refine mi_iinc dX5_isHeld_88 rfl (by decide) rfl ?_
            dsimp only [List.set, Nat.reduceAdd]
            refine ms_goto (tgt := 34) dX5_isHeld_91 (by decide) ?_
            exact ih (i + 1) (by omega) (by omega) (lt_st hq (decide_eq_false (by rintro ⟨q1, q2, q3, q4⟩; first | omega | (rw [c_66] at q3; cases q3))))
          · refine mi_iconst dX5_isHeld_86 ?_
            refine ms_retZ dX5_isHeld_87 rfl (by first | exact Or.inl rfl | exact Or.inr rfl) ⟨rfl, by rw [sp_stays_3 (t := sp_tC M t) (w := i) g0 (by simp only; omega) ⟨fun z => h4 (by rw [← z]; exact c_57), c_57, c_66, by simp only; omega⟩]; rfl⟩ (by simp)

set_option maxHeartbeats 4000000 in
set_option maxRecDepth 100000 in
theorem k_X5_isHeld {S : mx_Sc} {f : Bool} {M : Nat → Int → Int} {L : Nat → Nat → Int64} {Rf : Nat → Nat → Option Nat} (hR : mx_rf Rf) {t : Nat} (ht : t = 29 ∨ t = 37) (hT : sp_tok (sp_tC M t)) {a : Nat} (ha : a = 3 ∨ a = 11 ∨ a = 18) (hwt : Rf 46 1 = some t) {v : Int → Int} (hsc : scR (sp_tC M t) M a v) (hv : sp_vok (sp_tC M t) v) {n l : Int} (hn : 0 ≤ n ∧ n ≤ 1200) (hnn : M a 3 = n) (hl : 0 ≤ l ∧ l < M t 1) : mx_C S mX5_isHeld [.ref 46, .ref a, .int (iI l)] (f, mx_SH, M, L, Rf) 0 0 (fun v9 h9 => h9 = (f, mx_SH, M, L, Rf) ∧ v9 = some (.int (iI (bI (sp_stays (sp_tC M t) v n l))))) (fun _ _ => False) := by
  refine mx_C_of (by decide) (by simp [Value.category]) (Nat.le_of_ble_eq_true rfl) rfl ?_
  show mx_E S mX5_isHeld 0 [some (.ref 46), some (.ref a), some (.int (iI l)), none, none] [] (f, mx_SH, M, L, Rf) 0 0 _ _
  have ht9 : t < 900 := by omega
  have hs_t := tc_s ht
  have hs_t1 := tc_s1 ht
  have hr_t1 := tc_r1 hR ht
  have hs_t2 := tc_s2 ht
  have hr_t2 := tc_r2 hR ht
  have hs_t3 := tc_s3 ht
  have hr_t3 := tc_r3 hR ht
  have hs_t4 := tc_s4 ht
  have hr_t4 := tc_r4 hR ht
  have hs_t5 := tc_s5 ht
  have hr_t5 := tc_r5 hR ht
  have hs_t6 := tc_s6 ht
  have hr_t6 := tc_r6 hR ht
  have hs_t7 := tc_s7 ht
  have hr_t7 := tc_r7 hR ht
  have ha9 : a < 900 := by omega
  have hs_a := sc_s ha
  have hs_a1 := sc_s1 ha
  have hr_a1 := sc_r1 hR ha
  have hs_a2 := sc_s2 ha
  have hr_a2 := sc_r2 hR ha
  have hs_a3 := sc_s3 ha
  have hr_a3 := sc_r3 hR ha
  have hT0 : 1 ≤ M t 0 ∧ M t 0 ≤ 30 := hT.1
  have hT1 : 0 ≤ M t 1 ∧ M t 1 ≤ 6 := hT.2.1
  have hT2 : 1 ≤ M t 2 ∧ M t 2 ≤ 9 := hT.2.2.1
  have hT3 : 0 ≤ M t 3 ∧ M t 3 ≤ 9 := hT.2.2.2.1
  have hT4 : 0 ≤ M t 4 ∧ M t 4 ≤ 9 := hT.2.2.2.2.1
  have hT5 : 1 ≤ M t 5 ∧ M t 5 ≤ 99 := hT.2.2.2.2.2.1
  have hT6 : 0 ≤ M t 6 ∧ M t 6 ≤ 10 := hT.2.2.2.2.2.2.1
  have hTn : ((M t 1).toNat : Int) = M t 1 := Int.toNat_of_nonneg hT1.1
  have hTn6 : ((M t 6).toNat : Int) = M t 6 := Int.toNat_of_nonneg hT6.1
  have hkl : 0 ≤ M (t + 1) l ∧ M (t + 1) l ≤ 4 := (hT.2.2.2.2.2.2.2.1 l (by omega) (by show l < M t 1; omega)).1
  have hnr := hnn
  refine ms_aload_n dX5_isHeld_0 rfl ?_
  refine ms_getR dX5_isHeld_1 (fo_X5_15 rfl) (by first | rfl | assumption) rfl (by first | assumption ) ?_
  refine ms_getR dX5_isHeld_4 (fo_X5_97 rfl) (by first | rfl | assumption) rfl (by first | assumption | exact rf_29_7 hR | exact rf_37_7 hR ) ?_
  refine ms_iload_n dX5_isHeld_7 rfl ?_
  refine ms_iald dX5_isHeld_8 (by first | rfl | assumption) ?_
  refine ms_istore_n dX5_isHeld_9 (by decide) rfl ?_
  dsimp only [List.set, Nat.reduceAdd]
  refine ms_iload_n dX5_isHeld_10 rfl ?_
  refine mi_iconst dX5_isHeld_11 ?_
  refine mi_icmp_eq (tgt := 29) dX5_isHeld_12 (by decide) (fun c_12 => ?_) (fun c_12 => ?_)
  · refine mi_iconst dX5_isHeld_29 ?_
    refine ms_retZ dX5_isHeld_30 rfl (by first | exact Or.inl rfl | exact Or.inr rfl) ⟨rfl, by first | (rw [sp_stays_1 (t := sp_tC M t) c_12]; rfl) | (rw [sp_stays_2 (t := sp_tC M t) c_17 (by rw [← hnn]; exact c_26)]; rfl)⟩ (by simp)
  · refine ms_iload_n dX5_isHeld_15 rfl ?_
    refine mi_iconst dX5_isHeld_16 ?_
    refine mi_icmp_ne (tgt := 31) dX5_isHeld_17 (by decide) (fun c_17 => ?_) (fun c_17 => ?_)
    · refine mi_iconst dX5_isHeld_31 ?_
      refine ms_istore dX5_isHeld_32 (by decide) rfl ?_
      dsimp only [List.set, Nat.reduceAdd]
      exact l_X5_isHeld hR ht hT ha hwt hsc hv hn hnn hl (by omega) (by omega) (M t 1).toNat 0 (by omega) (by omega) (fun j g0 g1 => by omega)
    · refine ms_aload_n dX5_isHeld_20 rfl ?_
      refine ms_getI (z := 3) dX5_isHeld_21 (fo_X5_38 rfl) (by first | rfl | assumption) rfl rfl ?_
      refine mi_iconst dX5_isHeld_24 ?_
      refine mi_irem dX5_isHeld_25 ?_
      refine mi_if_ne (tgt := 31) dX5_isHeld_26 (by decide) (fun c_26 => ?_) (fun c_26 => ?_)
      · refine mi_iconst dX5_isHeld_31 ?_
        refine ms_istore dX5_isHeld_32 (by decide) rfl ?_
        dsimp only [List.set, Nat.reduceAdd]
        exact l_X5_isHeld hR ht hT ha hwt hsc hv hn hnn hl (by omega) (by omega) (M t 1).toNat 0 (by omega) (by omega) (fun j g0 g1 => by omega)
      · refine mi_iconst dX5_isHeld_29 ?_
        refine ms_retZ dX5_isHeld_30 rfl (by first | exact Or.inl rfl | exact Or.inr rfl) ⟨rfl, by first | (rw [sp_stays_1 (t := sp_tC M t) c_12]; rfl) | (rw [sp_stays_2 (t := sp_tC M t) c_17 (by rw [← hnn]; exact c_26)]; rfl)⟩ (by simp)

set_option maxHeartbeats 4000000 in
set_option maxRecDepth 100000 in
theorem l_X5_findGoal {S : mx_Sc} {f : Bool} {M : Nat → Int → Int} {L : Nat → Nat → Int64} {Rf : Nat → Nat → Option Nat} (hR : mx_rf Rf) {t : Nat} (ht : t = 29 ∨ t = 37) (hT : sp_tok (sp_tC M t)) {a : Nat} (ha : a = 3 ∨ a = 11 ∨ a = 18) (hwt : Rf 46 1 = some t) {v : Int → Int} (hsc : scR (sp_tC M t) M a v) (hv : sp_vok (sp_tC M t) v) {n l : Int} (hn : 0 ≤ n ∧ n ≤ 1200) (hnn : M a 3 = n) (hl : 0 ≤ l ∧ l < M t 1) {w : Int} (hw : -1 ≤ w ∧ w < M t 1) : ∀ (kk : Nat) (j : Nat), j + kk = M t 1 → mx_E S mX5_findGoal 43 [some (.ref 46), some (.ref a), some (.int (iI l)), some (.int (iI w)), some (.int (iI (sp_best (sp_tC M t) v n l j))), some (.int (iI (if sp_best (sp_tC M t) v n l j = -1 then 31 else sp_far v l (sp_best (sp_tC M t) v n l j)))), some (.int (iI (j : Int)))] [] (f, mx_SH, M, L, Rf) 0 0 (fun v9 h9 => h9 = (f, mx_SH, M, L, Rf) ∧ v9 = some (.int (iI (sp_best (sp_tC M t) v n l (M t 1).toNat)))) (fun _ _ => False) := by
  intro kk
  induction kk with
  | zero => 
    intro j g1
    have ht9 : t < 900 := by omega
    have hs_t := tc_s ht
    have hs_t1 := tc_s1 ht
    have hr_t1 := tc_r1 hR ht
    have hs_t2 := tc_s2 ht
    have hr_t2 := tc_r2 hR ht
    have hs_t3 := tc_s3 ht
    have hr_t3 := tc_r3 hR ht
    have hs_t4 := tc_s4 ht
    have hr_t4 := tc_r4 hR ht
    have hs_t5 := tc_s5 ht
    have hr_t5 := tc_r5 hR ht
    have hs_t6 := tc_s6 ht
    have hr_t6 := tc_r6 hR ht
    have hs_t7 := tc_s7 ht
    have hr_t7 := tc_r7 hR ht
    have ha9 : a < 900 := by omega
    have hs_a := sc_s ha
    have hs_a1 := sc_s1 ha
    have hr_a1 := sc_r1 hR ha
    have hs_a2 := sc_s2 ha
    have hr_a2 := sc_r2 hR ha
    have hs_a3 := sc_s3 ha
    have hr_a3 := sc_r3 hR ha
    have hT0 : 1 ≤ M t 0 ∧ M t 0 ≤ 30 := hT.1
    have hT1 : 0 ≤ M t 1 ∧ M t 1 ≤ 6 := hT.2.1
    have hT2 : 1 ≤ M t 2 ∧ M t 2 ≤ 9 := hT.2.2.1
    have hT3 : 0 ≤ M t 3 ∧ M t 3 ≤ 9 := hT.2.2.2.1
    have hT4 : 0 ≤ M t 4 ∧ M t 4 ≤ 9 := hT.2.2.2.2.1
    have hT5 : 1 ≤ M t 5 ∧ M t 5 ≤ 99 := hT.2.2.2.2.2.1
    have hT6 : 0 ≤ M t 6 ∧ M t 6 ≤ 10 := hT.2.2.2.2.2.2.1
    have hTn : ((M t 1).toNat : Int) = M t 1 := Int.toNat_of_nonneg hT1.1
    have hTn6 : ((M t 6).toNat : Int) = M t 6 := Int.toNat_of_nonneg hT6.1
    have hb := sp_best_rng (sp_tC M t) v n l j
    refine ms_iload dX5_findGoal_43 rfl ?_
    refine ms_aload_n dX5_findGoal_45 rfl ?_
    refine ms_getR dX5_findGoal_46 (fo_X5_15 rfl) (by first | rfl | assumption) rfl (by first | assumption ) ?_
    refine ms_getI (z := 1) dX5_findGoal_49 (fo_X5_62 rfl) (by first | rfl | assumption) rfl rfl ?_
    refine mi_icmp_ge (tgt := 118) dX5_findGoal_52 (by decide) (fun c_52 => ?_) (fun c_52 => ?_)
    · refine ms_iload dX5_findGoal_118 rfl ?_
      refine ms_ret dX5_findGoal_120 rfl ⟨rfl, by rw [show (M t 1).toNat = j by omega]⟩ (by simp)
    · exact absurd c_52 (by omega)
  | succ kk ih => 
    intro j g1
    have ht9 : t < 900 := by omega
    have hs_t := tc_s ht
    have hs_t1 := tc_s1 ht
    have hr_t1 := tc_r1 hR ht
    have hs_t2 := tc_s2 ht
    have hr_t2 := tc_r2 hR ht
    have hs_t3 := tc_s3 ht
    have hr_t3 := tc_r3 hR ht
    have hs_t4 := tc_s4 ht
    have hr_t4 := tc_r4 hR ht
    have hs_t5 := tc_s5 ht
    have hr_t5 := tc_r5 hR ht
    have hs_t6 := tc_s6 ht
    have hr_t6 := tc_r6 hR ht
    have hs_t7 := tc_s7 ht
    have hr_t7 := tc_r7 hR ht
    have ha9 : a < 900 := by omega
    have hs_a := sc_s ha
    have hs_a1 := sc_s1 ha
    have hr_a1 := sc_r1 hR ha
    have hs_a2 := sc_s2 ha
    have hr_a2 := sc_r2 hR ha
    have hs_a3 := sc_s3 ha
    have hr_a3 := sc_r3 hR ha
    have hT0 : 1 ≤ M t 0 ∧ M t 0 ≤ 30 := hT.1
    have hT1 : 0 ≤ M t 1 ∧ M t 1 ≤ 6 := hT.2.1
    have hT2 : 1 ≤ M t 2 ∧ M t 2 ≤ 9 := hT.2.2.1
    have hT3 : 0 ≤ M t 3 ∧ M t 3 ≤ 9 := hT.2.2.2.1
    have hT4 : 0 ≤ M t 4 ∧ M t 4 ≤ 9 := hT.2.2.2.2.1
    have hT5 : 1 ≤ M t 5 ∧ M t 5 ≤ 99 := hT.2.2.2.2.2.1
    have hT6 : 0 ≤ M t 6 ∧ M t 6 ≤ 10 := hT.2.2.2.2.2.2.1
    have hTn : ((M t 1).toNat : Int) = M t 1 := Int.toNat_of_nonneg hT1.1
    have hTn6 : ((M t 6).toNat : Int) = M t 6 := Int.toNat_of_nonneg hT6.1
    have hb := sp_best_rng (sp_tC M t) v n l j
    have hfar := sp_far_le (t := sp_tC M t) hv (a := l) (b := (j : Int)) hl ⟨by omega, by show (j : Int) < M t 1; omega⟩
    simp only at hfar
    have hls : 0 ≤ (if sp_best (sp_tC M t) v n l j = -1 then 31 else sp_far v l (sp_best (sp_tC M t) v n l j)) ∧ (if sp_best (sp_tC M t) v n l j = -1 then 31 else sp_far v l (sp_best (sp_tC M t) v n l j)) ≤ 31 := by
      split
      · omega
      · have h9 := sp_far_le (t := sp_tC M t) hv (a := l) (b := sp_best (sp_tC M t) v n l j) hl ⟨by omega, by show _ < M t 1; omega⟩
        simp only at h9
        omega
    refine ms_iload dX5_findGoal_43 rfl ?_
    refine ms_aload_n dX5_findGoal_45 rfl ?_
    refine ms_getR dX5_findGoal_46 (fo_X5_15 rfl) (by first | rfl | assumption) rfl (by first | assumption ) ?_
    refine ms_getI (z := 1) dX5_findGoal_49 (fo_X5_62 rfl) (by first | rfl | assumption) rfl rfl ?_
    refine mi_icmp_ge (tgt := 118) dX5_findGoal_52 (by decide) (fun c_52 => ?_) (fun c_52 => ?_)
    · exact absurd c_52 (by omega)
    · refine ms_iload dX5_findGoal_55 rfl ?_
      refine ms_iload_n dX5_findGoal_57 rfl ?_
      refine mi_icmp_eq (tgt := 112) dX5_findGoal_58 (by decide) (fun c_58 => ?_) (fun c_58 => ?_)
      · refine mi_iinc dX5_findGoal_112 rfl (by decide) rfl ?_
        dsimp only [List.set, Nat.reduceAdd]
        refine ms_goto (tgt := 43) dX5_findGoal_115 (by decide) ?_
        have i9 := ih (j + 1) (by omega)
        rw [show sp_best (sp_tC M t) v n l (j + 1) = sp_best (sp_tC M t) v n l j from if_neg (fun g => g.1.1 c_58)] at i9
        exact i9
      · refine ms_aload_n dX5_findGoal_61 rfl ?_
        refine ms_iload dX5_findGoal_62 rfl ?_
        refine ms_callV1 (ci := 2) (r := (RX2, TX2, 6)) dX5_findGoal_64 cv_X5_findGoal_X2_isOut (k_X2_isOut ha (l := (j : Int)) (by omega) hsc.2.2.1) rfl rfl (by first | rfl | assumption) (Nat.le_of_ble_eq_true rfl) rfl (fun _ _ z => z.elim) (fun v9 h9 hp9 => ?_)
        obtain ⟨rfl, rfl⟩ := hp9
        rw [hsc.2.2.2.1 (j : Int) (by omega) (by omega)]
        refine mi_if_neB (tgt := 112) dX5_findGoal_67 (by decide) (fun c_67 => ?_) (fun c_67 => ?_)
        · refine mi_iinc dX5_findGoal_112 rfl (by decide) rfl ?_
          dsimp only [List.set, Nat.reduceAdd]
          refine ms_goto (tgt := 43) dX5_findGoal_115 (by decide) ?_
          have i9 := ih (j + 1) (by omega)
          rw [show sp_best (sp_tC M t) v n l (j + 1) = sp_best (sp_tC M t) v n l j from if_neg (fun g => by rw [c_67] at g; exact absurd g.1.2.1 (by decide))] at i9
          exact i9
        · refine ms_aload_n dX5_findGoal_70 rfl ?_
          refine ms_iload_n dX5_findGoal_71 rfl ?_
          refine ms_iload dX5_findGoal_72 rfl ?_
          refine ms_callV2 (ci := 2) (r := (RX2, TX2, 6)) dX5_findGoal_74 cv_X5_findGoal_X2_apart (k_X2_apart hR ha (l := l) (o := (j : Int)) (by omega) (by omega) (fun i8 i0 i1 => ⟨scR.b hT hsc hv (x := l) (by simp only; omega) i0 i1, scR.b hT hsc hv (x := (j : Int)) (by simp only; omega) i0 i1⟩)) rfl rfl (by first | rfl | assumption) (Nat.le_of_ble_eq_true rfl) rfl (fun _ _ z => z.elim) (fun v9 h9 hp9 => ?_)
          obtain ⟨rfl, rfl⟩ := hp9
          rw [hsc.far (x := l) (y := (j : Int)) (by simp only; omega) (by simp only; omega)]
          refine ms_iload dX5_findGoal_77 rfl ?_
          refine mi_icmp_ge (tgt := 112) dX5_findGoal_79 (by decide) (fun c_79 => ?_) (fun c_79 => ?_)
          · refine mi_iinc dX5_findGoal_112 rfl (by decide) rfl ?_
            dsimp only [List.set, Nat.reduceAdd]
            refine ms_goto (tgt := 43) dX5_findGoal_115 (by decide) ?_
            have i9 := ih (j + 1) (by omega)
            rw [show sp_best (sp_tC M t) v n l (j + 1) = sp_best (sp_tC M t) v n l j from if_neg (fun g => by rcases g.2 with z | z; (rw [if_pos z] at c_79; omega); (by_cases z2 : sp_best (sp_tC M t) v n l j = -1; (rw [if_pos z2] at c_79; omega); (rw [if_neg z2] at c_79; omega)))] at i9
            exact i9
          · refine ms_aload_n dX5_findGoal_82 rfl ?_
            refine ms_getR dX5_findGoal_83 (fo_X5_15 rfl) (by first | rfl | assumption) rfl (by first | assumption ) ?_
            refine ms_aload_n dX5_findGoal_86 rfl ?_
            refine ms_getI (z := 3) dX5_findGoal_87 (fo_X5_38 rfl) (by first | rfl | assumption) rfl rfl ?_
            refine ms_iload_n dX5_findGoal_90 rfl ?_
            refine ms_iload dX5_findGoal_91 rfl ?_
            refine ms_callV3 (ci := 4) (r := (RX4, TX4, 14)) dX5_findGoal_93 cv_X5_findGoal_X4_hides (k_X4_hides hR ht hT (n := M a 3) (x := l) (y := (j : Int)) (by omega) (by omega) (by omega)) rfl rfl (by first | rfl | assumption) (Nat.le_of_ble_eq_true rfl) rfl (fun _ _ z => z.elim) (fun v9 h9 hp9 => ?_)
            obtain ⟨rfl, rfl⟩ := hp9
            rw [hnn]
            refine mi_if_neB (tgt := 112) dX5_findGoal_96 (by decide) (fun c_96 => ?_) (fun c_96 => ?_)
            · refine mi_iinc dX5_findGoal_112 rfl (by decide) rfl ?_
              dsimp only [List.set, Nat.reduceAdd]
              refine ms_goto (tgt := 43) dX5_findGoal_115 (by decide) ?_
              have i9 := ih (j + 1) (by omega)
              rw [show sp_best (sp_tC M t) v n l (j + 1) = sp_best (sp_tC M t) v n l j from if_neg (fun g => by rw [c_96] at g; exact absurd g.1.2.2 (by decide))] at i9
              exact i9
            · refine ms_iload dX5_findGoal_99 rfl ?_
              refine ms_istore dX5_findGoal_101 (by decide) rfl ?_
              dsimp only [List.set, Nat.reduceAdd]
              refine ms_aload_n dX5_findGoal_103 rfl ?_
              refine ms_iload_n dX5_findGoal_104 rfl ?_
              refine ms_iload dX5_findGoal_105 rfl ?_
              refine ms_callV2 (ci := 2) (r := (RX2, TX2, 6)) dX5_findGoal_107 cv_X5_findGoal_X2_apart (k_X2_apart hR ha (l := l) (o := (j : Int)) (by omega) (by omega) (fun i8 i0 i1 => ⟨scR.b hT hsc hv (x := l) (by simp only; omega) i0 i1, scR.b hT hsc hv (x := (j : Int)) (by simp only; omega) i0 i1⟩)) rfl rfl (by first | rfl | assumption) (Nat.le_of_ble_eq_true rfl) rfl (fun _ _ z => z.elim) (fun v9 h9 hp9 => ?_)
              obtain ⟨rfl, rfl⟩ := hp9
              rw [hsc.far (x := l) (y := (j : Int)) (by simp only; omega) (by simp only; omega)]
              refine ms_istore dX5_findGoal_110 (by decide) rfl ?_
              dsimp only [List.set, Nat.reduceAdd]
              have hb1 : sp_best (sp_tC M t) v n l (j + 1) = (j : Int) := if_pos ⟨⟨c_58, c_67, c_96⟩, by by_cases z2 : sp_best (sp_tC M t) v n l j = -1; exact Or.inl z2; (rw [if_neg z2] at c_79; exact Or.inr (by omega))⟩
              refine mi_iinc dX5_findGoal_112 rfl (by decide) rfl ?_
              dsimp only [List.set, Nat.reduceAdd]
              refine ms_goto (tgt := 43) dX5_findGoal_115 (by decide) ?_
              have i9 := ih (j + 1) (by omega)
              rw [hb1, if_neg (show ¬ (j : Int) = -1 by omega)] at i9
              exact i9

set_option maxHeartbeats 4000000 in
set_option maxRecDepth 100000 in
theorem k_X5_findGoal {S : mx_Sc} {f : Bool} {M : Nat → Int → Int} {L : Nat → Nat → Int64} {Rf : Nat → Nat → Option Nat} (hR : mx_rf Rf) {t : Nat} (ht : t = 29 ∨ t = 37) (hT : sp_tok (sp_tC M t)) {a : Nat} (ha : a = 3 ∨ a = 11 ∨ a = 18) (hwt : Rf 46 1 = some t) {v : Int → Int} (hsc : scR (sp_tC M t) M a v) (hv : sp_vok (sp_tC M t) v) {n l : Int} (hn : 0 ≤ n ∧ n ≤ 1200) (hnn : M a 3 = n) (hl : 0 ≤ l ∧ l < M t 1) {w : Int} (hw : -1 ≤ w ∧ w < M t 1) : mx_C S mX5_findGoal [.ref 46, .ref a, .int (iI l), .int (iI w)] (f, mx_SH, M, L, Rf) 0 0 (fun v9 h9 => h9 = (f, mx_SH, M, L, Rf) ∧ v9 = some (.int (iI (sp_to (sp_tC M t) v n l w)))) (fun _ _ => False) := by
  refine mx_C_of (by decide) (by simp [Value.category]) (Nat.le_of_ble_eq_true rfl) rfl ?_
  show mx_E S mX5_findGoal 0 [some (.ref 46), some (.ref a), some (.int (iI l)), some (.int (iI w)), none, none, none] [] (f, mx_SH, M, L, Rf) 0 0 _ _
  have ht9 : t < 900 := by omega
  have hs_t := tc_s ht
  have hs_t1 := tc_s1 ht
  have hr_t1 := tc_r1 hR ht
  have hs_t2 := tc_s2 ht
  have hr_t2 := tc_r2 hR ht
  have hs_t3 := tc_s3 ht
  have hr_t3 := tc_r3 hR ht
  have hs_t4 := tc_s4 ht
  have hr_t4 := tc_r4 hR ht
  have hs_t5 := tc_s5 ht
  have hr_t5 := tc_r5 hR ht
  have hs_t6 := tc_s6 ht
  have hr_t6 := tc_r6 hR ht
  have hs_t7 := tc_s7 ht
  have hr_t7 := tc_r7 hR ht
  have ha9 : a < 900 := by omega
  have hs_a := sc_s ha
  have hs_a1 := sc_s1 ha
  have hr_a1 := sc_r1 hR ha
  have hs_a2 := sc_s2 ha
  have hr_a2 := sc_r2 hR ha
  have hs_a3 := sc_s3 ha
  have hr_a3 := sc_r3 hR ha
  have hT0 : 1 ≤ M t 0 ∧ M t 0 ≤ 30 := hT.1
  have hT1 : 0 ≤ M t 1 ∧ M t 1 ≤ 6 := hT.2.1
  have hT2 : 1 ≤ M t 2 ∧ M t 2 ≤ 9 := hT.2.2.1
  have hT3 : 0 ≤ M t 3 ∧ M t 3 ≤ 9 := hT.2.2.2.1
  have hT4 : 0 ≤ M t 4 ∧ M t 4 ≤ 9 := hT.2.2.2.2.1
  have hT5 : 1 ≤ M t 5 ∧ M t 5 ≤ 99 := hT.2.2.2.2.2.1
  have hT6 : 0 ≤ M t 6 ∧ M t 6 ≤ 10 := hT.2.2.2.2.2.2.1
  have hTn : ((M t 1).toNat : Int) = M t 1 := Int.toNat_of_nonneg hT1.1
  have hTn6 : ((M t 6).toNat : Int) = M t 6 := Int.toNat_of_nonneg hT6.1
  refine ms_iload_n dX5_findGoal_0 rfl ?_
  refine mi_iconst dX5_findGoal_1 ?_
  refine mi_icmp_eq (tgt := 13) dX5_findGoal_2 (by decide) (fun c_2 => ?_) (fun c_2 => ?_)
  · refine mi_iconst dX5_findGoal_13 ?_
    refine ms_ret dX5_findGoal_14 rfl ⟨rfl, by first | (rw [show sp_to (sp_tC M t) v n l w = -1 from if_pos (Or.inl c_2)]) | (rw [show sp_to (sp_tC M t) v n l w = -1 from if_pos (Or.inr c_10)])⟩ (by simp)
  · refine ms_aload_n dX5_findGoal_5 rfl ?_
    refine ms_iload_n dX5_findGoal_6 rfl ?_
    refine ms_callV1 (ci := 2) (r := (RX2, TX2, 6)) dX5_findGoal_7 cv_X5_findGoal_X2_isOut (k_X2_isOut ha (l := w) (by omega) hsc.2.2.1) rfl rfl (by first | rfl | assumption) (Nat.le_of_ble_eq_true rfl) rfl (fun _ _ z => z.elim) (fun v9 h9 hp9 => ?_)
    obtain ⟨rfl, rfl⟩ := hp9
    rw [hsc.2.2.2.1 w (by omega) (by omega)]
    refine mi_if_eqB (tgt := 15) dX5_findGoal_10 (by decide) (fun c_10 => ?_) (fun c_10 => ?_)
    · refine ms_aload_n dX5_findGoal_15 rfl ?_
      refine ms_getR dX5_findGoal_16 (fo_X5_15 rfl) (by first | rfl | assumption) rfl (by first | assumption ) ?_
      refine ms_aload_n dX5_findGoal_19 rfl ?_
      refine ms_getI (z := 3) dX5_findGoal_20 (fo_X5_38 rfl) (by first | rfl | assumption) rfl rfl ?_
      refine ms_iload_n dX5_findGoal_23 rfl ?_
      refine ms_iload_n dX5_findGoal_24 rfl ?_
      refine ms_callV3 (ci := 4) (r := (RX4, TX4, 14)) dX5_findGoal_25 cv_X5_findGoal_X4_hides (k_X4_hides hR ht hT (n := M a 3) (x := l) (y := w) (by omega) (by omega) (by omega)) rfl rfl (by first | rfl | assumption) (Nat.le_of_ble_eq_true rfl) rfl (fun _ _ z => z.elim) (fun v9 h9 hp9 => ?_)
      obtain ⟨rfl, rfl⟩ := hp9
      rw [hnn]
      refine mi_if_neB (tgt := 33) dX5_findGoal_28 (by decide) (fun c_28 => ?_) (fun c_28 => ?_)
      · refine mi_iconst dX5_findGoal_33 ?_
        refine ms_istore dX5_findGoal_34 (by decide) rfl ?_
        dsimp only [List.set, Nat.reduceAdd]
        refine mi_bipush dX5_findGoal_36 (by decide) ?_
        refine ms_istore dX5_findGoal_38 (by decide) rfl ?_
        dsimp only [List.set, Nat.reduceAdd]
        refine mi_iconst dX5_findGoal_40 ?_
        refine ms_istore dX5_findGoal_41 (by decide) rfl ?_
        dsimp only [List.set, Nat.reduceAdd]
        refine ms_conseq (fun v9 h9 hp => ?_) (fun _ _ z => z) (l_X5_findGoal hR ht hT ha hwt hsc hv hn hnn hl hw (M t 1).toNat 0 (by omega))
        refine ⟨hp.1, ?_⟩
        rw [hp.2]
        simp only [sp_to, c_10, c_28, if_neg c_2]
        simp [c_2]
      · refine ms_iload_n dX5_findGoal_31 rfl ?_
        refine ms_ret dX5_findGoal_32 rfl ⟨rfl, by simp [sp_to, c_2, c_10, c_28]⟩ (by simp)
    · refine mi_iconst dX5_findGoal_13 ?_
      refine ms_ret dX5_findGoal_14 rfl ⟨rfl, by first | (rw [show sp_to (sp_tC M t) v n l w = -1 from if_pos (Or.inl c_2)]) | (rw [show sp_to (sp_tC M t) v n l w = -1 from if_pos (Or.inr c_10)])⟩ (by simp)

