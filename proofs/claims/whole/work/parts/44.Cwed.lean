/-- bits of two -/
def oor (a b : Int) : Int := ((a.toNat ||| b.toNat : Nat) : Int)
theorem p2_shl0 : ∀ l : Fin 7, iI 1 <<< (iI (l.val : Int) &&& 31) = iI (2 ^ ((l.val : Int)).toNat) := by decide +kernel
theorem p2_shl {l : Int} (h : 0 ≤ l ∧ l < 7) : iI 1 <<< (iI l &&& 31) = iI (2 ^ l.toNat) := fin_of (n := 7) (P := fun l => iI 1 <<< (iI l &&& 31) = iI (2 ^ l.toNat)) p2_shl0 h.1 h.2
theorem p2_lt {l : Int} (h : 0 ≤ l ∧ l < 6) : 0 ≤ (2 : Int) ^ l.toNat ∧ (2 : Int) ^ l.toNat < 64 := fin_of (n := 6) (P := fun l => 0 ≤ (2 : Int) ^ l.toNat ∧ (2 : Int) ^ l.toNat < 64) (by decide +kernel) h.1 h.2
theorem oor_0 : ∀ a b : Fin 64, iI (a.val : Int) ||| iI (b.val : Int) = iI (oor (a.val : Int) (b.val : Int)) ∧ oor (a.val : Int) (b.val : Int) < 64 := by decide +kernel
theorem oor_e {a b : Int} (ha : 0 ≤ a ∧ a < 64) (hb : 0 ≤ b ∧ b < 64) : iI a ||| iI b = iI (oor a b) := (fin_of (n := 64) (P := fun a => iI a ||| iI b = iI (oor a b) ∧ oor a b < 64) (fun i => fin_of (n := 64) (P := fun b => iI (i.val : Int) ||| iI b = iI (oor (i.val : Int) b) ∧ oor (i.val : Int) b < 64) (fun j => oor_0 i j) hb.1 hb.2) ha.1 ha.2).1
theorem oor_lt {a b : Int} (ha : 0 ≤ a ∧ a < 64) (hb : 0 ≤ b ∧ b < 64) : 0 ≤ oor a b ∧ oor a b < 64 := ⟨Int.natCast_nonneg _, (fin_of (n := 64) (P := fun a => iI a ||| iI b = iI (oor a b) ∧ oor a b < 64) (fun i => fin_of (n := 64) (P := fun b => iI (i.val : Int) ||| iI b = iI (oor (i.val : Int) b) ∧ oor (i.val : Int) b < 64) (fun j => oor_0 i j) hb.1 hb.2) ha.1 ha.2).2⟩
theorem ob_oor0 : ∀ a : Fin 64, ∀ l y : Fin 6, ob (oor (a.val : Int) (2 ^ ((l.val : Int)).toNat)) (y.val : Int) = if (y.val : Int) = (l.val : Int) then 1 else ob (a.val : Int) (y.val : Int) := by decide +kernel
theorem ob_oor {a l y : Int} (ha : 0 ≤ a ∧ a < 64) (hl : 0 ≤ l ∧ l < 6) (hy : 0 ≤ y ∧ y < 6) : ob (oor a (2 ^ l.toNat)) y = if y = l then 1 else ob a y := fin_of (n := 64) (P := fun a => ob (oor a (2 ^ l.toNat)) y = if y = l then 1 else ob a y) (fun i => fin_of (n := 6) (P := fun l => ob (oor (i.val : Int) (2 ^ l.toNat)) y = if y = l then 1 else ob (i.val : Int) y) (fun j => fin_of (n := 6) (P := fun y => ob (oor (i.val : Int) (2 ^ ((j.val : Int)).toNat)) y = if y = (j.val : Int) then 1 else ob (i.val : Int) y) (fun k => ob_oor0 i j k) hy.1 hy.2) hl.1 hl.2) ha.1 ha.2
theorem oor_as (a b c : Int) : oor a (oor b c) = oor (oor a b) c := by
  unfold oor
  simp only [Int.toNat_natCast]
  rw [Nat.or_assoc]
theorem sp_out_iu {v : Int → Int} {k x l : Int} (h : 18 + l ≠ k) : sp_out (iu v k x) l = sp_out v l := by
  unfold sp_out
  rw [iu_n _ _ h]
theorem l_X2_marry {f : Bool} {M : Nat → Int → Int} {L : Nat → Nat → Int64} {Rf : Nat → Nat → Option Nat} {a : Nat} (ha : a = 3 ∨ a = 11 ∨ a = 18) {t : sp_T} (hT : sp_tok t) {v : Int → Int} (hsc : scR t M a v) {l o n : Int} (hl : 0 ≤ l ∧ l < t.1 1) (ho : 0 ≤ o ∧ o < t.1 1) (hlo : l < o) (h1 : sp_out v l = false) (h2 : sp_out v o = false) (hn : M a 3 = n) (N : Nat → Int → Int) (hN2 : N (a + 2) = iu (iu (M (a + 2)) l o) o l) (hN3 : N (a + 3) = iu (iu (M (a + 3)) l n) o n) (hN : N a = iu (iu (M a) 4 (oor (M a 4) (oor (2 ^ l.toNat) (2 ^ o.toNat)))) 5 (M a 5 + 1)) (hNx : ∀ x, x ≠ a → x ≠ a + 2 → x ≠ a + 3 → N x = M x) : scR t N a (sp_marry v l o n) := by
  have hT1 := hT.2.1
  have hb := hsc.2.2.1
  have hpl := p2_lt (l := l) (by omega)
  have hpo := p2_lt (l := o) (by omega)
  refine ⟨fun i i0 i1 => ?_, fun x x0 x1 => ⟨?_, ?_⟩, ?_, fun x x0 x1 => ?_, ?_⟩
  · rw [hNx (a + 1) (by omega) (by omega) (by omega), hsc.1 i i0 i1]
    unfold sp_marry
    rw [iu_n _ _ (by omega), iu_n _ _ (by omega), iu_n _ _ (by omega), iu_n _ _ (by omega)]
  · rw [hN2]
    have e := (hsc.2.1 x x0 x1).1
    unfold sp_marry
    simp only [iu]
    repeat' split
    all_goals omega
  · rw [hN3]
    have e := (hsc.2.1 x x0 x1).2
    unfold sp_marry
    simp only [iu]
    repeat' split
    all_goals omega
  · rw [hN, iu_n _ _ (by decide), iu_s]
    exact oor_lt hb (oor_lt hpl hpo)
  · rw [hN, iu_n _ _ (by decide), iu_s, oor_as, ob_oor (oor_lt hb hpl) (by omega) ⟨x0, x1⟩, ob_oor hb (by omega) ⟨x0, x1⟩, sp_marry_out (by omega) (by omega) ⟨x0, x1⟩, hsc.2.2.2.1 x x0 x1]
    by_cases q : x = o
    · rw [if_pos q, decide_eq_true q, Bool.or_true]
      rfl
    · by_cases q2 : x = l
      · rw [if_neg q, if_pos q2, decide_eq_true q2, Bool.or_true, Bool.true_or]
        rfl
      · rw [if_neg q, if_neg q2, decide_eq_false q, decide_eq_false q2, Bool.or_false, Bool.or_false]
  · rw [hN, iu_s, sp_cnt_marry hT hl ho hlo h1 h2, hsc.2.2.2.2]
    omega
set_option maxHeartbeats 4000000 in
set_option maxRecDepth 100000 in
theorem k_X2_marry {S : mx_Sc} {f : Bool} {M : Nat → Int → Int} {L : Nat → Nat → Int64} {Rf : Nat → Nat → Option Nat} (hR : mx_rf Rf) {a : Nat} (ha : a = 3 ∨ a = 11 ∨ a = 18) {t : sp_T} (hT : sp_tok t) {v : Int → Int} (hsc : scR t M a v) {l o n : Int} (hl : 0 ≤ l ∧ l < t.1 1) (ho : 0 ≤ o ∧ o < t.1 1) (hlo : l < o) (h1 : sp_out v l = false) (h2 : sp_out v o = false) (hn : M a 3 = n) : mx_C S mX2_marry [.ref a, .int (iI l), .int (iI o)] (f, mx_SH, M, L, Rf) 0 0 (fun v9 h9 => ∃ N, h9 = (f, mx_SH, N, L, Rf) ∧ v9 = none ∧ (∀ x, x ≠ a → x ≠ a + 2 → x ≠ a + 3 → N x = M x) ∧ (∀ k, k ≠ 4 → k ≠ 5 → N a k = M a k) ∧ scR t N a (sp_marry v l o n)) (fun _ _ => False) := by
  refine mx_C_of (by decide) (by simp [Value.category]) (Nat.le_of_ble_eq_true rfl) rfl ?_
  show mx_E S mX2_marry 0 [some (.ref a), some (.int (iI l)), some (.int (iI o))] [] (f, mx_SH, M, L, Rf) 0 0 _ _
  have ha9 : a < 900 := by omega
  have hs_a := sc_s ha
  have hs_a1 := sc_s1 ha
  have hr_a1 := sc_r1 hR ha
  have hs_a2 := sc_s2 ha
  have hr_a2 := sc_r2 hR ha
  have hs_a3 := sc_s3 ha
  have hr_a3 := sc_r3 hR ha
  have hT1 := hT.2.1
  have hb := hsc.2.2.1
  have hpl := p2_lt (l := l) (by omega)
  have hpo := p2_lt (l := o) (by omega)
  refine ms_aload_n dX2_marry_0 rfl ?_
  refine ms_getR dX2_marry_1 (fo_X2_15 rfl) (by first | rfl | assumption) rfl (by first | assumption | exact rf_3_1 hR | exact rf_11_1 hR | exact rf_18_1 hR ) ?_
  refine ms_iload_n dX2_marry_4 rfl ?_
  refine ms_iload_n dX2_marry_5 rfl ?_
  refine ms_iast dX2_marry_6 (by first | rfl | assumption) ?_
  refine ms_aload_n dX2_marry_7 rfl ?_
  refine ms_getR dX2_marry_8 (fo_X2_15 rfl) (by first | rfl | assumption) rfl (by first | assumption | exact rf_3_1 hR | exact rf_11_1 hR | exact rf_18_1 hR ) ?_
  refine ms_iload_n dX2_marry_11 rfl ?_
  refine ms_iload_n dX2_marry_12 rfl ?_
  refine ms_iast dX2_marry_13 (by first | rfl | assumption) ?_
  refine ms_aload_n dX2_marry_14 rfl ?_
  refine ms_getR dX2_marry_15 (fo_X2_18 rfl) (by first | rfl | assumption) rfl (by first | assumption | exact rf_3_2 hR | exact rf_11_2 hR | exact rf_18_2 hR ) ?_
  refine ms_iload_n dX2_marry_18 rfl ?_
  refine ms_aload_n dX2_marry_19 rfl ?_
  refine ms_getI (z := 3) dX2_marry_20 (fo_X2_30 rfl) (by first | rfl | assumption) rfl rfl ?_
  refine ms_iast dX2_marry_23 (by first | rfl | assumption) ?_
  refine ms_aload_n dX2_marry_24 rfl ?_
  refine ms_getR dX2_marry_25 (fo_X2_18 rfl) (by first | rfl | assumption) rfl (by first | assumption | exact rf_3_2 hR | exact rf_11_2 hR | exact rf_18_2 hR ) ?_
  refine ms_iload_n dX2_marry_28 rfl ?_
  refine ms_aload_n dX2_marry_29 rfl ?_
  refine ms_getI (z := 3) dX2_marry_30 (fo_X2_30 rfl) (by first | rfl | assumption) rfl rfl ?_
  refine ms_iast dX2_marry_33 (by first | rfl | assumption) ?_
  refine ms_aload_n dX2_marry_34 rfl ?_
  refine ms_dup dX2_marry_35 rfl ?_
  refine ms_getI (z := 4) dX2_marry_36 (fo_X2_34 rfl) (by first | rfl | assumption) rfl rfl ?_
  refine mi_iconst dX2_marry_39 ?_
  refine ms_iload_n dX2_marry_40 rfl ?_
  refine mi_ishl (2 ^ l.toNat) dX2_marry_41 (p2_shl (by omega)) ?_
  refine mi_iconst dX2_marry_42 ?_
  refine ms_iload_n dX2_marry_43 rfl ?_
  refine mi_ishl (2 ^ o.toNat) dX2_marry_44 (p2_shl (by omega)) ?_
  refine mi_ior (oor (2 ^ l.toNat) (2 ^ o.toNat)) dX2_marry_45 (oor_e hpl hpo) ?_
  refine mi_ior (oor (M a 4) (oor (2 ^ l.toNat) (2 ^ o.toNat))) dX2_marry_46 (by simp [va_up]; exact oor_e hb (oor_lt hpl hpo)) ?_
  refine ms_putI (z := 4) dX2_marry_47 (fo_X2_34 rfl) (by first | rfl | assumption) rfl rfl rfl ?_
  refine ms_aload_n dX2_marry_50 rfl ?_
  refine ms_dup dX2_marry_51 rfl ?_
  refine ms_getI (z := 5) dX2_marry_52 (fo_X2_37 rfl) (by first | rfl | assumption) rfl rfl ?_
  refine mi_iconst dX2_marry_55 ?_
  refine mi_iadd dX2_marry_56 ?_
  refine ms_putI (z := 5) dX2_marry_57 (fo_X2_37 rfl) (by first | rfl | assumption) rfl rfl rfl ?_
  refine ms_retV dX2_marry_60 rfl ⟨_, rfl, rfl, ?_, ?_, l_X2_marry (f := f) (L := L) (Rf := Rf) ha hT hsc hl ho hlo h1 h2 hn _ ?_ ?_ ?_ ?_⟩ (by simp)
  · intro x q1 q2 q3
    simp [va_up, q1, q2, q3]
  · intro k q1 q2
    simp [va_up, iu, q1, q2]
  · simp [va_up]
  · simp [va_up, hn]
  · simp [va_up, iu]
  · intro x q1 q2 q3
    simp [va_up, q1, q2, q3]

