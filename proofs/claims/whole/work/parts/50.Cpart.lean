set_option maxHeartbeats 4000000 in
set_option maxRecDepth 100000 in
theorem k_X2_begin {S : mx_Sc} {f : Bool} {sh : List (Nat × Nat)} {M : Nat → Int → Int} {L : Nat → Nat → Int64} {Rf : Nat → Nat → Option Nat} {t : Nat} (ht : t = 29 ∨ t = 37) {a : Nat} (ha : a = 3 ∨ a = 11 ∨ a = 18) (hs_t : sh[t]? = some (7, 14)) (hs_t4 : sh[t + 4]? = some (0, 18)) (hr_t4 : Rf t 10 = some (t + 4)) (hs_a : sh[a]? = some (5, 6)) (hs_a1 : sh[a + 1]? = some (0, 18)) (hs_a2 : sh[a + 2]? = some (0, 6)) (hs_a3 : sh[a + 3]? = some (0, 6)) (hr_a1 : Rf a 0 = some (a + 1)) (hr_a2 : Rf a 1 = some (a + 2)) (hr_a3 : Rf a 2 = some (a + 3)) : mx_C S mX2_begin [.ref a, .ref t] (f, sh, M, L, Rf) 0 0 (fun v9 h9 => ∃ N, h9 = (f, sh, N, L, Rf) ∧ v9 = none ∧ (∀ x, x ≠ a → x ≠ a + 1 → x ≠ a + 2 → x ≠ a + 3 → N x = M x) ∧ (∀ i, 0 ≤ i → i < 18 → N (a + 1) i = M (t + 4) i) ∧ (∀ l, 0 ≤ l → l < 6 → N (a + 2) l = -1 ∧ N (a + 3) l = -1) ∧ N a 3 = 0 ∧ N a 4 = 0 ∧ N a 5 = 0) (fun _ _ => False) := by
  refine mx_C_of (by decide) (by simp [Value.category]) (Nat.le_of_ble_eq_true rfl) rfl ?_
  show mx_E S mX2_begin 0 [some (.ref a), some (.ref t), none] [] (f, sh, M, L, Rf) 0 0 _ _
  have ha9 : a < 900 := by omega
  have ht9 : t < 900 := by omega
  refine ms_aload_n dX2_begin_0 rfl ?_
  refine ms_getR dX2_begin_1 (fo_X2_21 rfl) (by first | rfl | assumption) rfl (by first | assumption | exact rf_29_10 hR | exact rf_37_10 hR ) ?_
  refine mi_iconst dX2_begin_4 ?_
  refine ms_aload_n dX2_begin_5 rfl ?_
  refine ms_getR dX2_begin_6 (fo_X2_9 rfl) (by first | rfl | assumption) rfl (by first | assumption | exact rf_3_0 hR | exact rf_11_0 hR | exact rf_18_0 hR ) ?_
  refine mi_iconst dX2_begin_9 ?_
  refine mi_bipush dX2_begin_10 (by decide) ?_
  refine ms_acopy dX2_begin_12 ac_X2_begin (by first | rfl | assumption) (by first | rfl | assumption) (Nat.le_of_ble_eq_true rfl) ?_
  refine ms_aload_n dX2_begin_15 rfl ?_
  refine mi_iconst dX2_begin_16 ?_
  refine ms_putI (z := 3) dX2_begin_17 (fo_X2_30 rfl) (by first | rfl | assumption) rfl rfl rfl ?_
  refine ms_aload_n dX2_begin_20 rfl ?_
  refine mi_iconst dX2_begin_21 ?_
  refine ms_putI (z := 4) dX2_begin_22 (fo_X2_34 rfl) (by first | rfl | assumption) rfl rfl rfl ?_
  refine ms_aload_n dX2_begin_25 rfl ?_
  refine mi_iconst dX2_begin_26 ?_
  refine ms_putI (z := 5) dX2_begin_27 (fo_X2_37 rfl) (by first | rfl | assumption) rfl rfl rfl ?_
  refine mi_iconst dX2_begin_30 ?_
  refine ms_istore_n dX2_begin_31 (by decide) rfl ?_
  dsimp only [List.set, Nat.reduceAdd]
  refine ms_iload_n dX2_begin_32 rfl ?_
  refine mi_bipush dX2_begin_33 (by decide) ?_
  refine mi_icmp_ge (tgt := 58) dX2_begin_35 (by decide) (fun c_35 => ?_) (fun c_35 => ?_)
  · exact absurd c_35 (by omega)
  · refine ms_aload_n dX2_begin_38 rfl ?_
    refine ms_getR dX2_begin_39 (fo_X2_15 rfl) (by first | rfl | assumption) rfl (by first | assumption | exact rf_3_1 hR | exact rf_11_1 hR | exact rf_18_1 hR ) ?_
    refine ms_iload_n dX2_begin_42 rfl ?_
    refine mi_iconst dX2_begin_43 ?_
    refine ms_iast dX2_begin_44 (by first | rfl | assumption) ?_
    refine ms_aload_n dX2_begin_45 rfl ?_
    refine ms_getR dX2_begin_46 (fo_X2_18 rfl) (by first | rfl | assumption) rfl (by first | assumption | exact rf_3_2 hR | exact rf_11_2 hR | exact rf_18_2 hR ) ?_
    refine ms_iload_n dX2_begin_49 rfl ?_
    refine mi_iconst dX2_begin_50 ?_
    refine ms_iast dX2_begin_51 (by first | rfl | assumption) ?_
    refine mi_iincL (1) dX2_begin_52 rfl (by decide) rfl (by decide) ?_
    dsimp only [List.set, Nat.reduceAdd]
    refine ms_goto (tgt := 32) dX2_begin_55 (by decide) ?_
    refine ms_iload_n dX2_begin_32 rfl ?_
    refine mi_bipush dX2_begin_33 (by decide) ?_
    refine mi_icmp_ge (tgt := 58) dX2_begin_35 (by decide) (fun c_35 => ?_) (fun c_35 => ?_)
    · exact absurd c_35 (by omega)
    · refine ms_aload_n dX2_begin_38 rfl ?_
      refine ms_getR dX2_begin_39 (fo_X2_15 rfl) (by first | rfl | assumption) rfl (by first | assumption | exact rf_3_1 hR | exact rf_11_1 hR | exact rf_18_1 hR ) ?_
      refine ms_iload_n dX2_begin_42 rfl ?_
      refine mi_iconst dX2_begin_43 ?_
      refine ms_iast dX2_begin_44 (by first | rfl | assumption) ?_
      refine ms_aload_n dX2_begin_45 rfl ?_
      refine ms_getR dX2_begin_46 (fo_X2_18 rfl) (by first | rfl | assumption) rfl (by first | assumption | exact rf_3_2 hR | exact rf_11_2 hR | exact rf_18_2 hR ) ?_
      refine ms_iload_n dX2_begin_49 rfl ?_
      refine mi_iconst dX2_begin_50 ?_
      refine ms_iast dX2_begin_51 (by first | rfl | assumption) ?_
      refine mi_iincL (2) dX2_begin_52 rfl (by decide) rfl (by decide) ?_
      dsimp only [List.set, Nat.reduceAdd]
      refine ms_goto (tgt := 32) dX2_begin_55 (by decide) ?_
      refine ms_iload_n dX2_begin_32 rfl ?_
      refine mi_bipush dX2_begin_33 (by decide) ?_
      refine mi_icmp_ge (tgt := 58) dX2_begin_35 (by decide) (fun c_35 => ?_) (fun c_35 => ?_)
      · exact absurd c_35 (by omega)
      · refine ms_aload_n dX2_begin_38 rfl ?_
        refine ms_getR dX2_begin_39 (fo_X2_15 rfl) (by first | rfl | assumption) rfl (by first | assumption | exact rf_3_1 hR | exact rf_11_1 hR | exact rf_18_1 hR ) ?_
        refine ms_iload_n dX2_begin_42 rfl ?_
        refine mi_iconst dX2_begin_43 ?_
        refine ms_iast dX2_begin_44 (by first | rfl | assumption) ?_
        refine ms_aload_n dX2_begin_45 rfl ?_
        refine ms_getR dX2_begin_46 (fo_X2_18 rfl) (by first | rfl | assumption) rfl (by first | assumption | exact rf_3_2 hR | exact rf_11_2 hR | exact rf_18_2 hR ) ?_
        refine ms_iload_n dX2_begin_49 rfl ?_
        refine mi_iconst dX2_begin_50 ?_
        refine ms_iast dX2_begin_51 (by first | rfl | assumption) ?_
        refine mi_iincL (3) dX2_begin_52 rfl (by decide) rfl (by decide) ?_
        dsimp only [List.set, Nat.reduceAdd]
        refine ms_goto (tgt := 32) dX2_begin_55 (by decide) ?_
        refine ms_iload_n dX2_begin_32 rfl ?_
        refine mi_bipush dX2_begin_33 (by decide) ?_
        refine mi_icmp_ge (tgt := 58) dX2_begin_35 (by decide) (fun c_35 => ?_) (fun c_35 => ?_)
        · exact absurd c_35 (by omega)
        · refine ms_aload_n dX2_begin_38 rfl ?_
          refine ms_getR dX2_begin_39 (fo_X2_15 rfl) (by first | rfl | assumption) rfl (by first | assumption | exact rf_3_1 hR | exact rf_11_1 hR | exact rf_18_1 hR ) ?_
          refine ms_iload_n dX2_begin_42 rfl ?_
          refine mi_iconst dX2_begin_43 ?_
          refine ms_iast dX2_begin_44 (by first | rfl | assumption) ?_
          refine ms_aload_n dX2_begin_45 rfl ?_
          refine ms_getR dX2_begin_46 (fo_X2_18 rfl) (by first | rfl | assumption) rfl (by first | assumption | exact rf_3_2 hR | exact rf_11_2 hR | exact rf_18_2 hR ) ?_
          refine ms_iload_n dX2_begin_49 rfl ?_
          refine mi_iconst dX2_begin_50 ?_
          refine ms_iast dX2_begin_51 (by first | rfl | assumption) ?_
          refine mi_iincL (4) dX2_begin_52 rfl (by decide) rfl (by decide) ?_
          dsimp only [List.set, Nat.reduceAdd]
          refine ms_goto (tgt := 32) dX2_begin_55 (by decide) ?_
          refine ms_iload_n dX2_begin_32 rfl ?_
          refine mi_bipush dX2_begin_33 (by decide) ?_
          refine mi_icmp_ge (tgt := 58) dX2_begin_35 (by decide) (fun c_35 => ?_) (fun c_35 => ?_)
          · exact absurd c_35 (by omega)
          · refine ms_aload_n dX2_begin_38 rfl ?_
            refine ms_getR dX2_begin_39 (fo_X2_15 rfl) (by first | rfl | assumption) rfl (by first | assumption | exact rf_3_1 hR | exact rf_11_1 hR | exact rf_18_1 hR ) ?_
            refine ms_iload_n dX2_begin_42 rfl ?_
            refine mi_iconst dX2_begin_43 ?_
            refine ms_iast dX2_begin_44 (by first | rfl | assumption) ?_
            refine ms_aload_n dX2_begin_45 rfl ?_
            refine ms_getR dX2_begin_46 (fo_X2_18 rfl) (by first | rfl | assumption) rfl (by first | assumption | exact rf_3_2 hR | exact rf_11_2 hR | exact rf_18_2 hR ) ?_
            refine ms_iload_n dX2_begin_49 rfl ?_
            refine mi_iconst dX2_begin_50 ?_
            refine ms_iast dX2_begin_51 (by first | rfl | assumption) ?_
            refine mi_iincL (5) dX2_begin_52 rfl (by decide) rfl (by decide) ?_
            dsimp only [List.set, Nat.reduceAdd]
            refine ms_goto (tgt := 32) dX2_begin_55 (by decide) ?_
            refine ms_iload_n dX2_begin_32 rfl ?_
            refine mi_bipush dX2_begin_33 (by decide) ?_
            refine mi_icmp_ge (tgt := 58) dX2_begin_35 (by decide) (fun c_35 => ?_) (fun c_35 => ?_)
            · exact absurd c_35 (by omega)
            · refine ms_aload_n dX2_begin_38 rfl ?_
              refine ms_getR dX2_begin_39 (fo_X2_15 rfl) (by first | rfl | assumption) rfl (by first | assumption | exact rf_3_1 hR | exact rf_11_1 hR | exact rf_18_1 hR ) ?_
              refine ms_iload_n dX2_begin_42 rfl ?_
              refine mi_iconst dX2_begin_43 ?_
              refine ms_iast dX2_begin_44 (by first | rfl | assumption) ?_
              refine ms_aload_n dX2_begin_45 rfl ?_
              refine ms_getR dX2_begin_46 (fo_X2_18 rfl) (by first | rfl | assumption) rfl (by first | assumption | exact rf_3_2 hR | exact rf_11_2 hR | exact rf_18_2 hR ) ?_
              refine ms_iload_n dX2_begin_49 rfl ?_
              refine mi_iconst dX2_begin_50 ?_
              refine ms_iast dX2_begin_51 (by first | rfl | assumption) ?_
              refine mi_iincL (6) dX2_begin_52 rfl (by decide) rfl (by decide) ?_
              dsimp only [List.set, Nat.reduceAdd]
              refine ms_goto (tgt := 32) dX2_begin_55 (by decide) ?_
              refine ms_iload_n dX2_begin_32 rfl ?_
              refine mi_bipush dX2_begin_33 (by decide) ?_
              refine mi_icmp_ge (tgt := 58) dX2_begin_35 (by decide) (fun c_35 => ?_) (fun c_35 => ?_)
              · refine ms_retV dX2_begin_58 rfl ⟨_, rfl, rfl, fun x x1 x2 x3 x4 => by simp [va_up, x1, x2, x3, x4], fun i i0 i1 => by simp [va_up, ic, i0, i1], fun l l0 l1 => ?_, by simp [va_up, iu], by simp [va_up, iu], by simp [va_up, iu]⟩ (by simp)
                rcases (show l = 0 ∨ l = 1 ∨ l = 2 ∨ l = 3 ∨ l = 4 ∨ l = 5 by omega) with rfl | rfl | rfl | rfl | rfl | rfl <;> simp [va_up, iu]
              · exact absurd c_35 (by omega)

/-- the weddings from a night on haven't been -/
def sp_part (v : Int → Int) (u : Int) : Int → Int := fun i => if 18 ≤ i ∧ i < 24 ∧ u ≤ v (i + 6) then -1 else if 24 ≤ i ∧ i < 30 ∧ u ≤ v i then -1 else v i
theorem part_o (v : Int → Int) (u : Int) {i : Int} (h : i < 18) : sp_part v u i = v i := by
  unfold sp_part
  rw [if_neg (by omega), if_neg (by omega)]
theorem part_m (v : Int → Int) (u : Int) {l : Int} (h : 0 ≤ l ∧ l < 6) : sp_part v u (18 + l) = if u ≤ v (24 + l) then -1 else v (18 + l) := by
  unfold sp_part
  rw [show 18 + l + 6 = 24 + l by omega]
  by_cases q : u ≤ v (24 + l)
  · rw [if_pos ⟨by omega, by omega, q⟩, if_pos q]
  · rw [if_neg (by rintro ⟨_, _, z⟩; exact q z), if_neg (by omega), if_neg q]
theorem part_n (v : Int → Int) (u : Int) {l : Int} (h : 0 ≤ l ∧ l < 6) : sp_part v u (24 + l) = if u ≤ v (24 + l) then -1 else v (24 + l) := by
  unfold sp_part
  rw [if_neg (by omega)]
  by_cases q : u ≤ v (24 + l)
  · rw [if_pos ⟨by omega, by omega, q⟩, if_pos q]
  · rw [if_neg (by rintro ⟨_, _, z⟩; exact q z), if_neg q]
theorem part_out (v : Int → Int) (u : Int) {l : Int} (h : 0 ≤ l ∧ l < 6) : sp_out (sp_part v u) l = (sp_out v l && decide (v (24 + l) < u)) := by
  unfold sp_out
  rw [part_m v u h]
  by_cases q : u ≤ v (24 + l)
  · rw [if_pos q, decide_eq_false (p := v (24 + l) < u) (by omega), Bool.and_false]
    rfl
  · rw [if_neg q, decide_eq_true (p := v (24 + l) < u) (by omega), Bool.and_true]
theorem ob_cl0 : ∀ a : Fin 64, ∀ l y : Fin 6, ob (odf (a.val : Int) (2 ^ ((l.val : Int)).toNat)) (y.val : Int) = if (y.val : Int) = (l.val : Int) then 0 else ob (a.val : Int) (y.val : Int) := by decide +kernel
theorem ob_cl {a l y : Int} (ha : 0 ≤ a ∧ a < 64) (hl : 0 ≤ l ∧ l < 6) (hy : 0 ≤ y ∧ y < 6) : ob (odf a (2 ^ l.toNat)) y = if y = l then 0 else ob a y := fin_of (n := 64) (P := fun a => ob (odf a (2 ^ l.toNat)) y = if y = l then 0 else ob a y) (fun i => fin_of (n := 6) (P := fun l => ob (odf (i.val : Int) (2 ^ l.toNat)) y = if y = l then 0 else ob (i.val : Int) y) (fun j => fin_of (n := 6) (P := fun y => ob (odf (i.val : Int) (2 ^ ((j.val : Int)).toNat)) y = if y = (j.val : Int) then 0 else ob (i.val : Int) y) (fun k => ob_cl0 i j k) hy.1 hy.2) hl.1 hl.2) ha.1 ha.2
theorem pcn_n (b : Int) : 0 ≤ pcn b ∧ pcn b ≤ 7 := by
  have h0 := ob_01 b 0
  have h1 := ob_01 b 1
  have h2 := ob_01 b 2
  have h3 := ob_01 b 3
  have h4 := ob_01 b 4
  have h5 := ob_01 b 5
  have h6 := ob_01 b 6
  unfold pcn
  omega
/-- bits and their count -/
theorem cnt_pcn {t : sp_T} (hT : sp_tok t) {w : Int → Int} {b : Int} (hb : 0 ≤ b ∧ b < 64) (h : ∀ l, 0 ≤ l → l < 6 → ob b l = bI (sp_out w l)) (hz : ∀ l, t.1 1 ≤ l → l < 6 → sp_out w l = false) : pcn b = sp_cnt t w := by
  have h6 := hT.2.1
  unfold pcn sp_cnt
  rw [ob6 hb, h 0 (by omega) (by omega), h 1 (by omega) (by omega), h 2 (by omega) (by omega), h 3 (by omega) (by omega), h 4 (by omega) (by omega), h 5 (by omega) (by omega)]
  rcases (show (t.1 1).toNat = 0 ∨ (t.1 1).toNat = 1 ∨ (t.1 1).toNat = 2 ∨ (t.1 1).toNat = 3 ∨ (t.1 1).toNat = 4 ∨ (t.1 1).toNat = 5 ∨ (t.1 1).toNat = 6 by omega) with e | e | e | e | e | e | e
  · rw [e, hz 0 (by omega) (by omega), hz 1 (by omega) (by omega), hz 2 (by omega) (by omega), hz 3 (by omega) (by omega), hz 4 (by omega) (by omega), hz 5 (by omega) (by omega)]
    simp [itN, bI]
  · rw [e, hz 1 (by omega) (by omega), hz 2 (by omega) (by omega), hz 3 (by omega) (by omega), hz 4 (by omega) (by omega), hz 5 (by omega) (by omega)]
    simp [itN, bI]
  · rw [e, hz 2 (by omega) (by omega), hz 3 (by omega) (by omega), hz 4 (by omega) (by omega), hz 5 (by omega) (by omega)]
    simp [itN, bI]
  · rw [e, hz 3 (by omega) (by omega), hz 4 (by omega) (by omega), hz 5 (by omega) (by omega)]
    simp [itN, bI]
  · rw [e, hz 4 (by omega) (by omega), hz 5 (by omega) (by omega)]
    simp [itN, bI]
  · rw [e, hz 5 (by omega) (by omega)]
    simp [itN, bI]
  · rw [e]
    simp [itN, bI]
set_option maxHeartbeats 4000000 in
set_option maxRecDepth 100000 in
theorem l_X2_ps {S : mx_Sc} {f : Bool} {M : Nat → Int → Int} {L : Nat → Nat → Int64} {Rf : Nat → Nat → Option Nat} (hR : mx_rf Rf) {a : Nat} (ha : a = 3 ∨ a = 11 ∨ a = 18) {t : sp_T} (hT : sp_tok t) {v : Int → Int} (hsc : scR t M a v) (hv : sp_vok t v) {u : Int} (hu : 0 ≤ u ∧ u ≤ 1200) (hz : ∀ l, t.1 1 ≤ l → l < 6 → sp_out v l = false) : ∀ (kk : Nat) (i : Int) (N : Nat → Int → Int), 0 ≤ i → i + kk = 6 → (∀ x, x ≠ a → x ≠ a + 2 → x ≠ a + 3 → N x = M x) → (∀ k, k ≠ 4 → N a k = M a k) → (∀ l, 0 ≤ l → l < 6 → N (a + 2) l = (if l < i ∧ u ≤ M (a + 3) l then -1 else M (a + 2) l) ∧ N (a + 3) l = (if l < i ∧ u ≤ M (a + 3) l then -1 else M (a + 3) l)) → (0 ≤ N a 4 ∧ N a 4 < 64) → (∀ l, 0 ≤ l → l < 6 → ob (N a 4) l = if l < i ∧ u ≤ M (a + 3) l then 0 else ob (M a 4) l) → mx_E S mX2_partSince 2 [some (.ref a), some (.int (iI u)), some (.int (iI i))] [] (f, mx_SH, N, L, Rf) 0 0 (fun v9 h9 => ∃ N, h9 = (f, mx_SH, N, L, Rf) ∧ v9 = none ∧ (∀ x, x ≠ a → x ≠ a + 2 → x ≠ a + 3 → N x = M x) ∧ scR t N a (sp_part v u) ∧ N a 3 = u ∧ (∀ k, k ≠ 3 → k ≠ 4 → k ≠ 5 → N a k = M a k)) (fun _ _ => False) := by
  intro kk
  induction kk with
  | zero => 
    intro i N g0 g1 q1 q2 q3 q4 q5
    have ha9 : a < 900 := by omega
    have hs_a := sc_s ha
    have hs_a1 := sc_s1 ha
    have hr_a1 := sc_r1 hR ha
    have hs_a2 := sc_s2 ha
    have hr_a2 := sc_r2 hR ha
    have hs_a3 := sc_s3 ha
    have hr_a3 := sc_r3 hR ha
    have ei : i = 6 := by omega
    subst ei
    refine ms_iload_n dX2_partSince_2 rfl ?_
    refine mi_bipush dX2_partSince_3 (by decide) ?_
    refine mi_icmp_ge (tgt := 52) dX2_partSince_5 (by decide) (fun c_5 => ?_) (fun c_5 => ?_)
    · refine ms_aload_n dX2_partSince_52 rfl ?_
      refine ms_aload_n dX2_partSince_53 rfl ?_
      refine ms_getI (z := 4) dX2_partSince_54 (fo_X2_34 rfl) (by first | rfl | assumption) rfl rfl ?_
      refine ms_callS1 dX2_partSince_57 cv_X2_partSince_J6_bitCount_0f7a4 (k_bitC (o := N a 4) (by omega)) (Nat.le_of_ble_eq_true rfl) rfl (fun _ _ z => z.elim) (fun v9 h9 hp9 => ?_)
      obtain ⟨rfl, rfl⟩ := hp9
      have hpn := pcn_n (N a 4)
      refine mi_iconst dX2_partSince_60 ?_
      refine mi_idiv dX2_partSince_61 ?_
      refine ms_putI (z := 5) dX2_partSince_62 (fo_X2_37 rfl) (by first | rfl | assumption) rfl rfl rfl ?_
      refine ms_aload_n dX2_partSince_65 rfl ?_
      refine ms_iload_n dX2_partSince_66 rfl ?_
      refine ms_putI (z := 3) dX2_partSince_67 (fo_X2_30 rfl) (by first | rfl | assumption) rfl rfl rfl ?_
      refine ms_retV dX2_partSince_70 rfl ⟨_, rfl, rfl, fun x x1 x2 x3 => by simp only [va_up, if_neg x1]; exact q1 x x1 x2 x3, ?_, by simp [va_up, iu], fun k k1 k2 k3 => by simp [va_up, iu, k1, k3]; exact q2 k k2⟩ (by simp)
      have hbo : ∀ l, 0 ≤ l → l < 6 → ob (N a 4) l = bI (sp_out (sp_part v u) l) := fun l l0 l1 => by
        rw [q5 l l0 l1, part_out v u ⟨l0, l1⟩, (hsc.2.1 l l0 l1).2, hsc.2.2.2.1 l l0 l1]
        by_cases q : u ≤ v (24 + l)
        · rw [if_pos ⟨l1, q⟩, decide_eq_false (p := v (24 + l) < u) (by omega), Bool.and_false]
          rfl
        · rw [if_neg (by rintro ⟨_, z⟩; exact q z), decide_eq_true (p := v (24 + l) < u) (by omega), Bool.and_true]
      have hpc := cnt_pcn hT q4 hbo (fun l l0 l1 => by
        have h6 := hT.2.1
        rw [part_out v u ⟨by omega, l1⟩, hz l l0 l1]
        rfl)
      refine ⟨fun i i0 i1 => ?_, fun l l0 l1 => ?_, ?_, fun l l0 l1 => ?_, ?_⟩
      · have h6 := hT.2.1
        rw [up_n _ _ (by omega), up_n _ _ (by omega), q1 (a + 1) (by omega) (by omega) (by omega), part_o v u (by omega)]
        exact hsc.1 i i0 i1
      · rw [up_n _ _ (by omega), up_n _ _ (by omega), up_n _ _ (by omega), up_n _ _ (by omega), (q3 l l0 l1).1, (q3 l l0 l1).2, part_m v u ⟨l0, l1⟩, part_n v u ⟨l0, l1⟩, (hsc.2.1 l l0 l1).1, (hsc.2.1 l l0 l1).2]
        by_cases q : u ≤ v (24 + l)
        · simp [q, l1]
        · simp [q]
      · simp [va_up, iu]
        exact q4
      · simp [va_up, iu]
        exact hbo l l0 l1
      · rw [← hpc]
        have hp0 : 0 ≤ pcn (N a 4) := by
          rw [hpc]
          exact (sp_cnt_le t _).1
        simp only [va_up, iu, if_true]
        simp
    · exact absurd c_5 (by omega)
  | succ kk ih => 
    intro i N g0 g1 q1 q2 q3 q4 q5
    have ha9 : a < 900 := by omega
    have hs_a := sc_s ha
    have hs_a1 := sc_s1 ha
    have hr_a1 := sc_r1 hR ha
    have hs_a2 := sc_s2 ha
    have hr_a2 := sc_r2 hR ha
    have hs_a3 := sc_s3 ha
    have hr_a3 := sc_r3 hR ha
    have h1 := hsc.2.1 i g0 (by omega)
    have h2 := hv.2 i g0 (by omega)
    have h3 := q3 i g0 (by omega)
    rw [if_neg (by omega), if_neg (by omega)] at h3
    have hp2 := p2_lt (l := i) (by omega)
    have hod := odf_e q4 hp2
    refine ms_iload_n dX2_partSince_2 rfl ?_
    refine mi_bipush dX2_partSince_3 (by decide) ?_
    refine mi_icmp_ge (tgt := 52) dX2_partSince_5 (by decide) (fun c_5 => ?_) (fun c_5 => ?_)
    · exact absurd c_5 (by omega)
    · refine ms_aload_n dX2_partSince_8 rfl ?_
      refine ms_getR dX2_partSince_9 (fo_X2_18 rfl) (by first | rfl | assumption) rfl (by first | assumption | exact rf_3_2 hR | exact rf_11_2 hR | exact rf_18_2 hR ) ?_
      refine ms_iload_n dX2_partSince_12 rfl ?_
      refine ms_iald dX2_partSince_13 (by first | rfl | assumption) ?_
      refine ms_iload_n dX2_partSince_14 rfl ?_
      refine mi_icmp_lt (tgt := 46) dX2_partSince_15 (by decide) (fun c_15 => ?_) (fun c_15 => ?_)
      · refine mi_iinc dX2_partSince_46 rfl (by decide) rfl ?_
        dsimp only [List.set, Nat.reduceAdd]
        refine ms_goto (tgt := 2) dX2_partSince_49 (by decide) ?_
        refine ih (i + 1) N (by omega) (by omega) q1 q2 (fun l l0 l1 => ?_) q4 (fun l l0 l1 => ?_)
        · have h4 := q3 l l0 l1
          by_cases e : l = i
          · subst e
            rw [if_neg (by omega), if_neg (by omega)] at *
            exact h4
          · rw [h4.1, h4.2]
            by_cases e2 : l < i ∧ u ≤ M (a + 3) l
            · rw [if_pos e2, if_pos e2, if_pos (by omega), if_pos (by omega)]
              exact ⟨rfl, rfl⟩
            · rw [if_neg e2, if_neg e2, if_neg (by omega), if_neg (by omega)]
              exact ⟨rfl, rfl⟩
        · rw [q5 l l0 l1]
          by_cases e : l = i
          · subst e
            rw [if_neg (by omega), if_neg (by omega)]
          · by_cases e2 : l < i ∧ u ≤ M (a + 3) l
            · rw [if_pos e2, if_pos (by omega)]
            · rw [if_neg e2, if_neg (by omega)]
      · refine ms_aload_n dX2_partSince_18 rfl ?_
        refine ms_getR dX2_partSince_19 (fo_X2_15 rfl) (by first | rfl | assumption) rfl (by first | assumption | exact rf_3_1 hR | exact rf_11_1 hR | exact rf_18_1 hR ) ?_
        refine ms_iload_n dX2_partSince_22 rfl ?_
        refine mi_iconst dX2_partSince_23 ?_
        refine ms_iast dX2_partSince_24 (by first | rfl | assumption) ?_
        refine ms_aload_n dX2_partSince_25 rfl ?_
        refine ms_getR dX2_partSince_26 (fo_X2_18 rfl) (by first | rfl | assumption) rfl (by first | assumption | exact rf_3_2 hR | exact rf_11_2 hR | exact rf_18_2 hR ) ?_
        refine ms_iload_n dX2_partSince_29 rfl ?_
        refine mi_iconst dX2_partSince_30 ?_
        refine ms_iast dX2_partSince_31 (by first | rfl | assumption) ?_
        refine ms_aload_n dX2_partSince_32 rfl ?_
        refine ms_dup dX2_partSince_33 rfl ?_
        refine ms_getI (z := 4) dX2_partSince_34 (fo_X2_34 rfl) (by first | rfl | assumption) rfl rfl ?_
        refine mi_iconst dX2_partSince_37 ?_
        refine ms_iload_n dX2_partSince_38 rfl ?_
        refine mi_ishl (2 ^ i.toNat) dX2_partSince_39 (p2_shl (by omega)) ?_
        refine mi_iconst dX2_partSince_40 ?_
        refine mi_ixor (-1 - 2 ^ i.toNat) dX2_partSince_41 (oxm hp2) ?_
        refine mi_iand (odf (N a 4) (2 ^ i.toNat)) dX2_partSince_42 (by simp [va_up]; exact hod.1) ?_
        refine ms_putI (z := 4) dX2_partSince_43 (fo_X2_34 rfl) (by first | rfl | assumption) rfl rfl rfl ?_
        refine mi_iinc dX2_partSince_46 rfl (by decide) rfl ?_
        dsimp only [List.set, Nat.reduceAdd]
        refine ms_goto (tgt := 2) dX2_partSince_49 (by decide) ?_
        refine ih (i + 1) _ (by omega) (by omega) (fun x x1 x2 x3 => by simp only [va_up, if_neg x1, if_neg x2, if_neg x3]; exact q1 x x1 x2 x3) (fun k k1 => by simp [va_up, iu, k1]; exact q2 k k1) (fun l l0 l1 => ?_) (by simp [va_up, iu]; exact ⟨Int.natCast_nonneg _, hod.2⟩) (fun l l0 l1 => ?_)
        · have h4 := q3 l l0 l1
          by_cases e : l = i
          · subst e
            rw [if_pos (by omega), if_pos (by omega)]
            simp [va_up, iu]
          · have h5 : (if l < i + 1 ∧ u ≤ M (a + 3) l then (-1 : Int) else M (a + 2) l) = if l < i ∧ u ≤ M (a + 3) l then -1 else M (a + 2) l := by
              by_cases e2 : l < i ∧ u ≤ M (a + 3) l
              · rw [if_pos e2, if_pos (by omega)]
              · rw [if_neg e2, if_neg (by omega)]
            have h6 : (if l < i + 1 ∧ u ≤ M (a + 3) l then (-1 : Int) else M (a + 3) l) = if l < i ∧ u ≤ M (a + 3) l then -1 else M (a + 3) l := by
              by_cases e2 : l < i ∧ u ≤ M (a + 3) l
              · rw [if_pos e2, if_pos (by omega)]
              · rw [if_neg e2, if_neg (by omega)]
            rw [h5, h6]
            simp [va_up, iu, e]
            exact h4
        · rw [up_s, iu_s, ob_cl q4 (l := i) (by omega) ⟨l0, l1⟩]
          by_cases e : l = i
          · rw [if_pos e, if_pos (by subst e; omega)]
          · rw [if_neg e, q5 l l0 l1]
            by_cases e2 : l < i ∧ u ≤ M (a + 3) l
            · rw [if_pos e2, if_pos (by omega)]
            · rw [if_neg e2, if_neg (by omega)]

set_option maxHeartbeats 4000000 in
set_option maxRecDepth 100000 in
theorem k_X2_partSince {S : mx_Sc} {f : Bool} {M : Nat → Int → Int} {L : Nat → Nat → Int64} {Rf : Nat → Nat → Option Nat} (hR : mx_rf Rf) {a : Nat} (ha : a = 3 ∨ a = 11 ∨ a = 18) {t : sp_T} (hT : sp_tok t) {v : Int → Int} (hsc : scR t M a v) (hv : sp_vok t v) {u : Int} (hu : 0 ≤ u ∧ u ≤ 1200) (hz : ∀ l, t.1 1 ≤ l → l < 6 → sp_out v l = false) : mx_C S mX2_partSince [.ref a, .int (iI u)] (f, mx_SH, M, L, Rf) 0 0 (fun v9 h9 => ∃ N, h9 = (f, mx_SH, N, L, Rf) ∧ v9 = none ∧ (∀ x, x ≠ a → x ≠ a + 2 → x ≠ a + 3 → N x = M x) ∧ scR t N a (sp_part v u) ∧ N a 3 = u ∧ (∀ k, k ≠ 3 → k ≠ 4 → k ≠ 5 → N a k = M a k)) (fun _ _ => False) := by
  refine mx_C_of (by decide) (by simp [Value.category]) (Nat.le_of_ble_eq_true rfl) rfl ?_
  show mx_E S mX2_partSince 0 [some (.ref a), some (.int (iI u)), none] [] (f, mx_SH, M, L, Rf) 0 0 _ _
  refine mi_iconst dX2_partSince_0 ?_
  refine ms_istore_n dX2_partSince_1 (by decide) rfl ?_
  dsimp only [List.set, Nat.reduceAdd]
  exact l_X2_ps hR ha hT hsc hv hu hz 6 0 M (by omega) (by omega) (fun _ _ _ _ => rfl) (fun _ _ => rfl) (fun l l0 l1 => by rw [if_neg (by omega), if_neg (by omega)]; exact ⟨rfl, rfl⟩) hsc.2.2.1 (fun l l0 l1 => by rw [if_neg (by omega)])

