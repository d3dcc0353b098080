/-- seven bits -/
def cl7 (a k : Int) : Int := if ob a k = 1 then a - 2 ^ k.toNat else a
theorem f7 {P : Int → Int → Prop} (h : ∀ a : Fin 128, ∀ k : Fin 7, P (a.val : Int) (k.val : Int)) {a k : Int} (ha : 0 ≤ a ∧ a < 128) (hk : 0 ≤ k ∧ k < 7) : P a k := fin_of (n := 128) (P := fun a => P a k) (fun i => fin_of (n := 7) (P := fun k => P (i.val : Int) k) (fun j => h i j) hk.1 hk.2) ha.1 ha.2
theorem ush7 {o l : Int} (h : 0 ≤ o ∧ o < 128) (h2 : 0 ≤ l ∧ l < 7) : ((iI o).toUInt32 >>> ((iI l).toUInt32 &&& Int32.toUInt32 31)).toInt32 = iI (o / 2 ^ l.toNat) ∧ iI (o / 2 ^ l.toNat) &&& iI 1 = iI (ob o l) := f7 (P := fun o l => ((iI o).toUInt32 >>> ((iI l).toUInt32 &&& Int32.toUInt32 31)).toInt32 = iI (o / 2 ^ l.toNat) ∧ iI (o / 2 ^ l.toNat) &&& iI 1 = iI (ob o l)) (by decide +kernel) h h2
theorem cl7_e {o l : Int} (h : 0 ≤ o ∧ o < 128) (h2 : 0 ≤ l ∧ l < 7) : iI o &&& iI (-1 - 2 ^ l.toNat) = iI (cl7 o l) ∧ 0 ≤ cl7 o l ∧ cl7 o l < 128 := f7 (P := fun o l => iI o &&& iI (-1 - 2 ^ l.toNat) = iI (cl7 o l) ∧ 0 ≤ cl7 o l ∧ cl7 o l < 128) (by decide +kernel) h h2
theorem oxm7 {l : Int} (h2 : 0 ≤ l ∧ l < 7) : iI (2 ^ l.toNat) ^^^ iI (-1) = iI (-1 - 2 ^ l.toNat) := fin_of (n := 7) (P := fun l => iI (2 ^ l.toNat) ^^^ iI (-1) = iI (-1 - 2 ^ l.toNat)) (by decide +kernel) h2.1 h2.2
theorem ob_cl7 {o l y : Int} (h : 0 ≤ o ∧ o < 128) (h2 : 0 ≤ l ∧ l < 7) (hy : 0 ≤ y ∧ y < 7) : ob (cl7 o l) y = if y = l then 0 else ob o y := f7 (P := fun o l => ob (cl7 o l) y = if y = l then 0 else ob o y) (fun i j => fin_of (n := 7) (P := fun y => ob (cl7 (i.val : Int) (j.val : Int)) y = if y = (j.val : Int) then 0 else ob (i.val : Int) y) (fun k => (by decide +kernel : ∀ i : Fin 128, ∀ j k : Fin 7, ob (cl7 (i.val : Int) (j.val : Int)) (k.val : Int) = if (k.val : Int) = (j.val : Int) then 0 else ob (i.val : Int) (k.val : Int)) i j k) hy.1 hy.2) h h2
theorem or64 {a k : Int} (h : 0 ≤ a ∧ a < 64) (hk : 0 ≤ k ∧ k < 7) : iI a ||| iI 64 = iI (a + 64) ∧ ob (a + 64) k = if k = 6 then 1 else ob a k := fin_of (n := 64) (P := fun a => iI a ||| iI 64 = iI (a + 64) ∧ ob (a + 64) k = if k = 6 then 1 else ob a k) (fun i => fin_of (n := 7) (P := fun k => iI (i.val : Int) ||| iI 64 = iI ((i.val : Int) + 64) ∧ ob ((i.val : Int) + 64) k = if k = 6 then 1 else ob (i.val : Int) k) (fun j => (by decide +kernel : ∀ i : Fin 64, ∀ j : Fin 7, iI (i.val : Int) ||| iI 64 = iI ((i.val : Int) + 64) ∧ ob ((i.val : Int) + 64) (j.val : Int) = if (j.val : Int) = 6 then 1 else ob (i.val : Int) (j.val : Int)) i j) hk.1 hk.2) h.1 h.2
/-- what a lamp becomes by dawn if it likes the k-th (6: nobody) -/
def sp_mo (t : sp_T) (v : Int → Int) (n l k : Int) : Int → Int := if sp_out v l = true then (fun q => v (3 * l + q)) else sp_move t v n l (if k = 6 then -1 else k) false false
/-- whether it is as it was seen -/
def sp_ft (t : sp_T) (v : Int → Int) (n l : Int) (g : Int → Int) (k : Int) : Bool := decide (sp_mo t v n l k 0 = g 0 ∧ sp_mo t v n l k 1 = g 1 ∧ sp_mo t v n l k 2 = g 2)
theorem sp_mo_ok {t : sp_T} (hT : sp_tok t) {v : Int → Int} (hv : sp_vok t v) {n l k : Int} (hl : 0 ≤ l ∧ l < t.1 1) (hk : k = 6 ∨ (0 ≤ k ∧ k < t.1 1)) : s3 (t.1 0) (sp_mo t v n l k) := by
  unfold sp_mo
  split
  · exact hv.s hl.1 hl.2
  · refine sp_move_ok hT hv hl ?_ false false
    have h6 := hT.2.1
    split <;> omega
set_option maxHeartbeats 4000000 in
set_option maxRecDepth 100000 in
theorem l_X6_lbn {S : mx_Sc} {f : Bool} {M : Nat → Int → Int} {L : Nat → Nat → Int64} {Rf : Nat → Nat → Option Nat} (hR : mx_rf Rf) {t : Nat} (ht : t = 29 ∨ t = 37) (hT : sp_tok (sp_tC M t)) (hwt : Rf 46 1 = some t) {v : Int → Int} (hsc : scR (sp_tC M t) M 18 v) (hv : sp_vok (sp_tC M t) v) {n l : Int} (hn : 0 ≤ n ∧ n ≤ 1200) (hnn : M 18 3 = n) (hl : 0 ≤ l ∧ l < M t 1) (hng : M 46 4 = bI false) (hst : M 46 3 = M t 2) (hsn : ∀ q, 0 ≤ q → q < 3 → -1000 ≤ M 24 q ∧ M 24 q ≤ 1000) {b : Int} (hb : 0 ≤ b ∧ b < 128) (hbk : ∀ k, 0 ≤ k → k < 6 → ob b k = 1 → k < M t 1) : ∀ (kk : Nat) (i : Int) (N : Nat → Int → Int) (r : Int), 0 ≤ i → i + kk = 7 → (∀ x, x ≠ 47 → N x = M x) → (0 ≤ r ∧ r < 128) → (∀ k, 0 ≤ k → k < 7 → ob r k = if k < i then (if sp_ft (sp_tC M t) v n l (M 24) k = true then ob b k else 0) else ob b k) → mx_E S mX6_leftByNight 5 [some (.ref 0), some (.int (iI l)), some (.int (iI b)), some (.int (iI r)), some (.int (iI i))] [] (f, mx_SH, N, L, Rf) 0 0 (fun v9 h9 => ∃ g r, h9 = (f, mx_SH, va_up M 47 g, L, Rf) ∧ v9 = some (.int (iI r)) ∧ (0 ≤ r ∧ r < 128) ∧ ∀ k, 0 ≤ k → k < 7 → ob r k = if sp_ft (sp_tC M t) v n l (M 24) k = true then ob b k else 0) (fun _ _ => False) := by
  intro kk
  induction kk with
  | zero => 
    intro i N r g0 g1 q1 hr q3
    have ht9 : t < 900 := by omega
    have hs_t := tc_s ht
    have hs_t1 := tc_s1 ht
    have hr_t1 := tc_r1 hR ht
    have hs_t2 := tc_s2 ht
    have hr_t2 := tc_r2 hR ht
    have hs_t3 := tc_s3 ht
    have hr_t3 := tc_r3 hR ht
    have hs_t4 := tc_s4 ht
    have hr_t4 := tc_r4 hR ht
    have hs_t5 := tc_s5 ht
    have hr_t5 := tc_r5 hR ht
    have hs_t6 := tc_s6 ht
    have hr_t6 := tc_r6 hR ht
    have hs_t7 := tc_s7 ht
    have hr_t7 := tc_r7 hR ht
    have hT0 : 1 ≤ M t 0 ∧ M t 0 ≤ 30 := hT.1
    have hT1 : 0 ≤ M t 1 ∧ M t 1 ≤ 6 := hT.2.1
    have hT2 : 1 ≤ M t 2 ∧ M t 2 ≤ 9 := hT.2.2.1
    have hT3 : 0 ≤ M t 3 ∧ M t 3 ≤ 9 := hT.2.2.2.1
    have hT4 : 0 ≤ M t 4 ∧ M t 4 ≤ 9 := hT.2.2.2.2.1
    have hT5 : 1 ≤ M t 5 ∧ M t 5 ≤ 99 := hT.2.2.2.2.2.1
    have hT6 : 0 ≤ M t 6 ∧ M t 6 ≤ 10 := hT.2.2.2.2.2.2.1
    have hTn : ((M t 1).toNat : Int) = M t 1 := Int.toNat_of_nonneg hT1.1
    have hTn6 : ((M t 6).toNat : Int) = M t 6 := Int.toNat_of_nonneg hT6.1
    refine ms_iload dX6_leftByNight_5 rfl ?_
    refine mi_bipush dX6_leftByNight_7 (by decide) ?_
    refine mi_icmp_gt (tgt := 69) dX6_leftByNight_9 (by decide) (fun c_9 => ?_) (fun c_9 => ?_)
    · refine ms_iload_n dX6_leftByNight_69 rfl ?_
      refine ms_ret dX6_leftByNight_70 rfl ⟨N 47, r, by rw [show N = va_up M 47 (N 47) from up_ext (fun x hx => q1 x hx) rfl]; simp [va_up], rfl, hr, fun k k0 k1 => by rw [q3 k k0 k1, if_pos (by omega)]⟩ (by simp)
    · exact absurd c_9 (by omega)
  | succ kk ih => 
    intro i N r g0 g1 q1 hr q3
    have ht9 : t < 900 := by omega
    have hs_t := tc_s ht
    have hs_t1 := tc_s1 ht
    have hr_t1 := tc_r1 hR ht
    have hs_t2 := tc_s2 ht
    have hr_t2 := tc_r2 hR ht
    have hs_t3 := tc_s3 ht
    have hr_t3 := tc_r3 hR ht
    have hs_t4 := tc_s4 ht
    have hr_t4 := tc_r4 hR ht
    have hs_t5 := tc_s5 ht
    have hr_t5 := tc_r5 hR ht
    have hs_t6 := tc_s6 ht
    have hr_t6 := tc_r6 hR ht
    have hs_t7 := tc_s7 ht
    have hr_t7 := tc_r7 hR ht
    have hT0 : 1 ≤ M t 0 ∧ M t 0 ≤ 30 := hT.1
    have hT1 : 0 ≤ M t 1 ∧ M t 1 ≤ 6 := hT.2.1
    have hT2 : 1 ≤ M t 2 ∧ M t 2 ≤ 9 := hT.2.2.1
    have hT3 : 0 ≤ M t 3 ∧ M t 3 ≤ 9 := hT.2.2.2.1
    have hT4 : 0 ≤ M t 4 ∧ M t 4 ≤ 9 := hT.2.2.2.2.1
    have hT5 : 1 ≤ M t 5 ∧ M t 5 ≤ 99 := hT.2.2.2.2.2.1
    have hT6 : 0 ≤ M t 6 ∧ M t 6 ≤ 10 := hT.2.2.2.2.2.2.1
    have hTn : ((M t 1).toNat : Int) = M t 1 := Int.toNat_of_nonneg hT1.1
    have hTn6 : ((M t 6).toNat : Int) = M t 6 := Int.toNat_of_nonneg hT6.1
    have eT : sp_tC N t = sp_tC M t := tC_fr (fun y _ _ => q1 y (by omega))
    have eN : ∀ k, N t k = M t k := fun k => by rw [q1 t (by omega)]
    have hq3 := q3 i g0 (by omega)
    rw [if_neg (by omega)] at hq3
    have hcl := cl7_e hr (l := i) (by omega)
    have hus := ush7 hr (l := i) (by omega)
    have h01 := ob_01 r i
    have hlt : i < 6 → ob r i = 1 → i < M t 1 := fun z1 z2 => hbk i g0 z1 (by rw [← hq3]; exact z2)
    refine ms_iload dX6_leftByNight_5 rfl ?_
    refine mi_bipush dX6_leftByNight_7 (by decide) ?_
    refine mi_icmp_gt (tgt := 69) dX6_leftByNight_9 (by decide) (fun c_9 => ?_) (fun c_9 => ?_)
    · exact absurd c_9 (by omega)
    · refine ms_iload_n dX6_leftByNight_12 rfl ?_
      refine ms_iload dX6_leftByNight_13 rfl ?_
      refine mi_iushr (r / 2 ^ i.toNat) dX6_leftByNight_15 hus.1 ?_
      refine mi_iconst dX6_leftByNight_16 ?_
      refine mi_iand (ob r i) dX6_leftByNight_17 hus.2 ?_
      refine mi_if_eq (tgt := 63) dX6_leftByNight_18 (by decide) (fun c_18 => ?_) (fun c_18 => ?_)
      · refine mi_iinc dX6_leftByNight_63 rfl (by decide) rfl ?_
        dsimp only [List.set, Nat.reduceAdd]
        refine ms_goto (tgt := 5) dX6_leftByNight_66 (by decide) ?_
        refine ih (i + 1) N r (by omega) (by omega) q1 hr (fun k k0 k1 => ?_)
        rw [q3 k k0 k1]
        by_cases e : k = i
        · subst e
          rw [if_neg (show ¬ k < k by omega), if_pos (show k < k + 1 by omega), ← hq3, c_18]
          split <;> rfl
        · by_cases e2 : k < i
          · rw [if_pos e2, if_pos (show k < i + 1 by omega)]
          · rw [if_neg e2, if_neg (show ¬ k < i + 1 by omega)]
      · refine ms_aload_n dX6_leftByNight_21 rfl ?_
        refine ms_getR dX6_leftByNight_22 (fo_X6_75 rfl) (by first | rfl | assumption) rfl (by first | assumption | exact rf_0_9 hR ) ?_
        refine ms_aload_n dX6_leftByNight_25 rfl ?_
        refine ms_getR dX6_leftByNight_26 (fo_X6_26 rfl) (by first | rfl | assumption) rfl (by first | assumption | exact rf_0_4 hR ) ?_
        refine ms_iload_n dX6_leftByNight_29 rfl ?_
        refine ms_iload dX6_leftByNight_30 rfl ?_
        refine mi_bipush dX6_leftByNight_32 (by decide) ?_
        refine mi_icmp_ne (tgt := 41) dX6_leftByNight_34 (by decide) (fun c_34 => ?_) (fun c_34 => ?_)
        · have hiL := hlt (by omega) (by omega)
          refine ms_iload dX6_leftByNight_41 rfl ?_
          refine ms_callV3 (ci := 5) (r := (RX5, TX5, 5)) dX6_leftByNight_43 cv_X6_leftByNight_X5_moveLamp (k_X5_moveLamp (M := N) (v := v) (n := n) (hf := false) (ng := false) hR ht (by rw [eT]; exact hT) (a := 18) (by omega) hwt (by rw [eT]; exact hsc.fr (q1 _ (by decide)) (q1 _ (by decide)) (q1 _ (by decide)) (q1 _ (by decide))) (by rw [eT]; exact hv) hn (by rw [q1 18 (by decide)]; exact hnn) (l := l) (by rw [eN]; exact hl) (w := i) (by rw [eN]; omega) (by rw [q1 46 (by decide)]; exact hng) (by rw [q1 46 (by decide), eN]; exact hst)) rfl rfl (by first | rfl | assumption) (Nat.le_of_ble_eq_true rfl) rfl (fun _ _ z => z.elim) (fun v9 h9 hp9 => ?_)
          obtain ⟨⟨g2, rfl, y2, y3⟩, rfl⟩ := hp9
          have ym : e3 (fun q => g2 (l * 3 + q)) (sp_mo (sp_tC M t) v n l i) := by
            rw [eT] at y2
            unfold sp_mo
            rw [if_neg (show ¬ i = 6 by omega)]
            exact y2
          have ys := sp_mo_ok (n := n) (k := i) hT hv hl (by right; show 0 ≤ i ∧ i < M t 1; omega)
          have ys2 := ys.e ym
          have ys3 : 0 ≤ g2 (l * 3 + 0) ∧ 0 ≤ g2 (l * 3 + 1) ∧ 0 ≤ g2 (l * 3 + 2) ∧ g2 (l * 3 + 0) + g2 (l * 3 + 1) + g2 (l * 3 + 2) = M t 0 := ys2
          refine mx_gen (fun N2 => (∀ x, x ≠ 47 → N2 x = M x) ∧ N2 47 = g2) ⟨fun x hx => by rw [up_n _ _ hx]; exact q1 x hx, up_s _ _ _⟩ (fun N2 hN2 => ?_)
          have e24 : N2 24 = M 24 := hN2.1 24 (by decide)
          have eft : decide (N2 47 (l * 3 + 0) = N2 24 0 ∧ N2 47 (l * 3 + 1) = N2 24 1 ∧ N2 47 (l * 3 + 2) = N2 24 2) = sp_ft (sp_tC M t) v n l (M 24) i := by
            unfold sp_ft
            rw [e24, hN2.2, ← ym.1, ← ym.2.1, ← ym.2.2]
          refine ms_aload_n dX6_leftByNight_46 rfl ?_
          refine ms_iload_n dX6_leftByNight_47 rfl ?_
          refine ms_callV1 (ci := 6) (r := (RX6, TX6, 15)) dX6_leftByNight_48 cv_X6_leftByNight_X6_isSeen (k_X6_isSeen (M := N2) hR (l := l) (by omega) (fun q q0 q1 => by rw [hN2.2, e24]; refine ⟨?_, hsn q q0 q1⟩; rcases (show q = 0 ∨ q = 1 ∨ q = 2 by omega) with rfl | rfl | rfl <;> omega)) rfl rfl (by first | rfl | assumption) (Nat.le_of_ble_eq_true rfl) rfl (fun _ _ z => z.elim) (fun v9 h9 hp9 => ?_)
          obtain ⟨rfl, rfl⟩ := hp9
          refine mi_if_neB (tgt := 63) dX6_leftByNight_51 (by decide) (fun c_51 => ?_) (fun c_51 => ?_)
          · refine mi_iinc dX6_leftByNight_63 rfl (by decide) rfl ?_
            dsimp only [List.set, Nat.reduceAdd]
            refine ms_goto (tgt := 5) dX6_leftByNight_66 (by decide) ?_
            refine ih (i + 1) N2 r (by omega) (by omega) hN2.1 hr (fun k k0 k1 => ?_)
            rw [q3 k k0 k1]
            by_cases e : k = i
            · subst e
              rw [if_neg (show ¬ k < k by omega), if_pos (show k < k + 1 by omega), if_pos (by rw [← eft]; exact c_51)]
            · by_cases e2 : k < i
              · rw [if_pos e2, if_pos (show k < i + 1 by omega)]
              · rw [if_neg e2, if_neg (show ¬ k < i + 1 by omega)]
          · refine ms_iload_n dX6_leftByNight_54 rfl ?_
            refine mi_iconst dX6_leftByNight_55 ?_
            refine ms_iload dX6_leftByNight_56 rfl ?_
            refine mi_ishl (2 ^ i.toNat) dX6_leftByNight_58 (p2_shl (by omega)) ?_
            refine mi_iconst dX6_leftByNight_59 ?_
            refine mi_ixor (-1 - 2 ^ i.toNat) dX6_leftByNight_60 (oxm7 (by omega)) ?_
            refine mi_iand (cl7 r i) dX6_leftByNight_61 hcl.1 ?_
            refine ms_istore_n dX6_leftByNight_62 (by decide) rfl ?_
            dsimp only [List.set, Nat.reduceAdd]
            refine mi_iinc dX6_leftByNight_63 rfl (by decide) rfl ?_
            dsimp only [List.set, Nat.reduceAdd]
            refine ms_goto (tgt := 5) dX6_leftByNight_66 (by decide) ?_
            refine ih (i + 1) N2 (cl7 r i) (by omega) (by omega) hN2.1 hcl.2 (fun k k0 k1 => ?_)
            rw [ob_cl7 hr (by omega) ⟨k0, k1⟩, q3 k k0 k1]
            by_cases e : k = i
            · subst e
              rw [if_pos rfl, if_pos (show k < k + 1 by omega), if_neg (by rw [← eft, c_51]; decide)]
            · rw [if_neg e]
              by_cases e2 : k < i
              · rw [if_pos e2, if_pos (show k < i + 1 by omega)]
              · rw [if_neg e2, if_neg (show ¬ k < i + 1 by omega)]
        · refine mi_iconst dX6_leftByNight_37 ?_
          refine ms_goto (tgt := 43) dX6_leftByNight_38 (by decide) ?_
          refine ms_callV3 (ci := 5) (r := (RX5, TX5, 5)) dX6_leftByNight_43 cv_X6_leftByNight_X5_moveLamp (k_X5_moveLamp (M := N) (v := v) (n := n) (hf := false) (ng := false) hR ht (by rw [eT]; exact hT) (a := 18) (by omega) hwt (by rw [eT]; exact hsc.fr (q1 _ (by decide)) (q1 _ (by decide)) (q1 _ (by decide)) (q1 _ (by decide))) (by rw [eT]; exact hv) hn (by rw [q1 18 (by decide)]; exact hnn) (l := l) (by rw [eN]; exact hl) (w := (-1)) (by rw [eN]; omega) (by rw [q1 46 (by decide)]; exact hng) (by rw [q1 46 (by decide), eN]; exact hst)) rfl rfl (by first | rfl | assumption) (Nat.le_of_ble_eq_true rfl) rfl (fun _ _ z => z.elim) (fun v9 h9 hp9 => ?_)
          obtain ⟨⟨g2, rfl, y2, y3⟩, rfl⟩ := hp9
          have ym : e3 (fun q => g2 (l * 3 + q)) (sp_mo (sp_tC M t) v n l i) := by
            rw [eT] at y2
            unfold sp_mo
            rw [if_pos (show i = 6 by omega)]
            exact y2
          have ys := sp_mo_ok (n := n) (k := i) hT hv hl (by left; omega)
          have ys2 := ys.e ym
          have ys3 : 0 ≤ g2 (l * 3 + 0) ∧ 0 ≤ g2 (l * 3 + 1) ∧ 0 ≤ g2 (l * 3 + 2) ∧ g2 (l * 3 + 0) + g2 (l * 3 + 1) + g2 (l * 3 + 2) = M t 0 := ys2
          refine mx_gen (fun N2 => (∀ x, x ≠ 47 → N2 x = M x) ∧ N2 47 = g2) ⟨fun x hx => by rw [up_n _ _ hx]; exact q1 x hx, up_s _ _ _⟩ (fun N2 hN2 => ?_)
          have e24 : N2 24 = M 24 := hN2.1 24 (by decide)
          have eft : decide (N2 47 (l * 3 + 0) = N2 24 0 ∧ N2 47 (l * 3 + 1) = N2 24 1 ∧ N2 47 (l * 3 + 2) = N2 24 2) = sp_ft (sp_tC M t) v n l (M 24) i := by
            unfold sp_ft
            rw [e24, hN2.2, ← ym.1, ← ym.2.1, ← ym.2.2]
          refine ms_aload_n dX6_leftByNight_46 rfl ?_
          refine ms_iload_n dX6_leftByNight_47 rfl ?_
          refine ms_callV1 (ci := 6) (r := (RX6, TX6, 15)) dX6_leftByNight_48 cv_X6_leftByNight_X6_isSeen (k_X6_isSeen (M := N2) hR (l := l) (by omega) (fun q q0 q1 => by rw [hN2.2, e24]; refine ⟨?_, hsn q q0 q1⟩; rcases (show q = 0 ∨ q = 1 ∨ q = 2 by omega) with rfl | rfl | rfl <;> omega)) rfl rfl (by first | rfl | assumption) (Nat.le_of_ble_eq_true rfl) rfl (fun _ _ z => z.elim) (fun v9 h9 hp9 => ?_)
          obtain ⟨rfl, rfl⟩ := hp9
          refine mi_if_neB (tgt := 63) dX6_leftByNight_51 (by decide) (fun c_51 => ?_) (fun c_51 => ?_)
          · refine mi_iinc dX6_leftByNight_63 rfl (by decide) rfl ?_
            dsimp only [List.set, Nat.reduceAdd]
            refine ms_goto (tgt := 5) dX6_leftByNight_66 (by decide) ?_
            refine ih (i + 1) N2 r (by omega) (by omega) hN2.1 hr (fun k k0 k1 => ?_)
            rw [q3 k k0 k1]
            by_cases e : k = i
            · subst e
              rw [if_neg (show ¬ k < k by omega), if_pos (show k < k + 1 by omega), if_pos (by rw [← eft]; exact c_51)]
            · by_cases e2 : k < i
              · rw [if_pos e2, if_pos (show k < i + 1 by omega)]
              · rw [if_neg e2, if_neg (show ¬ k < i + 1 by omega)]
          · refine ms_iload_n dX6_leftByNight_54 rfl ?_
            refine mi_iconst dX6_leftByNight_55 ?_
            refine ms_iload dX6_leftByNight_56 rfl ?_
            refine mi_ishl (2 ^ i.toNat) dX6_leftByNight_58 (p2_shl (by omega)) ?_
            refine mi_iconst dX6_leftByNight_59 ?_
            refine mi_ixor (-1 - 2 ^ i.toNat) dX6_leftByNight_60 (oxm7 (by omega)) ?_
            refine mi_iand (cl7 r i) dX6_leftByNight_61 hcl.1 ?_
            refine ms_istore_n dX6_leftByNight_62 (by decide) rfl ?_
            dsimp only [List.set, Nat.reduceAdd]
            refine mi_iinc dX6_leftByNight_63 rfl (by decide) rfl ?_
            dsimp only [List.set, Nat.reduceAdd]
            refine ms_goto (tgt := 5) dX6_leftByNight_66 (by decide) ?_
            refine ih (i + 1) N2 (cl7 r i) (by omega) (by omega) hN2.1 hcl.2 (fun k k0 k1 => ?_)
            rw [ob_cl7 hr (by omega) ⟨k0, k1⟩, q3 k k0 k1]
            by_cases e : k = i
            · subst e
              rw [if_pos rfl, if_pos (show k < k + 1 by omega), if_neg (by rw [← eft, c_51]; decide)]
            · rw [if_neg e]
              by_cases e2 : k < i
              · rw [if_pos e2, if_pos (show k < i + 1 by omega)]
              · rw [if_neg e2, if_neg (show ¬ k < i + 1 by omega)]

set_option maxHeartbeats 4000000 in
set_option maxRecDepth 100000 in
theorem k_X6_leftByNight {S : mx_Sc} {f : Bool} {M : Nat → Int → Int} {L : Nat → Nat → Int64} {Rf : Nat → Nat → Option Nat} (hR : mx_rf Rf) {t : Nat} (ht : t = 29 ∨ t = 37) (hT : sp_tok (sp_tC M t)) (hwt : Rf 46 1 = some t) {v : Int → Int} (hsc : scR (sp_tC M t) M 18 v) (hv : sp_vok (sp_tC M t) v) {n l : Int} (hn : 0 ≤ n ∧ n ≤ 1200) (hnn : M 18 3 = n) (hl : 0 ≤ l ∧ l < M t 1) (hng : M 46 4 = bI false) (hst : M 46 3 = M t 2) (hsn : ∀ q, 0 ≤ q → q < 3 → -1000 ≤ M 24 q ∧ M 24 q ≤ 1000) {b : Int} (hb : 0 ≤ b ∧ b < 128) (hbk : ∀ k, 0 ≤ k → k < 6 → ob b k = 1 → k < M t 1) : mx_C S mX6_leftByNight [.ref 0, .int (iI l), .int (iI b)] (f, mx_SH, M, L, Rf) 0 0 (fun v9 h9 => ∃ g r, h9 = (f, mx_SH, va_up M 47 g, L, Rf) ∧ v9 = some (.int (iI r)) ∧ (0 ≤ r ∧ r < 128) ∧ ∀ k, 0 ≤ k → k < 7 → ob r k = if sp_ft (sp_tC M t) v n l (M 24) k = true then ob b k else 0) (fun _ _ => False) := by
  refine mx_C_of (by decide) (by simp [Value.category]) (Nat.le_of_ble_eq_true rfl) rfl ?_
  show mx_E S mX6_leftByNight 0 [some (.ref 0), some (.int (iI l)), some (.int (iI b)), none, none] [] (f, mx_SH, M, L, Rf) 0 0 _ _
  refine ms_iload_n dX6_leftByNight_0 rfl ?_
  refine ms_istore_n dX6_leftByNight_1 (by decide) rfl ?_
  dsimp only [List.set, Nat.reduceAdd]
  refine mi_iconst dX6_leftByNight_2 ?_
  refine ms_istore dX6_leftByNight_3 (by decide) rfl ?_
  dsimp only [List.set, Nat.reduceAdd]
  exact l_X6_lbn hR ht hT hwt hsc hv hn hnn hl hng hst hsn hb hbk 7 0 M b (by omega) (by omega) (fun _ _ => rfl) hb (fun k k0 k1 => by rw [if_neg (by omega)])

