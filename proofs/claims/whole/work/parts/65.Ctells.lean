/-- what a lamp becomes in the night that is to come -/
def tl_g (t : sp_T) (lk : Int → Int) (v : Int → Int) (n l : Int) : Int → Int := if sp_out v l = true then (fun q => v (3 * l + q)) else sp_move t v n l (lk l) false false
/-- how many would be left behind the k-th night -/
def tl_c (t : sp_T) (lk v : Int → Int) (n l r : Int) (k : Nat) : Int :=
  let f := fun j => if sp_ft t (sp_run t lk false false n k v) (n + k) l (tl_g t lk (sp_run t lk false false n k v) (n + k) l) j = true then ob r j else 0
  f 0 + f 1 + f 2 + f 3 + f 4 + f 5 + f 6
def tl_s (t : sp_T) (lk v : Int → Int) (n l r : Int) : Nat → Int × Int
  | 0 => (-1, -1)
  | k + 1 => if (tl_s t lk v n l r k).2 = -1 ∨ tl_c t lk v n l r k < (tl_s t lk v n l r k).2 then (n + k, tl_c t lk v n l r k) else tl_s t lk v n l r k
theorem tl_c_b (t : sp_T) (lk v : Int → Int) (n l r : Int) (k : Nat) : 0 ≤ tl_c t lk v n l r k ∧ tl_c t lk v n l r k ≤ 7 := by
  have h : ∀ (b : Bool) (x : Int), (x = 0 ∨ x = 1) → 0 ≤ (if b = true then x else 0) ∧ (if b = true then x else 0) ≤ 1 := by
    intro b x hx
    split <;> omega
  unfold tl_c
  have h0 := h (sp_ft t (sp_run t lk false false n k v) (n + k) l (tl_g t lk (sp_run t lk false false n k v) (n + k) l) 0) _ (ob_01 r 0)
  have h1 := h (sp_ft t (sp_run t lk false false n k v) (n + k) l (tl_g t lk (sp_run t lk false false n k v) (n + k) l) 1) _ (ob_01 r 1)
  have h2 := h (sp_ft t (sp_run t lk false false n k v) (n + k) l (tl_g t lk (sp_run t lk false false n k v) (n + k) l) 2) _ (ob_01 r 2)
  have h3 := h (sp_ft t (sp_run t lk false false n k v) (n + k) l (tl_g t lk (sp_run t lk false false n k v) (n + k) l) 3) _ (ob_01 r 3)
  have h4 := h (sp_ft t (sp_run t lk false false n k v) (n + k) l (tl_g t lk (sp_run t lk false false n k v) (n + k) l) 4) _ (ob_01 r 4)
  have h5 := h (sp_ft t (sp_run t lk false false n k v) (n + k) l (tl_g t lk (sp_run t lk false false n k v) (n + k) l) 5) _ (ob_01 r 5)
  have h6 := h (sp_ft t (sp_run t lk false false n k v) (n + k) l (tl_g t lk (sp_run t lk false false n k v) (n + k) l) 6) _ (ob_01 r 6)
  simp only
  omega
theorem tl_s_b (t : sp_T) (lk v : Int → Int) (n l r : Int) : ∀ k : Nat, -1 ≤ (tl_s t lk v n l r k).2 ∧ (tl_s t lk v n l r k).2 ≤ 7
  | 0 => by simp [tl_s]
  | k + 1 => by
    have h := tl_s_b t lk v n l r k
    have h2 := tl_c_b t lk v n l r k
    simp only [tl_s]
    split
    · simp only
      omega
    · exact h
set_option maxHeartbeats 4000000 in
set_option maxRecDepth 100000 in
theorem l_X6_tl {S : mx_Sc} {f : Bool} {M : Nat → Int → Int} {L : Nat → Nat → Int64} {Rf : Nat → Nat → Option Nat} (hR : mx_rf Rf) {t : Nat} (ht : t = 29 ∨ t = 37) (hT : sp_tok (sp_tC M t)) (hto : Rf 0 10 = some t) (hwt : Rf 46 1 = some t) (hwl : Rf 46 2 = some (t + 3)) (hlk : sp_lok (sp_tC M t) (M (t + 3))) (hng : M 46 4 = bI false) (hst : M 46 3 = M t 2) {v : Int → Int} {n l z2 r : Int} (hn : 0 ≤ n ∧ n ≤ 99) (hl : 0 ≤ l ∧ l < M t 1) (hz2 : 0 ≤ z2 ∧ z2 < 2) (hr : 0 ≤ r ∧ r < 128) (hbk : ∀ k, 0 ≤ k → k < 6 → ob r k = 1 → k < M t 1) : ∀ (kk : Nat) (k : Nat) (N : Nat → Int → Int) (o7 : Option Value), n + k + kk = M t 5 → (∀ x, x ≠ 47 → x ≠ 24 → x ≠ 18 → x ≠ 19 → x ≠ 20 → x ≠ 21 → N x = M x) → N 18 3 = n + k → scR (sp_tC M t) N 18 (sp_run (sp_tC M t) (M (t + 3)) false false n k v) → sp_vok (sp_tC M t) (sp_run (sp_tC M t) (M (t + 3)) false false n k v) → mx_E S mX6_tells 44 [some (.ref 0), some (.int (iI l)), some (.int (iI z2)), some (.int (iI r)), some (.int (iI (tl_s (sp_tC M t) (M (t + 3)) v n l r k).1)), some (.int (iI (tl_s (sp_tC M t) (M (t + 3)) v n l r k).2)), some (.int (iI (n + (k : Int)))), o7] [] (f, mx_SH, N, L, Rf) 0 0 (fun v9 h9 => ∃ N, h9 = (f, mx_SH, N, L, Rf) ∧ v9 = some (.int (iI (if z2 = 0 then (tl_s (sp_tC M t) (M (t + 3)) v n l r (M t 5 - n).toNat).1 else (tl_s (sp_tC M t) (M (t + 3)) v n l r (M t 5 - n).toNat).2))) ∧ (∀ x, x ≠ 47 → x ≠ 24 → x ≠ 18 → x ≠ 19 → x ≠ 20 → x ≠ 21 → N x = M x)) (fun _ _ => False) := by
  intro kk
  induction kk with
  | zero => 
    intro k N o7 g1 q1 q2 q3 q4
    have ht9 : t < 900 := by omega
    have hs_t := tc_s ht
    have hs_t1 := tc_s1 ht
    have hr_t1 := tc_r1 hR ht
    have hs_t2 := tc_s2 ht
    have hr_t2 := tc_r2 hR ht
    have hs_t3 := tc_s3 ht
    have hr_t3 := tc_r3 hR ht
    have hs_t4 := tc_s4 ht
    have hr_t4 := tc_r4 hR ht
    have hs_t5 := tc_s5 ht
    have hr_t5 := tc_r5 hR ht
    have hs_t6 := tc_s6 ht
    have hr_t6 := tc_r6 hR ht
    have hs_t7 := tc_s7 ht
    have hr_t7 := tc_r7 hR ht
    have hT0 : 1 ≤ M t 0 ∧ M t 0 ≤ 30 := hT.1
    have hT1 : 0 ≤ M t 1 ∧ M t 1 ≤ 6 := hT.2.1
    have hT2 : 1 ≤ M t 2 ∧ M t 2 ≤ 9 := hT.2.2.1
    have hT3 : 0 ≤ M t 3 ∧ M t 3 ≤ 9 := hT.2.2.2.1
    have hT4 : 0 ≤ M t 4 ∧ M t 4 ≤ 9 := hT.2.2.2.2.1
    have hT5 : 1 ≤ M t 5 ∧ M t 5 ≤ 99 := hT.2.2.2.2.2.1
    have hT6 : 0 ≤ M t 6 ∧ M t 6 ≤ 10 := hT.2.2.2.2.2.2.1
    have hTn : ((M t 1).toNat : Int) = M t 1 := Int.toNat_of_nonneg hT1.1
    have hTn6 : ((M t 6).toNat : Int) = M t 6 := Int.toNat_of_nonneg hT6.1
    have eT : sp_tC N t = sp_tC M t := tC_fr (fun y _ _ => q1 y (by omega) (by omega) (by omega) (by omega) (by omega) (by omega))
    have eN : ∀ k, N t k = M t k := fun k => by rw [q1 t (by omega) (by omega) (by omega) (by omega) (by omega) (by omega)]
    have eN5 := eN 5
    have e46 : N 46 = M 46 := q1 46 (by omega) (by omega) (by omega) (by omega) (by omega) (by omega)
    have ewr : N (t + 3) = M (t + 3) := q1 (t + 3) (by omega) (by omega) (by omega) (by omega) (by omega) (by omega)
    have hlw := hlk l hl.1 hl.2
    simp only at hlw
    have htb := tl_s_b (sp_tC M t) (M (t + 3)) v n l r k
    have hcb := tl_c_b (sp_tC M t) (M (t + 3)) v n l r k
    refine ms_iload dX6_tells_44 rfl ?_
    refine ms_aload_n dX6_tells_46 rfl ?_
    refine ms_getR dX6_tells_47 (fo_X6_50 rfl) (by first | rfl | assumption) rfl (by first | assumption ) ?_
    refine ms_getI (z := 5) dX6_tells_50 (fo_X6_124 rfl) (by first | rfl | assumption) rfl rfl ?_
    refine mi_icmp_ge (tgt := 146) dX6_tells_53 (by decide) (fun c_53 => ?_) (fun c_53 => ?_)
    · refine ms_iload_n dX6_tells_146 rfl ?_
      refine mi_if_ne (tgt := 155) dX6_tells_147 (by decide) (fun c_147 => ?_) (fun c_147 => ?_)
      · refine ms_iload dX6_tells_155 rfl ?_
        refine ms_ret dX6_tells_157 rfl ⟨N, rfl, by first | rw [if_pos (by omega), show (M t 5 - n).toNat = k by omega] | rw [if_neg (by omega), show (M t 5 - n).toNat = k by omega], q1⟩ (by simp)
      · refine ms_iload dX6_tells_150 rfl ?_
        refine ms_goto (tgt := 157) dX6_tells_152 (by decide) ?_
        refine ms_ret dX6_tells_157 rfl ⟨N, rfl, by first | rw [if_pos (by omega), show (M t 5 - n).toNat = k by omega] | rw [if_neg (by omega), show (M t 5 - n).toNat = k by omega], q1⟩ (by simp)
    · exact absurd c_53 (by omega)
  | succ kk ih => 
    intro k N o7 g1 q1 q2 q3 q4
    have ht9 : t < 900 := by omega
    have hs_t := tc_s ht
    have hs_t1 := tc_s1 ht
    have hr_t1 := tc_r1 hR ht
    have hs_t2 := tc_s2 ht
    have hr_t2 := tc_r2 hR ht
    have hs_t3 := tc_s3 ht
    have hr_t3 := tc_r3 hR ht
    have hs_t4 := tc_s4 ht
    have hr_t4 := tc_r4 hR ht
    have hs_t5 := tc_s5 ht
    have hr_t5 := tc_r5 hR ht
    have hs_t6 := tc_s6 ht
    have hr_t6 := tc_r6 hR ht
    have hs_t7 := tc_s7 ht
    have hr_t7 := tc_r7 hR ht
    have hT0 : 1 ≤ M t 0 ∧ M t 0 ≤ 30 := hT.1
    have hT1 : 0 ≤ M t 1 ∧ M t 1 ≤ 6 := hT.2.1
    have hT2 : 1 ≤ M t 2 ∧ M t 2 ≤ 9 := hT.2.2.1
    have hT3 : 0 ≤ M t 3 ∧ M t 3 ≤ 9 := hT.2.2.2.1
    have hT4 : 0 ≤ M t 4 ∧ M t 4 ≤ 9 := hT.2.2.2.2.1
    have hT5 : 1 ≤ M t 5 ∧ M t 5 ≤ 99 := hT.2.2.2.2.2.1
    have hT6 : 0 ≤ M t 6 ∧ M t 6 ≤ 10 := hT.2.2.2.2.2.2.1
    have hTn : ((M t 1).toNat : Int) = M t 1 := Int.toNat_of_nonneg hT1.1
    have hTn6 : ((M t 6).toNat : Int) = M t 6 := Int.toNat_of_nonneg hT6.1
    have eT : sp_tC N t = sp_tC M t := tC_fr (fun y _ _ => q1 y (by omega) (by omega) (by omega) (by omega) (by omega) (by omega))
    have eN : ∀ k, N t k = M t k := fun k => by rw [q1 t (by omega) (by omega) (by omega) (by omega) (by omega) (by omega)]
    have eN5 := eN 5
    have e46 : N 46 = M 46 := q1 46 (by omega) (by omega) (by omega) (by omega) (by omega) (by omega)
    have ewr : N (t + 3) = M (t + 3) := q1 (t + 3) (by omega) (by omega) (by omega) (by omega) (by omega) (by omega)
    have hlw := hlk l hl.1 hl.2
    simp only at hlw
    have htb := tl_s_b (sp_tC M t) (M (t + 3)) v n l r k
    have hcb := tl_c_b (sp_tC M t) (M (t + 3)) v n l r k
    refine ms_iload dX6_tells_44 rfl ?_
    refine ms_aload_n dX6_tells_46 rfl ?_
    refine ms_getR dX6_tells_47 (fo_X6_50 rfl) (by first | rfl | assumption) rfl (by first | assumption ) ?_
    refine ms_getI (z := 5) dX6_tells_50 (fo_X6_124 rfl) (by first | rfl | assumption) rfl rfl ?_
    refine mi_icmp_ge (tgt := 146) dX6_tells_53 (by decide) (fun c_53 => ?_) (fun c_53 => ?_)
    · exact absurd c_53 (by omega)
    · refine ms_aload_n dX6_tells_56 rfl ?_
      refine ms_getR dX6_tells_57 (fo_X6_75 rfl) (by first | rfl | assumption) rfl (by first | assumption | exact rf_0_9 hR ) ?_
      refine ms_aload_n dX6_tells_60 rfl ?_
      refine ms_getR dX6_tells_61 (fo_X6_26 rfl) (by first | rfl | assumption) rfl (by first | assumption | exact rf_0_4 hR ) ?_
      refine ms_iload_n dX6_tells_64 rfl ?_
      refine ms_aload_n dX6_tells_65 rfl ?_
      refine ms_getR dX6_tells_66 (fo_X6_50 rfl) (by first | rfl | assumption) rfl (by first | assumption ) ?_
      refine ms_getR dX6_tells_69 (fo_X6_154 rfl) (by first | rfl | assumption) rfl (by first | assumption | exact rf_29_9 hR | exact rf_37_9 hR ) ?_
      refine ms_iload_n dX6_tells_72 rfl ?_
      refine ms_iald dX6_tells_73 (by first | rfl | assumption) ?_
      refine ms_callV3 (ci := 5) (r := (RX5, TX5, 5)) dX6_tells_74 cv_X6_tells_X5_moveLamp (k_X5_moveLamp (M := N) (a := 18) (v := sp_run (sp_tC M t) (M (t + 3)) false false n k v) (n := n + k) (hf := false) (ng := false) hR ht (by rw [eT]; exact hT) (by omega) hwt (by rw [eT]; exact q3) (by rw [eT]; exact q4) (by omega) q2 (l := l) (by rw [eN]; exact hl) (w := N (t + 3) l) (by rw [ewr, eN]; exact hlw) (by rw [e46]; exact hng) (by rw [e46, eN]; exact hst)) rfl rfl (by first | rfl | assumption) (Nat.le_of_ble_eq_true rfl) rfl (fun _ _ z => z.elim) (fun v9 h9 hp9 => ?_)
      obtain ⟨⟨g2, rfl, y2, y3⟩, rfl⟩ := hp9
      have ym : e3 (fun q => g2 (l * 3 + q)) (tl_g (sp_tC M t) (M (t + 3)) (sp_run (sp_tC M t) (M (t + 3)) false false n k v) (n + k) l) := by
        rw [eT, ewr] at y2
        exact y2
      have ys : s3 (M t 0) (tl_g (sp_tC M t) (M (t + 3)) (sp_run (sp_tC M t) (M (t + 3)) false false n k v) (n + k) l) := by
        unfold tl_g
        split
        · exact q4.s hl.1 hl.2
        · exact sp_move_ok hT q4 hl hlw false false
      have ys3 := ys.e ym
      have ys4 : 0 ≤ g2 (l * 3 + 0) ∧ 0 ≤ g2 (l * 3 + 1) ∧ 0 ≤ g2 (l * 3 + 2) ∧ g2 (l * 3 + 0) + g2 (l * 3 + 1) + g2 (l * 3 + 2) = M t 0 := ys3
      refine ms_aload_n dX6_tells_77 rfl ?_
      refine ms_getR dX6_tells_78 (fo_X6_75 rfl) (by first | rfl | assumption) rfl (by first | assumption | exact rf_0_9 hR ) ?_
      refine ms_getR dX6_tells_81 (fo_X6_254 rfl) (by first | rfl | assumption) rfl (by first | assumption | exact rf_46_0 hR ) ?_
      refine ms_iload_n dX6_tells_84 rfl ?_
      refine mi_iconst dX6_tells_85 ?_
      refine mi_imul dX6_tells_86 ?_
      refine ms_aload_n dX6_tells_87 rfl ?_
      refine ms_getR dX6_tells_88 (fo_X6_37 rfl) (by first | rfl | assumption) rfl (by first | assumption | exact rf_0_7 hR ) ?_
      refine mi_iconst dX6_tells_91 ?_
      refine mi_iconst dX6_tells_92 ?_
      refine ms_acopy dX6_tells_93 ac_X6_tells (by first | rfl | assumption) (by first | rfl | assumption) (Nat.le_of_ble_eq_true rfl) ?_
      refine mx_gen (fun N1 => (∀ x, x ≠ 47 → x ≠ 24 → N1 x = N x) ∧ e3 (N1 24) (fun q => g2 (l * 3 + q))) ⟨fun x x1 x2 => by rw [up_n _ _ x2, up_n _ _ x1], by rw [up_s]; refine ⟨?_, ?_, ?_⟩ <;> simp [ic, va_up]⟩ (fun N1 hN1 => ?_)
      have eT1 : sp_tC N1 t = sp_tC M t := by rw [← eT]; exact tC_fr (fun y _ _ => hN1.1 y (by omega) (by omega))
      have eN1 : ∀ k, N1 t k = M t k := fun k => by rw [hN1.1 t (by omega) (by omega)]; exact eN k
      have e461 : N1 46 = M 46 := by rw [hN1.1 46 (by decide) (by decide)]; exact e46
      have hs1 : scR (sp_tC M t) N1 18 (sp_run (sp_tC M t) (M (t + 3)) false false n k v) := q3.fr (hN1.1 _ (by decide) (by decide)) (hN1.1 _ (by decide) (by decide)) (hN1.1 _ (by decide) (by decide)) (hN1.1 _ (by decide) (by decide))
      refine ms_aload_n dX6_tells_96 rfl ?_
      refine ms_iload_n dX6_tells_97 rfl ?_
      refine ms_iload_n dX6_tells_98 rfl ?_
      refine ms_callV2 (ci := 6) (r := (RX6, TX6, 15)) dX6_tells_99 cv_X6_tells_X6_leftByNight (k_X6_leftByNight (M := N1) (v := sp_run (sp_tC M t) (M (t + 3)) false false n k v) (n := n + k) hR ht (by rw [eT1]; exact hT) hwt (by rw [eT1]; exact hs1) (by rw [eT1]; exact q4) (by omega) (by rw [hN1.1 18 (by decide) (by decide)]; exact q2) (l := l) (by rw [eN1]; exact hl) (by rw [e461]; exact hng) (by rw [e461, eN1]; exact hst) (fun q r0 r1 => by rw [hN1.2.at r0 r1]; rcases (show q = 0 ∨ q = 1 ∨ q = 2 by omega) with rfl | rfl | rfl <;> omega) (b := r) hr (fun k k0 k1 k2 => by rw [eN1]; exact hbk k k0 k1 k2)) rfl rfl (by first | rfl | assumption) (Nat.le_of_ble_eq_true rfl) rfl (fun _ _ z => z.elim) (fun v9 h9 hp9 => ?_)
      obtain ⟨g4, r2, rfl, rfl, w1, w2⟩ := hp9
      rw [eT1] at w2
      have hpc : pcn r2 = tl_c (sp_tC M t) (M (t + 3)) v n l r k := by
        unfold pcn tl_c
        have hg : e3 (N1 24) (tl_g (sp_tC M t) (M (t + 3)) (sp_run (sp_tC M t) (M (t + 3)) false false n k v) (n + k) l) := hN1.2.tr ym
        rw [w2 0 (by omega) (by omega), w2 1 (by omega) (by omega), w2 2 (by omega) (by omega), w2 3 (by omega) (by omega), w2 4 (by omega) (by omega), w2 5 (by omega) (by omega), w2 6 (by omega) (by omega), sp_ft_g hg, sp_ft_g hg, sp_ft_g hg, sp_ft_g hg, sp_ft_g hg, sp_ft_g hg, sp_ft_g hg]
      refine mx_gen (fun N2 => ∀ x, x ≠ 47 → x ≠ 24 → N2 x = N x) (fun x x1 x2 => by rw [up_n _ _ x1, hN1.1 x x1 x2]) (fun N2 f2 => ?_)
      have eT2 : sp_tC N2 t = sp_tC M t := by rw [← eT]; exact tC_fr (fun y _ _ => f2 y (by omega) (by omega))
      have eN2 : ∀ k, N2 t k = M t k := fun k => by rw [f2 t (by omega) (by omega)]; exact eN k
      have elk2 : N2 (t + 3) = M (t + 3) := by rw [f2 (t + 3) (by omega) (by omega)]; exact ewr
      have e462 : N2 46 = M 46 := by rw [f2 46 (by decide) (by decide)]; exact e46
      have hs2 : scR (sp_tC M t) N2 18 (sp_run (sp_tC M t) (M (t + 3)) false false n k v) := q3.fr (f2 _ (by decide) (by decide)) (f2 _ (by decide) (by decide)) (f2 _ (by decide) (by decide)) (f2 _ (by decide) (by decide))
      refine ms_callS1 dX6_tells_102 cv_X6_tells_J6_bitCount_0f7a4 (k_bitC (o := r2) w1) (Nat.le_of_ble_eq_true rfl) rfl (fun _ _ z => z.elim) (fun v9 h9 hp9 => ?_)
      obtain ⟨rfl, rfl⟩ := hp9
      rw [hpc]
      refine ms_istore dX6_tells_105 (by decide) rfl ?_
      dsimp only [List.set, Nat.reduceAdd]
      refine ms_iload dX6_tells_107 rfl ?_
      refine mi_iconst dX6_tells_109 ?_
      refine mi_icmp_eq (tgt := 120) dX6_tells_110 (by decide) (fun c_110 => ?_) (fun c_110 => ?_)
      · have hts0 : ((tl_s (sp_tC M t) (M (t + 3)) v n l r k).2 = -1 ∨ tl_c (sp_tC M t) (M (t + 3)) v n l r k < (tl_s (sp_tC M t) (M (t + 3)) v n l r k).2) := by omega
        refine ms_iload dX6_tells_120 rfl ?_
        refine ms_istore dX6_tells_122 (by decide) rfl ?_
        dsimp only [List.set, Nat.reduceAdd]
        refine ms_iload dX6_tells_124 rfl ?_
        refine ms_istore dX6_tells_126 (by decide) rfl ?_
        dsimp only [List.set, Nat.reduceAdd]
        have hts : tl_s (sp_tC M t) (M (t + 3)) v n l r (k + 1) = (n + (k : Int), tl_c (sp_tC M t) (M (t + 3)) v n l r k) := if_pos hts0
        refine ms_aload_n dX6_tells_128 rfl ?_
        refine ms_getR dX6_tells_129 (fo_X6_75 rfl) (by first | rfl | assumption) rfl (by first | assumption | exact rf_0_9 hR ) ?_
        refine ms_aload_n dX6_tells_132 rfl ?_
        refine ms_getR dX6_tells_133 (fo_X6_26 rfl) (by first | rfl | assumption) rfl (by first | assumption | exact rf_0_4 hR ) ?_
        refine ms_callV1 (ci := 5) (r := (RX5, TX5, 5)) dX6_tells_136 cv_X6_tells_X5_passNight (k_X5_passNight (M := N2) (a := 18) (v := sp_run (sp_tC M t) (M (t + 3)) false false n k v) (n := n + k) (hf := false) (ng := false) (wr := t + 3) hR ht (by rw [eT2]; exact hT) (by omega) hwt (Or.inl rfl) hwl (by rw [eT2, elk2]; exact hlk) (by rw [eT2]; exact hs2) (by rw [eT2]; exact q4) (by omega) (by rw [f2 18 (by decide) (by decide)]; exact q2) (by rw [e462]; exact hng) (by rw [e462, eN2]; exact hst)) rfl rfl (by first | rfl | assumption) (Nat.le_of_ble_eq_true rfl) rfl (fun _ _ z => z.elim) (fun v9 h9 hp9 => ?_)
        obtain ⟨N3, c, rfl, rfl, y1, y2, y3, y4, y5, y6⟩ := hp9
        rw [eT2, elk2] at y4 y5
        refine ms_pop dX6_tells_139 rfl ?_
        refine mi_iinc dX6_tells_140 rfl (by decide) rfl ?_
        dsimp only [List.set, Nat.reduceAdd]
        refine ms_goto (tgt := 44) dX6_tells_143 (by decide) ?_
        have i9 := ih (k + 1) N3 (some (.int (iI (tl_c (sp_tC M t) (M (t + 3)) v n l r k)))) (by omega) (fun x x0 x1 x2 x3 x4 x5 => by rw [y1 x x0 x2 x3 x4 x5, f2 x x0 x1, q1 x x0 x1 x2 x3 x4 x5]) (by rw [y2]; omega) y4 y5
        rw [hts, show n + ((k + 1 : Nat) : Int) = n + (k : Int) + 1 by omega] at i9
        exact i9
      · refine ms_iload dX6_tells_113 rfl ?_
        refine ms_iload dX6_tells_115 rfl ?_
        refine mi_icmp_ge (tgt := 128) dX6_tells_117 (by decide) (fun c_117 => ?_) (fun c_117 => ?_)
        · have hts : tl_s (sp_tC M t) (M (t + 3)) v n l r (k + 1) = tl_s (sp_tC M t) (M (t + 3)) v n l r k := if_neg (by omega)
          refine ms_aload_n dX6_tells_128 rfl ?_
          refine ms_getR dX6_tells_129 (fo_X6_75 rfl) (by first | rfl | assumption) rfl (by first | assumption | exact rf_0_9 hR ) ?_
          refine ms_aload_n dX6_tells_132 rfl ?_
          refine ms_getR dX6_tells_133 (fo_X6_26 rfl) (by first | rfl | assumption) rfl (by first | assumption | exact rf_0_4 hR ) ?_
          refine ms_callV1 (ci := 5) (r := (RX5, TX5, 5)) dX6_tells_136 cv_X6_tells_X5_passNight (k_X5_passNight (M := N2) (a := 18) (v := sp_run (sp_tC M t) (M (t + 3)) false false n k v) (n := n + k) (hf := false) (ng := false) (wr := t + 3) hR ht (by rw [eT2]; exact hT) (by omega) hwt (Or.inl rfl) hwl (by rw [eT2, elk2]; exact hlk) (by rw [eT2]; exact hs2) (by rw [eT2]; exact q4) (by omega) (by rw [f2 18 (by decide) (by decide)]; exact q2) (by rw [e462]; exact hng) (by rw [e462, eN2]; exact hst)) rfl rfl (by first | rfl | assumption) (Nat.le_of_ble_eq_true rfl) rfl (fun _ _ z => z.elim) (fun v9 h9 hp9 => ?_)
          obtain ⟨N3, c, rfl, rfl, y1, y2, y3, y4, y5, y6⟩ := hp9
          rw [eT2, elk2] at y4 y5
          refine ms_pop dX6_tells_139 rfl ?_
          refine mi_iinc dX6_tells_140 rfl (by decide) rfl ?_
          dsimp only [List.set, Nat.reduceAdd]
          refine ms_goto (tgt := 44) dX6_tells_143 (by decide) ?_
          have i9 := ih (k + 1) N3 (some (.int (iI (tl_c (sp_tC M t) (M (t + 3)) v n l r k)))) (by omega) (fun x x0 x1 x2 x3 x4 x5 => by rw [y1 x x0 x2 x3 x4 x5, f2 x x0 x1, q1 x x0 x1 x2 x3 x4 x5]) (by rw [y2]; omega) y4 y5
          rw [hts, show n + ((k + 1 : Nat) : Int) = n + (k : Int) + 1 by omega] at i9
          exact i9
        · have hts0 : ((tl_s (sp_tC M t) (M (t + 3)) v n l r k).2 = -1 ∨ tl_c (sp_tC M t) (M (t + 3)) v n l r k < (tl_s (sp_tC M t) (M (t + 3)) v n l r k).2) := by omega
          refine ms_iload dX6_tells_120 rfl ?_
          refine ms_istore dX6_tells_122 (by decide) rfl ?_
          dsimp only [List.set, Nat.reduceAdd]
          refine ms_iload dX6_tells_124 rfl ?_
          refine ms_istore dX6_tells_126 (by decide) rfl ?_
          dsimp only [List.set, Nat.reduceAdd]
          have hts : tl_s (sp_tC M t) (M (t + 3)) v n l r (k + 1) = (n + (k : Int), tl_c (sp_tC M t) (M (t + 3)) v n l r k) := if_pos hts0
          refine ms_aload_n dX6_tells_128 rfl ?_
          refine ms_getR dX6_tells_129 (fo_X6_75 rfl) (by first | rfl | assumption) rfl (by first | assumption | exact rf_0_9 hR ) ?_
          refine ms_aload_n dX6_tells_132 rfl ?_
          refine ms_getR dX6_tells_133 (fo_X6_26 rfl) (by first | rfl | assumption) rfl (by first | assumption | exact rf_0_4 hR ) ?_
          refine ms_callV1 (ci := 5) (r := (RX5, TX5, 5)) dX6_tells_136 cv_X6_tells_X5_passNight (k_X5_passNight (M := N2) (a := 18) (v := sp_run (sp_tC M t) (M (t + 3)) false false n k v) (n := n + k) (hf := false) (ng := false) (wr := t + 3) hR ht (by rw [eT2]; exact hT) (by omega) hwt (Or.inl rfl) hwl (by rw [eT2, elk2]; exact hlk) (by rw [eT2]; exact hs2) (by rw [eT2]; exact q4) (by omega) (by rw [f2 18 (by decide) (by decide)]; exact q2) (by rw [e462]; exact hng) (by rw [e462, eN2]; exact hst)) rfl rfl (by first | rfl | assumption) (Nat.le_of_ble_eq_true rfl) rfl (fun _ _ z => z.elim) (fun v9 h9 hp9 => ?_)
          obtain ⟨N3, c, rfl, rfl, y1, y2, y3, y4, y5, y6⟩ := hp9
          rw [eT2, elk2] at y4 y5
          refine ms_pop dX6_tells_139 rfl ?_
          refine mi_iinc dX6_tells_140 rfl (by decide) rfl ?_
          dsimp only [List.set, Nat.reduceAdd]
          refine ms_goto (tgt := 44) dX6_tells_143 (by decide) ?_
          have i9 := ih (k + 1) N3 (some (.int (iI (tl_c (sp_tC M t) (M (t + 3)) v n l r k)))) (by omega) (fun x x0 x1 x2 x3 x4 x5 => by rw [y1 x x0 x2 x3 x4 x5, f2 x x0 x1, q1 x x0 x1 x2 x3 x4 x5]) (by rw [y2]; omega) y4 y5
          rw [hts, show n + ((k + 1 : Nat) : Int) = n + (k : Int) + 1 by omega] at i9
          exact i9

set_option maxHeartbeats 4000000 in
set_option maxRecDepth 100000 in
theorem k_X6_tells {S : mx_Sc} {f : Bool} {M : Nat → Int → Int} {L : Nat → Nat → Int64} {Rf : Nat → Nat → Option Nat} (hR : mx_rf Rf) {t : Nat} (ht : t = 29 ∨ t = 37) (hT : sp_tok (sp_tC M t)) (hto : Rf 0 10 = some t) {v : Int → Int} (hsc : scR (sp_tC M t) M 3 v) (hv : sp_vok (sp_tC M t) v) (hz : ∀ l, M t 1 ≤ l → l < 6 → sp_out v l = false) {n l : Int} (hn : 0 ≤ n ∧ n ≤ 99) (hnn : M 3 3 = n) (hl : 0 ≤ l ∧ l < M t 1) (hdk : ∀ j, 0 ≤ j → j < n → sp_vok (sp_tC M t) (bk_v (M 7) v j)) (hdw : ∀ i, 0 ≤ i → i < 1800 → -1000 ≤ M 8 i ∧ M 8 i ≤ 1000) (hlk : sp_lok (sp_tC M t) (M (t + 3))) (hne : n ≤ M t 5) (hl32 : -2147483648 ≤ l ∧ l ≤ 2147483647) {z2 : Int} (hz232 : -2147483648 ≤ z2 ∧ z2 ≤ 2147483647) (hc : 0 ≤ z2 ∧ z2 < 2) : mx_C S mX6_tells [.ref 0, .int (iI l), .int (iI z2)] (f, mx_SH, M, L, Rf) 0 0 (fun v9 h9 => ∃ N Rf2 r, h9 = (f, mx_SH, N, L, Rf2) ∧ v9 = some (.int (iI (if z2 = 0 then (tl_s (sp_tC M t) (M (t + 3)) v n l r (M t 5 - n).toNat).1 else (tl_s (sp_tC M t) (M (t + 3)) v n l r (M t 5 - n).toNat).2))) ∧ mx_rf Rf2 ∧ (∀ y, y ≠ 46 → Rf2 y = Rf y) ∧ (∀ x, x ≠ 46 → x ≠ 47 → x ≠ 24 → x ≠ 18 → x ≠ 19 → x ≠ 20 → x ≠ 21 → N x = M x) ∧ (0 ≤ r ∧ r < 128) ∧ ∀ k, 0 ≤ k → k < 7 → ob r k = if k ≠ l ∧ (k = 6 ∨ k < M t 1) ∧ bk_all (sp_tC M t) (M 7) (M 8) v l n.toNat k = true then 1 else 0) (fun _ _ => False) := by
  refine mx_C_of (by decide) (by simp [Value.category]) (Nat.le_of_ble_eq_true rfl) rfl ?_
  show mx_E S mX6_tells 0 [some (.ref 0), some (.int (iI l)), some (.int (iI z2)), none, none, none, none, none] [] (f, mx_SH, M, L, Rf) 0 0 _ _
  have ht9 : t < 900 := by omega
  have hs_t := tc_s ht
  have hs_t1 := tc_s1 ht
  have hr_t1 := tc_r1 hR ht
  have hs_t2 := tc_s2 ht
  have hr_t2 := tc_r2 hR ht
  have hs_t3 := tc_s3 ht
  have hr_t3 := tc_r3 hR ht
  have hs_t4 := tc_s4 ht
  have hr_t4 := tc_r4 hR ht
  have hs_t5 := tc_s5 ht
  have hr_t5 := tc_r5 hR ht
  have hs_t6 := tc_s6 ht
  have hr_t6 := tc_r6 hR ht
  have hs_t7 := tc_s7 ht
  have hr_t7 := tc_r7 hR ht
  have hT0 : 1 ≤ M t 0 ∧ M t 0 ≤ 30 := hT.1
  have hT1 : 0 ≤ M t 1 ∧ M t 1 ≤ 6 := hT.2.1
  have hT2 : 1 ≤ M t 2 ∧ M t 2 ≤ 9 := hT.2.2.1
  have hT3 : 0 ≤ M t 3 ∧ M t 3 ≤ 9 := hT.2.2.2.1
  have hT4 : 0 ≤ M t 4 ∧ M t 4 ≤ 9 := hT.2.2.2.2.1
  have hT5 : 1 ≤ M t 5 ∧ M t 5 ≤ 99 := hT.2.2.2.2.2.1
  have hT6 : 0 ≤ M t 6 ∧ M t 6 ≤ 10 := hT.2.2.2.2.2.2.1
  have hTn : ((M t 1).toNat : Int) = M t 1 := Int.toNat_of_nonneg hT1.1
  have hTn6 : ((M t 6).toNat : Int) = M t 6 := Int.toNat_of_nonneg hT6.1
  refine ms_aload_n dX6_tells_0 rfl ?_
  refine ms_iload_n dX6_tells_1 rfl ?_
  refine ms_callV1 (ci := 6) (r := (RX6, TX6, 15)) dX6_tells_2 cv_X6_tells_X6_requireLamp (k_X6_requireLamp hR ht hT hto hl32 hl) rfl rfl (by first | rfl | assumption) (Nat.le_of_ble_eq_true rfl) rfl (fun _ _ z => z.elim) (fun v9 h9 hp9 => ?_)
  obtain ⟨rfl, rfl⟩ := hp9
  refine ms_iload_n dX6_tells_5 rfl ?_
  refine ms_callS1 dX6_tells_6 cv_X6_tells_X6_requireFirstOrSecond (k_X6_requireFS hR hz232 hc) (Nat.le_of_ble_eq_true rfl) rfl (fun _ _ z => z.elim) (fun v9 h9 hp9 => ?_)
  obtain ⟨rfl, rfl⟩ := hp9
  refine ms_aload_n dX6_tells_9 rfl ?_
  refine ms_iload_n dX6_tells_10 rfl ?_
  refine ms_callV1 (ci := 6) (r := (RX6, TX6, 15)) dX6_tells_11 cv_X6_tells_X6_leftByBook (k_X6_leftByBook hR ht hT hto hsc hv hz hn hnn hl hdk hdw) rfl rfl (by first | rfl | assumption) (Nat.le_of_ble_eq_true rfl) rfl (fun _ _ z => z.elim) (fun v9 h9 hp9 => ?_)
  obtain ⟨N1, r, Rf2, rfl, rfl, hR, hRx, hR1, hR12, hNx, hN4, hN3, hr, hbr⟩ := hp9
  have hto : Rf2 0 10 = some t := by rw [hRx 0 (by decide)]; exact hto
  refine ms_istore_n dX6_tells_14 (by decide) rfl ?_
  dsimp only [List.set, Nat.reduceAdd]
  refine mi_iconst dX6_tells_15 ?_
  refine ms_istore dX6_tells_16 (by decide) rfl ?_
  dsimp only [List.set, Nat.reduceAdd]
  refine mi_iconst dX6_tells_18 ?_
  refine ms_istore dX6_tells_19 (by decide) rfl ?_
  dsimp only [List.set, Nat.reduceAdd]
  refine ms_aload_n dX6_tells_21 rfl ?_
  refine ms_getR dX6_tells_22 (fo_X6_26 rfl) (by first | rfl | assumption) rfl (by first | assumption | exact rf_0_4 hR ) ?_
  refine ms_aload_n dX6_tells_25 rfl ?_
  refine ms_getR dX6_tells_26 (fo_X6_16 rfl) (by first | rfl | assumption) rfl (by first | assumption | exact rf_0_2 hR ) ?_
  refine ms_getR dX6_tells_29 (fo_X6_130 rfl) (by first | rfl | assumption) rfl (by first | assumption | exact rf_2_0 hR | exact rf_10_0 hR ) ?_
  refine ms_callV1 (ci := 2) (r := (RX2, TX2, 6)) dX6_tells_32 cv_X6_tells_X2_take (k_X2_take (M := N1) (a := 18) (b := 3) hR (by omega) (by omega) (by decide)) rfl rfl (by first | rfl | assumption) (Nat.le_of_ble_eq_true rfl) rfl (fun _ _ z => z.elim) (fun v9 h9 hp9 => ?_)
  obtain ⟨N2, rfl, rfl, z1, z2e, z3⟩ := hp9
  have fx : ∀ x, x ≠ 46 → x ≠ 47 → x ≠ 24 → x ≠ 18 → x ≠ 19 → x ≠ 20 → x ≠ 21 → N2 x = M x := fun x x0 x1 x2 x3 x4 x5 x6 => by rw [z1 x x3 x4 x5 x6, hNx x x0 x1 x3 x4 x5 x6 x2]
  have eT2 : sp_tC N2 t = sp_tC M t := tC_fr (fun y _ _ => fx y (by omega) (by omega) (by omega) (by omega) (by omega) (by omega) (by omega))
  have eN2 : ∀ k, N2 t k = M t k := fun k => by rw [fx t (by omega) (by omega) (by omega) (by omega) (by omega) (by omega) (by omega)]
  have elk : N2 (t + 3) = M (t + 3) := fx (t + 3) (by omega) (by omega) (by omega) (by omega) (by omega) (by omega) (by omega)
  have h13 : ∀ x, x = 3 ∨ x = 4 ∨ x = 5 ∨ x = 6 → N1 x = M x := fun x hx => hNx x (by omega) (by omega) (by omega) (by omega) (by omega) (by omega) (by omega)
  have e18 : N2 18 3 = n := by rw [z2e.2.2.1, h13 3 (by omega)]; exact hnn
  have hs18 : scR (sp_tC M t) N2 18 v := z2e.sc hT (hsc.fr (h13 _ (by omega)) (h13 _ (by omega)) (h13 _ (by omega)) (h13 _ (by omega)))
  have e46a : N2 46 = N1 46 := z1 46 (by decide) (by decide) (by decide) (by decide)
  refine ms_aload_n dX6_tells_35 rfl ?_
  refine ms_getR dX6_tells_36 (fo_X6_26 rfl) (by first | rfl | assumption) rfl (by first | assumption | exact rf_0_4 hR ) ?_
  refine ms_getI (z := 3) dX6_tells_39 (fo_X6_133 rfl) (by first | rfl | assumption) rfl rfl ?_
  refine ms_istore dX6_tells_42 (by decide) rfl ?_
  dsimp only [List.set, Nat.reduceAdd]
  have i9 := l_X6_tl (S := S) (f := f) (L := L) (M := N2) (v := v) (n := n) (l := l) (z2 := z2) (r := r) hR ht (by rw [eT2]; exact hT) hto hR1 hR12 (by rw [eT2, elk]; exact hlk) (by rw [e46a]; exact hN4) (by rw [e46a, eN2]; exact hN3) hn (by rw [eN2]; exact hl) hc hr (fun k k0 k1 k2 => by rw [hbr k k0 (by omega)] at k2; rw [eN2]; by_cases z : k ≠ l ∧ (k = 6 ∨ k < M t 1) ∧ bk_all (sp_tC M t) (M 7) (M 8) v l n.toNat k = true; (rcases z.2.1 with z9 | z9 <;> omega); (rw [if_neg z] at k2; cases k2)) (M t 5 - n).toNat 0 N2 none (by rw [eN2]; omega) (fun _ _ _ _ _ _ _ => rfl) (by rw [e18]; omega) (by rw [eT2]; exact hs18) (by rw [eT2]; exact hv)
  rw [show n + ((0 : Nat) : Int) = N2 18 3 by rw [e18]; omega] at i9
  refine ms_conseq (fun v9 h9 hp => ?_) (fun _ _ z => z) i9
  obtain ⟨N, y1, y2, y3⟩ := hp
  rw [eT2, elk, eN2] at y2
  exact ⟨N, Rf2, r, y1, y2, hR, hRx, fun x x0 x1 x2 x3 x4 x5 x6 => by rw [y3 x x1 x2 x3 x4 x5 x6, fx x x0 x1 x2 x3 x4 x5 x6], hr, hbr⟩

set_option maxHeartbeats 4000000 in
set_option maxRecDepth 100000 in
theorem k_X6_tells_x {S : mx_Sc} {f : Bool} {M : Nat → Int → Int} {L : Nat → Nat → Int64} {Rf : Nat → Nat → Option Nat} (hR : mx_rf Rf) {t : Nat} (ht : t = 29 ∨ t = 37) (hT : sp_tok (sp_tC M t)) (hto : Rf 0 10 = some t) {l : Int} (hl32 : -2147483648 ≤ l ∧ l ≤ 2147483647) {z2 : Int} (hz232 : -2147483648 ≤ z2 ∧ z2 ≤ 2147483647) (hc : ¬ ((0 ≤ l ∧ l < M t 1) ∧ (0 ≤ z2 ∧ z2 < 2))) : mx_C S mX6_tells [.ref 0, .int (iI l), .int (iI z2)] (f, mx_SH, M, L, Rf) 1 6 (fun _ _ => False) (fun e9 h9 => e9 = "java/util/NoSuchElementException" ∧ h9 = (false, mx_SH, M, L, Rf)) := by
  refine mx_C_of (by decide) (by simp [Value.category]) (Nat.le_of_ble_eq_true rfl) rfl ?_
  show mx_E S mX6_tells 0 [some (.ref 0), some (.int (iI l)), some (.int (iI z2)), none, none, none, none, none] [] (f, mx_SH, M, L, Rf) 1 6 _ _
  have ht9 : t < 900 := by omega
  have hs_t := tc_s ht
  have hs_t1 := tc_s1 ht
  have hr_t1 := tc_r1 hR ht
  have hs_t2 := tc_s2 ht
  have hr_t2 := tc_r2 hR ht
  have hs_t3 := tc_s3 ht
  have hr_t3 := tc_r3 hR ht
  have hs_t4 := tc_s4 ht
  have hr_t4 := tc_r4 hR ht
  have hs_t5 := tc_s5 ht
  have hr_t5 := tc_r5 hR ht
  have hs_t6 := tc_s6 ht
  have hr_t6 := tc_r6 hR ht
  have hs_t7 := tc_s7 ht
  have hr_t7 := tc_r7 hR ht
  have hT0 : 1 ≤ M t 0 ∧ M t 0 ≤ 30 := hT.1
  have hT1 : 0 ≤ M t 1 ∧ M t 1 ≤ 6 := hT.2.1
  have hT2 : 1 ≤ M t 2 ∧ M t 2 ≤ 9 := hT.2.2.1
  have hT3 : 0 ≤ M t 3 ∧ M t 3 ≤ 9 := hT.2.2.2.1
  have hT4 : 0 ≤ M t 4 ∧ M t 4 ≤ 9 := hT.2.2.2.2.1
  have hT5 : 1 ≤ M t 5 ∧ M t 5 ≤ 99 := hT.2.2.2.2.2.1
  have hT6 : 0 ≤ M t 6 ∧ M t 6 ≤ 10 := hT.2.2.2.2.2.2.1
  have hTn : ((M t 1).toNat : Int) = M t 1 := Int.toNat_of_nonneg hT1.1
  have hTn6 : ((M t 6).toNat : Int) = M t 6 := Int.toNat_of_nonneg hT6.1
  by_cases h0 : 0 ≤ l ∧ l < M t 1
  rotate_left 1
  · refine ms_aload_n dX6_tells_0 rfl ?_
    refine ms_iload_n dX6_tells_1 rfl ?_
    refine ms_callVx1 (bc := 0) (bs := 0) (ci := 6) (r := (RX6, TX6, 15)) dX6_tells_2 cv_X6_tells_X6_requireLamp (k_X6_requireLamp_x hR ht hT hto hl32 h0) rfl rfl rfl rfl (by first | rfl | assumption) (Nat.le_of_ble_eq_true rfl) rfl (fun _ _ z => by first | exact z.elim | exact z) (fun v9 h9 hp9 => ?_)
    skip
    exact hp9.elim
  by_cases h1 : 0 ≤ z2 ∧ z2 < 2
  rotate_left 1
  · refine ms_aload_n dX6_tells_0 rfl ?_
    refine ms_iload_n dX6_tells_1 rfl ?_
    refine ms_callV1 (ci := 6) (r := (RX6, TX6, 15)) dX6_tells_2 cv_X6_tells_X6_requireLamp (k_X6_requireLamp hR ht hT hto hl32 h0) rfl rfl (by first | rfl | assumption) (Nat.le_of_ble_eq_true rfl) rfl (fun _ _ z => by first | exact z.elim | exact z) (fun v9 h9 hp9 => ?_)
    obtain ⟨rfl, rfl⟩ := hp9
    refine ms_iload_n dX6_tells_5 rfl ?_
    refine ms_callSx1 (bc := 0) (bs := 0) dX6_tells_6 cv_X6_tells_X6_requireFirstOrSecond (k_X6_requireFS_x hR hz232 h1) rfl rfl (Nat.le_of_ble_eq_true rfl) rfl (fun _ _ z => by first | exact z.elim | exact z) (fun v9 h9 hp9 => ?_)
    skip
    exact hp9.elim
  exact absurd (by exact ⟨h0, h1⟩) hc

