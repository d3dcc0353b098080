theorem isP_w {g : Int → Int} {n p k : Int} (hk : 0 ≤ k ∧ k < 12) : isP g n p (wsi k) ↔ wdn g n p = k := by
  constructor
  · intro h
    exact wdn_e (Or.inr ⟨h.1, hk.1, hk.2, h.2⟩)
  · intro h
    obtain ⟨x, hx⟩ := wdP_x g n p
    rw [wdn_e hx] at h
    subst h
    rcases hx with ⟨z, _⟩ | ⟨h1, _, _, h4⟩
    · omega
    · exact ⟨h1, h4⟩
def pBy (g : Int → Int) (n p : Int) (T : td_T) (w : Int) : pR :=
  if w = -1 then .inl (1, p) else if w ≤ 4 then (if 6 ≤ T 0 1 then .inl (2, p) else pKind g n (nx g n p) T w) else if w = 11 then (if 10 ≤ T 0 6 then .inl (2, p) else pFog g n (nx g n p) T) else if w = 6 then pLikes g n (nx g n p) T else pSet g n (nx g n p) T w
theorem pLine_by {g : Int → Int} {n p : Int} {T : td_T} {sn : Int → Bool} {fs : Bool} : pLine g n p T sn fs = if (wdn g n p = 5 ∧ fs = false) ∨ (7 ≤ wdn g n p ∧ wdn g n p ≤ 10 ∧ sn (wdn g n p) = true) then .inl (4, p) else pEnd g n (pBy g n p T (wdn g n p)) := by
  have hb := wdn_b g n p (wdP_x g n p)
  generalize hw : wdn g n p = w at hb ⊢
  unfold pLine jdg pBy pBody
  rw [hw]
  by_cases h1 : w = -1
  · simp [h1, pEnd]
  · by_cases h2 : w ≤ 4
    · rw [if_neg h1, if_pos h2, if_neg h1, if_pos h2, if_pos h2]
      rw [if_neg (show ¬ ((w = 5 ∧ fs = false) ∨ (7 ≤ w ∧ w ≤ 10 ∧ sn w = true)) by omega)]
      by_cases h3 : 6 ≤ T 0 1
      · rw [if_pos h3, if_pos h3]; rfl
      · rw [if_neg h3, if_neg h3]; rfl
    · rw [if_neg h1, if_neg h2, if_neg h1, if_neg h2, if_neg h2]
      by_cases h4 : w = 11
      · subst h4
        rw [if_pos rfl, if_pos rfl]
        rw [if_neg (show ¬ ((11 : Int) = 5 ∧ fs = false ∨ 7 ≤ (11 : Int) ∧ (11 : Int) ≤ 10 ∧ sn 11 = true) by omega), if_neg (show ¬ (11 : Int) = 6 by decide), if_pos rfl]
        by_cases h3 : 10 ≤ T 0 6
        · rw [if_pos h3, if_pos h3]; rfl
        · rw [if_neg h3, if_neg h3]; rfl
      · rw [if_neg h4, if_neg h4, if_neg h4]
        by_cases h5 : w = 6
        · subst h5
          rw [if_pos rfl, if_pos rfl, if_neg (show ¬ ((6 : Int) = 5 ∧ fs = false ∨ 7 ≤ (6 : Int) ∧ (6 : Int) ≤ 10 ∧ sn 6 = true) by omega)]
          rfl
        · rw [if_neg h5, if_neg h5]
          by_cases h6 : w = 5
          · subst h6
            rw [if_pos rfl]
            cases fs
            · rw [if_pos (Or.inl ⟨rfl, rfl⟩)]; rfl
            · rw [if_neg (show ¬ ((5 : Int) = 5 ∧ true = false ∨ 7 ≤ (5 : Int) ∧ (5 : Int) ≤ 10 ∧ sn 5 = true) by simp)]; rfl
          · rw [if_neg h6]
            cases h7 : sn w
            · rw [if_neg (show ¬ ((w = 5 ∧ fs = false) ∨ (7 ≤ w ∧ w ≤ 10 ∧ false = true)) by simp; omega)]; rfl
            · rw [if_pos (show ((w = 5 ∧ fs = false) ∨ (7 ≤ w ∧ w ≤ 10 ∧ true = true)) from Or.inr ⟨by omega, by omega, rfl⟩)]; rfl
theorem wSet_b {w : Int} (h : 7 ≤ w ∧ w ≤ 10) : (wSet w).1 = w - 5 ∧ (0 ≤ (wSet w).2.1 ∧ (wSet w).2.1 ≤ 1) ∧ (9 ≤ (wSet w).2.2 ∧ (wSet w).2.2 ≤ 99) ∧ ((w = 7 ∧ (wSet w).2.1 = 1 ∧ (wSet w).2.2 = 9) ∨ ((w = 8 ∨ w = 9) ∧ (wSet w).2.1 = 0 ∧ (wSet w).2.2 = 9) ∨ (w = 10 ∧ (wSet w).2.1 = 1 ∧ (wSet w).2.2 = 99)) := by
  rcases (show w = 7 ∨ w = 8 ∨ w = 9 ∨ w = 10 by omega) with rfl | rfl | rfl | rfl <;> decide
theorem mdG.setT {N : Nat → Int → Int} {n p k x : Int} {T : td_T} (h : mdG N n p T) (h2 : td_ok (tdS T k x)) (hk : 0 ≤ k ∧ k ≠ 1 ∧ k ≠ 6) : mdG (va_up N 53 (iu (N 53) (7 + k) x)) n p (tdS T k x) := by
  have e1 : tdS T k x 0 1 = T 0 1 := by show iu (T 0) k x 1 = _; rw [iu_n _ _ (by omega)]
  have e6 : tdS T k x 0 6 = T 0 6 := by show iu (T 0) k x 6 = _; rw [iu_n _ _ (by omega)]
  have hq := h.2.2.1
  refine ⟨h.1.fr (up_n _ _ (by decide)) (up_n _ _ (by decide)), by rw [up_n _ _ (by decide)]; exact h.2.1, ⟨fun j k0 k1 => ?_, fun l l0 l1 => ?_, fun i i0 i1 => ?_, fun g g0 g1 => ?_⟩, h2⟩
  · rw [mr_r0, up_s]
    show iu (N 53) (7 + k) x (7 + j) = iu (T 0) k x j
    simp only [iu]
    by_cases e : j = k
    · rw [if_pos (by omega), if_pos e]
    · rw [if_neg (by omega), if_neg e]; exact hq.1 j k0 k1
  · rw [mr_r1, mr_r2, mr_r3, up_n _ _ (by decide), up_n _ _ (by decide), up_n _ _ (by decide)]; exact hq.2.1 l l0 (by rw [← e1]; exact l1)
  · rw [mr_r4, up_n _ _ (by decide)]; exact hq.2.2.1 i i0 (by rw [← e1]; exact i1)
  · rw [mr_r5, mr_r6, mr_r7, up_n _ _ (by decide), up_n _ _ (by decide), up_n _ _ (by decide)]; exact hq.2.2.2 g g0 (by rw [← e6]; exact g1)
/-- the rules' least and most -/
def mcs (M : Nat → Int → Int) : Prop := ∀ w, 7 ≤ w → w ≤ 10 → M 51 (w - 7) = (wSet w).2.1 ∧ M 52 (w - 7) = (wSet w).2.2
set_option maxHeartbeats 4000000 in
set_option maxRecDepth 100000 in
theorem k_X7_readBy {S : mx_Sc} {f : Bool} {M : Nat → Int → Int} {L : Nat → Nat → Int64} {Rf : Nat → Nat → Option Nat} (hR : mx_rf Rf) {n : Int} (hn : 0 ≤ n ∧ n ≤ 500) (hB : ∀ i, 0 ≤ i → i < 500 → 0 ≤ M 62 i ∧ M 62 i ≤ 255) {p : Int} {T : td_T} (hG : mdG M n p T) (hcs : mcs M) {k oc ln : Int} (hk : k = if 0 ≤ (wdn (M 62) n p) ∧ (wdn (M 62) n p) ≤ 4 then (wdn (M 62) n p) else -1) (ho : oc = if 7 ≤ (wdn (M 62) n p) ∧ (wdn (M 62) n p) ≤ 10 then (wdn (M 62) n p) - 7 else -1) (hl : ln = 16 ↔ (wdn (M 62) n p) = 5) (hlb : 0 ≤ ln ∧ ln ≤ 32) (hw5 : (wdn (M 62) n p) = 5 → T 0 1 = 0) : mx_C S mX7_readBy [.ref 48, .int (iI k), .int (iI oc), .int (iI ln)] (f, mx_SH, M, L, Rf) 0 0 (fun v9 h9 => ∃ N, h9 = (f, mx_SH, N, L, Rf) ∧ v9 = none ∧ mfP M N ∧ mdR N n (pBy (M 62) n p T (wdn (M 62) n p))) (fun _ _ => False) := by
  refine mx_C_of (by decide) (by simp [Value.category]) (Nat.le_of_ble_eq_true rfl) rfl ?_
  show mx_E S mX7_readBy 0 [some (.ref 48), some (.int (iI k)), some (.int (iI oc)), some (.int (iI ln))] [] (f, mx_SH, M, L, Rf) 0 0 _ _
  have hS := hG.1
  have hw0 := hG.2.1
  have h20 := hS.2.1
  have h21 := hS.2.2.1
  have h16 := hS.2.2.2.1
  have h18 := hS.2.2.2.2.1
  have hnum := hS.2.2.2.2.2.1
  have h0 := hS.2.2.2.2.2.2
  have htb := tk_b (M 62) n p
  have ht9 := te_b (g := M 62) h0.2
  have e0 : ∀ k, 0 ≤ k → k < 7 → M 53 (7 + k) = T 0 k := hG.2.2.1.1
  have e00 : M 53 7 = T 0 0 := e0 0 (by decide) (by decide)
  have e01 : M 53 8 = T 0 1 := e0 1 (by decide) (by decide)
  have e06 : M 53 13 = T 0 6 := e0 6 (by decide) (by decide)
  have o0 : 1 ≤ T 0 0 ∧ T 0 0 ≤ 30 := hG.2.2.2.1.1
  have o1 : 0 ≤ T 0 1 ∧ T 0 1 ≤ 6 := hG.2.2.2.1.2.1
  have o6 : 0 ≤ T 0 6 ∧ T 0 6 ≤ 10 := hG.2.2.2.1.2.2.2.2.2.2.1
  have hmt : mtk (tk (M 62) n p) = if tk (M 62) n p = 4 then 0 else tk (M 62) n p + 1 := rfl
  have hwb := wdn_b (M 62) n p (wdP_x _ _ _)
  have hkb : -1 ≤ k ∧ k ≤ 4 := by rw [hk]; split <;> omega
  have hob : -1 ≤ oc ∧ oc ≤ 3 := by rw [ho]; split <;> omega
  refine ms_iload_n dX7_readBy_0 rfl ?_
  refine mi_iconst dX7_readBy_1 ?_
  refine mi_icmp_eq (tgt := 13) dX7_readBy_2 (by decide) (fun c_2 => ?_) (fun c_2 => ?_)
  · have hk5 : ¬ (0 ≤ (wdn (M 62) n p) ∧ (wdn (M 62) n p) ≤ 4) := by intro z; rw [hk, if_pos z] at c_2; omega
    refine ms_iload_n dX7_readBy_13 rfl ?_
    refine mi_iconst dX7_readBy_14 ?_
    refine mi_icmp_eq (tgt := 50) dX7_readBy_15 (by decide) (fun c_15 => ?_) (fun c_15 => ?_)
    · have ho5 : ¬ (7 ≤ (wdn (M 62) n p) ∧ (wdn (M 62) n p) ≤ 10) := by intro z; rw [ho, if_pos z] at c_15; omega
      refine ms_iload_n dX7_readBy_50 rfl ?_
      refine mi_bipush dX7_readBy_51 (by decide) ?_
      refine mi_icmp_ne (tgt := 77) dX7_readBy_53 (by decide) (fun c_53 => ?_) (fun c_53 => ?_)
      · have hw5n : ¬ (wdn (M 62) n p) = 5 := fun z => c_53 (hl.mpr z)
        refine ms_aload_n dX7_readBy_77 rfl ?_
        refine ms_ldcS (i := 11) dX7_readBy_78 rfl ?_
        refine ms_callV1 (ci := 7) (r := (RX7, TX7, 48)) dX7_readBy_80 cv_X7_readBy_X7_is (k_X7_is hR hn hB hG (i := 11) (by decide)) rfl rfl (by first | rfl | assumption) (Nat.le_of_ble_eq_true rfl) rfl (fun _ _ z => z.elim) (fun v9 h9 hp9 => ?_)
        obtain ⟨rfl, rfl⟩ := hp9
        refine mi_if_eqB (tgt := 93) dX7_readBy_83 (by decide) (fun c_83 => ?_) (fun c_83 => ?_)
        · refine ms_aload_n dX7_readBy_93 rfl ?_
          refine ms_ldcS (i := 12) dX7_readBy_94 rfl ?_
          refine ms_callV1 (ci := 7) (r := (RX7, TX7, 48)) dX7_readBy_96 cv_X7_readBy_X7_is (k_X7_is hR hn hB hG (i := 12) (by decide)) rfl rfl (by first | rfl | assumption) (Nat.le_of_ble_eq_true rfl) rfl (fun _ _ z => z.elim) (fun v9 h9 hp9 => ?_)
          obtain ⟨rfl, rfl⟩ := hp9
          refine mi_if_neB (tgt := 107) dX7_readBy_99 (by decide) (fun c_99 => ?_) (fun c_99 => ?_)
          · have hw11 : (wdn (M 62) n p) = 11 := (isP_w (k := 11) (by decide)).mp (isB_i c_99)
            refine ms_aload_n dX7_readBy_107 rfl ?_
            refine ms_getI (z := 22) dX7_readBy_108 (fo_X7_176 rfl) (by first | rfl | assumption) rfl rfl ?_
            refine mi_if_ne (tgt := 118) dX7_readBy_111 (by decide) (fun c_111 => ?_) (fun c_111 => ?_)
            · exact absurd hw0 c_111
            · refine ms_aload_n dX7_readBy_114 rfl ?_
              refine ms_callV0 (ci := 7) (r := (RX7, TX7, 48)) dX7_readBy_115 cv_X7_readBy_X7_readFog (k_X7_readFog hR hn hB hG) rfl rfl (by first | rfl | assumption) (Nat.le_of_ble_eq_true rfl) rfl (fun _ _ z => z.elim) (fun v9 h9 hp9 => ?_)
              obtain ⟨N, rfl, rfl, y1, y2⟩ := hp9
              refine ms_retV dX7_readBy_118 rfl ⟨N, rfl, rfl, y1, by unfold pBy; rw [if_neg (by omega), if_neg (by omega), if_pos hw11]; exact y2⟩ (by simp)
          · have hw6 : ¬ (wdn (M 62) n p) = 6 := fun z => isB_n c_83 ((isP_w (k := 6) (by decide)).mpr z)
            have hw11 : ¬ (wdn (M 62) n p) = 11 := fun z => isB_n c_99 ((isP_w (k := 11) (by decide)).mpr z)
            have hwm : (wdn (M 62) n p) = -1 := by omega
            refine ms_aload_n dX7_readBy_102 rfl ?_
            refine mi_iconst dX7_readBy_103 ?_
            refine ms_callV1 (ci := 7) (r := (RX7, TX7, 48)) dX7_readBy_104 cv_X7_readBy_X7_wrong (k_X7_wrong (e := 1) hR (by omega)) rfl rfl (by first | rfl | assumption) (Nat.le_of_ble_eq_true rfl) rfl (fun _ _ z => z.elim) (fun v9 h9 hp9 => ?_)
            obtain ⟨rfl, rfl⟩ := hp9
            rw [if_pos hw0]
            have hFF := hG.ff (c := 1) (by decide)
            have hv9 := hFF.2.1.1
            refine ms_aload_n dX7_readBy_107 rfl ?_
            refine ms_getI (z := 22) dX7_readBy_108 (fo_X7_176 rfl) (by first | rfl | assumption) rfl rfl ?_
            refine mi_if_ne (tgt := 118) dX7_readBy_111 (by decide) (fun c_111 => ?_) (fun c_111 => ?_)
            · refine ms_retV dX7_readBy_118 rfl ⟨_, rfl, rfl, hFF.mf, by unfold pBy; rw [if_pos hwm]; exact hFF.2.1⟩ (by simp)
            · exact absurd c_111 (by omega)
        · have hw6 : (wdn (M 62) n p) = 6 := (isP_w (k := 6) (by decide)).mp (isB_i c_83)
          refine ms_aload_n dX7_readBy_86 rfl ?_
          refine ms_callV0 (ci := 7) (r := (RX7, TX7, 48)) dX7_readBy_87 cv_X7_readBy_X7_readLikes (k_X7_readLikes hR hn hB hG) rfl rfl (by first | rfl | assumption) (Nat.le_of_ble_eq_true rfl) rfl (fun _ _ z => z.elim) (fun v9 h9 hp9 => ?_)
          obtain ⟨N, rfl, rfl, y1, y2⟩ := hp9
          refine ms_goto (tgt := 118) dX7_readBy_90 (by decide) ?_
          refine ms_retV dX7_readBy_118 rfl ⟨N, rfl, rfl, y1, by unfold pBy; rw [if_neg (by omega), if_neg (by omega), if_neg (by omega), if_pos hw6]; exact y2⟩ (by simp)
      · have hw5e : (wdn (M 62) n p) = 5 := hl.mp c_53
        have h50 := hw5 hw5e
        refine ms_aload_n dX7_readBy_56 rfl ?_
        refine ms_callV0 (ci := 7) (r := (RX7, TX7, 48)) dX7_readBy_57 cv_X7_readBy_X7_stepOn (k_X7_stepOn hR hn hB hS.1 (by omega)) rfl rfl (by first | rfl | assumption) (Nat.le_of_ble_eq_true rfl) rfl (fun _ _ z => z.elim) (fun v9 h9 hp9 => ?_)
        obtain ⟨N0, rfl, rfl, s1, s2⟩ := hp9
        rw [h16, show sk (M 62) n (te (M 62) n p) = nx (M 62) n p from rfl] at s2
        have sG := s1.G hG s2
        have a62 : N0 62 = M 62 := s1.1 62 (by decide)
        refine ms_aload_n dX7_readBy_60 rfl ?_
        refine ms_getR dX7_readBy_61 (fo_X7_43 rfl) (by first | rfl | assumption) rfl (by first | assumption | exact rf_48_5 hR ) ?_
        refine mi_bipush dX7_readBy_64 (by decide) ?_
        refine ms_aload_n dX7_readBy_66 rfl ?_
        refine mi_iconst dX7_readBy_67 ?_
        refine mi_bipush dX7_readBy_68 (by decide) ?_
        refine ms_callV2 (ci := 7) (r := (RX7, TX7, 48)) dX7_readBy_70 cv_X7_readBy_X7_readNumber (k_X7_readNumber (M := N0) hR hn (by rw [a62]; exact hB) sG (a := 1) (b := 30) (by decide) (by decide)) rfl rfl (by first | rfl | assumption) (Nat.le_of_ble_eq_true rfl) rfl (fun _ _ z => z.elim) (fun v9 h9 hp9 => ?_)
        obtain ⟨N1, x1, rfl, rfl, h1⟩ := hp9
        rw [a62] at h1
        refine ms_iast dX7_readBy_73 (by first | rfl | assumption) ?_
        refine ms_goto (tgt := 118) dX7_readBy_74 (by decide) ?_
        refine ms_retV dX7_readBy_118 rfl ?_ (by simp)
        refine ⟨_, rfl, rfl, ?_, ?_⟩
        · rcases h1 with ⟨z1, zF, rfl⟩ | ⟨z1, zs1, zG1, rfl⟩
          · exact (s1.mf.tr zF.mf).put (by omega)
          · exact (s1.mf.tr zs1.mf).put (by omega)
        · show mdR _ n (pBy (M 62) n p T (wdn (M 62) n p))
          unfold pBy
          rw [if_neg (by omega), if_neg (by omega), if_neg (by omega), if_neg (by omega)]
          unfold pSet
          rw [show (wSet (wdn (M 62) n p)).1 = 0 by rw [hw5e]; rfl, show (wSet (wdn (M 62) n p)).2.1 = 1 by rw [hw5e]; rfl, show (wSet (wdn (M 62) n p)).2.2 = 30 by rw [hw5e]; rfl]
          rcases h1 with ⟨z1, zF, rfl⟩ | ⟨z1, zs1, zG1, rfl⟩
          · rw [if_pos z1]
            show mdF _ _ _
            unfold mdF
            rw [up_n _ _ (by decide)]
            exact zF.2.1
          · rw [if_neg (by omega)]
            have v1 := nC_0 (by decide) z1
            exact zG1.setT (k := 0) (tdS_ok hG.2.2.2 (by omega)) (by decide)
    · have ho4 : oc = (wdn (M 62) n p) - 7 ∧ 7 ≤ (wdn (M 62) n p) ∧ (wdn (M 62) n p) ≤ 10 := by
        by_cases z : 7 ≤ (wdn (M 62) n p) ∧ (wdn (M 62) n p) ≤ 10
        · rw [ho, if_pos z]; exact ⟨rfl, z⟩
        · rw [if_neg z] at ho; exact absurd ho c_15
      have hwS := wSet_b ho4.2
      have hc9 := hcs _ ho4.2.1 ho4.2.2
      refine ms_aload_n dX7_readBy_18 rfl ?_
      refine ms_callV0 (ci := 7) (r := (RX7, TX7, 48)) dX7_readBy_19 cv_X7_readBy_X7_stepOn (k_X7_stepOn hR hn hB hS.1 (by omega)) rfl rfl (by first | rfl | assumption) (Nat.le_of_ble_eq_true rfl) rfl (fun _ _ z => z.elim) (fun v9 h9 hp9 => ?_)
      obtain ⟨N0, rfl, rfl, s1, s2⟩ := hp9
      rw [h16, show sk (M 62) n (te (M 62) n p) = nx (M 62) n p from rfl] at s2
      have sG := s1.G hG s2
      have a62 : N0 62 = M 62 := s1.1 62 (by decide)
      refine ms_aload_n dX7_readBy_22 rfl ?_
      refine ms_getR dX7_readBy_23 (fo_X7_43 rfl) (by first | rfl | assumption) rfl (by first | assumption | exact rf_48_5 hR ) ?_
      refine mi_bipush dX7_readBy_26 (by decide) ?_
      refine ms_iload_n dX7_readBy_28 rfl ?_
      refine mi_iadd dX7_readBy_29 ?_
      refine ms_aload_n dX7_readBy_30 rfl ?_
      refine ms_aload_n dX7_readBy_31 rfl ?_
      refine ms_getR dX7_readBy_32 (fo_X7_36 rfl) (by first | rfl | assumption) rfl (by first | assumption | exact rf_48_2 hR ) ?_
      refine ms_iload_n dX7_readBy_35 rfl ?_
      refine ms_iald dX7_readBy_36 (by first | rfl | assumption) ?_
      refine ms_aload_n dX7_readBy_37 rfl ?_
      refine ms_getR dX7_readBy_38 (fo_X7_40 rfl) (by first | rfl | assumption) rfl (by first | assumption | exact rf_48_3 hR ) ?_
      refine ms_iload_n dX7_readBy_41 rfl ?_
      refine ms_iald dX7_readBy_42 (by first | rfl | assumption) ?_
      rw [ho4.1, s1.1 51 (by decide), s1.1 52 (by decide), hc9.1, hc9.2]
      refine ms_callV2 (ci := 7) (r := (RX7, TX7, 48)) dX7_readBy_43 cv_X7_readBy_X7_readNumber (k_X7_readNumber (M := N0) hR hn (by rw [a62]; exact hB) sG (a := (wSet (wdn (M 62) n p)).2.1) (b := (wSet (wdn (M 62) n p)).2.2) (by omega) (by omega)) rfl rfl (by first | rfl | assumption) (Nat.le_of_ble_eq_true rfl) rfl (fun _ _ z => z.elim) (fun v9 h9 hp9 => ?_)
      obtain ⟨N1, x1, rfl, rfl, h1⟩ := hp9
      rw [a62] at h1
      rw [show (9 : Int) + ((wdn (M 62) n p) - 7) = 7 + ((wdn (M 62) n p) - 5) by omega]
      refine ms_iast dX7_readBy_46 (by first | rfl | assumption) ?_
      refine ms_goto (tgt := 118) dX7_readBy_47 (by decide) ?_
      refine ms_retV dX7_readBy_118 rfl ?_ (by simp)
      refine ⟨_, rfl, rfl, ?_, ?_⟩
      · rcases h1 with ⟨z1, zF, rfl⟩ | ⟨z1, zs1, zG1, rfl⟩
        · exact (s1.mf.tr zF.mf).put (by omega)
        · exact (s1.mf.tr zs1.mf).put (by omega)
      · show mdR _ n (pBy (M 62) n p T (wdn (M 62) n p))
        unfold pBy
        rw [if_neg (by omega), if_neg (by omega), if_neg (by omega), if_neg (by omega)]
        unfold pSet
        rw [hwS.1]
        rcases h1 with ⟨z1, zF, rfl⟩ | ⟨z1, zs1, zG1, rfl⟩
        · rw [if_pos z1]
          show mdF _ _ _
          unfold mdF
          rw [up_n _ _ (by decide)]
          exact zF.2.1
        · rw [if_neg (by omega)]
          have v1 := nC_0 (by decide) z1
          exact zG1.setT (tdS_ok hG.2.2.2 (by omega)) (by omega)
  · have hk4 : k = (wdn (M 62) n p) ∧ 0 ≤ (wdn (M 62) n p) ∧ (wdn (M 62) n p) ≤ 4 := by by_cases z : 0 ≤ (wdn (M 62) n p) ∧ (wdn (M 62) n p) ≤ 4; (rw [hk, if_pos z]; exact ⟨rfl, z⟩); (rw [if_neg z] at hk; exact absurd hk c_2)
    refine ms_aload_n dX7_readBy_5 rfl ?_
    refine ms_iload_n dX7_readBy_6 rfl ?_
    refine ms_callV1 (ci := 7) (r := (RX7, TX7, 48)) dX7_readBy_7 cv_X7_readBy_X7_readNewLamp (k_X7_readNewLamp hR hn hB hG (kd := k) (by omega)) rfl rfl (by first | rfl | assumption) (Nat.le_of_ble_eq_true rfl) rfl (fun _ _ z => z.elim) (fun v9 h9 hp9 => ?_)
    obtain ⟨N, rfl, rfl, y1, y2⟩ := hp9
    refine ms_goto (tgt := 118) dX7_readBy_10 (by decide) ?_
    refine ms_retV dX7_readBy_118 rfl ⟨N, rfl, rfl, y1, by unfold pBy; rw [if_neg (by omega), if_pos (by omega)]; rw [hk4.1] at y2; exact y2⟩ (by simp)

