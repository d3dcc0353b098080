theorem rdF.set {N : Nat → Int → Int} {t : Nat} (ht : t = 29 ∨ t = 37) {n c q k x : Int} (h : rdF N t n c q) (hk : k ≠ 1) (hx : 0 ≤ x ∧ x ≤ 30) : rdF (va_up N t (iu (N t) k x)) t n c q := by
  obtain ⟨⟨p, hS⟩, h0, h1, h2, h3, h4⟩ := h
  have u : ∀ j, j ≠ t → va_up N t (iu (N t) k x) j = N j := fun j hj => up_n _ _ hj
  refine ⟨⟨p, hS.fr (u 1 (by omega)) (by rw [u 45 (by omega)]) (by rw [u 45 (by omega)]) (by rw [u 45 (by omega)]) (by rw [u 45 (by omega)])⟩, by rw [u 45 (by omega)]; exact h0, by rw [u 45 (by omega)]; exact h1, h2, fun i i0 i1 => by rw [u _ (by omega)]; exact h3 i i0 i1, ?_⟩
  unfold fm at h4 ⊢
  rw [up_s]
  simp only [iu]
  rw [if_neg (show ¬ 1 = k from fun z => hk z.symm)]
  split
  · exact ⟨hx, h4.2⟩
  · exact h4
theorem rdG.set {N : Nat → Int → Int} {t : Nat} (ht : t = 29 ∨ t = 37) {n p k x : Int} {T : td_T} (h : rdG N t n p T) (h2 : td_ok (tdS T k x)) (hk : k ≠ 1 ∧ k ≠ 6) : rdG (va_up N t (iu (N t) k x)) t n p (tdS T k x) := by
  have u : ∀ j, j ≠ t → va_up N t (iu (N t) k x) j = N j := fun j hj => up_n _ _ hj
  obtain ⟨hS, h0, h1, hq, h3, h4⟩ := h
  have e1 : tdS T k x 0 1 = T 0 1 := by show iu (T 0) k x 1 = _; rw [iu_n _ _ (by omega)]
  have e6 : tdS T k x 0 6 = T 0 6 := by show iu (T 0) k x 6 = _; rw [iu_n _ _ (by omega)]
  refine ⟨hS.fr (u 1 (by omega)) (by rw [u 45 (by omega)]) (by rw [u 45 (by omega)]) (by rw [u 45 (by omega)]) (by rw [u 45 (by omega)]), by rw [u 45 (by omega)]; exact h0, by rw [u 45 (by omega)]; exact h1, ⟨fun j k0 k1 => ?_, fun l l0 l1 => ?_, fun i i0 i1 => ?_, fun f f0 f1 => ?_⟩, h2, fun i i0 i1 => by rw [u _ (by omega)]; exact h4 i i0 i1⟩
  · show va_up N t (iu (N t) k x) t j = iu (T 0) k x j
    rw [up_s]
    simp only [iu]
    split
    · rfl
    · exact hq.1 j k0 k1
  · show va_up N t _ (t + 1) l = _ ∧ va_up N t _ (t + 2) l = _ ∧ va_up N t _ (t + 3) l = _
    rw [u _ (by omega), u _ (by omega), u _ (by omega)]
    exact hq.2.1 l l0 (by rw [← e1]; exact l1)
  · show va_up N t _ (t + 4) i = _
    rw [u _ (by omega)]
    exact hq.2.2.1 i i0 (by rw [← e1]; exact i1)
  · show va_up N t _ (t + 5) f = _ ∧ va_up N t _ (t + 6) f = _ ∧ va_up N t _ (t + 7) f = _
    rw [u _ (by omega), u _ (by omega), u _ (by omega)]
    exact hq.2.2.2 f f0 (by rw [← e6]; exact f1)
theorem rfP.set {N : Nat → Int → Int} {t : Nat} (ht : t = 29 ∨ t = 37) {g : Int → Int} : rfP N (va_up N t g) t := ⟨fun x _ hx => up_n _ _ (by omega), by rw [up_n _ _ (by omega)]⟩
/-- only the words that were told -/
theorem rdG.w8 {N : Nat → Int → Int} {t : Nat} (ht : t = 29 ∨ t = 37) {n p x : Int} {T : td_T} (h : rdG N t n p T) : rdG (va_up N 45 (iu (N 45) 8 x)) t n p T := by
  have u : ∀ j, j ≠ 45 → va_up N 45 (iu (N 45) 8 x) j = N j := fun j hj => up_n _ _ hj
  have w : ∀ k, k ≠ 8 → va_up N 45 (iu (N 45) 8 x) 45 k = N 45 k := fun k hk => by rw [up_s, iu_n _ _ hk]
  obtain ⟨hS, h0, h1, hq, h3, h4⟩ := h
  refine ⟨hS.fr (u 1 (by omega)) (w 3 (by decide)) (w 4 (by decide)) (w 5 (by decide)) (w 6 (by decide)), by rw [w 0 (by decide)]; exact h0, by rw [w 1 (by decide)]; exact h1, ?_, h3, fun i i0 i1 => by rw [u _ (by omega)]; exact h4 i i0 i1⟩
  have e : (fun j => va_up N 45 (iu (N 45) 8 x) (t + j)) = fun j => if t + j = 45 then (iu (N 45) 8 x) else N (t + j) := by
    funext j
    simp only [va_up]
  refine ⟨fun j k0 k1 => ?_, fun l l0 l1 => ?_, fun i i0 i1 => ?_, fun f f0 f1 => ?_⟩
  · show va_up N 45 _ (t + 0) j = _; rw [u _ (by omega)]; exact hq.1 j k0 k1
  · show va_up N 45 _ (t + 1) l = _ ∧ va_up N 45 _ (t + 2) l = _ ∧ va_up N 45 _ (t + 3) l = _
    rw [u _ (by omega), u _ (by omega), u _ (by omega)]; exact hq.2.1 l l0 l1
  · show va_up N 45 _ (t + 4) i = _; rw [u _ (by omega)]; exact hq.2.2.1 i i0 i1
  · show va_up N 45 _ (t + 5) f = _ ∧ va_up N 45 _ (t + 6) f = _ ∧ va_up N 45 _ (t + 7) f = _
    rw [u _ (by omega), u _ (by omega), u _ (by omega)]; exact hq.2.2.2 f f0 f1
theorem adP.F {M N : Nat → Int → Int} {t : Nat} (ht : t = 29 ∨ t = 37) {n c q r : Int} (hF : rdF M t n c q) (h : adP M N n) (h2 : rdS N n r) : rdF N t n c q ∧ rfP M N t := by
  have u : ∀ j, j ≠ 45 → N j = M j := h.1
  refine ⟨⟨⟨r, h2⟩, h.2.1.trans hF.2.1, h.2.2.1.trans hF.2.2.1, hF.2.2.2.1, fun i i0 i1 => by rw [u _ (by omega)]; exact hF.2.2.2.2.1 i i0 i1, ?_⟩, ⟨fun x a _ => h.1 x a, h.2.2.2.1⟩⟩
  have h9 := hF.2.2.2.2.2
  unfold fm at h9 ⊢
  rw [u _ (by omega)]
  exact h9
set_option maxHeartbeats 4000000 in
set_option maxRecDepth 100000 in
theorem k_X1_readSetting {S : mx_Sc} {f : Bool} {M : Nat → Int → Int} {L : Nat → Nat → Int64} {Rf : Nat → Nat → Option Nat} (hR : mx_rf Rf) {t : Nat} (ht : t = 29 ∨ t = 37) {n : Int} (hn : 0 ≤ n ∧ n ≤ 500) (hB : ∀ i, 0 ≤ i → i < 500 → 0 ≤ M 1 i ∧ M 1 i ≤ 255) (hin : Rf 45 9 = some t) {p : Int} {T : td_T} (hG : rdG M t n p T) {w : Int} (hw : w = 5 ∨ w = 7 ∨ w = 8 ∨ w = 9 ∨ w = 10) (hw5 : w = 5 → T 0 1 = 0) : mx_C S mX1_readSetting [.ref 45, .int (iI w)] (f, mx_SH, M, L, Rf) 0 0 (fun v9 h9 => ∃ N, h9 = (f, mx_SH, N, L, Rf) ∧ v9 = none ∧ rfP M N t ∧ rdR N t n (pSet (M 1) n p T w)) (fun _ _ => False) := by
  refine mx_C_of (by decide) (by simp [Value.category]) (Nat.le_of_ble_eq_true rfl) rfl ?_
  show mx_E S mX1_readSetting 0 [some (.ref 45), some (.int (iI w))] [] (f, mx_SH, M, L, Rf) 0 0 _ _
  have e00 : M t 0 = T 0 0 := hG.2.2.2.1.1 0 (by decide) (by decide)
  have e01 : M t 1 = T 0 1 := hG.2.2.2.1.1 1 (by decide) (by decide)
  have e06 : M t 6 = T 0 6 := hG.2.2.2.1.1 6 (by decide) (by decide)
  have o0 : 1 ≤ T 0 0 ∧ T 0 0 ≤ 30 := hG.2.2.2.2.1.1.1
  have o1 : 0 ≤ T 0 1 ∧ T 0 1 ≤ 6 := hG.2.2.2.2.1.1.2.1
  have o6 : 0 ≤ T 0 6 ∧ T 0 6 ≤ 10 := hG.2.2.2.2.1.1.2.2.2.2.2.2.1
  have hs0 : mx_SH[t]? = some (7, 14) := by rcases ht with rfl | rfl <;> rfl
  refine ms_iload_n dX1_readSetting_0 rfl ?_
  rcases hw with rfl | rfl | rfl | rfl | rfl
  · refine ms_tabIn (tgt := 40) dX1_readSetting_1 (by decide) (by decide) rfl (by decide) ?_
    refine ms_aload_n dX1_readSetting_40 rfl ?_
    refine ms_getR dX1_readSetting_41 (fo_X1_15 rfl) (by first | rfl | assumption) rfl (by first | assumption ) ?_
    refine ms_aload_n dX1_readSetting_44 rfl ?_
    refine mi_iconst dX1_readSetting_45 ?_
    refine mi_bipush dX1_readSetting_46 (by decide) ?_
    refine mi_iconst dX1_readSetting_48 ?_
    refine ms_callV3 (ci := 1) (r := (RX1, TX1, 10)) dX1_readSetting_49 cv_X1_readSetting_X1_readNumber (k_X1_rn hR ht hn hB (a := 1) (b := 30) (e := 2) (by omega) (by omega) (by omega) hG) rfl rfl (by first | rfl | assumption) (Nat.le_of_ble_eq_true rfl) rfl (fun _ _ z => z.elim) (fun v9 h9 hp9 => ?_)
    obtain ⟨N1, x1, rfl, rfl, f1, h1⟩ := hp9
    have hs0 : mx_SH[t]? = some (7, 14) := by rcases ht with rfl | rfl <;> rfl
    refine ms_putI (z := 0) dX1_readSetting_52 (fo_X1_113 rfl) (by first | rfl | assumption) rfl rfl rfl ?_
    refine ms_goto (tgt := 130) dX1_readSetting_55 (by decide) ?_
    refine ms_retV dX1_readSetting_130 rfl ?_ (by simp)
    refine ⟨_, rfl, rfl, f1.tr (rfP.set ht), ?_⟩
    show rdR _ t n (pSet (M 1) n p T 5)
    unfold pSet
    rw [show (wSet 5).1 = 0 from rfl, show (wSet 5).2.1 = 1 from rfl, show (wSet 5).2.2 = 30 from rfl]
    rcases h1 with ⟨z1, zF, rfl⟩ | ⟨z1, zG, zl, rfl⟩
    · rw [if_pos z1]
      exact zF.set ht (by decide) (by decide)
    · rw [if_neg (by omega)]
      have v1 := nC_0 (by decide) z1
      exact zG.set ht (tdS_ok hG.2.2.2.2.1 (by omega)) (by decide)
  · refine ms_tabIn (tgt := 58) dX1_readSetting_1 (by decide) (by decide) rfl (by decide) ?_
    refine ms_aload_n dX1_readSetting_58 rfl ?_
    refine ms_getR dX1_readSetting_59 (fo_X1_15 rfl) (by first | rfl | assumption) rfl (by first | assumption ) ?_
    refine ms_aload_n dX1_readSetting_62 rfl ?_
    refine mi_iconst dX1_readSetting_63 ?_
    refine mi_bipush dX1_readSetting_64 (by decide) ?_
    refine mi_iconst dX1_readSetting_66 ?_
    refine ms_callV3 (ci := 1) (r := (RX1, TX1, 10)) dX1_readSetting_67 cv_X1_readSetting_X1_readNumber (k_X1_rn hR ht hn hB (a := 1) (b := 9) (e := 2) (by omega) (by omega) (by omega) hG) rfl rfl (by first | rfl | assumption) (Nat.le_of_ble_eq_true rfl) rfl (fun _ _ z => z.elim) (fun v9 h9 hp9 => ?_)
    obtain ⟨N1, x1, rfl, rfl, f1, h1⟩ := hp9
    have hs0 : mx_SH[t]? = some (7, 14) := by rcases ht with rfl | rfl <;> rfl
    refine ms_putI (z := 2) dX1_readSetting_70 (fo_X1_130 rfl) (by first | rfl | assumption) rfl rfl rfl ?_
    refine ms_goto (tgt := 130) dX1_readSetting_73 (by decide) ?_
    refine ms_retV dX1_readSetting_130 rfl ?_ (by simp)
    refine ⟨_, rfl, rfl, f1.tr (rfP.set ht), ?_⟩
    show rdR _ t n (pSet (M 1) n p T 7)
    unfold pSet
    rw [show (wSet 7).1 = 2 from rfl, show (wSet 7).2.1 = 1 from rfl, show (wSet 7).2.2 = 9 from rfl]
    rcases h1 with ⟨z1, zF, rfl⟩ | ⟨z1, zG, zl, rfl⟩
    · rw [if_pos z1]
      exact zF.set ht (by decide) (by decide)
    · rw [if_neg (by omega)]
      have v1 := nC_0 (by decide) z1
      exact zG.set ht (tdS_ok hG.2.2.2.2.1 (by omega)) (by decide)
  · refine ms_tabIn (tgt := 76) dX1_readSetting_1 (by decide) (by decide) rfl (by decide) ?_
    refine ms_aload_n dX1_readSetting_76 rfl ?_
    refine ms_getR dX1_readSetting_77 (fo_X1_15 rfl) (by first | rfl | assumption) rfl (by first | assumption ) ?_
    refine ms_aload_n dX1_readSetting_80 rfl ?_
    refine mi_iconst dX1_readSetting_81 ?_
    refine mi_bipush dX1_readSetting_82 (by decide) ?_
    refine mi_iconst dX1_readSetting_84 ?_
    refine ms_callV3 (ci := 1) (r := (RX1, TX1, 10)) dX1_readSetting_85 cv_X1_readSetting_X1_readNumber (k_X1_rn hR ht hn hB (a := 0) (b := 9) (e := 2) (by omega) (by omega) (by omega) hG) rfl rfl (by first | rfl | assumption) (Nat.le_of_ble_eq_true rfl) rfl (fun _ _ z => z.elim) (fun v9 h9 hp9 => ?_)
    obtain ⟨N1, x1, rfl, rfl, f1, h1⟩ := hp9
    have hs0 : mx_SH[t]? = some (7, 14) := by rcases ht with rfl | rfl <;> rfl
    refine ms_putI (z := 3) dX1_readSetting_88 (fo_X1_133 rfl) (by first | rfl | assumption) rfl rfl rfl ?_
    refine ms_goto (tgt := 130) dX1_readSetting_91 (by decide) ?_
    refine ms_retV dX1_readSetting_130 rfl ?_ (by simp)
    refine ⟨_, rfl, rfl, f1.tr (rfP.set ht), ?_⟩
    show rdR _ t n (pSet (M 1) n p T 8)
    unfold pSet
    rw [show (wSet 8).1 = 3 from rfl, show (wSet 8).2.1 = 0 from rfl, show (wSet 8).2.2 = 9 from rfl]
    rcases h1 with ⟨z1, zF, rfl⟩ | ⟨z1, zG, zl, rfl⟩
    · rw [if_pos z1]
      exact zF.set ht (by decide) (by decide)
    · rw [if_neg (by omega)]
      have v1 := nC_0 (by decide) z1
      exact zG.set ht (tdS_ok hG.2.2.2.2.1 (by omega)) (by decide)
  · refine ms_tabIn (tgt := 94) dX1_readSetting_1 (by decide) (by decide) rfl (by decide) ?_
    refine ms_aload_n dX1_readSetting_94 rfl ?_
    refine ms_getR dX1_readSetting_95 (fo_X1_15 rfl) (by first | rfl | assumption) rfl (by first | assumption ) ?_
    refine ms_aload_n dX1_readSetting_98 rfl ?_
    refine mi_iconst dX1_readSetting_99 ?_
    refine mi_bipush dX1_readSetting_100 (by decide) ?_
    refine mi_iconst dX1_readSetting_102 ?_
    refine ms_callV3 (ci := 1) (r := (RX1, TX1, 10)) dX1_readSetting_103 cv_X1_readSetting_X1_readNumber (k_X1_rn hR ht hn hB (a := 0) (b := 9) (e := 2) (by omega) (by omega) (by omega) hG) rfl rfl (by first | rfl | assumption) (Nat.le_of_ble_eq_true rfl) rfl (fun _ _ z => z.elim) (fun v9 h9 hp9 => ?_)
    obtain ⟨N1, x1, rfl, rfl, f1, h1⟩ := hp9
    have hs0 : mx_SH[t]? = some (7, 14) := by rcases ht with rfl | rfl <;> rfl
    refine ms_putI (z := 4) dX1_readSetting_106 (fo_X1_136 rfl) (by first | rfl | assumption) rfl rfl rfl ?_
    refine ms_goto (tgt := 130) dX1_readSetting_109 (by decide) ?_
    refine ms_retV dX1_readSetting_130 rfl ?_ (by simp)
    refine ⟨_, rfl, rfl, f1.tr (rfP.set ht), ?_⟩
    show rdR _ t n (pSet (M 1) n p T 9)
    unfold pSet
    rw [show (wSet 9).1 = 4 from rfl, show (wSet 9).2.1 = 0 from rfl, show (wSet 9).2.2 = 9 from rfl]
    rcases h1 with ⟨z1, zF, rfl⟩ | ⟨z1, zG, zl, rfl⟩
    · rw [if_pos z1]
      exact zF.set ht (by decide) (by decide)
    · rw [if_neg (by omega)]
      have v1 := nC_0 (by decide) z1
      exact zG.set ht (tdS_ok hG.2.2.2.2.1 (by omega)) (by decide)
  · refine ms_tabIn (tgt := 112) dX1_readSetting_1 (by decide) (by decide) rfl (by decide) ?_
    refine ms_aload_n dX1_readSetting_112 rfl ?_
    refine ms_getR dX1_readSetting_113 (fo_X1_15 rfl) (by first | rfl | assumption) rfl (by first | assumption ) ?_
    refine ms_aload_n dX1_readSetting_116 rfl ?_
    refine mi_iconst dX1_readSetting_117 ?_
    refine mi_bipush dX1_readSetting_118 (by decide) ?_
    refine mi_iconst dX1_readSetting_120 ?_
    refine ms_callV3 (ci := 1) (r := (RX1, TX1, 10)) dX1_readSetting_121 cv_X1_readSetting_X1_readNumber (k_X1_rn hR ht hn hB (a := 1) (b := 99) (e := 2) (by omega) (by omega) (by omega) hG) rfl rfl (by first | rfl | assumption) (Nat.le_of_ble_eq_true rfl) rfl (fun _ _ z => z.elim) (fun v9 h9 hp9 => ?_)
    obtain ⟨N1, x1, rfl, rfl, f1, h1⟩ := hp9
    have hs0 : mx_SH[t]? = some (7, 14) := by rcases ht with rfl | rfl <;> rfl
    refine ms_putI (z := 5) dX1_readSetting_124 (fo_X1_139 rfl) (by first | rfl | assumption) rfl rfl rfl ?_
    refine ms_goto (tgt := 130) dX1_readSetting_127 (by decide) ?_
    refine ms_retV dX1_readSetting_130 rfl ?_ (by simp)
    refine ⟨_, rfl, rfl, f1.tr (rfP.set ht), ?_⟩
    show rdR _ t n (pSet (M 1) n p T 10)
    unfold pSet
    rw [show (wSet 10).1 = 5 from rfl, show (wSet 10).2.1 = 1 from rfl, show (wSet 10).2.2 = 99 from rfl]
    rcases h1 with ⟨z1, zF, rfl⟩ | ⟨z1, zG, zl, rfl⟩
    · rw [if_pos z1]
      exact zF.set ht (by decide) (by decide)
    · rw [if_neg (by omega)]
      have v1 := nC_0 (by decide) z1
      exact zG.set ht (tdS_ok hG.2.2.2.2.1 (by omega)) (by decide)

set_option maxHeartbeats 4000000 in
theorem l_X1_rlF86 {S : mx_Sc} {f : Bool} {M : Nat → Int → Int} {L : Nat → Nat → Int64} {Rf : Nat → Nat → Option Nat} (hR : mx_rf Rf) {t : Nat} (ht : t = 29 ∨ t = 37) {n : Int} (hn : 0 ≤ n ∧ n ≤ 500) (hB : ∀ i, 0 ≤ i → i < 500 → 0 ≤ M 1 i ∧ M 1 i ≤ 255) (hin : Rf 45 9 = some t) {c q : Int} (hF : rdF M t n c q) {ln w k : Int} : mx_E S mX1_readLine 86 [some (.ref 45), some (.int (iI ln)), some (.int (iI w)), some (.int (iI k))] [] (f, mx_SH, M, L, Rf) 0 0 (fun v9 h9 => ∃ N, h9 = (f, mx_SH, N, L, Rf) ∧ v9 = none ∧ rfP M N t ∧ rdR N t n (pEnd (M 1) n (.inl (c, q)))) (fun _ _ => False) := by
  have hw0 := hF.2.1
  have hcc := hF.2.2.2.1
  have hfm := hF.2.2.2.2.2
  unfold fm at hfm
  have hs0 : mx_SH[t]? = some (7, 14) := by rcases ht with rfl | rfl <;> rfl
  obtain ⟨p9, hS⟩ := hF.1
  have h4 := hS.2.2.2.1
  have htb := tk_b (M 1) n p9
  have h6 := hS.2.2.1
  have h0 := hS.2.2.2.2
  have ht9 := te_b (g := M 1) hS.2.2.2.2.2
  refine ms_aload_n dX1_readLine_86 rfl ?_
  refine ms_getI (z := 4) dX1_readLine_87 (fo_X1_49 rfl) (by first | rfl | assumption) rfl rfl ?_
  refine mi_iconst dX1_readLine_90 ?_
  refine mi_icmp_eq (tgt := 103) dX1_readLine_91 (by decide) (fun c_91 => ?_) (fun c_91 => ?_)
  · refine ms_aload_n dX1_readLine_103 rfl ?_
    refine ms_callV0 (ci := 1) (r := (RX1, TX1, 10)) dX1_readLine_104 cv_X1_readLine_X1_advance (k_X1_advance hR hn hB hS.1 (by omega)) rfl rfl (by first | rfl | assumption) (Nat.le_of_ble_eq_true rfl) rfl (fun _ _ z => z.elim) (fun v9 h9 hp9 => ?_)
    obtain ⟨N2, rfl, rfl, q1, q2⟩ := hp9
    obtain ⟨r1, r2⟩ := q1.F ht hF q2
    refine ms_retV dX1_readLine_107 rfl ⟨N2, rfl, rfl, r2, r1⟩ (by simp)
  · refine ms_aload_n dX1_readLine_94 rfl ?_
    refine mi_iconst dX1_readLine_95 ?_
    refine ms_aload_n dX1_readLine_96 rfl ?_
    refine ms_getI (z := 5) dX1_readLine_97 (fo_X1_56 rfl) (by first | rfl | assumption) rfl rfl ?_
    refine ms_callV2 (ci := 1) (r := (RX1, TX1, 10)) dX1_readLine_100 cv_X1_readLine_X1_refuse (k_X1_refuse (e := 1) (p := M 45 5) hR (by omega)) rfl rfl (by first | rfl | assumption) (Nat.le_of_ble_eq_true rfl) rfl (fun _ _ z => z.elim) (fun v9 h9 hp9 => ?_)
    obtain ⟨rfl, rfl⟩ := hp9
    rw [if_neg (show ¬ M 45 0 = 0 by omega)]
    refine ms_aload_n dX1_readLine_103 rfl ?_
    refine ms_callV0 (ci := 1) (r := (RX1, TX1, 10)) dX1_readLine_104 cv_X1_readLine_X1_advance (k_X1_advance hR hn hB hS.1 (by omega)) rfl rfl (by first | rfl | assumption) (Nat.le_of_ble_eq_true rfl) rfl (fun _ _ z => z.elim) (fun v9 h9 hp9 => ?_)
    obtain ⟨N2, rfl, rfl, q1, q2⟩ := hp9
    obtain ⟨r1, r2⟩ := q1.F ht hF q2
    refine ms_retV dX1_readLine_107 rfl ⟨N2, rfl, rfl, r2, r1⟩ (by simp)
set_option maxHeartbeats 4000000 in
theorem l_X1_rlG86 {S : mx_Sc} {f : Bool} {M : Nat → Int → Int} {L : Nat → Nat → Int64} {Rf : Nat → Nat → Option Nat} (hR : mx_rf Rf) {t : Nat} (ht : t = 29 ∨ t = 37) {n : Int} (hn : 0 ≤ n ∧ n ≤ 500) (hB : ∀ i, 0 ≤ i → i < 500 → 0 ≤ M 1 i ∧ M 1 i ≤ 255) (hin : Rf 45 9 = some t) {p : Int} {T : td_T} (hG : rdG M t n p T) {ln w k : Int} : mx_E S mX1_readLine 86 [some (.ref 45), some (.int (iI ln)), some (.int (iI w)), some (.int (iI k))] [] (f, mx_SH, M, L, Rf) 0 0 (fun v9 h9 => ∃ N, h9 = (f, mx_SH, N, L, Rf) ∧ v9 = none ∧ rfP M N t ∧ rdR N t n (pEnd (M 1) n (.inr (p, T)))) (fun _ _ => False) := by
  have hS := hG.1
  have h4 := hS.2.2.2.1
  have htb := tk_b (M 1) n p
  have h6 := hS.2.2.1
  have h0 := hS.2.2.2.2
  have ht9 := te_b (g := M 1) hS.2.2.2.2.2
  have hw0 := hG.2.1
  refine ms_aload_n dX1_readLine_86 rfl ?_
  refine ms_getI (z := 4) dX1_readLine_87 (fo_X1_49 rfl) (by first | rfl | assumption) rfl rfl ?_
  refine mi_iconst dX1_readLine_90 ?_
  refine mi_icmp_eq (tgt := 103) dX1_readLine_91 (by decide) (fun c_91 => ?_) (fun c_91 => ?_)
  · refine ms_aload_n dX1_readLine_103 rfl ?_
    refine ms_callV0 (ci := 1) (r := (RX1, TX1, 10)) dX1_readLine_104 cv_X1_readLine_X1_advance (k_X1_advance hR hn hB hS.1 (by omega)) rfl rfl (by first | rfl | assumption) (Nat.le_of_ble_eq_true rfl) rfl (fun _ _ z => z.elim) (fun v9 h9 hp9 => ?_)
    obtain ⟨N2, rfl, rfl, q1, q2⟩ := hp9
    rw [h6] at q2
    obtain ⟨r1, r2, r3⟩ := q1.G ht hG q2
    refine ms_retV dX1_readLine_107 rfl ⟨N2, rfl, rfl, r2, by simp only [pEnd]; rw [if_neg (by omega)]; exact r1⟩ (by simp)
  · refine ms_aload_n dX1_readLine_94 rfl ?_
    refine mi_iconst dX1_readLine_95 ?_
    refine ms_aload_n dX1_readLine_96 rfl ?_
    refine ms_getI (z := 5) dX1_readLine_97 (fo_X1_56 rfl) (by first | rfl | assumption) rfl rfl ?_
    refine ms_callV2 (ci := 1) (r := (RX1, TX1, 10)) dX1_readLine_100 cv_X1_readLine_X1_refuse (k_X1_refuse (e := 1) (p := M 45 5) hR (by omega)) rfl rfl (by first | rfl | assumption) (Nat.le_of_ble_eq_true rfl) rfl (fun _ _ z => z.elim) (fun v9 h9 hp9 => ?_)
    obtain ⟨rfl, rfl⟩ := hp9
    rw [if_pos hw0]
    obtain ⟨hF9, hP9⟩ := hG.F ht (c := 1) (q := M 45 5) (by decide)
    obtain ⟨p9, hS9⟩ := hF9.1
    have k6 := hS9.2.2.1
    have k1 : va_up M 45 (iu (iu (M 45) 0 1) 1 (M 45 5)) 1 = M 1 := up_n _ _ (by decide)
    rw [k1] at k6
    have k0 := hS9.2.2.2.2
    have k9 := te_b (g := M 1) hS9.2.2.2.2.2
    refine ms_aload_n dX1_readLine_103 rfl ?_
    refine ms_callV0 (ci := 1) (r := (RX1, TX1, 10)) dX1_readLine_104 cv_X1_readLine_X1_advance (k_X1_advance hR hn (by rw [up_n _ _ (by decide)]; exact hB) hS9.1 (by omega)) rfl rfl (by first | rfl | assumption) (Nat.le_of_ble_eq_true rfl) rfl (fun _ _ z => z.elim) (fun v9 h9 hp9 => ?_)
    obtain ⟨N2, rfl, rfl, q1, q2⟩ := hp9
    obtain ⟨r1, r2⟩ := q1.F ht hF9 q2
    refine ms_retV dX1_readLine_107 rfl ⟨N2, rfl, rfl, hP9.tr r2, by simp only [pEnd]; rw [if_pos (by omega)]; have h9 := hG.1.2.1; rw [h9] at r1; exact r1⟩ (by simp)
