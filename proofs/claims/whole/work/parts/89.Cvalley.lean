set_option maxHeartbeats 4000000 in
set_option maxRecDepth 100000 in
theorem k_X6_valley {S : mx_Sc} {f : Bool} {M : Nat → Int → Int} {L : Nat → Nat → Int64} {Rf : Nat → Nat → Option Nat} (hR : mx_rf Rf) {t s : Nat} (ht : t = 29 ∨ t = 37) (hs : s = 29 ∨ s = 37) (hts : t ≠ s) (hto : Rf 0 10 = some t) (hsp : Rf 0 11 = some s) (hB : ∀ i, 0 ≤ i → i < 500 → 0 ≤ M 1 i ∧ M 1 i ≤ 255) (htl : 0 ≤ M 0 12 ∧ M 0 12 ≤ 500) (hoj : oj M s) (hrf : 0 ≤ M 9 0 ∧ M 9 0 ≤ 1000000) {k : Int} (hk32 : -2147483648 ≤ k ∧ k ≤ 2147483647) (hc : 0 ≤ k ∧ k ≤ M 0 12) : mx_C S mX6_valley [.ref 0, .int (iI k)] (f, mx_SH, M, L, Rf) 0 0 (fun v9 h9 => ∃ N Rf2, h9 = (f, mx_SH, N, L, Rf2) ∧ mx_rf Rf2 ∧ (∀ y, y ≠ 45 → y ≠ 0 → Rf2 y = Rf y) ∧ oj N s ∧ N 0 12 = 0 ∧
  ((∃ c q, pAll (M 1) k (k.toNat + 1) (sk (M 1) k 0) td0 (fun _ => false) true = .inl (c, q) ∧ (1 ≤ c ∧ c ≤ 5) ∧ v9 = some (.int (iI c)) ∧ (∀ x, x ≠ 45 → x ≠ 0 → x ≠ 9 → (x < s ∨ s + 8 ≤ x) → N x = M x) ∧ N 0 13 = q ∧ N 0 14 = M 0 14 ∧ N 9 = iu (M 9) 0 (M 9 0 + 1) ∧ Rf2 0 = Rf 0) ∨
   (∃ T, pAll (M 1) k (k.toNat + 1) (sk (M 1) k 0) td0 (fun _ => false) true = .inr T ∧ v9 = some (.int (iI 0)) ∧ (∀ x, x ≠ 45 → x ≠ 0 → x ≠ 3 → x ≠ 4 → x ≠ 5 → x ≠ 6 → x ≠ 8 → (x < s ∨ s + 8 ≤ x) → N x = M x) ∧ N 0 13 = -1 ∧ N 0 14 = 0 ∧ Rf2 0 10 = some s ∧ Rf2 0 11 = some t ∧ tq T (fun j => N (s + j)) ∧ td_ok T ∧ (∀ i, 0 ≤ i → i < 18 → N 4 i = N (s + 4) i) ∧ (∀ l, 0 ≤ l → l < 6 → N 5 l = -1 ∧ N 6 l = -1) ∧ N 3 3 = 0 ∧ N 3 4 = 0 ∧ N 3 5 = 0 ∧ (∀ i, 0 ≤ i → i < 18 → N 8 i = N (s + 4) i) ∧ ∀ i, 18 ≤ i → N 8 i = M 8 i))) (fun _ _ => False) := by
  refine mx_C_of (by decide) (by simp [Value.category]) (Nat.le_of_ble_eq_true rfl) rfl ?_
  show mx_E S mX6_valley 0 [some (.ref 0), some (.int (iI k)), none] [] (f, mx_SH, M, L, Rf) 0 0 _ _
  refine ms_iload_n dX6_valley_0 rfl ?_
  refine mi_if_lt (tgt := 12) dX6_valley_1 (by decide) (fun c_1 => ?_) (fun c_1 => ?_)
  · exact absurd c_1 (by omega)
  · refine ms_iload_n dX6_valley_4 rfl ?_
    refine ms_aload_n dX6_valley_5 rfl ?_
    refine ms_getI (z := 12) dX6_valley_6 (fo_X6_82 rfl) (by first | rfl | assumption) rfl rfl ?_
    refine mi_icmp_le (tgt := 20) dX6_valley_9 (by decide) (fun c_9 => ?_) (fun c_9 => ?_)
    · refine ms_aload_n dX6_valley_20 rfl ?_
      refine mi_iconst dX6_valley_21 ?_
      refine ms_putI (z := 12) dX6_valley_22 (fo_X6_82 rfl) (by first | rfl | assumption) rfl rfl rfl ?_
      refine ms_aload_n dX6_valley_25 rfl ?_
      refine ms_getR dX6_valley_26 (fo_X6_66 rfl) (by first | rfl | assumption) rfl (by first | assumption | exact rf_0_1 hR ) ?_
      refine ms_iload_n dX6_valley_29 rfl ?_
      refine ms_aload_n dX6_valley_30 rfl ?_
      refine ms_getR dX6_valley_31 (fo_X6_54 rfl) (by first | rfl | assumption) rfl (by first | assumption ) ?_
      refine ms_callV2 (ci := 1) (r := (RX1, TX1, 10)) dX6_valley_34 cv_X6_valley_X1_read (k_X1_read hR hs (n := k) (by omega) (by rw [up_n _ _ (by decide)]; exact hB) (fun i i0 i1 => by rw [up_n _ _ (by omega)]; exact hoj i i0 i1)) rfl rfl (by first | rfl | assumption) (Nat.le_of_ble_eq_true rfl) rfl (fun _ _ z => z.elim) (fun v9 h9 hp9 => ?_)
      obtain ⟨N1, Rf2, rfl, rfl, hR, hRx, q1, q2⟩ := hp9
      rw [up_n (b := 1) _ _ (by decide)] at q2
      have e0 : N1 0 = iu (M 0) 12 0 := by rw [q1 0 (by decide) (by omega), up_s]
      have eM : ∀ x, x ≠ 0 → x ≠ 45 → (x < s ∨ s + 8 ≤ x) → N1 x = M x := fun x x0 x1 x2 => by rw [q1 x x1 x2, up_n _ _ x0]
      have hto : Rf2 0 10 = some t := by rw [hRx 0 (by decide)]; exact hto
      have hsp : Rf2 0 11 = some s := by rw [hRx 0 (by decide)]; exact hsp
      refine ms_aload_n dX6_valley_37 rfl ?_
      refine ms_aload_n dX6_valley_38 rfl ?_
      refine ms_getR dX6_valley_39 (fo_X6_66 rfl) (by first | rfl | assumption) rfl (by first | assumption | exact rf_0_1 hR ) ?_
      refine ms_getI (z := 1) dX6_valley_42 (fo_X6_96 rfl) (by first | rfl | assumption) rfl rfl ?_
      refine ms_putI (z := 13) dX6_valley_45 (fo_X6_57 rfl) (by first | rfl | assumption) rfl rfl rfl ?_
      have u45 : va_up N1 0 (iu (N1 0) 13 (N1 45 1)) 45 = N1 45 := up_n _ _ (by decide)
      refine ms_aload_n dX6_valley_48 rfl ?_
      refine ms_getR dX6_valley_49 (fo_X6_66 rfl) (by first | rfl | assumption) rfl (by first | assumption | exact rf_0_1 hR ) ?_
      refine ms_getI (z := 0) dX6_valley_52 (fo_X6_99 rfl) (by first | rfl | assumption) rfl rfl ?_
      rw [u45]
      have hcb : 0 ≤ N1 45 0 ∧ N1 45 0 ≤ 5 := by
        cases e : pAll (M 1) k (k.toNat + 1) (sk (M 1) k 0) td0 (fun _ => false) true with
        | inl x => obtain ⟨c, q⟩ := x; rw [e] at q2; obtain ⟨a, _, b, _⟩ := q2; omega
        | inr T => rw [e] at q2; have := q2.1; omega
      refine mi_if_eq (tgt := 79) dX6_valley_55 (by decide) (fun c_55 => ?_) (fun c_55 => ?_)
      · cases e : pAll (M 1) k (k.toNat + 1) (sk (M 1) k 0) td0 (fun _ => false) true with
        | inl x => obtain ⟨c, q⟩ := x; rw [e] at q2; obtain ⟨a, _, b, _⟩ := q2; omega
        | inr T =>
        rw [e] at q2
        obtain ⟨w1, w2, w3, w4, w5⟩ := q2
        refine ms_aload_n dX6_valley_79 rfl ?_
        refine ms_getR dX6_valley_80 (fo_X6_50 rfl) (by first | rfl | assumption) rfl (by first | assumption ) ?_
        refine ms_astore_n dX6_valley_83 (by decide) rfl ?_
        dsimp only [List.set, Nat.reduceAdd]
        refine ms_aload_n dX6_valley_84 rfl ?_
        refine ms_aload_n dX6_valley_85 rfl ?_
        skip
        refine ms_getR dX6_valley_86 (fo_X6_54 rfl) (by first | rfl | assumption) rfl (by first | assumption ) ?_
        refine ms_putRo dX6_valley_89 (fo_X6_50 rfl) (by first | rfl | assumption) rfl rfl ?_
        refine ms_aload_n dX6_valley_92 rfl ?_
        refine ms_aload_n dX6_valley_93 rfl ?_
        refine ms_putRo dX6_valley_94 (fo_X6_54 rfl) (by first | rfl | assumption) rfl rfl ?_
        have hR3 := rf_up hR (a := 0) (k := 10) (by decide) (some s)
        have hR4 := rf_up hR3 (a := 0) (k := 11) (by decide) (some t)
        have hto4 : va_up (va_up Rf2 0 (va_up (Rf2 0) 10 (some s))) 0 (va_up (va_up Rf2 0 (va_up (Rf2 0) 10 (some s)) 0) 11 (some t)) 0 10 = some s := by simp [va_up]
        have hsp4 : va_up (va_up Rf2 0 (va_up (Rf2 0) 10 (some s))) 0 (va_up (va_up Rf2 0 (va_up (Rf2 0) 10 (some s)) 0) 11 (some t)) 0 11 = some t := by simp [va_up]
        have hRx4 : ∀ y, y ≠ 45 → y ≠ 0 → va_up (va_up Rf2 0 (va_up (Rf2 0) 10 (some s))) 0 (va_up (va_up Rf2 0 (va_up (Rf2 0) 10 (some s)) 0) 11 (some t)) y = Rf y := fun y y0 y1 => by rw [up_n _ _ y1, up_n _ _ y1]; exact hRx y y0
        generalize va_up (va_up Rf2 0 (va_up (Rf2 0) 10 (some s))) 0 (va_up (va_up Rf2 0 (va_up (Rf2 0) 10 (some s)) 0) 11 (some t)) = Rf4 at hR4 hto4 hsp4 hRx4 ⊢
        clear hR
        have hR := hR4
        refine ms_aload_n dX6_valley_97 rfl ?_
        refine ms_getR dX6_valley_98 (fo_X6_16 rfl) (by first | rfl | assumption) rfl (by first | assumption | exact rf_0_2 hR ) ?_
        refine ms_aload_n dX6_valley_101 rfl ?_
        refine ms_getR dX6_valley_102 (fo_X6_50 rfl) (by first | rfl | assumption) rfl (by first | assumption ) ?_
        refine ms_callV1 (ci := 3) (r := (RX3, TX3, 4)) dX6_valley_105 cv_X6_valley_X3_begin (k_X3_begin (M := va_up N1 0 (iu (N1 0) 13 (N1 45 1))) (t := s) hs (by rcases hs with rfl | rfl <;> rfl) (by rcases hs with rfl | rfl <;> rfl) (by rcases hs with rfl | rfl; exact rf_29_10 hR4; exact rf_37_10 hR4) rfl rfl rfl rfl rfl rfl (rf_2_0 hR4) (rf_2_2 hR4) (rf_3_0 hR4) (rf_3_1 hR4) (rf_3_2 hR4)) rfl rfl (by first | rfl | assumption) (Nat.le_of_ble_eq_true rfl) rfl (fun _ _ z => z.elim) (fun v9 h9 hp9 => ?_)
        obtain ⟨N5, rfl, rfl, b1, b2, b3, b4, b5, b6, b7, b8⟩ := hp9
        have es : ∀ j : Nat, j < 8 → N5 (s + j) = N1 (s + j) := fun j hj => by rw [b1 _ (by omega) (by omega) (by omega) (by omega) (by omega), up_n _ _ (by omega)]
        refine ms_aload_n dX6_valley_108 rfl ?_
        refine mi_iconst dX6_valley_109 ?_
        refine ms_putZ (z := 14) (Or.inl rfl) dX6_valley_110 (fo_X6_105 rfl) (by first | rfl | assumption) rfl rfl rfl ?_
        refine mi_iconst dX6_valley_113 ?_
        refine ms_ret dX6_valley_114 rfl ⟨_, Rf4, rfl, hR, hRx4, fun i i0 i1 => ?_, ?_, Or.inr ⟨T, rfl, rfl, fun x x0 x1 x2 x3 x4 x5 x6 x7 => ?_, ?_, ?_, hto4, hsp4, ?_, w4, fun i i0 i1 => ?_, fun l l0 l1 => ?_, ?_, ?_, ?_, fun i i0 i1 => ?_, fun i i0 => ?_⟩⟩ (by simp)
        · rw [up_n _ _ (by omega), es 4 (by omega)]; exact w5 i i0 i1
        · rw [up_s, iu_n _ _ (by decide), b1 0 (by decide) (by decide) (by decide) (by decide) (by decide), up_s, iu_n _ _ (by decide), e0, iu_s]
        · rw [up_n _ _ x1, b1 x x2 x3 x4 x5 x6, up_n _ _ x1]; exact eM x x1 x0 x7
        · rw [up_s, iu_n _ _ (by decide), b1 0 (by decide) (by decide) (by decide) (by decide) (by decide), up_s, iu_s]; exact w2
        · rw [up_s, iu_s]
        · have ee : ∀ j : Nat, j < 8 → va_up N5 0 (iu (N5 0) 14 0) (s + j) = N1 (s + j) := fun j hj => by rw [up_n _ _ (by omega)]; exact es j hj
          refine ⟨fun j k0 k1 => ?_, fun l l0 l1 => ?_, fun i i0 i1 => ?_, fun f f0 f1 => ?_⟩
          · show va_up N5 0 _ (s + 0) j = _; rw [ee 0 (by omega)]; exact w3.1 j k0 k1
          · show va_up N5 0 _ (s + 1) l = _ ∧ va_up N5 0 _ (s + 2) l = _ ∧ va_up N5 0 _ (s + 3) l = _
            rw [ee 1 (by omega), ee 2 (by omega), ee 3 (by omega)]; exact w3.2.1 l l0 l1
          · show va_up N5 0 _ (s + 4) i = _; rw [ee 4 (by omega)]; exact w3.2.2.1 i i0 i1
          · show va_up N5 0 _ (s + 5) f = _ ∧ va_up N5 0 _ (s + 6) f = _ ∧ va_up N5 0 _ (s + 7) f = _
            rw [ee 5 (by omega), ee 6 (by omega), ee 7 (by omega)]; exact w3.2.2.2 f f0 f1
        · rw [up_n _ _ (by decide), up_n _ _ (by omega), es 4 (by omega), b2 i i0 i1, up_n _ _ (by omega)]
        · rw [up_n _ _ (by decide), up_n _ _ (by decide)]; exact b3 l l0 l1
        · rw [up_n _ _ (by decide)]; exact b4
        · rw [up_n _ _ (by decide)]; exact b5
        · rw [up_n _ _ (by decide)]; exact b6
        · rw [up_n _ _ (by decide), up_n _ _ (by omega), es 4 (by omega), b7 i i0 i1, up_n _ _ (by omega)]
        · rw [up_n _ _ (by decide), b8 i i0, up_n _ _ (by decide), eM 8 (by decide) (by decide) (by omega)]
      · cases e : pAll (M 1) k (k.toNat + 1) (sk (M 1) k 0) td0 (fun _ => false) true with
        | inr T => rw [e] at q2; exact absurd q2.1 c_55
        | inl x =>
        obtain ⟨c, q⟩ := x
        rw [e] at q2
        obtain ⟨w1, w2, w3, w4⟩ := q2
        have u9 : va_up N1 0 (iu (N1 0) 13 (N1 45 1)) 9 = M 9 := by rw [up_n _ _ (by decide)]; exact eM 9 (by decide) (by decide) (by omega)
        refine ms_aload_n dX6_valley_58 rfl ?_
        refine ms_getR dX6_valley_59 (fo_X6_16 rfl) (by first | rfl | assumption) rfl (by first | assumption | exact rf_0_2 hR ) ?_
        refine ms_getR dX6_valley_62 (fo_X6_102 rfl) (by first | rfl | assumption) rfl (by first | assumption | exact rf_2_3 hR | exact rf_10_3 hR ) ?_
        refine mi_iconst dX6_valley_65 ?_
        refine ms_dup2 dX6_valley_66 rfl rfl ?_
        refine ms_iald dX6_valley_67 (by first | rfl | assumption) ?_
        refine mi_iconst dX6_valley_68 ?_
        refine mi_iadd dX6_valley_69 ?_
        refine ms_iast dX6_valley_70 (by first | rfl | assumption) ?_
        refine ms_aload_n dX6_valley_71 rfl ?_
        refine ms_getR dX6_valley_72 (fo_X6_66 rfl) (by first | rfl | assumption) rfl (by first | assumption | exact rf_0_1 hR ) ?_
        refine ms_getI (z := 0) dX6_valley_75 (fo_X6_99 rfl) (by first | rfl | assumption) rfl rfl ?_
        refine ms_ret dX6_valley_78 rfl ⟨_, Rf2, rfl, hR, fun y y0 _ => hRx y y0, fun i i0 i1 => by rw [up_n _ _ (by omega), up_n _ _ (by omega)]; exact w4 i i0 i1, by rw [up_n _ _ (by decide), up_s, iu_n _ _ (by decide), e0, iu_s], Or.inl ⟨c, q, rfl, w3, ?_, fun x x0 x1 x2 x3 => ?_, ?_, ?_, ?_, hRx 0 (by decide)⟩⟩ (by simp)
        · rw [up_n (b := 45) _ _ (by decide), u45, w1]
        · rw [up_n _ _ x2, up_n _ _ x1]; exact eM x x1 x0 x3
        · rw [up_n _ _ (by decide), up_s, iu_s]; exact w2
        · rw [up_n _ _ (by decide), up_s, iu_n _ _ (by decide), e0, iu_n _ _ (by decide)]
        · rw [up_s, u9]
    · exact absurd c_9 (by omega)

set_option maxHeartbeats 4000000 in
set_option maxRecDepth 100000 in
theorem k_X6_valley_x {S : mx_Sc} {f : Bool} {M : Nat → Int → Int} {L : Nat → Nat → Int64} {Rf : Nat → Nat → Option Nat} (hR : mx_rf Rf) (htl : 0 ≤ M 0 12 ∧ M 0 12 ≤ 500) {k : Int} (hk32 : -2147483648 ≤ k ∧ k ≤ 2147483647) (hc : ¬ (0 ≤ k ∧ k ≤ M 0 12)) : mx_C S mX6_valley [.ref 0, .int (iI k)] (f, mx_SH, M, L, Rf) 1 6 (fun _ _ => False) (fun e9 h9 => e9 = "java/lang/IllegalArgumentException" ∧ h9 = (false, mx_SH, M, L, Rf)) := by
  refine mx_C_of (by decide) (by simp [Value.category]) (Nat.le_of_ble_eq_true rfl) rfl ?_
  show mx_E S mX6_valley 0 [some (.ref 0), some (.int (iI k)), none] [] (f, mx_SH, M, L, Rf) 1 6 _ _
  refine ms_iload_n dX6_valley_0 rfl ?_
  refine mi_if_lt (tgt := 12) dX6_valley_1 (by decide) (fun c_1 => ?_) (fun c_1 => ?_)
  · refine ms_throw th_X6_valley_I dX6_valley_12 dX6_valley_15 dX6_valley_16 dX6_valley_19 (Nat.le_of_ble_eq_true rfl) ⟨rfl, rfl⟩
  · refine ms_iload_n dX6_valley_4 rfl ?_
    refine ms_aload_n dX6_valley_5 rfl ?_
    refine ms_getI (z := 12) dX6_valley_6 (fo_X6_82 rfl) (by first | rfl | assumption) rfl rfl ?_
    refine mi_icmp_le (tgt := 20) dX6_valley_9 (by decide) (fun c_9 => ?_) (fun c_9 => ?_)
    · exact absurd c_9 (by omega)
    · refine ms_throw th_X6_valley_I dX6_valley_12 dX6_valley_15 dX6_valley_16 dX6_valley_19 (Nat.le_of_ble_eq_true rfl) ⟨rfl, rfl⟩

