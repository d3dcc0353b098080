def raM (N : Nat → Int → Int) : (Int × Int) ⊕ td_T → Prop
  | .inl (c, q) => mdF N c q
  | .inr T => N 48 22 = 0 ∧ tq T (mr N) ∧ td_ok T
set_option maxHeartbeats 4000000 in
set_option maxRecDepth 100000 in
theorem k_X7_fail {S : mx_Sc} {f : Bool} {M : Nat → Int → Int} {L : Nat → Nat → Int64} {Rf : Nat → Nat → Option Nat} (hR : mx_rf Rf) {e : Int} : mx_C S mX7_fail [.ref 48, .int (iI e)] (f, mx_SH, M, L, Rf) 0 0 (fun v9 h9 => h9 = (f, mx_SH, va_up M 48 (iu (M 48) 4 e), L, Rf) ∧ v9 = some (.int (iI 0))) (fun _ _ => False) := by
  refine mx_C_of (by decide) (by simp [Value.category]) (Nat.le_of_ble_eq_true rfl) rfl ?_
  show mx_E S mX7_fail 0 [some (.ref 48), some (.int (iI e))] [] (f, mx_SH, M, L, Rf) 0 0 _ _
  refine ms_aload_n dX7_fail_0 rfl ?_
  refine ms_iload_n dX7_fail_1 rfl ?_
  refine ms_putI (z := 4) dX7_fail_2 (fo_X7_131 rfl) (by first | rfl | assumption) rfl rfl rfl ?_
  refine mi_iconst dX7_fail_5 ?_
  refine ms_ret dX7_fail_6 rfl ⟨rfl, rfl⟩ (by simp)

set_option maxHeartbeats 4000000 in
theorem l_X7_vl {S : mx_Sc} {f : Bool} {L : Nat → Nat → Int64} {Rf : Nat → Nat → Option Nat} (hR : mx_rf Rf) {n : Int} (hn : 0 ≤ n ∧ n ≤ 500) (hrs : (∀ k : Nat, k < 5 → Rf 49 k = some (1001 + (1 + k))) ∧ ∀ k : Nat, k < 4 → Rf 50 k = some (1001 + (6 + k))) {P : Option Value → mx_H → Prop} {PX : String → mx_H → Prop} : ∀ (kk : Nat) (M : Nat → Int → Int) (s p : Int) (T : td_T) (sn : Int → Bool) (fs : Bool), (∀ i, 0 ≤ i → i < 500 → 0 ≤ M 62 i ∧ M 62 i ≤ 255) → mcs M → n - p < kk → mdG M n p T → (0 ≤ s ∧ s < 64) → (∀ j, 0 ≤ j → j < 4 → (sn (7 + j) = true ↔ ob s j = 1)) → (fs = true ↔ s = 0) → (fs = true → T 0 1 = 0) → (∀ (N : Nat → Int → Int) (s2 : Int), mfP M N → raM N (pAll (M 62) n kk p T sn fs) → mx_E S mX7_valley 129 [some (.ref 48), some (.int (iI n)), some (.int (iI s2))] [] (f, mx_SH, N, L, Rf) 0 0 P PX) → mx_E S mX7_valley 106 [some (.ref 48), some (.int (iI n)), some (.int (iI s))] [] (f, mx_SH, M, L, Rf) 0 0 P PX := by
  intro kk
  induction kk with
  | zero =>
    intro M s p T sn fs hB hcs g2 hG hs hsn hfs hT1 hK
    have := hG.1.2.2.2.2.2.2
    omega
  | succ kk ih =>
    intro M s p T sn fs hB hcs g2 hG hs hsn hfs hT1 hK
    have hS := hG.1
    have hw0 := hG.2.1
    have h20 := hS.2.1
    have h21 := hS.2.2.1
    have h16 := hS.2.2.2.1
    have h18 := hS.2.2.2.2.1
    have hnum := hS.2.2.2.2.2.1
    have h0 := hS.2.2.2.2.2.2
    have htb := tk_b (M 62) n p
    have ht9 := te_b (g := M 62) h0.2
    have e0 : ∀ k, 0 ≤ k → k < 7 → M 53 (7 + k) = T 0 k := hG.2.2.1.1
    have e00 : M 53 7 = T 0 0 := e0 0 (by decide) (by decide)
    have e01 : M 53 8 = T 0 1 := e0 1 (by decide) (by decide)
    have e06 : M 53 13 = T 0 6 := e0 6 (by decide) (by decide)
    have o0 : 1 ≤ T 0 0 ∧ T 0 0 ≤ 30 := hG.2.2.2.1.1
    have o1 : 0 ≤ T 0 1 ∧ T 0 1 ≤ 6 := hG.2.2.2.1.2.1
    have o6 : 0 ≤ T 0 6 ∧ T 0 6 ≤ 10 := hG.2.2.2.1.2.2.2.2.2.2.1
    have hmt : mtk (tk (M 62) n p) = if tk (M 62) n p = 4 then 0 else tk (M 62) n p + 1 := rfl
    refine ms_aload_n dX7_valley_106 rfl ?_
    refine ms_getI (z := 22) dX7_valley_107 (fo_X7_176 rfl) (by first | rfl | assumption) rfl rfl ?_
    refine mi_if_ne (tgt := 129) dX7_valley_110 (by decide) (fun c_110 => ?_) (fun c_110 => ?_)
    · exact absurd hw0 c_110
    · refine ms_aload_n dX7_valley_113 rfl ?_
      refine ms_getI (z := 18) dX7_valley_114 (fo_X7_154 rfl) (by first | rfl | assumption) rfl rfl ?_
      have hmb : 0 ≤ M 48 18 ∧ M 48 18 ≤ 5 := by rw [h18, hmt]; split <;> omega
      refine mi_if_eq (tgt := 129) dX7_valley_117 (by decide) (fun c_117 => ?_) (fun c_117 => ?_)
      · refine hK M s mfP.rf ?_
        simp only [pAll]
        rw [if_pos (by rw [h18, hmt] at c_117; split at c_117 <;> omega)]
        exact ⟨hw0, hG.2.2.1, hG.2.2.2⟩
      · have hnt : tk (M 62) n p ≠ 4 := fun z => c_117 (by rw [h18, z]; rfl)
        refine ms_aload_n dX7_valley_120 rfl ?_
        refine ms_iload_n dX7_valley_121 rfl ?_
        refine ms_callV1 (ci := 7) (r := (RX7, TX7, 48)) dX7_valley_122 cv_X7_valley_X7_readLine (k_X7_readLine hR hn hB hG hcs hs hsn hfs hT1 hrs) rfl rfl (by first | rfl | assumption) (Nat.le_of_ble_eq_true rfl) rfl (fun _ _ z => z.elim) (fun v9 h9 hp9 => ?_)
        obtain ⟨N1, rfl, rfl, b1, b2⟩ := hp9
        have e62 : N1 62 = M 62 := b1.1 62 (by decide) (by omega)
        refine ms_istore_n dX7_valley_125 (by decide) rfl ?_
        dsimp only [List.set, Nat.reduceAdd]
        refine ms_goto (tgt := 106) dX7_valley_126 (by decide) ?_
        have hwb := wdn_b (M 62) n p (wdP_x _ _ _)
        have hljb := lj_b (wdn (M 62) n p)
        have hlj := p2_lt hljb
        cases eb : pLine (M 62) n p T sn fs with
        | inl x =>
          obtain ⟨c9, q9⟩ := x
          rw [eb] at b2
          have k0 := b2.1
          have kc := b2.2.2
          refine ms_aload_n dX7_valley_106 rfl ?_
          refine ms_getI (z := 22) dX7_valley_107 (fo_X7_176 rfl) (by first | rfl | assumption) rfl rfl ?_
          refine mi_if_ne (tgt := 129) dX7_valley_110 (by decide) (fun c_110 => ?_) (fun c_110 => ?_)
          · refine hK N1 _ b1 ?_
            simp only [pAll]
            rw [if_neg (by omega), eb]
            exact b2
          · exact absurd c_110 (by omega)
        | inr x =>
          obtain ⟨q9, T9⟩ := x
          rw [eb] at b2
          have hgt := pLine_gt (by omega) eb
          refine ih N1 _ q9 T9 (fun w => if w = wdn (M 62) n p then true else sn w) false (by rw [e62]; exact hB) (fun w w0 w1 => by rw [b1.1 51 (by decide) (by omega), b1.1 52 (by decide) (by omega)]; exact hcs w w0 w1) (by omega) b2 (oor_b hs hlj) (fun j j0 j1 => ?_) ?_ (fun z => by cases z) (fun N2 s2 z1 z2 => ?_)
          · show (if 7 + j = wdn (M 62) n p then true else sn (7 + j)) = true ↔ _
            rw [ob_oor hs hljb (by omega)]
            by_cases e : 7 + j = wdn (M 62) n p
            · rw [if_pos e, if_pos (by unfold lj; rw [if_neg (by omega), if_pos (by omega)]; omega)]
              simp
            · rw [if_neg e, if_neg (by unfold lj; split; omega; split <;> omega)]
              exact hsn j j0 j1
          · constructor
            · intro z; cases z
            · intro z
              exfalso
              have h1 := ob_oor (y := lj (wdn (M 62) n p)) hs hljb hljb
              rw [z, if_pos rfl] at h1
              unfold ob at h1
              rw [Int.zero_ediv] at h1
              exact absurd h1 (by decide)
          · refine hK N2 s2 (b1.tr z1) ?_
            simp only [pAll]
            rw [if_neg (by omega), eb]
            rw [e62] at z2
            exact z2
        done
set_option maxHeartbeats 4000000 in
set_option maxRecDepth 100000 in
theorem l_X7_v0 {S : mx_Sc} {f : Bool} {M : Nat → Int → Int} {L : Nat → Nat → Int64} {Rf : Nat → Nat → Option Nat} (hR : mx_rf Rf) {P : Option Value → mx_H → Prop} {PX : String → mx_H → Prop} {z1 : Int} : ∀ (kk : Nat) (k : Int) (N : Nat → Int → Int), 0 ≤ k → k + kk = 7 → (∀ x, x ≠ 53 → N x = M x) → (∀ j, j < 7 → N 53 j = M 53 j) → (∀ j, 0 ≤ j → j < k → N 53 (7 + j) = td0 0 j) → (∀ (N : Nat → Int → Int) (k : Int), (∀ x, x ≠ 53 → N x = M x) → (∀ j, j < 7 → N 53 j = M 53 j) → (∀ j, 0 ≤ j → j < 7 → N 53 (7 + j) = td0 0 j) → mx_E S mX7_valley 100 [some (.ref 48), some (.int (iI z1)), some (.int (iI k))] [] (f, mx_SH, N, L, Rf) 0 0 P PX) → mx_E S mX7_valley 50 [some (.ref 48), some (.int (iI z1)), some (.int (iI k))] [] (f, mx_SH, N, L, Rf) 0 0 P PX := by
  intro kk
  induction kk with
  | zero => 
    intro k N g0 g1 q1 q2 q3 hK
    refine ms_iload_n dX7_valley_50 rfl ?_
    refine mi_bipush dX7_valley_51 (by decide) ?_
    refine mi_icmp_ge (tgt := 100) dX7_valley_53 (by decide) (fun c_53 => ?_) (fun c_53 => ?_)
    · exact hK N k q1 q2 (fun j j0 j1 => q3 j j0 (by omega))
    · exact absurd c_53 (by omega)
  | succ kk ih => 
    intro k N g0 g1 q1 q2 q3 hK
    refine ms_iload_n dX7_valley_50 rfl ?_
    refine mi_bipush dX7_valley_51 (by decide) ?_
    refine mi_icmp_ge (tgt := 100) dX7_valley_53 (by decide) (fun c_53 => ?_) (fun c_53 => ?_)
    · exact absurd c_53 (by omega)
    · refine ms_aload_n dX7_valley_56 rfl ?_
      refine ms_getR dX7_valley_57 (fo_X7_43 rfl) (by first | rfl | assumption) rfl (by first | assumption | exact rf_48_5 hR ) ?_
      refine mi_bipush dX7_valley_60 (by decide) ?_
      refine ms_iload_n dX7_valley_62 rfl ?_
      refine mi_iadd dX7_valley_63 ?_
      refine ms_iload_n dX7_valley_64 rfl ?_
      refine mi_if_ne (tgt := 73) dX7_valley_65 (by decide) (fun c_65 => ?_) (fun c_65 => ?_)
      · refine ms_iload_n dX7_valley_73 rfl ?_
        refine mi_iconst dX7_valley_74 ?_
        refine mi_icmp_ne (tgt := 82) dX7_valley_75 (by decide) (fun c_75 => ?_) (fun c_75 => ?_)
        · refine ms_iload_n dX7_valley_82 rfl ?_
          refine mi_iconst dX7_valley_83 ?_
          refine mi_icmp_ne (tgt := 92) dX7_valley_84 (by decide) (fun c_84 => ?_) (fun c_84 => ?_)
          · refine mi_iconst dX7_valley_92 ?_
            refine ms_iast dX7_valley_93 (by first | rfl | assumption) ?_
            refine mi_iinc dX7_valley_94 rfl (by decide) rfl ?_
            dsimp only [List.set, Nat.reduceAdd]
            refine ms_goto (tgt := 50) dX7_valley_97 (by decide) ?_
            refine ih (k + 1) _ (by omega) (by omega) (fun x hx => by rw [up_n _ _ hx]; exact q1 x hx) (fun j hj => by rw [up_s, iu_n _ _ (by omega)]; exact q2 j hj) (fun j j0 j1 => ?_) hK
            rw [up_s]
            by_cases e : j = k
            · rw [e, iu_s]
              show _ = (if k = 0 then (12 : Int) else if k = 2 then 1 else if k = 5 then 40 else 0)
              first | (rw [if_pos (by omega)]; done) | (rw [if_neg (by omega), if_pos (by omega)]; done) | (rw [if_neg (by omega), if_neg (by omega), if_pos (by omega)]; done) | (rw [if_neg (by omega), if_neg (by omega), if_neg (by omega)]; done)
            · rw [iu_n _ _ (by omega)]; exact q3 j j0 (by omega)
          · refine mi_bipush dX7_valley_87 (by decide) ?_
            refine ms_goto (tgt := 93) dX7_valley_89 (by decide) ?_
            refine ms_iast dX7_valley_93 (by first | rfl | assumption) ?_
            refine mi_iinc dX7_valley_94 rfl (by decide) rfl ?_
            dsimp only [List.set, Nat.reduceAdd]
            refine ms_goto (tgt := 50) dX7_valley_97 (by decide) ?_
            refine ih (k + 1) _ (by omega) (by omega) (fun x hx => by rw [up_n _ _ hx]; exact q1 x hx) (fun j hj => by rw [up_s, iu_n _ _ (by omega)]; exact q2 j hj) (fun j j0 j1 => ?_) hK
            rw [up_s]
            by_cases e : j = k
            · rw [e, iu_s]
              show _ = (if k = 0 then (12 : Int) else if k = 2 then 1 else if k = 5 then 40 else 0)
              first | (rw [if_pos (by omega)]; done) | (rw [if_neg (by omega), if_pos (by omega)]; done) | (rw [if_neg (by omega), if_neg (by omega), if_pos (by omega)]; done) | (rw [if_neg (by omega), if_neg (by omega), if_neg (by omega)]; done)
            · rw [iu_n _ _ (by omega)]; exact q3 j j0 (by omega)
        · refine mi_iconst dX7_valley_78 ?_
          refine ms_goto (tgt := 93) dX7_valley_79 (by decide) ?_
          refine ms_iast dX7_valley_93 (by first | rfl | assumption) ?_
          refine mi_iinc dX7_valley_94 rfl (by decide) rfl ?_
          dsimp only [List.set, Nat.reduceAdd]
          refine ms_goto (tgt := 50) dX7_valley_97 (by decide) ?_
          refine ih (k + 1) _ (by omega) (by omega) (fun x hx => by rw [up_n _ _ hx]; exact q1 x hx) (fun j hj => by rw [up_s, iu_n _ _ (by omega)]; exact q2 j hj) (fun j j0 j1 => ?_) hK
          rw [up_s]
          by_cases e : j = k
          · rw [e, iu_s]
            show _ = (if k = 0 then (12 : Int) else if k = 2 then 1 else if k = 5 then 40 else 0)
            first | (rw [if_pos (by omega)]; done) | (rw [if_neg (by omega), if_pos (by omega)]; done) | (rw [if_neg (by omega), if_neg (by omega), if_pos (by omega)]; done) | (rw [if_neg (by omega), if_neg (by omega), if_neg (by omega)]; done)
          · rw [iu_n _ _ (by omega)]; exact q3 j j0 (by omega)
      · refine mi_bipush dX7_valley_68 (by decide) ?_
        refine ms_goto (tgt := 93) dX7_valley_70 (by decide) ?_
        refine ms_iast dX7_valley_93 (by first | rfl | assumption) ?_
        refine mi_iinc dX7_valley_94 rfl (by decide) rfl ?_
        dsimp only [List.set, Nat.reduceAdd]
        refine ms_goto (tgt := 50) dX7_valley_97 (by decide) ?_
        refine ih (k + 1) _ (by omega) (by omega) (fun x hx => by rw [up_n _ _ hx]; exact q1 x hx) (fun j hj => by rw [up_s, iu_n _ _ (by omega)]; exact q2 j hj) (fun j j0 j1 => ?_) hK
        rw [up_s]
        by_cases e : j = k
        · rw [e, iu_s]
          show _ = (if k = 0 then (12 : Int) else if k = 2 then 1 else if k = 5 then 40 else 0)
          first | (rw [if_pos (by omega)]; done) | (rw [if_neg (by omega), if_pos (by omega)]; done) | (rw [if_neg (by omega), if_neg (by omega), if_pos (by omega)]; done) | (rw [if_neg (by omega), if_neg (by omega), if_neg (by omega)]; done)
        · rw [iu_n _ _ (by omega)]; exact q3 j j0 (by omega)

set_option maxHeartbeats 4000000 in
set_option maxRecDepth 100000 in
theorem k_X7_valley {S : mx_Sc} {f : Bool} {M : Nat → Int → Int} {L : Nat → Nat → Int64} {Rf : Nat → Nat → Option Nat} (hR : mx_rf Rf) (hrs : (∀ k : Nat, k < 5 → Rf 49 k = some (1001 + (1 + k))) ∧ ∀ k : Nat, k < 4 → Rf 50 k = some (1001 + (6 + k))) (hB : ∀ i, 0 ≤ i → i < 500 → 0 ≤ M 62 i ∧ M 62 i ≤ 255) (hcs : mcs M) (htl : 0 ≤ M 48 15 ∧ M 48 15 ≤ 500) (hrf : 0 ≤ M 61 0 ∧ M 61 0 ≤ 1000000) {k : Int} (hk32 : -2147483648 ≤ k ∧ k ≤ 2147483647) (hc : 0 ≤ k ∧ k ≤ M 48 15) : mx_C S mX7_valley [.ref 48, .int (iI k)] (f, mx_SH, M, L, Rf) 0 0 (fun v9 h9 => ∃ N, h9 = (f, mx_SH, N, L, Rf) ∧ N 48 4 = 0 ∧ N 48 15 = 0 ∧
  ((∃ c q, pAll (M 62) k (k.toNat + 1) (sk (M 62) k 0) td0 (fun _ => false) true = .inl (c, q) ∧ (1 ≤ c ∧ c ≤ 5) ∧ v9 = some (.int (iI c)) ∧ (∀ x, x ≠ 48 → x ≠ 61 → (x < 53 ∨ 60 < x) → N x = M x) ∧ (∀ k, k < 7 → N 53 k = M 53 k) ∧ (∀ k, k < 6 → N 54 k = M 54 k ∧ N 55 k = M 55 k ∧ N 57 k = M 57 k) ∧ (∀ k, k < 18 → N 56 k = M 56 k) ∧ (∀ k, k < 10 → N 58 k = M 58 k ∧ N 59 k = M 59 k ∧ N 60 k = M 60 k) ∧ N 48 24 = q ∧ (∀ k, 24 < k → N 48 k = M 48 k) ∧ N 61 = iu (M 61) 0 (M 61 0 + 1)) ∨
   (∃ T, pAll (M 62) k (k.toNat + 1) (sk (M 62) k 0) td0 (fun _ => false) true = .inr T ∧ v9 = some (.int (iI 0)) ∧ (∀ x, x ≠ 48 → x ≠ 63 → x ≠ 69 → (x < 53 ∨ 60 < x) → N x = M x) ∧ N 48 24 = -1 ∧ N 48 29 = 0 ∧ N 48 41 = 0 ∧ td_ok T ∧ (∀ k, 0 ≤ k → k < 7 → N 53 k = T 0 k) ∧ (∀ l, 0 ≤ l → l < T 0 1 → N 54 l = T 1 l ∧ N 55 l = T 2 l ∧ N 57 l = T 3 l) ∧ (∀ i, 0 ≤ i → i < 3 * T 0 1 → N 56 i = T 4 i) ∧ (∀ f, 0 ≤ f → f < T 0 6 → N 58 f = T 5 f ∧ N 59 f = T 6 f ∧ N 60 f = T 7 f) ∧ (∀ i, 0 ≤ i → i < 30 → N 63 i = anv (T 0 1) (T 4) i) ∧ (∀ i, 0 ≤ i → i < 18 → N 69 i = N 63 i) ∧ ∀ i, 18 ≤ i → N 69 i = M 69 i))) (fun _ _ => False) := by
  refine mx_C_of (by decide) (by simp [Value.category]) (Nat.le_of_ble_eq_true rfl) rfl ?_
  show mx_E S mX7_valley 0 [some (.ref 48), some (.int (iI k)), none] [] (f, mx_SH, M, L, Rf) 0 0 _ _
  refine ms_aload_n dX7_valley_0 rfl ?_
  refine mi_iconst dX7_valley_1 ?_
  refine ms_putI (z := 4) dX7_valley_2 (fo_X7_131 rfl) (by first | rfl | assumption) rfl rfl rfl ?_
  refine ms_iload_n dX7_valley_5 rfl ?_
  refine mi_if_lt (tgt := 17) dX7_valley_6 (by decide) (fun c_6 => ?_) (fun c_6 => ?_)
  · exact absurd c_6 (by omega)
  · refine ms_iload_n dX7_valley_9 rfl ?_
    refine ms_aload_n dX7_valley_10 rfl ?_
    refine ms_getI (z := 15) dX7_valley_11 (fo_X7_138 rfl) (by first | rfl | assumption) rfl rfl ?_
    have h15 : va_up M 48 (iu (M 48) 4 0) 48 15 = M 48 15 := by rw [up_s, iu_n _ _ (by decide)]
    refine mi_icmp_le (tgt := 23) dX7_valley_14 (by decide) (fun c_14 => ?_) (fun c_14 => ?_)
    · refine ms_aload_n dX7_valley_23 rfl ?_
      refine mi_iconst dX7_valley_24 ?_
      refine ms_putI (z := 15) dX7_valley_25 (fo_X7_138 rfl) (by first | rfl | assumption) rfl rfl rfl ?_
      refine ms_aload_n dX7_valley_28 rfl ?_
      refine ms_iload_n dX7_valley_29 rfl ?_
      refine ms_putI (z := 17) dX7_valley_30 (fo_X7_141 rfl) (by first | rfl | assumption) rfl rfl rfl ?_
      refine ms_aload_n dX7_valley_33 rfl ?_
      refine mi_iconst dX7_valley_34 ?_
      refine ms_putI (z := 16) dX7_valley_35 (fo_X7_144 rfl) (by first | rfl | assumption) rfl rfl rfl ?_
      refine ms_aload_n dX7_valley_38 rfl ?_
      refine mi_iconst dX7_valley_39 ?_
      refine ms_putI (z := 22) dX7_valley_40 (fo_X7_176 rfl) (by first | rfl | assumption) rfl rfl rfl ?_
      refine ms_aload_n dX7_valley_43 rfl ?_
      refine mi_iconst dX7_valley_44 ?_
      refine ms_putI (z := 24) dX7_valley_45 (fo_X7_73 rfl) (by first | rfl | assumption) rfl rfl rfl ?_
      refine mx_gen (fun N1 => (∀ x, x ≠ 48 → N1 x = M x) ∧ N1 48 4 = 0 ∧ N1 48 15 = 0 ∧ N1 48 17 = k ∧ N1 48 16 = 0 ∧ N1 48 22 = 0 ∧ N1 48 24 = -1 ∧ ∀ j, 24 < j → N1 48 j = M 48 j) ⟨fun x hx => ?_, ?_, ?_, ?_, ?_, ?_, ?_, fun j hj => ?_⟩ (fun N1 hN1 => ?_)
      · simp only [up_n _ _ hx]
      · simp [up_s, iu]
      · simp [up_s, iu]
      · simp [up_s, iu]
      · simp [up_s, iu]
      · simp [up_s, iu]
      · simp [up_s, iu]
      · simp only [up_s]
        rw [iu_n _ _ (by omega), iu_n _ _ (by omega), iu_n _ _ (by omega), iu_n _ _ (by omega), iu_n _ _ (by omega), iu_n _ _ (by omega)]
      obtain ⟨m1, m4, m15, m17, m16, m22, m24, mj⟩ := hN1
      refine mi_iconst dX7_valley_48 ?_
      refine ms_istore_n dX7_valley_49 (by decide) rfl ?_
      dsimp only [List.set, Nat.reduceAdd]
      refine l_X7_v0 (S := S) (f := f) (L := L) (M := N1) (P := (fun v9 h9 => ∃ N, h9 = (f, mx_SH, N, L, Rf) ∧ N 48 4 = 0 ∧ N 48 15 = 0 ∧
        ((∃ c q, pAll (M 62) k (k.toNat + 1) (sk (M 62) k 0) td0 (fun _ => false) true = .inl (c, q) ∧ (1 ≤ c ∧ c ≤ 5) ∧ v9 = some (.int (iI c)) ∧ (∀ x, x ≠ 48 → x ≠ 61 → (x < 53 ∨ 60 < x) → N x = M x) ∧ (∀ k, k < 7 → N 53 k = M 53 k) ∧ (∀ k, k < 6 → N 54 k = M 54 k ∧ N 55 k = M 55 k ∧ N 57 k = M 57 k) ∧ (∀ k, k < 18 → N 56 k = M 56 k) ∧ (∀ k, k < 10 → N 58 k = M 58 k ∧ N 59 k = M 59 k ∧ N 60 k = M 60 k) ∧ N 48 24 = q ∧ (∀ k, 24 < k → N 48 k = M 48 k) ∧ N 61 = iu (M 61) 0 (M 61 0 + 1)) ∨
         (∃ T, pAll (M 62) k (k.toNat + 1) (sk (M 62) k 0) td0 (fun _ => false) true = .inr T ∧ v9 = some (.int (iI 0)) ∧ (∀ x, x ≠ 48 → x ≠ 63 → x ≠ 69 → (x < 53 ∨ 60 < x) → N x = M x) ∧ N 48 24 = -1 ∧ N 48 29 = 0 ∧ N 48 41 = 0 ∧ td_ok T ∧ (∀ k, 0 ≤ k → k < 7 → N 53 k = T 0 k) ∧ (∀ l, 0 ≤ l → l < T 0 1 → N 54 l = T 1 l ∧ N 55 l = T 2 l ∧ N 57 l = T 3 l) ∧ (∀ i, 0 ≤ i → i < 3 * T 0 1 → N 56 i = T 4 i) ∧ (∀ f, 0 ≤ f → f < T 0 6 → N 58 f = T 5 f ∧ N 59 f = T 6 f ∧ N 60 f = T 7 f) ∧ (∀ i, 0 ≤ i → i < 30 → N 63 i = anv (T 0 1) (T 4) i) ∧ (∀ i, 0 ≤ i → i < 18 → N 69 i = N 63 i) ∧ ∀ i, 18 ≤ i → N 69 i = M 69 i)))) (PX := fun _ _ => False) (z1 := k) hR 7 0 N1 (by omega) (by omega) (fun _ _ => rfl) (fun _ _ => rfl) (fun j j0 j1 => by omega) (fun N2 k9 r1 r2 r3 => ?_)
      have r48 : N2 48 = N1 48 := r1 48 (by decide)
      have r62 : N2 62 = M 62 := by rw [r1 62 (by decide)]; exact m1 62 (by decide)
      refine ms_aload_n dX7_valley_100 rfl ?_
      refine ms_callV0 (ci := 7) (r := (RX7, TX7, 48)) dX7_valley_101 cv_X7_valley_X7_stepOn (k_X7_stepOn (M := N2) hR (n := k) (by omega) (by rw [r62]; exact hB) (by rw [r48]; exact m17) (by rw [r48, m16]; omega)) rfl rfl (by first | rfl | assumption) (Nat.le_of_ble_eq_true rfl) rfl (fun _ _ z => z.elim) (fun v9 h9 hp9 => ?_)
      obtain ⟨N3, rfl, rfl, a1, a2⟩ := hp9
      rw [r62, r48, m16] at a2
      have e3 : N3 62 = M 62 := (a1.1 62 (by decide)).trans r62
      have hG3 : mdG N3 k (sk (M 62) k 0) td0 := ⟨a2, by rw [a1.2 22 (by omega), r48]; exact m22, tq_0 (fun j j0 j1 => by rw [mr_r0, a1.1 53 (by decide)]; exact r3 j j0 j1), td0_ok⟩
      have h03 : ∀ x, x ≠ 48 → (x < 53 ∨ 60 < x) → N3 x = M x := fun x x0 x1 => by rw [a1.1 x x0, r1 x (by omega)]; exact m1 x x0
      refine mi_iconst dX7_valley_104 ?_
      refine ms_istore_n dX7_valley_105 (by decide) rfl ?_
      dsimp only [List.set, Nat.reduceAdd]
      refine l_X7_vl (S := S) (f := f) (L := L) (P := (fun v9 h9 => ∃ N, h9 = (f, mx_SH, N, L, Rf) ∧ N 48 4 = 0 ∧ N 48 15 = 0 ∧
        ((∃ c q, pAll (M 62) k (k.toNat + 1) (sk (M 62) k 0) td0 (fun _ => false) true = .inl (c, q) ∧ (1 ≤ c ∧ c ≤ 5) ∧ v9 = some (.int (iI c)) ∧ (∀ x, x ≠ 48 → x ≠ 61 → (x < 53 ∨ 60 < x) → N x = M x) ∧ (∀ k, k < 7 → N 53 k = M 53 k) ∧ (∀ k, k < 6 → N 54 k = M 54 k ∧ N 55 k = M 55 k ∧ N 57 k = M 57 k) ∧ (∀ k, k < 18 → N 56 k = M 56 k) ∧ (∀ k, k < 10 → N 58 k = M 58 k ∧ N 59 k = M 59 k ∧ N 60 k = M 60 k) ∧ N 48 24 = q ∧ (∀ k, 24 < k → N 48 k = M 48 k) ∧ N 61 = iu (M 61) 0 (M 61 0 + 1)) ∨
         (∃ T, pAll (M 62) k (k.toNat + 1) (sk (M 62) k 0) td0 (fun _ => false) true = .inr T ∧ v9 = some (.int (iI 0)) ∧ (∀ x, x ≠ 48 → x ≠ 63 → x ≠ 69 → (x < 53 ∨ 60 < x) → N x = M x) ∧ N 48 24 = -1 ∧ N 48 29 = 0 ∧ N 48 41 = 0 ∧ td_ok T ∧ (∀ k, 0 ≤ k → k < 7 → N 53 k = T 0 k) ∧ (∀ l, 0 ≤ l → l < T 0 1 → N 54 l = T 1 l ∧ N 55 l = T 2 l ∧ N 57 l = T 3 l) ∧ (∀ i, 0 ≤ i → i < 3 * T 0 1 → N 56 i = T 4 i) ∧ (∀ f, 0 ≤ f → f < T 0 6 → N 58 f = T 5 f ∧ N 59 f = T 6 f ∧ N 60 f = T 7 f) ∧ (∀ i, 0 ≤ i → i < 30 → N 63 i = anv (T 0 1) (T 4) i) ∧ (∀ i, 0 ≤ i → i < 18 → N 69 i = N 63 i) ∧ ∀ i, 18 ≤ i → N 69 i = M 69 i)))) (PX := fun _ _ => False) hR (n := k) (by omega) hrs (k.toNat + 1) N3 0 (sk (M 62) k 0) td0 (fun _ => false) true (by rw [e3]; exact hB) (fun w w0 w1 => by rw [h03 51 (by decide) (by omega), h03 52 (by decide) (by omega)]; exact hcs w w0 w1) (by have := a2.2.2.2.2.2.2; omega) hG3 (by decide) (fun j j0 j1 => ?_) (by simp) (fun _ => rfl) (fun N4 s2 y1 y2 => ?_)
      · rw [show ob 0 j = 0 by unfold ob; rw [Int.zero_ediv]; rfl]
        simp
      · rw [e3] at y2
        have hx : ∀ x, x ≠ 48 → (x < 53 ∨ 60 < x) → N4 x = M x := fun x x0 x1 => by rw [y1.1 x x0 x1]; exact h03 x x0 x1
        have f48 : ∀ j, (j < 16 ∨ j = 17 ∨ 23 < j) → N4 48 j = N1 48 j := fun j hj => by rw [y1.2.2.2.2.2 j hj, a1.2 j (by omega), r48]
        cases e : pAll (M 62) k (k.toNat + 1) (sk (M 62) k 0) td0 (fun _ => false) true with
        | inl x =>
          obtain ⟨c, q⟩ := x
          rw [e] at y2
          have hc0 := y2.1
          have hcb := y2.2.2
          refine ms_aload_n dX7_valley_129 rfl ?_
          refine ms_getI (z := 22) dX7_valley_130 (fo_X7_176 rfl) (by first | rfl | assumption) rfl rfl ?_
          refine mi_if_eq (tgt := 159) dX7_valley_133 (by decide) (fun c_133 => ?_) (fun c_133 => ?_)
          · exact absurd c_133 (by omega)
          · refine ms_aload_n dX7_valley_136 rfl ?_
            refine ms_aload_n dX7_valley_137 rfl ?_
            refine ms_getI (z := 23) dX7_valley_138 (fo_X7_179 rfl) (by first | rfl | assumption) rfl rfl ?_
            refine ms_putI (z := 24) dX7_valley_141 (fo_X7_73 rfl) (by first | rfl | assumption) rfl rfl rfl ?_
            refine ms_aload_n dX7_valley_144 rfl ?_
            refine ms_getR dX7_valley_145 (fo_X7_67 rfl) (by first | rfl | assumption) rfl (by first | assumption | exact rf_48_13 hR ) ?_
            have h61 : va_up N4 48 (iu (N4 48) 24 (N4 48 23)) 61 = M 61 := by rw [up_n _ _ (by decide)]; exact hx 61 (by decide) (by omega)
            refine mi_iconst dX7_valley_148 ?_
            refine ms_dup2 dX7_valley_149 rfl rfl ?_
            refine ms_iald dX7_valley_150 (by first | rfl | assumption) ?_
            refine mi_iconst dX7_valley_151 ?_
            refine mi_iadd dX7_valley_152 ?_
            refine ms_iast dX7_valley_153 (by first | rfl | assumption) ?_
            refine ms_aload_n dX7_valley_154 rfl ?_
            refine ms_getI (z := 22) dX7_valley_155 (fo_X7_176 rfl) (by first | rfl | assumption) rfl rfl ?_
            refine ms_ret dX7_valley_158 rfl ?_ (by simp)
            have w48 : ∀ g, va_up (va_up N4 48 (iu (N4 48) 24 (N4 48 23))) 61 g 48 = iu (N4 48) 24 (N4 48 23) := fun g => by rw [up_n _ _ (by decide), up_s]
            have wx : ∀ g x, x ≠ 48 → x ≠ 61 → va_up (va_up N4 48 (iu (N4 48) 24 (N4 48 23))) 61 g x = N4 x := fun g x x0 x1 => by rw [up_n _ _ x1, up_n _ _ x0]
            refine ⟨_, rfl, ?_, ?_, Or.inl ⟨c, q, rfl, hcb, ?_, fun x x0 x1 x2 => ?_, fun j hj => ?_, fun j hj => ?_, fun j hj => ?_, fun j hj => ?_, ?_, fun j hj => ?_, ?_⟩⟩
            · rw [w48, iu_n _ _ (by decide), f48 4 (by omega)]; exact m4
            · rw [w48, iu_n _ _ (by decide), f48 15 (by omega)]; exact m15
            · rw [w48, iu_n _ _ (by decide), hc0]
            · rw [wx _ x x0 x1]; exact hx x x0 x2
            · rw [wx _ 53 (by decide) (by decide), y1.2.1 j hj, a1.1 53 (by decide), r2 j hj, m1 53 (by decide)]
            · rw [wx _ 54 (by decide) (by decide), wx _ 55 (by decide) (by decide), wx _ 57 (by decide) (by decide), (y1.2.2.1 j hj).1, (y1.2.2.1 j hj).2.1, (y1.2.2.1 j hj).2.2, a1.1 54 (by decide), a1.1 55 (by decide), a1.1 57 (by decide), r1 54 (by decide), r1 55 (by decide), r1 57 (by decide), m1 54 (by decide), m1 55 (by decide), m1 57 (by decide)]; exact ⟨rfl, rfl, rfl⟩
            · rw [wx _ 56 (by decide) (by decide), y1.2.2.2.1 j hj, a1.1 56 (by decide), r1 56 (by decide), m1 56 (by decide)]
            · rw [wx _ 58 (by decide) (by decide), wx _ 59 (by decide) (by decide), wx _ 60 (by decide) (by decide), (y1.2.2.2.2.1 j hj).1, (y1.2.2.2.2.1 j hj).2.1, (y1.2.2.2.2.1 j hj).2.2, a1.1 58 (by decide), a1.1 59 (by decide), a1.1 60 (by decide), r1 58 (by decide), r1 59 (by decide), r1 60 (by decide), m1 58 (by decide), m1 59 (by decide), m1 60 (by decide)]; exact ⟨rfl, rfl, rfl⟩
            · rw [w48, iu_s]; exact y2.2.1
            · rw [w48, iu_n _ _ (by omega), f48 j (by omega)]; exact mj j hj
            · rw [up_s, h61]
        | inr T =>
          rw [e] at y2
          have hw22 := y2.1
          have h8 : N4 53 8 = T 0 1 := y2.2.1.1 1 (by decide) (by decide)
          have o1 : 0 ≤ T 0 1 ∧ T 0 1 ≤ 6 := y2.2.2.1.2.1
          refine ms_aload_n dX7_valley_129 rfl ?_
          refine ms_getI (z := 22) dX7_valley_130 (fo_X7_176 rfl) (by first | rfl | assumption) rfl rfl ?_
          refine mi_if_eq (tgt := 159) dX7_valley_133 (by decide) (fun c_133 => ?_) (fun c_133 => ?_)
          · refine ms_aload_n dX7_valley_159 rfl ?_
            refine ms_callV0 (ci := 7) (r := (RX7, TX7, 48)) dX7_valley_160 cv_X7_valley_X7_take (k_X7_take (M := N4) hR (by rw [h8]; exact o1)) rfl rfl (by first | rfl | assumption) (Nat.le_of_ble_eq_true rfl) rfl (fun _ _ z => z.elim) (fun v9 h9 hp9 => ?_)
            obtain ⟨N5, rfl, rfl, t1, t2, t3, t4, t5, t6, t7, t8, t9, t10, t11⟩ := hp9
            refine mi_iconst dX7_valley_163 ?_
            refine ms_ret dX7_valley_164 rfl ?_ (by simp)
            have hq := y2.2.1
            have o6 : 0 ≤ T 0 6 ∧ T 0 6 ≤ 10 := y2.2.2.1.2.2.2.2.2.2.1
            have l1 : N5 53 1 = T 0 1 := by rw [t5 1 (by decide) (by decide)]; exact h8
            refine ⟨N5, rfl, by rw [t2 4 (by decide) (by decide), f48 4 (by omega)]; exact m4, by rw [t2 15 (by decide) (by decide), f48 15 (by omega)]; exact m15, Or.inr ⟨T, rfl, rfl, fun x x0 x1 x2 x3 => by rw [t1 x x0 x1 x2 x3]; exact hx x x0 x3, by rw [t2 24 (by decide) (by decide), f48 24 (by omega)]; exact m24, t3, t4, y2.2.2, fun j j0 j1 => by rw [t5 j j0 j1]; exact hq.1 j j0 j1, fun l l0 l9 => ?_, fun i i0 i1 => ?_, fun g g0 g1 => ?_, fun i i0 i1 => ?_, t10, fun i i0 => by rw [t11 i i0, hx 69 (by decide) (by omega)]⟩⟩
            · have h9 := t6 l l0 (by omega)
              rw [h9.1, h9.2.1, h9.2.2]
              exact hq.2.1 l l0 l9
            · rw [t7 i i0 (by omega)]; exact hq.2.2.1 i i0 i1
            · have h9 := t8 g g0 (by omega)
              rw [h9.1, h9.2.1, h9.2.2]
              exact hq.2.2.2 g g0 g1
            · rw [t9 i i0 i1, l1]
              unfold anv
              split
              · split
                · rename_i z1 z2
                  rw [t7 i i0 z1]; exact hq.2.2.1 i i0 z2
                · rfl
              · rfl
          · exact absurd y2.1 c_133
    · exact absurd c_14 (by rw [up_s, iu_n _ _ (by decide)]; omega)

set_option maxHeartbeats 4000000 in
set_option maxRecDepth 100000 in
theorem k_X7_valley_x {S : mx_Sc} {f : Bool} {M : Nat → Int → Int} {L : Nat → Nat → Int64} {Rf : Nat → Nat → Option Nat} (hR : mx_rf Rf) (htl : 0 ≤ M 48 15 ∧ M 48 15 ≤ 500) {k : Int} (hk32 : -2147483648 ≤ k ∧ k ≤ 2147483647) (hc : ¬ (0 ≤ k ∧ k ≤ M 48 15)) : mx_C S mX7_valley [.ref 48, .int (iI k)] (f, mx_SH, M, L, Rf) 0 0 (fun v9 h9 => ∃ N, h9 = (f, mx_SH, N, L, Rf) ∧ v9 = some (.int (iI 0)) ∧ (∀ x, x ≠ 48 → N x = M x) ∧ N 48 4 = 1 ∧ ∀ k, k ≠ 4 → N 48 k = M 48 k) (fun _ _ => False) := by
  refine mx_C_of (by decide) (by simp [Value.category]) (Nat.le_of_ble_eq_true rfl) rfl ?_
  show mx_E S mX7_valley 0 [some (.ref 48), some (.int (iI k)), none] [] (f, mx_SH, M, L, Rf) 0 0 _ _
  refine ms_aload_n dX7_valley_0 rfl ?_
  refine mi_iconst dX7_valley_1 ?_
  refine ms_putI (z := 4) dX7_valley_2 (fo_X7_131 rfl) (by first | rfl | assumption) rfl rfl rfl ?_
  refine ms_iload_n dX7_valley_5 rfl ?_
  refine mi_if_lt (tgt := 17) dX7_valley_6 (by decide) (fun c_6 => ?_) (fun c_6 => ?_)
  · refine ms_aload_n dX7_valley_17 rfl ?_
    refine mi_iconst dX7_valley_18 ?_
    refine ms_callV1 (ci := 7) (r := (RX7, TX7, 48)) dX7_valley_19 cv_X7_valley_X7_fail (k_X7_fail hR) rfl rfl (by first | rfl | assumption) (Nat.le_of_ble_eq_true rfl) rfl (fun _ _ z => z.elim) (fun v9 h9 hp9 => ?_)
    obtain ⟨rfl, rfl⟩ := hp9
    refine ms_ret dX7_valley_22 rfl ⟨_, rfl, rfl, fun x hx => by rw [up_n _ _ hx, up_n _ _ hx], by rw [up_s, iu_s], fun k hk => by rw [up_s, iu_n _ _ hk, up_s, iu_n _ _ hk]⟩ (by simp)
  · refine ms_iload_n dX7_valley_9 rfl ?_
    refine ms_aload_n dX7_valley_10 rfl ?_
    refine ms_getI (z := 15) dX7_valley_11 (fo_X7_138 rfl) (by first | rfl | assumption) rfl rfl ?_
    have h15 : va_up M 48 (iu (M 48) 4 0) 48 15 = M 48 15 := by rw [up_s, iu_n _ _ (by decide)]
    refine mi_icmp_le (tgt := 23) dX7_valley_14 (by decide) (fun c_14 => ?_) (fun c_14 => ?_)
    · exact absurd c_14 (by omega)
    · refine ms_aload_n dX7_valley_17 rfl ?_
      refine mi_iconst dX7_valley_18 ?_
      refine ms_callV1 (ci := 7) (r := (RX7, TX7, 48)) dX7_valley_19 cv_X7_valley_X7_fail (k_X7_fail hR) rfl rfl (by first | rfl | assumption) (Nat.le_of_ble_eq_true rfl) rfl (fun _ _ z => z.elim) (fun v9 h9 hp9 => ?_)
      obtain ⟨rfl, rfl⟩ := hp9
      refine ms_ret dX7_valley_22 rfl ⟨_, rfl, rfl, fun x hx => by rw [up_n _ _ hx, up_n _ _ hx], by rw [up_s, iu_s], fun k hk => by rw [up_s, iu_n _ _ hk, up_s, iu_n _ _ hk]⟩ (by simp)

set_option maxHeartbeats 4000000 in
set_option maxRecDepth 100000 in
theorem k_X7_fault {S : mx_Sc} {f : Bool} {M : Nat → Int → Int} {L : Nat → Nat → Int64} {Rf : Nat → Nat → Option Nat} (hR : mx_rf Rf) : mx_C S mX7_fault [.ref 48] (f, mx_SH, M, L, Rf) 0 0 (fun v9 h9 => h9 = (f, mx_SH, va_up M 48 (iu (M 48) 4 0), L, Rf) ∧ v9 = some (.int (iI (M 48 24)))) (fun _ _ => False) := by
  refine mx_C_of (by decide) (by simp [Value.category]) (Nat.le_of_ble_eq_true rfl) rfl ?_
  show mx_E S mX7_fault 0 [some (.ref 48)] [] (f, mx_SH, M, L, Rf) 0 0 _ _
  refine ms_aload_n dX7_fault_0 rfl ?_
  refine mi_iconst dX7_fault_1 ?_
  refine ms_putI (z := 4) dX7_fault_2 (fo_X7_131 rfl) (by first | rfl | assumption) rfl rfl rfl ?_
  refine ms_aload_n dX7_fault_5 rfl ?_
  refine ms_getI (z := 24) dX7_fault_6 (fo_X7_73 rfl) (by first | rfl | assumption) rfl rfl ?_
  refine ms_ret dX7_fault_9 rfl ⟨rfl, by rw [up_s, iu_n _ _ (by decide)]⟩ (by simp)

set_option maxHeartbeats 4000000 in
set_option maxRecDepth 100000 in
theorem k_X7_thrown {S : mx_Sc} {f : Bool} {M : Nat → Int → Int} {L : Nat → Nat → Int64} {Rf : Nat → Nat → Option Nat} (hR : mx_rf Rf) : mx_C S mX7_thrown [.ref 48] (f, mx_SH, M, L, Rf) 0 0 (fun v9 h9 => h9 = (f, mx_SH, M, L, Rf) ∧ v9 = some (.int (iI (M 48 4)))) (fun _ _ => False) := by
  refine mx_C_of (by decide) (by simp [Value.category]) (Nat.le_of_ble_eq_true rfl) rfl ?_
  show mx_E S mX7_thrown 0 [some (.ref 48)] [] (f, mx_SH, M, L, Rf) 0 0 _ _
  refine ms_aload_n dX7_thrown_0 rfl ?_
  refine ms_getI (z := 4) dX7_thrown_1 (fo_X7_131 rfl) (by first | rfl | assumption) rfl rfl ?_
  refine ms_ret dX7_thrown_4 rfl ⟨rfl, rfl⟩ (by simp)

