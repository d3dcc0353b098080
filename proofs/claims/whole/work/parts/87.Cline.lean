theorem nx_le {g : Int → Int} {n p : Int} (h : p ≤ n) : p ≤ nx g n p ∧ nx g n p ≤ n := by
  have h1 := te_b (g := g) h
  have h2 := nx_b (g := g) h
  omega
theorem pBody_ge {g : Int → Int} {n p w q : Int} {T T2 : td_T} (h : p ≤ n) (e : pBody g n p T w = .inr (q, T2)) : p ≤ q ∧ q ≤ n := by
  have h1 := nx_le (g := g) h
  have h2 := nx_le (g := g) h1.2
  have h3 := nx_le (g := g) h2.2
  unfold pBody at e
  split at e
  · unfold pKind at e
    split at e
    · cases e
    · split at e
      · cases e
      · split at e
        · cases e
        · cases e
          omega
  · split at e
    · unfold pLikes at e
      split at e
      · cases e
      · split at e
        · cases e
        · split at e
          · cases e
          · split at e
            · cases e
            · cases e
              omega
    · split at e
      · unfold pFog at e
        split at e
        · cases e
        · split at e
          · cases e
          · split at e
            · cases e
            · split at e
              · cases e
              · cases e
                omega
      · unfold pSet at e
        split at e
        · cases e
        · cases e
          omega
theorem pLine_gt {g : Int → Int} {n p q : Int} {T T2 : td_T} {sn : Int → Bool} {fs : Bool} (h : tk g n p ≠ 4) (e : pLine g n p T sn fs = .inr (q, T2)) : p < q ∧ q ≤ n := by
  have h0 := tk_lt h
  have h1 := nx_gt h
  have h2 := nx_le (g := g) (n := n) (p := p) (by omega)
  unfold pLine at e
  split at e
  · cases e
  · cases eb : pBody g n (nx g n p) T (wdn g n p) with
    | inl x => rw [eb] at e; cases e
    | inr x =>
      obtain ⟨q2, T3⟩ := x
      rw [eb] at e
      have h3 := pBody_ge h2.2 eb
      have h4 := nx_le (g := g) h3.2
      simp only [pEnd] at e
      split at e
      · cases e
      · cases e
        omega
theorem wdn_b (g : Int → Int) (n p : Int) (h : ∃ x, wdP g n p x) : -1 ≤ wdn g n p ∧ wdn g n p < 12 := by
  obtain ⟨x, hx⟩ := h
  rw [wdn_e hx]
  rcases hx with ⟨rfl, _⟩ | ⟨_, h1, h2, _⟩ <;> omega
theorem wdP_x (g : Int → Int) (n p : Int) : ∃ x, wdP g n p x := by
  by_cases h : tk g n p = 0
  · by_cases h2 : ∃ k, (0 ≤ k ∧ k < 12) ∧ spS g p (te g n p) (wsi k)
    · obtain ⟨k, h3, h4⟩ := h2
      exact ⟨k, Or.inr ⟨h, h3.1, h3.2, h4⟩⟩
    · exact ⟨-1, Or.inl ⟨rfl, Or.inr (fun k k0 k1 z => h2 ⟨k, ⟨k0, k1⟩, z⟩)⟩⟩
  · exact ⟨-1, Or.inl ⟨rfl, Or.inl h⟩⟩
set_option maxHeartbeats 4000000 in
set_option maxRecDepth 100000 in
theorem k_X1_readLine {S : mx_Sc} {f : Bool} {M : Nat → Int → Int} {L : Nat → Nat → Int64} {Rf : Nat → Nat → Option Nat} (hR : mx_rf Rf) {t : Nat} (ht : t = 29 ∨ t = 37) {n : Int} (hn : 0 ≤ n ∧ n ≤ 500) (hB : ∀ i, 0 ≤ i → i < 500 → 0 ≤ M 1 i ∧ M 1 i ≤ 255) (hin : Rf 45 9 = some t) {p : Int} {T : td_T} (hG : rdG M t n p T) {ln : Int} (hln : 0 ≤ ln ∧ ln ≤ 1000) {sn : Int → Bool} (hsn : snP M sn) (hfs : ln = 0 → T 0 1 = 0) : mx_C S mX1_readLine [.ref 45, .int (iI ln)] (f, mx_SH, M, L, Rf) 0 0 (fun v9 h9 => ∃ N, h9 = (f, mx_SH, N, L, Rf) ∧ v9 = none ∧ (∀ x, x ≠ 45 → (x < t ∨ t + 8 ≤ x) → N x = M x) ∧ rdR N t n (pLine (M 1) n p T sn (decide (ln = 0))) ∧ (∀ q T2, pLine (M 1) n p T sn (decide (ln = 0)) = .inr (q, T2) → snP N (fun w => if w = (wdn (M 1) n p) then true else sn w))) (fun _ _ => False) := by
  refine mx_C_of (by decide) (by simp [Value.category]) (Nat.le_of_ble_eq_true rfl) rfl ?_
  show mx_E S mX1_readLine 0 [some (.ref 45), some (.int (iI ln)), none, none] [] (f, mx_SH, M, L, Rf) 0 0 _ _
  have e00 : M t 0 = T 0 0 := hG.2.2.2.1.1 0 (by decide) (by decide)
  have e01 : M t 1 = T 0 1 := hG.2.2.2.1.1 1 (by decide) (by decide)
  have e06 : M t 6 = T 0 6 := hG.2.2.2.1.1 6 (by decide) (by decide)
  have o0 : 1 ≤ T 0 0 ∧ T 0 0 ≤ 30 := hG.2.2.2.2.1.1.1
  have o1 : 0 ≤ T 0 1 ∧ T 0 1 ≤ 6 := hG.2.2.2.2.1.1.2.1
  have o6 : 0 ≤ T 0 6 ∧ T 0 6 ≤ 10 := hG.2.2.2.2.1.1.2.2.2.2.2.2.1
  have hs0 : mx_SH[t]? = some (7, 14) := by rcases ht with rfl | rfl <;> rfl
  have hwb := wdn_b (M 1) n p (wdP_x _ _ _)
  have hS := hG.1
  have h5 := hS.2.1
  have h6 := hS.2.2.1
  have h0 := hS.2.2.2.2
  have ht9 := te_b (g := M 1) hS.2.2.2.2.2
  have hw0 := hG.2.1
  have hjb : 0 ≤ jdg T (wdn (M 1) n p) sn (decide (ln = 0)) ∧ jdg T (wdn (M 1) n p) sn (decide (ln = 0)) ≤ 5 := by
    unfold jdg
    repeat' split
    all_goals omega
  refine ms_aload_n dX1_readLine_0 rfl ?_
  refine ms_callV0 (ci := 1) (r := (RX1, TX1, 10)) dX1_readLine_1 cv_X1_readLine_X1_findWord (k_X1_findWord hR hn hB hS) rfl rfl (by first | rfl | assumption) (Nat.le_of_ble_eq_true rfl) rfl (fun _ _ z => z.elim) (fun v9 h9 hp9 => ?_)
  obtain ⟨rfl, rfl⟩ := hp9
  refine ms_istore_n dX1_readLine_4 (by decide) rfl ?_
  dsimp only [List.set, Nat.reduceAdd]
  refine ms_aload_n dX1_readLine_5 rfl ?_
  refine ms_iload_n dX1_readLine_6 rfl ?_
  refine ms_iload_n dX1_readLine_7 rfl ?_
  refine ms_callV2 (ci := 1) (r := (RX1, TX1, 10)) dX1_readLine_8 cv_X1_readLine_X1_judgeWord (k_X1_judge hR ht hn hB hin hG (w := (wdn (M 1) n p)) (ln := ln) hwb hln hsn) rfl rfl (by first | rfl | assumption) (Nat.le_of_ble_eq_true rfl) rfl (fun _ _ z => z.elim) (fun v9 h9 hp9 => ?_)
  obtain ⟨rfl, rfl⟩ := hp9
  refine ms_istore_n dX1_readLine_11 (by decide) rfl ?_
  dsimp only [List.set, Nat.reduceAdd]
  refine ms_iload_n dX1_readLine_12 rfl ?_
  refine mi_if_eq (tgt := 26) dX1_readLine_13 (by decide) (fun c_13 => ?_) (fun c_13 => ?_)
  · have hw12 : 0 ≤ (wdn (M 1) n p) ∧ (wdn (M 1) n p) < 12 := by
      refine ⟨?_, hwb.2⟩
      refine Classical.byContradiction fun z => ?_
      unfold jdg at c_13
      rw [if_pos (by omega)] at c_13
      omega
    refine ms_aload_n dX1_readLine_26 rfl ?_
    refine ms_dup dX1_readLine_27 rfl ?_
    refine ms_getI (z := 8) dX1_readLine_28 (fo_X1_43 rfl) (by first | rfl | assumption) rfl rfl ?_
    refine mi_iconst dX1_readLine_31 ?_
    refine ms_iload_n dX1_readLine_32 rfl ?_
    refine mi_ishl (2 ^ (wdn (M 1) n p).toNat) dX1_readLine_33 (bit_shl (by omega)) ?_
    refine mi_ior ((iI (M 45 8) ||| iI (2 ^ (wdn (M 1) n p).toNat)).toInt) dX1_readLine_34 (iI_ti _).symm ?_
    refine ms_putI (z := 8) dX1_readLine_35 (fo_X1_43 rfl) (by first | rfl | assumption) rfl rfl rfl ?_
    have u : ∀ j, j ≠ 45 → va_up M 45 (iu (M 45) 8 (iI (M 45 8) ||| iI (2 ^ (wdn (M 1) n p).toNat)).toInt) j = M j := fun j hj => up_n _ _ hj
    have w6 : ∀ k, k ≠ 8 → va_up M 45 (iu (M 45) 8 (iI (M 45 8) ||| iI (2 ^ (wdn (M 1) n p).toNat)).toInt) 45 k = M 45 k := fun k hk => by rw [up_s, iu_n _ _ hk]
    have w3 : ∀ k, k = 3 → va_up M 45 (iu (M 45) 8 (iI (M 45 8) ||| iI (2 ^ (wdn (M 1) n p).toNat)).toInt) 45 k = n := fun k hk => by rw [w6 k (by omega), hk]; exact hS.1
    refine ms_aload_n dX1_readLine_38 rfl ?_
    refine ms_callV0 (ci := 1) (r := (RX1, TX1, 10)) dX1_readLine_39 cv_X1_readLine_X1_advance (k_X1_advance (M := va_up M 45 (iu (M 45) 8 (iI (M 45 8) ||| iI (2 ^ (wdn (M 1) n p).toNat)).toInt)) hR hn (by rw [u 1 (by decide)]; exact hB) (w3 3 rfl) (by rw [w6 6 (by decide)]; omega)) rfl rfl (by first | rfl | assumption) (Nat.le_of_ble_eq_true rfl) rfl (fun _ _ z => z.elim) (fun v9 h9 hp9 => ?_)
    obtain ⟨N1, rfl, rfl, q1, q2⟩ := hp9
    rw [u 1 (by decide), w6 6 (by decide), h6] at q2
    obtain ⟨r1, r2, r3⟩ := q1.G ht (hG.w8 ht) q2
    rw [show sk (M 1) n (te (M 1) n p) = nx (M 1) n p from rfl] at r1
    have g1 : N1 1 = M 1 := (q1.1 1 (by decide)).trans (u 1 (by decide))
    have hB1 : ∀ i, 0 ≤ i → i < 500 → 0 ≤ N1 1 i ∧ N1 1 i ≤ 255 := by rw [g1]; exact hB
    refine ms_iload_n dX1_readLine_42 rfl ?_
    refine mi_iconst dX1_readLine_43 ?_
    refine mi_icmp_gt (tgt := 55) dX1_readLine_44 (by decide) (fun c_44 => ?_) (fun c_44 => ?_)
    · refine ms_iload_n dX1_readLine_55 rfl ?_
      refine mi_bipush dX1_readLine_56 (by decide) ?_
      refine mi_icmp_ne (tgt := 68) dX1_readLine_58 (by decide) (fun c_58 => ?_) (fun c_58 => ?_)
      · refine ms_iload_n dX1_readLine_68 rfl ?_
        refine mi_bipush dX1_readLine_69 (by decide) ?_
        refine mi_icmp_ne (tgt := 81) dX1_readLine_71 (by decide) (fun c_71 => ?_) (fun c_71 => ?_)
        · refine ms_aload_n dX1_readLine_81 rfl ?_
          refine ms_iload_n dX1_readLine_82 rfl ?_
          refine ms_callV1 (ci := 1) (r := (RX1, TX1, 10)) dX1_readLine_83 cv_X1_readLine_X1_readSetting (k_X1_readSetting (M := N1) hR ht hn hB1 hin r1 (w := (wdn (M 1) n p)) (by omega) (fun z => by unfold jdg at c_13; rw [if_neg (by omega), if_neg (by omega), if_neg (by omega), if_neg (by omega), if_pos z] at c_13; split at c_13; (rename_i z2; exact hfs (of_decide_eq_true z2)); omega)) rfl rfl (by first | rfl | assumption) (Nat.le_of_ble_eq_true rfl) rfl (fun _ _ z => z.elim) (fun v9 h9 hp9 => ?_)
          obtain ⟨N2, rfl, rfl, b1, b2⟩ := hp9
          have g2 : N2 1 = M 1 := (b1.1 1 (by decide) (by omega)).trans g1
          rw [g1] at b2
          have hbd : pBody (M 1) n (nx (M 1) n p) T (wdn (M 1) n p) = pSet (M 1) n (nx (M 1) n p) T (wdn (M 1) n p) := by unfold pBody; rw [if_neg (by omega), if_neg (by omega), if_neg (by omega)]
          rw [← hbd] at b2
          cases eb : pBody (M 1) n (nx (M 1) n p) T (wdn (M 1) n p) with
          | inl x =>
            obtain ⟨c9, q9⟩ := x
            rw [eb] at b2
            refine ms_conseq (fun v9 h9 hp => ?_) (fun _ _ z => z) (l_X1_rlF86 (S := S) (f := f) (L := L) (M := N2) hR ht hn (by rw [g2]; exact hB) hin b2)
            obtain ⟨N3, y1, y2, y3, y4⟩ := hp
            rw [g2] at y4
            refine ⟨N3, y1, y2, fun x x0 x1 => by rw [y3.1 x x0 x1, b1.1 x x0 x1, r2.1 x x0 x1, u x x0], ?_, ?_⟩
            · unfold pLine
              rw [if_neg (by omega), eb]
              exact y4
            · intro q T2 e
              unfold pLine at e
              rw [if_neg (by omega), eb] at e
              cases e
          | inr x =>
            obtain ⟨p9, T9⟩ := x
            rw [eb] at b2
            refine ms_conseq (fun v9 h9 hp => ?_) (fun _ _ z => z) (l_X1_rlG86 (S := S) (f := f) (L := L) (M := N2) hR ht hn (by rw [g2]; exact hB) hin b2)
            obtain ⟨N3, y1, y2, y3, y4⟩ := hp
            rw [g2] at y4
            refine ⟨N3, y1, y2, fun x x0 x1 => by rw [y3.1 x x0 x1, b1.1 x x0 x1, r2.1 x x0 x1, u x x0], ?_, ?_⟩
            · unfold pLine
              rw [if_neg (by omega), eb]
              exact y4
            · intro q T2 e w w0 w1
              rw [y3.2, b1.2, r2.2, up_s, iu_s, iI_ti, bit_or _ (by omega) (by omega), ← hsn w w0 w1]
              show (if w = (wdn (M 1) n p) then true else sn w) = _
              by_cases z : w = (wdn (M 1) n p)
              · rw [if_pos z, decide_eq_true z, Bool.or_true]
              · rw [if_neg z, decide_eq_false z, Bool.or_false]
        · refine ms_aload_n dX1_readLine_74 rfl ?_
          refine ms_callV0 (ci := 1) (r := (RX1, TX1, 10)) dX1_readLine_75 cv_X1_readLine_X1_readFog (k_X1_readFog (M := N1) hR ht hn hB1 hin r1 (by unfold jdg at c_13; rw [if_neg (by omega), if_neg (by omega), if_pos (by omega)] at c_13; split at c_13 <;> omega)) rfl rfl (by first | rfl | assumption) (Nat.le_of_ble_eq_true rfl) rfl (fun _ _ z => z.elim) (fun v9 h9 hp9 => ?_)
          obtain ⟨N2, rfl, rfl, b1, b2⟩ := hp9
          have g2 : N2 1 = M 1 := (b1.1 1 (by decide) (by omega)).trans g1
          rw [g1] at b2
          have hbd : pBody (M 1) n (nx (M 1) n p) T (wdn (M 1) n p) = pFog (M 1) n (nx (M 1) n p) T := by unfold pBody; rw [if_neg (by omega), if_neg (by omega), if_pos (by omega)]
          rw [← hbd] at b2
          refine ms_goto (tgt := 86) dX1_readLine_78 (by decide) ?_
          cases eb : pBody (M 1) n (nx (M 1) n p) T (wdn (M 1) n p) with
          | inl x =>
            obtain ⟨c9, q9⟩ := x
            rw [eb] at b2
            refine ms_conseq (fun v9 h9 hp => ?_) (fun _ _ z => z) (l_X1_rlF86 (S := S) (f := f) (L := L) (M := N2) hR ht hn (by rw [g2]; exact hB) hin b2)
            obtain ⟨N3, y1, y2, y3, y4⟩ := hp
            rw [g2] at y4
            refine ⟨N3, y1, y2, fun x x0 x1 => by rw [y3.1 x x0 x1, b1.1 x x0 x1, r2.1 x x0 x1, u x x0], ?_, ?_⟩
            · unfold pLine
              rw [if_neg (by omega), eb]
              exact y4
            · intro q T2 e
              unfold pLine at e
              rw [if_neg (by omega), eb] at e
              cases e
          | inr x =>
            obtain ⟨p9, T9⟩ := x
            rw [eb] at b2
            refine ms_conseq (fun v9 h9 hp => ?_) (fun _ _ z => z) (l_X1_rlG86 (S := S) (f := f) (L := L) (M := N2) hR ht hn (by rw [g2]; exact hB) hin b2)
            obtain ⟨N3, y1, y2, y3, y4⟩ := hp
            rw [g2] at y4
            refine ⟨N3, y1, y2, fun x x0 x1 => by rw [y3.1 x x0 x1, b1.1 x x0 x1, r2.1 x x0 x1, u x x0], ?_, ?_⟩
            · unfold pLine
              rw [if_neg (by omega), eb]
              exact y4
            · intro q T2 e w w0 w1
              rw [y3.2, b1.2, r2.2, up_s, iu_s, iI_ti, bit_or _ (by omega) (by omega), ← hsn w w0 w1]
              show (if w = (wdn (M 1) n p) then true else sn w) = _
              by_cases z : w = (wdn (M 1) n p)
              · rw [if_pos z, decide_eq_true z, Bool.or_true]
              · rw [if_neg z, decide_eq_false z, Bool.or_false]
      · refine ms_aload_n dX1_readLine_61 rfl ?_
        refine ms_callV0 (ci := 1) (r := (RX1, TX1, 10)) dX1_readLine_62 cv_X1_readLine_X1_readLikes (k_X1_readLikes (M := N1) hR ht hn hB1 hin r1) rfl rfl (by first | rfl | assumption) (Nat.le_of_ble_eq_true rfl) rfl (fun _ _ z => z.elim) (fun v9 h9 hp9 => ?_)
        obtain ⟨N2, rfl, rfl, b1, b2⟩ := hp9
        have g2 : N2 1 = M 1 := (b1.1 1 (by decide) (by omega)).trans g1
        rw [g1] at b2
        have hbd : pBody (M 1) n (nx (M 1) n p) T (wdn (M 1) n p) = pLikes (M 1) n (nx (M 1) n p) T := by unfold pBody; rw [if_neg (by omega), if_pos (by omega)]
        rw [← hbd] at b2
        refine ms_goto (tgt := 86) dX1_readLine_65 (by decide) ?_
        cases eb : pBody (M 1) n (nx (M 1) n p) T (wdn (M 1) n p) with
        | inl x =>
          obtain ⟨c9, q9⟩ := x
          rw [eb] at b2
          refine ms_conseq (fun v9 h9 hp => ?_) (fun _ _ z => z) (l_X1_rlF86 (S := S) (f := f) (L := L) (M := N2) hR ht hn (by rw [g2]; exact hB) hin b2)
          obtain ⟨N3, y1, y2, y3, y4⟩ := hp
          rw [g2] at y4
          refine ⟨N3, y1, y2, fun x x0 x1 => by rw [y3.1 x x0 x1, b1.1 x x0 x1, r2.1 x x0 x1, u x x0], ?_, ?_⟩
          · unfold pLine
            rw [if_neg (by omega), eb]
            exact y4
          · intro q T2 e
            unfold pLine at e
            rw [if_neg (by omega), eb] at e
            cases e
        | inr x =>
          obtain ⟨p9, T9⟩ := x
          rw [eb] at b2
          refine ms_conseq (fun v9 h9 hp => ?_) (fun _ _ z => z) (l_X1_rlG86 (S := S) (f := f) (L := L) (M := N2) hR ht hn (by rw [g2]; exact hB) hin b2)
          obtain ⟨N3, y1, y2, y3, y4⟩ := hp
          rw [g2] at y4
          refine ⟨N3, y1, y2, fun x x0 x1 => by rw [y3.1 x x0 x1, b1.1 x x0 x1, r2.1 x x0 x1, u x x0], ?_, ?_⟩
          · unfold pLine
            rw [if_neg (by omega), eb]
            exact y4
          · intro q T2 e w w0 w1
            rw [y3.2, b1.2, r2.2, up_s, iu_s, iI_ti, bit_or _ (by omega) (by omega), ← hsn w w0 w1]
            show (if w = (wdn (M 1) n p) then true else sn w) = _
            by_cases z : w = (wdn (M 1) n p)
            · rw [if_pos z, decide_eq_true z, Bool.or_true]
            · rw [if_neg z, decide_eq_false z, Bool.or_false]
    · refine ms_aload_n dX1_readLine_47 rfl ?_
      refine ms_iload_n dX1_readLine_48 rfl ?_
      refine ms_callV1 (ci := 1) (r := (RX1, TX1, 10)) dX1_readLine_49 cv_X1_readLine_X1_readKind (k_X1_readKind (M := N1) hR ht hn hB1 hin r1 (kd := (wdn (M 1) n p)) (by unfold jdg at c_13; rw [if_neg (by omega), if_pos (by omega)] at c_13; split at c_13 <;> omega) (by omega)) rfl rfl (by first | rfl | assumption) (Nat.le_of_ble_eq_true rfl) rfl (fun _ _ z => z.elim) (fun v9 h9 hp9 => ?_)
      obtain ⟨N2, rfl, rfl, b1, b2⟩ := hp9
      have g2 : N2 1 = M 1 := (b1.1 1 (by decide) (by omega)).trans g1
      rw [g1] at b2
      have hbd : pBody (M 1) n (nx (M 1) n p) T (wdn (M 1) n p) = pKind (M 1) n (nx (M 1) n p) T (wdn (M 1) n p) := by unfold pBody; rw [if_pos (by omega)]
      rw [← hbd] at b2
      refine ms_goto (tgt := 86) dX1_readLine_52 (by decide) ?_
      cases eb : pBody (M 1) n (nx (M 1) n p) T (wdn (M 1) n p) with
      | inl x =>
        obtain ⟨c9, q9⟩ := x
        rw [eb] at b2
        refine ms_conseq (fun v9 h9 hp => ?_) (fun _ _ z => z) (l_X1_rlF86 (S := S) (f := f) (L := L) (M := N2) hR ht hn (by rw [g2]; exact hB) hin b2)
        obtain ⟨N3, y1, y2, y3, y4⟩ := hp
        rw [g2] at y4
        refine ⟨N3, y1, y2, fun x x0 x1 => by rw [y3.1 x x0 x1, b1.1 x x0 x1, r2.1 x x0 x1, u x x0], ?_, ?_⟩
        · unfold pLine
          rw [if_neg (by omega), eb]
          exact y4
        · intro q T2 e
          unfold pLine at e
          rw [if_neg (by omega), eb] at e
          cases e
      | inr x =>
        obtain ⟨p9, T9⟩ := x
        rw [eb] at b2
        refine ms_conseq (fun v9 h9 hp => ?_) (fun _ _ z => z) (l_X1_rlG86 (S := S) (f := f) (L := L) (M := N2) hR ht hn (by rw [g2]; exact hB) hin b2)
        obtain ⟨N3, y1, y2, y3, y4⟩ := hp
        rw [g2] at y4
        refine ⟨N3, y1, y2, fun x x0 x1 => by rw [y3.1 x x0 x1, b1.1 x x0 x1, r2.1 x x0 x1, u x x0], ?_, ?_⟩
        · unfold pLine
          rw [if_neg (by omega), eb]
          exact y4
        · intro q T2 e w w0 w1
          rw [y3.2, b1.2, r2.2, up_s, iu_s, iI_ti, bit_or _ (by omega) (by omega), ← hsn w w0 w1]
          show (if w = (wdn (M 1) n p) then true else sn w) = _
          by_cases z : w = (wdn (M 1) n p)
          · rw [if_pos z, decide_eq_true z, Bool.or_true]
          · rw [if_neg z, decide_eq_false z, Bool.or_false]
  · refine ms_aload_n dX1_readLine_16 rfl ?_
    refine ms_iload_n dX1_readLine_17 rfl ?_
    refine ms_aload_n dX1_readLine_18 rfl ?_
    refine ms_getI (z := 5) dX1_readLine_19 (fo_X1_56 rfl) (by first | rfl | assumption) rfl rfl ?_
    refine ms_callV2 (ci := 1) (r := (RX1, TX1, 10)) dX1_readLine_22 cv_X1_readLine_X1_refuse (k_X1_refuse (e := jdg T (wdn (M 1) n p) sn (decide (ln = 0))) (p := M 45 5) hR (by omega)) rfl rfl (by first | rfl | assumption) (Nat.le_of_ble_eq_true rfl) rfl (fun _ _ z => z.elim) (fun v9 h9 hp9 => ?_)
    obtain ⟨rfl, rfl⟩ := hp9
    rw [if_pos hw0]
    obtain ⟨hF9, hP9⟩ := hG.F ht (c := jdg T (wdn (M 1) n p) sn (decide (ln = 0))) (q := M 45 5) (by omega)
    refine ms_retV dX1_readLine_25 rfl ⟨_, rfl, rfl, hP9.1, by unfold pLine; rw [if_pos c_13]; rw [h5] at hF9 ⊢; exact hF9, fun q T2 e => by unfold pLine at e; rw [if_pos c_13] at e; cases e⟩ (by simp)

