def raP (N : Nat → Int → Int) (t : Nat) : (Int × Int) ⊕ td_T → Prop
  | .inl (c, q) => N 45 0 = c ∧ N 45 1 = q ∧ (1 ≤ c ∧ c ≤ 5) ∧ oj N t
  | .inr T => N 45 0 = 0 ∧ N 45 1 = -1 ∧ tq T (fun j => N (t + j)) ∧ td_ok T ∧ oj N t
set_option maxHeartbeats 4000000 in
theorem l_X1_read {S : mx_Sc} {f : Bool} {L : Nat → Nat → Int64} {Rf : Nat → Nat → Option Nat} (hR : mx_rf Rf) {t : Nat} (ht : t = 29 ∨ t = 37) {n : Int} (hn : 0 ≤ n ∧ n ≤ 500) (hin : Rf 45 9 = some t) {z1 : Int} : ∀ (kk : Nat) (M : Nat → Int → Int) (ln p : Int) (T : td_T) (sn : Int → Bool), (∀ i, 0 ≤ i → i < 500 → 0 ≤ M 1 i ∧ M 1 i ≤ 255) → 0 ≤ ln → ln ≤ p → n - p < kk → rdG M t n p T → snP M sn → (ln = 0 → T 0 1 = 0) → mx_E S mX1_read 51 [some (.ref 45), some (.int (iI z1)), some (.ref t), some (.int (iI ln))] [] (f, mx_SH, M, L, Rf) 0 0 (fun v9 h9 => ∃ N, h9 = (f, mx_SH, N, L, Rf) ∧ v9 = none ∧ (∀ x, x ≠ 45 → (x < t ∨ t + 8 ≤ x) → N x = M x) ∧ raP N t (pAll (M 1) n kk p T sn (decide (ln = 0)))) (fun _ _ => False) := by
  intro kk
  induction kk with
  | zero =>
    intro M ln p T sn hB g0 g1 g2 hG hsn hfs
    have := hG.1.2.2.2.2
    omega
  | succ kk ih =>
    intro M ln p T sn hB g0 g1 g2 hG hsn hfs
    have hS := hG.1
    have h3 := hS.1
    have h4 := hS.2.2.2.1
    have h0 := hS.2.2.2.2
    have hw0 := hG.2.1
    have htb := tk_b (M 1) n p
    refine ms_iload_n dX1_read_51 rfl ?_
    refine ms_aload_n dX1_read_52 rfl ?_
    refine ms_getI (z := 3) dX1_read_53 (fo_X1_25 rfl) (by first | rfl | assumption) rfl rfl ?_
    refine mi_icmp_gt (tgt := 85) dX1_read_56 (by decide) (fun c_56 => ?_) (fun c_56 => ?_)
    · exact absurd c_56 (by omega)
    · refine ms_aload_n dX1_read_59 rfl ?_
      refine ms_getI (z := 0) dX1_read_60 (fo_X1_34 rfl) (by first | rfl | assumption) rfl rfl ?_
      refine mi_if_ne (tgt := 85) dX1_read_63 (by decide) (fun c_63 => ?_) (fun c_63 => ?_)
      · exact absurd hw0 c_63
      · refine ms_aload_n dX1_read_66 rfl ?_
        refine ms_getI (z := 4) dX1_read_67 (fo_X1_49 rfl) (by first | rfl | assumption) rfl rfl ?_
        refine mi_iconst dX1_read_70 ?_
        refine mi_icmp_eq (tgt := 85) dX1_read_71 (by decide) (fun c_71 => ?_) (fun c_71 => ?_)
        · refine ms_retV dX1_read_85 rfl ?_ (by simp)
          refine ⟨M, rfl, rfl, fun _ _ _ => rfl, ?_⟩
          show raP M t (pAll (M 1) n (kk + 1) p T sn (decide (ln = 0)))
          simp only [pAll]
          rw [if_pos (by omega)]
          exact ⟨hw0, hG.2.2.1, hG.2.2.2.1, hG.2.2.2.2.1, hG.2.2.2.2.2⟩
        · refine ms_aload_n dX1_read_74 rfl ?_
          refine ms_iload_n dX1_read_75 rfl ?_
          refine ms_callV1 (ci := 1) (r := (RX1, TX1, 10)) dX1_read_76 cv_X1_read_X1_readLine (k_X1_readLine hR ht hn hB hin hG (ln := ln) (by omega) hsn hfs) rfl rfl (by first | rfl | assumption) (Nat.le_of_ble_eq_true rfl) rfl (fun _ _ z => z.elim) (fun v9 h9 hp9 => ?_)
          obtain ⟨N1, rfl, rfl, b1, b2, b3⟩ := hp9
          have e1 : N1 1 = M 1 := b1 1 (by decide) (by omega)
          refine mi_iinc dX1_read_79 rfl (by decide) rfl ?_
          dsimp only [List.set, Nat.reduceAdd]
          refine ms_goto (tgt := 51) dX1_read_82 (by decide) ?_
          cases eb : pLine (M 1) n p T sn (decide (ln = 0)) with
          | inl x =>
            obtain ⟨c9, q9⟩ := x
            rw [eb] at b2
            obtain ⟨p9, hS9⟩ := b2.1
            have k3 := hS9.1
            have k0 := b2.2.1
            have kc := b2.2.2.2.1
            refine ms_iload_n dX1_read_51 rfl ?_
            refine ms_aload_n dX1_read_52 rfl ?_
            refine ms_getI (z := 3) dX1_read_53 (fo_X1_25 rfl) (by first | rfl | assumption) rfl rfl ?_
            refine mi_icmp_gt (tgt := 85) dX1_read_56 (by decide) (fun c_56 => ?_) (fun c_56 => ?_)
            · refine ms_retV dX1_read_85 rfl ?_ (by simp)
              refine ⟨N1, rfl, rfl, b1, ?_⟩
              show raP N1 t (pAll (M 1) n (kk + 1) p T sn (decide (ln = 0)))
              simp only [pAll]
              rw [if_neg (by omega), eb]
              exact ⟨b2.2.1, b2.2.2.1, b2.2.2.2.1, b2.2.2.2.2.1⟩
            · refine ms_aload_n dX1_read_59 rfl ?_
              refine ms_getI (z := 0) dX1_read_60 (fo_X1_34 rfl) (by first | rfl | assumption) rfl rfl ?_
              refine mi_if_ne (tgt := 85) dX1_read_63 (by decide) (fun c_63 => ?_) (fun c_63 => ?_)
              · refine ms_retV dX1_read_85 rfl ?_ (by simp)
                refine ⟨N1, rfl, rfl, b1, ?_⟩
                show raP N1 t (pAll (M 1) n (kk + 1) p T sn (decide (ln = 0)))
                simp only [pAll]
                rw [if_neg (by omega), eb]
                exact ⟨b2.2.1, b2.2.2.1, b2.2.2.2.1, b2.2.2.2.2.1⟩
              · exact absurd c_63 (by omega)
          | inr x =>
            obtain ⟨q9, T9⟩ := x
            rw [eb] at b2
            have hgt := pLine_gt (by omega) eb
            refine ms_conseq (fun v9 h9 hp => ?_) (fun _ _ z => z) (ih N1 (ln + 1) q9 T9 _ (by rw [e1]; exact hB) (by omega) (by omega) (by omega) b2 (b3 q9 T9 eb) (fun z => by omega))
            obtain ⟨N2, y1, y2, y3, y4⟩ := hp
            refine ⟨N2, y1, y2, fun x x0 x1 => (y3 x x0 x1).trans (b1 x x0 x1), ?_⟩
            show raP N2 t (pAll (M 1) n (kk + 1) p T sn (decide (ln = 0)))
            simp only [pAll]
            rw [if_neg (by omega), eb]
            rw [e1, decide_eq_false (show ¬ ln + 1 = 0 by omega)] at y4
            exact y4
          done
theorem tq_0 {A : td_T} (h : ∀ k, 0 ≤ k → k < 7 → A 0 k = td0 0 k) : tq td0 A := by
  refine ⟨h, fun l l0 l1 => ?_, fun l l0 l1 => ?_, fun l l0 l1 => ?_⟩
  · exact absurd l1 (by show ¬ l < 0; omega)
  · exact absurd l1 (by show ¬ l < 3 * 0; omega)
  · exact absurd l1 (by show ¬ l < 0; omega)
theorem sn_0 {N : Nat → Int → Int} (h : N 45 8 = 0) : snP N (fun _ => false) := by
  intro w w0 w1
  rw [h]
  exact (fin_of (n := 12) (P := fun w => (iI 0).toBitVec.getLsbD w.toNat = false) (by decide +kernel) w0 w1).symm
set_option maxHeartbeats 4000000 in
set_option maxRecDepth 100000 in
theorem k_X1_read {S : mx_Sc} {f : Bool} {M : Nat → Int → Int} {L : Nat → Nat → Int64} {Rf : Nat → Nat → Option Nat} (hR : mx_rf Rf) {t : Nat} (ht : t = 29 ∨ t = 37) {n : Int} (hn : 0 ≤ n ∧ n ≤ 500) (hB : ∀ i, 0 ≤ i → i < 500 → 0 ≤ M 1 i ∧ M 1 i ≤ 255) (hoj : oj M t) : mx_C S mX1_read [.ref 45, .int (iI n), .ref t] (f, mx_SH, M, L, Rf) 0 0 (fun v9 h9 => ∃ N Rf2, h9 = (f, mx_SH, N, L, Rf2) ∧ v9 = none ∧ mx_rf Rf2 ∧ (∀ y, y ≠ 45 → Rf2 y = Rf y) ∧ (∀ x, x ≠ 45 → (x < t ∨ t + 8 ≤ x) → N x = M x) ∧ raP N t (pAll (M 1) n (n.toNat + 1) (sk (M 1) n 0) td0 (fun _ => false) true)) (fun _ _ => False) := by
  refine mx_C_of (by decide) (by simp [Value.category]) (Nat.le_of_ble_eq_true rfl) rfl ?_
  show mx_E S mX1_read 0 [some (.ref 45), some (.int (iI n)), some (.ref t), none] [] (f, mx_SH, M, L, Rf) 0 0 _ _
  have hs0 : mx_SH[t]? = some (7, 14) := by rcases ht with rfl | rfl <;> rfl
  refine ms_aload_n dX1_read_0 rfl ?_
  refine ms_iload_n dX1_read_1 rfl ?_
  refine ms_aload_n dX1_read_2 rfl ?_
  refine ms_getR dX1_read_3 (fo_X1_9 rfl) (by first | rfl | assumption) rfl (by first | assumption | exact rf_45_2 hR ) ?_
  refine ms_alen dX1_read_6 (by first | rfl | assumption) (by decide) rfl ?_
  refine mi_mmin dX1_read_7 ma_X1_read_min (Nat.le_of_ble_eq_true rfl) ?_
  rw [if_neg (show ¬ ((500 : Nat) : Int) < n by omega)]
  refine ms_putI (z := 3) dX1_read_10 (fo_X1_25 rfl) (by first | rfl | assumption) rfl rfl rfl ?_
  refine ms_aload_n dX1_read_13 rfl ?_
  refine ms_aload_n dX1_read_14 rfl ?_
  refine ms_putRo dX1_read_15 (fo_X1_15 rfl) (by first | rfl | assumption) rfl rfl ?_
  have hR := rf_up hR (a := 45) (k := 9) (by decide) (some t)
  have hin : va_up Rf 45 (va_up (Rf 45) 9 (some t)) 45 9 = some t := by rw [up_s, up_s]
  have hRx : ∀ y, y ≠ 45 → va_up Rf 45 (va_up (Rf 45) 9 (some t)) y = Rf y := fun y hy => up_n _ _ hy
  generalize va_up Rf 45 (va_up (Rf 45) 9 (some t)) = Rf2 at hR hin hRx ⊢
  refine ms_aload_n dX1_read_18 rfl ?_
  refine ms_getR dX1_read_19 (fo_X1_15 rfl) (by first | rfl | assumption) rfl (by first | assumption ) ?_
  refine ms_callV0 (ci := 4) (r := (RX4, TX4, 14)) dX1_read_22 cv_X1_read_X4_forget (k_X4_forget (t := t) (by omega) hs0) rfl rfl (by first | rfl | assumption) (Nat.le_of_ble_eq_true rfl) rfl (fun _ _ z => z.elim) (fun v9 h9 hp9 => ?_)
  obtain ⟨N1, rfl, rfl, q1, q2⟩ := hp9
  refine ms_aload_n dX1_read_25 rfl ?_
  refine mi_iconst dX1_read_26 ?_
  refine ms_putI (z := 0) dX1_read_27 (fo_X1_34 rfl) (by first | rfl | assumption) rfl rfl rfl ?_
  refine ms_aload_n dX1_read_30 rfl ?_
  refine mi_iconst dX1_read_31 ?_
  refine ms_putI (z := 1) dX1_read_32 (fo_X1_37 rfl) (by first | rfl | assumption) rfl rfl rfl ?_
  refine ms_aload_n dX1_read_35 rfl ?_
  refine mi_iconst dX1_read_36 ?_
  refine ms_putI (z := 6) dX1_read_37 (fo_X1_40 rfl) (by first | rfl | assumption) rfl rfl rfl ?_
  refine ms_aload_n dX1_read_40 rfl ?_
  refine mi_iconst dX1_read_41 ?_
  refine ms_putI (z := 8) dX1_read_42 (fo_X1_43 rfl) (by first | rfl | assumption) rfl rfl rfl ?_
  refine mx_gen (fun N2 => (∀ x, x ≠ 45 → x ≠ t → N2 x = M x) ∧ (∀ k, 0 ≤ k → k < 7 → N2 t k = td0 0 k) ∧ N2 45 3 = n ∧ N2 45 0 = 0 ∧ N2 45 1 = -1 ∧ N2 45 6 = 0 ∧ N2 45 8 = 0) ⟨fun x hx hxt => ?_, fun k k0 k1 => ?_, ?_, ?_, ?_, ?_, ?_⟩ (fun N2 hN2 => ?_)
  · simp only [up_n _ _ hx]
    rw [q1 x hxt, up_n _ _ hx]
  · simp only [up_n _ _ (show t ≠ 45 by omega)]
    exact q2 k k0 k1
  · simp [up_s, iu]
    rw [q1 45 (by omega), up_s, iu_s]
  · simp [up_s, iu]
  · simp [up_s, iu]
  · simp [up_s, iu]
  · simp [up_s, iu]
  obtain ⟨n1, n2, n3, n4, n5, n6, n7⟩ := hN2
  have e1 : N2 1 = M 1 := n1 1 (by decide) (by omega)
  refine ms_aload_n dX1_read_45 rfl ?_
  refine ms_callV0 (ci := 1) (r := (RX1, TX1, 10)) dX1_read_46 cv_X1_read_X1_advance (k_X1_advance (M := N2) hR hn (by rw [e1]; exact hB) n3 (by omega)) rfl rfl (by first | rfl | assumption) (Nat.le_of_ble_eq_true rfl) rfl (fun _ _ z => z.elim) (fun v9 h9 hp9 => ?_)
  obtain ⟨N3, rfl, rfl, a1, a2⟩ := hp9
  rw [e1, n6] at a2
  have e3 : N3 1 = M 1 := (a1.1 1 (by decide)).trans e1
  have hG3 : rdG N3 t n (sk (M 1) n 0) td0 := ⟨a2, a1.2.1.trans n4, a1.2.2.1.trans n5, tq_0 (fun k k0 k1 => by show N3 (t + 0) k = _; rw [a1.1 (t + 0) (by omega)]; exact n2 k k0 k1), td0_ok, fun i i0 i1 => by rw [a1.1 _ (by omega), n1 _ (by omega) (by omega)]; exact hoj i i0 i1⟩
  refine mi_iconst dX1_read_49 ?_
  refine ms_istore_n dX1_read_50 (by decide) rfl ?_
  dsimp only [List.set, Nat.reduceAdd]
  refine ms_conseq (fun v9 h9 hp => ?_) (fun _ _ z => z) (l_X1_read (S := S) (f := f) (L := L) hR ht hn hin (z1 := n) (n.toNat + 1) N3 0 (sk (M 1) n 0) td0 (fun _ => false) (by rw [e3]; exact hB) (by omega) a2.2.2.2.2.1 (by have := a2.2.2.2.2; omega) hG3 (sn_0 (a1.2.2.2.1.trans n7)) (fun _ => rfl))
  obtain ⟨N4, y1, y2, y3, y4⟩ := hp
  rw [e3] at y4
  exact ⟨N4, Rf2, y1, y2, hR, hRx, fun x x0 x1 => by rw [y3 x x0 x1, a1.1 x x0, n1 x x0 (by omega)], y4⟩

