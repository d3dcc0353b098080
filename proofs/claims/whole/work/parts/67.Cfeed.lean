theorem pb_at {g : Int → Int} {p x : Int} (y : Int) : iu (iu (iu (iu g p (by32 (iI x) 24)) (p + 1) (by32 (iI x) 16)) (p + 1 + 1) (by32 (iI x) 8)) (p + 1 + 1 + 1) (by32 (iI x) 0) y = if p ≤ y ∧ y < p + 4 then by32 (iI x) (24 - 8 * (y - p)) else g y := by
  by_cases h : p ≤ y ∧ y < p + 4
  · rw [if_pos h]
    rcases (show y = p ∨ y = p + 1 ∨ y = p + 1 + 1 ∨ y = p + 1 + 1 + 1 by omega) with e | e | e | e
    · rw [iu_n _ _ (by omega), iu_n _ _ (by omega), iu_n _ _ (by omega), e, iu_s, show (24 : Int) - 8 * (p - p) = 24 by omega]
    · rw [iu_n _ _ (by omega), iu_n _ _ (by omega), e, iu_s, show (24 : Int) - 8 * (p + 1 - p) = 16 by omega]
    · rw [iu_n _ _ (by omega), e, iu_s, show (24 : Int) - 8 * (p + 1 + 1 - p) = 8 by omega]
    · rw [e, iu_s, show (24 : Int) - 8 * (p + 1 + 1 + 1 - p) = 0 by omega]
  · rw [if_neg h, iu_n _ _ (by omega), iu_n _ _ (by omega), iu_n _ _ (by omega), iu_n _ _ (by omega)]
/-- the j-th of twenty bytes -/
def fd (a b c d e : Int) (j : Int) : Int := if j < 4 then by32 (iI a) (24 - 8 * j) else if j < 8 then by32 (iI b) (24 - 8 * (j - 4)) else if j < 12 then by32 (iI c) (24 - 8 * (j - 8)) else if j < 16 then by32 (iI d) (24 - 8 * (j - 12)) else by32 (iI e) (24 - 8 * (j - 16))
theorem fd_at {g g1 g2 g3 g4 g5 : Int → Int} {a b c d e p : Int} (h1 : ∀ y, g1 y = if p ≤ y ∧ y < p + 4 then by32 (iI a) (24 - 8 * (y - p)) else g y) (h2 : ∀ y, g2 y = if p + 4 ≤ y ∧ y < p + 8 then by32 (iI b) (24 - 8 * (y - (p + 4))) else g1 y) (h3 : ∀ y, g3 y = if p + 8 ≤ y ∧ y < p + 12 then by32 (iI c) (24 - 8 * (y - (p + 8))) else g2 y) (h4 : ∀ y, g4 y = if p + 12 ≤ y ∧ y < p + 16 then by32 (iI d) (24 - 8 * (y - (p + 12))) else g3 y) (h5 : ∀ y, g5 y = if p + 16 ≤ y ∧ y < p + 20 then by32 (iI e) (24 - 8 * (y - (p + 16))) else g4 y) (y : Int) : g5 y = if p ≤ y ∧ y < p + 20 then fd a b c d e (y - p) else g y := by
  rw [h5 y, h4 y, h3 y, h2 y, h1 y]
  unfold fd
  by_cases e0 : p ≤ y ∧ y < p + 20
  · rw [if_pos e0]
    by_cases k1 : y - p < 4
    · rw [if_pos k1, if_neg (by omega), if_neg (by omega), if_neg (by omega), if_neg (by omega), if_pos (by omega)]
    · rw [if_neg k1]
      by_cases k2 : y - p < 8
      · rw [if_pos k2, if_neg (by omega), if_neg (by omega), if_neg (by omega), if_pos (by omega), show y - (p + 4) = y - p - 4 by omega]
      · rw [if_neg k2]
        by_cases k3 : y - p < 12
        · rw [if_pos k3, if_neg (by omega), if_neg (by omega), if_pos (by omega), show y - (p + 8) = y - p - 8 by omega]
        · rw [if_neg k3]
          by_cases k4 : y - p < 16
          · rw [if_pos k4, if_neg (by omega), if_pos (by omega), show y - (p + 12) = y - p - 12 by omega]
          · rw [if_neg k4, if_pos (by omega), show y - (p + 16) = y - p - 16 by omega]
  · rw [if_neg e0, if_neg (by omega), if_neg (by omega), if_neg (by omega), if_neg (by omega), if_neg (by omega)]
set_option maxHeartbeats 4000000 in
set_option maxRecDepth 100000 in
theorem k_X6_feed {S : mx_Sc} {f : Bool} {M : Nat → Int → Int} {L : Nat → Nat → Int64} {Rf : Nat → Nat → Option Nat} (hR : mx_rf Rf) {p a b c d e : Int} (hp : 0 ≤ p ∧ p ≤ 500) (hpp : M 0 12 = p) : mx_C S mX6_feed [.ref 0, .int (iI a), .int (iI b), .int (iI c), .int (iI d), .int (iI e)] (f, mx_SH, M, L, Rf) 0 0 (fun v9 h9 => (480 < p ∧ h9 = (f, mx_SH, M, L, Rf) ∧ v9 = some (.int (iI (-1)))) ∨ (p ≤ 480 ∧ ∃ N, h9 = (f, mx_SH, N, L, Rf) ∧ v9 = some (.int (iI (p + 20))) ∧ (∀ y, y ≠ 0 → y ≠ 1 → N y = M y) ∧ (∀ j, j ≠ 12 → N 0 j = M 0 j) ∧ N 0 12 = p + 20 ∧ ∀ y, N 1 y = if p ≤ y ∧ y < p + 20 then fd a b c d e (y - p) else M 1 y)) (fun _ _ => False) := by
  refine mx_C_of (by decide) (by simp [Value.category]) (Nat.le_of_ble_eq_true rfl) rfl ?_
  show mx_E S mX6_feed 0 [some (.ref 0), some (.int (iI a)), some (.int (iI b)), some (.int (iI c)), some (.int (iI d)), some (.int (iI e))] [] (f, mx_SH, M, L, Rf) 0 0 _ _
  refine ms_aload_n dX6_feed_0 rfl ?_
  refine ms_getI (z := 12) dX6_feed_1 (fo_X6_82 rfl) (by first | rfl | assumption) rfl rfl ?_
  refine mi_bipush dX6_feed_4 (by decide) ?_
  refine mi_iadd dX6_feed_6 ?_
  refine mi_sipush dX6_feed_7 (by decide) ?_
  refine mi_icmp_le (tgt := 15) dX6_feed_10 (by decide) (fun c_10 => ?_) (fun c_10 => ?_)
  · refine ms_aload_n dX6_feed_15 rfl ?_
    refine ms_iload_n dX6_feed_16 rfl ?_
    refine ms_callV1 (ci := 6) (r := (RX6, TX6, 15)) dX6_feed_17 cv_X6_feed_X6_putBytes (k_X6_putBytes (M := M) hR (p := p + 0) (x := a) (by omega) (by rw [hpp]; omega)) rfl rfl (by first | rfl | assumption) (Nat.le_of_ble_eq_true rfl) rfl (fun _ _ z => z.elim) (fun v9 h9 hp9 => ?_)
    obtain ⟨N1, rfl, rfl, a1, b1, c1, d1⟩ := hp9
    have t1 : N1 0 12 = p + 4 := by rw [c1]; omega
    have r1 : ∀ y, N1 1 y = if p + 0 ≤ y ∧ y < p + 4 then by32 (iI a) (24 - 8 * (y - (p + 0))) else M 1 y := fun y => by
      rw [d1, pb_at, show p + 0 + 4 = p + 4 by omega]
    refine ms_aload_n dX6_feed_20 rfl ?_
    refine ms_iload_n dX6_feed_21 rfl ?_
    refine ms_callV1 (ci := 6) (r := (RX6, TX6, 15)) dX6_feed_22 cv_X6_feed_X6_putBytes (k_X6_putBytes (M := N1) hR (p := p + 4) (x := b) (by omega) t1) rfl rfl (by first | rfl | assumption) (Nat.le_of_ble_eq_true rfl) rfl (fun _ _ z => z.elim) (fun v9 h9 hp9 => ?_)
    obtain ⟨N2, rfl, rfl, a2, b2, c2, d2⟩ := hp9
    have t2 : N2 0 12 = p + 8 := by rw [c2]; omega
    have r2 : ∀ y, N2 1 y = if p + 4 ≤ y ∧ y < p + 8 then by32 (iI b) (24 - 8 * (y - (p + 4))) else N1 1 y := fun y => by
      rw [d2, pb_at, show p + 4 + 4 = p + 8 by omega]
    refine ms_aload_n dX6_feed_25 rfl ?_
    refine ms_iload_n dX6_feed_26 rfl ?_
    refine ms_callV1 (ci := 6) (r := (RX6, TX6, 15)) dX6_feed_27 cv_X6_feed_X6_putBytes (k_X6_putBytes (M := N2) hR (p := p + 8) (x := c) (by omega) t2) rfl rfl (by first | rfl | assumption) (Nat.le_of_ble_eq_true rfl) rfl (fun _ _ z => z.elim) (fun v9 h9 hp9 => ?_)
    obtain ⟨N3, rfl, rfl, a3, b3, c3, d3⟩ := hp9
    have t3 : N3 0 12 = p + 12 := by rw [c3]; omega
    have r3 : ∀ y, N3 1 y = if p + 8 ≤ y ∧ y < p + 12 then by32 (iI c) (24 - 8 * (y - (p + 8))) else N2 1 y := fun y => by
      rw [d3, pb_at, show p + 8 + 4 = p + 12 by omega]
    refine ms_aload_n dX6_feed_30 rfl ?_
    refine ms_iload dX6_feed_31 rfl ?_
    refine ms_callV1 (ci := 6) (r := (RX6, TX6, 15)) dX6_feed_33 cv_X6_feed_X6_putBytes (k_X6_putBytes (M := N3) hR (p := p + 12) (x := d) (by omega) t3) rfl rfl (by first | rfl | assumption) (Nat.le_of_ble_eq_true rfl) rfl (fun _ _ z => z.elim) (fun v9 h9 hp9 => ?_)
    obtain ⟨N4, rfl, rfl, a4, b4, c4, d4⟩ := hp9
    have t4 : N4 0 12 = p + 16 := by rw [c4]; omega
    have r4 : ∀ y, N4 1 y = if p + 12 ≤ y ∧ y < p + 16 then by32 (iI d) (24 - 8 * (y - (p + 12))) else N3 1 y := fun y => by
      rw [d4, pb_at, show p + 12 + 4 = p + 16 by omega]
    refine ms_aload_n dX6_feed_36 rfl ?_
    refine ms_iload dX6_feed_37 rfl ?_
    refine ms_callV1 (ci := 6) (r := (RX6, TX6, 15)) dX6_feed_39 cv_X6_feed_X6_putBytes (k_X6_putBytes (M := N4) hR (p := p + 16) (x := e) (by omega) t4) rfl rfl (by first | rfl | assumption) (Nat.le_of_ble_eq_true rfl) rfl (fun _ _ z => z.elim) (fun v9 h9 hp9 => ?_)
    obtain ⟨N5, rfl, rfl, a5, b5, c5, d5⟩ := hp9
    have t5 : N5 0 12 = p + 20 := by rw [c5]; omega
    have r5 : ∀ y, N5 1 y = if p + 16 ≤ y ∧ y < p + 20 then by32 (iI e) (24 - 8 * (y - (p + 16))) else N4 1 y := fun y => by
      rw [d5, pb_at, show p + 16 + 4 = p + 20 by omega]
    refine ms_aload_n dX6_feed_42 rfl ?_
    refine ms_getI (z := 12) dX6_feed_43 (fo_X6_82 rfl) (by first | rfl | assumption) rfl rfl ?_
    rw [t5]
    refine ms_ret dX6_feed_46 rfl (Or.inr ⟨by omega, N5, rfl, rfl, fun y y0 y1 => by rw [a5 y y0 y1, a4 y y0 y1, a3 y y0 y1, a2 y y0 y1, a1 y y0 y1], fun j hj => by rw [b5 j hj, b4 j hj, b3 j hj, b2 j hj, b1 j hj], t5, fd_at (fun y => by have := r1 y; rw [Int.add_zero] at this; exact this) r2 r3 r4 r5⟩) (by simp)
  · refine mi_iconst dX6_feed_13 ?_
    refine ms_ret dX6_feed_14 rfl (Or.inl ⟨by omega, rfl, rfl⟩) (by simp)

