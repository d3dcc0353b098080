def mtk (k : Int) : Int := if k = 4 then 0 else k + 1
/-- the reference's reader stands before what begins at p -/
def mdS (N : Nat → Int → Int) (n p : Int) : Prop := N 48 17 = n ∧ N 48 20 = p ∧ N 48 21 = te (N 62) n p ∧ N 48 16 = te (N 62) n p ∧ N 48 18 = mtk (tk (N 62) n p) ∧ (tk (N 62) n p = 1 → (0 ≤ N 48 19 ∧ N 48 19 ≤ 10000) ∧ (te (N 62) n p - p ≤ 3 → N 48 19 = nV (N 62) n p)) ∧ 0 ≤ p ∧ p ≤ n
def sfP (M N : Nat → Int → Int) : Prop := (∀ x, x ≠ 48 → N x = M x) ∧ ∀ k, (k < 16 ∨ k = 17 ∨ 21 < k) → N 48 k = M 48 k
theorem sfP.put {M N : Nat → Int → Int} (h : sfP M N) {k v : Int} (hk : k = 16 ∨ k = 18 ∨ k = 19 ∨ k = 20 ∨ k = 21) : sfP M (va_up N 48 (iu (N 48) k v)) :=
  ⟨fun x hx => by rw [up_n _ _ hx]; exact h.1 x hx, fun j hj => by rw [up_s, iu_n _ _ (by omega)]; exact h.2 j hj⟩
theorem sfP.rf {M : Nat → Int → Int} : sfP M M := ⟨fun _ _ => rfl, fun _ _ => rfl⟩
set_option maxHeartbeats 4000000 in
set_option maxRecDepth 100000 in
theorem k_X7_byteAt {S : mx_Sc} {f : Bool} {M : Nat → Int → Int} {L : Nat → Nat → Int64} {Rf : Nat → Nat → Option Nat} (hR : mx_rf Rf) {n : Int} (hn : 0 ≤ n ∧ n ≤ 500) (hB : ∀ i, 0 ≤ i → i < 500 → 0 ≤ M 62 i ∧ M 62 i ≤ 255) (hlen : M 48 17 = n) {a : Int} (ha : 0 ≤ a ∧ a ≤ n) : mx_C S mX7_byteAt [.ref 48, .int (iI a)] (f, mx_SH, M, L, Rf) 0 0 (fun v9 h9 => h9 = (f, mx_SH, M, L, Rf) ∧ v9 = some (.int (iI ((if a < n then M 62 (a) else -1))))) (fun _ _ => False) := by
  refine mx_C_of (by decide) (by simp [Value.category]) (Nat.le_of_ble_eq_true rfl) rfl ?_
  show mx_E S mX7_byteAt 0 [some (.ref 48), some (.int (iI a))] [] (f, mx_SH, M, L, Rf) 0 0 _ _
  refine ms_iload_n dX7_byteAt_0 rfl ?_
  refine ms_aload_n dX7_byteAt_1 rfl ?_
  refine ms_getI (z := 17) dX7_byteAt_2 (fo_X7_141 rfl) (by first | rfl | assumption) rfl rfl ?_
  refine mi_icmp_ge (tgt := 17) dX7_byteAt_5 (by decide) (fun c_5 => ?_) (fun c_5 => ?_)
  · refine mi_iconst dX7_byteAt_17 ?_
    refine ms_ret dX7_byteAt_18 rfl ⟨rfl, by first | (rw [if_pos (by omega)]; done) | (rw [if_neg (by omega)]; done)⟩ (by simp)
  · refine ms_aload_n dX7_byteAt_8 rfl ?_
    refine ms_getR dX7_byteAt_9 (fo_X7_70 rfl) (by first | rfl | assumption) rfl (by first | assumption | exact rf_48_14 hR ) ?_
    refine ms_iload_n dX7_byteAt_12 rfl ?_
    refine ms_iald dX7_byteAt_13 (by first | rfl | assumption) ?_
    refine ms_goto (tgt := 18) dX7_byteAt_14 (by decide) ?_
    refine ms_ret dX7_byteAt_18 rfl ⟨rfl, by first | (rw [if_pos (by omega)]; done) | (rw [if_neg (by omega)]; done)⟩ (by simp)

set_option maxHeartbeats 4000000 in
set_option maxRecDepth 100000 in
theorem k_X7_isLetter {S : mx_Sc} {f : Bool} {M : Nat → Int → Int} {L : Nat → Nat → Int64} {Rf : Nat → Nat → Option Nat} {c : Int} (hc : -1 ≤ c ∧ c ≤ 255) : mx_C S mX7_isLetter [.int (iI c)] (f, mx_SH, M, L, Rf) 0 0 (fun v9 h9 => h9 = (f, mx_SH, M, L, Rf) ∧ v9 = some (.int (iI (bI (decide (97 ≤ c ∧ c ≤ 122)))))) (fun _ _ => False) := by
  refine mx_C_of (by decide) (by simp [Value.category]) (Nat.le_of_ble_eq_true rfl) rfl ?_
  show mx_E S mX7_isLetter 0 [some (.int (iI c))] [] (f, mx_SH, M, L, Rf) 0 0 _ _
  refine ms_iload_n dX7_isLetter_0 rfl ?_
  refine mi_bipush dX7_isLetter_1 (by decide) ?_
  refine mi_icmp_lt (tgt := 16) dX7_isLetter_3 (by decide) (fun c_3 => ?_) (fun c_3 => ?_)
  · refine mi_iconst dX7_isLetter_16 ?_
    refine ms_retZ dX7_isLetter_17 rfl (by first | exact Or.inl rfl | exact Or.inr rfl) ⟨rfl, congrArg (fun z => some (Value.int (iI z))) (by rw [bI_dec]; first | (rw [if_pos (by omega)]; done) | (rw [if_neg (by omega)]; done))⟩ (by simp)
  · refine ms_iload_n dX7_isLetter_6 rfl ?_
    refine mi_bipush dX7_isLetter_7 (by decide) ?_
    refine mi_icmp_gt (tgt := 16) dX7_isLetter_9 (by decide) (fun c_9 => ?_) (fun c_9 => ?_)
    · refine mi_iconst dX7_isLetter_16 ?_
      refine ms_retZ dX7_isLetter_17 rfl (by first | exact Or.inl rfl | exact Or.inr rfl) ⟨rfl, congrArg (fun z => some (Value.int (iI z))) (by rw [bI_dec]; first | (rw [if_pos (by omega)]; done) | (rw [if_neg (by omega)]; done))⟩ (by simp)
    · refine mi_iconst dX7_isLetter_12 ?_
      refine ms_goto (tgt := 17) dX7_isLetter_13 (by decide) ?_
      refine ms_retZ dX7_isLetter_17 rfl (by first | exact Or.inl rfl | exact Or.inr rfl) ⟨rfl, congrArg (fun z => some (Value.int (iI z))) (by rw [bI_dec]; first | (rw [if_pos (by omega)]; done) | (rw [if_neg (by omega)]; done))⟩ (by simp)

set_option maxHeartbeats 4000000 in
set_option maxRecDepth 100000 in
theorem k_X7_isDigit {S : mx_Sc} {f : Bool} {M : Nat → Int → Int} {L : Nat → Nat → Int64} {Rf : Nat → Nat → Option Nat} {c : Int} (hc : -1 ≤ c ∧ c ≤ 255) : mx_C S mX7_isDigit [.int (iI c)] (f, mx_SH, M, L, Rf) 0 0 (fun v9 h9 => h9 = (f, mx_SH, M, L, Rf) ∧ v9 = some (.int (iI (bI (decide (48 ≤ c ∧ c ≤ 57)))))) (fun _ _ => False) := by
  refine mx_C_of (by decide) (by simp [Value.category]) (Nat.le_of_ble_eq_true rfl) rfl ?_
  show mx_E S mX7_isDigit 0 [some (.int (iI c))] [] (f, mx_SH, M, L, Rf) 0 0 _ _
  refine ms_iload_n dX7_isDigit_0 rfl ?_
  refine mi_bipush dX7_isDigit_1 (by decide) ?_
  refine mi_icmp_lt (tgt := 16) dX7_isDigit_3 (by decide) (fun c_3 => ?_) (fun c_3 => ?_)
  · refine mi_iconst dX7_isDigit_16 ?_
    refine ms_retZ dX7_isDigit_17 rfl (by first | exact Or.inl rfl | exact Or.inr rfl) ⟨rfl, congrArg (fun z => some (Value.int (iI z))) (by rw [bI_dec]; first | (rw [if_pos (by omega)]; done) | (rw [if_neg (by omega)]; done))⟩ (by simp)
  · refine ms_iload_n dX7_isDigit_6 rfl ?_
    refine mi_bipush dX7_isDigit_7 (by decide) ?_
    refine mi_icmp_gt (tgt := 16) dX7_isDigit_9 (by decide) (fun c_9 => ?_) (fun c_9 => ?_)
    · refine mi_iconst dX7_isDigit_16 ?_
      refine ms_retZ dX7_isDigit_17 rfl (by first | exact Or.inl rfl | exact Or.inr rfl) ⟨rfl, congrArg (fun z => some (Value.int (iI z))) (by rw [bI_dec]; first | (rw [if_pos (by omega)]; done) | (rw [if_neg (by omega)]; done))⟩ (by simp)
    · refine mi_iconst dX7_isDigit_12 ?_
      refine ms_goto (tgt := 17) dX7_isDigit_13 (by decide) ?_
      refine ms_retZ dX7_isDigit_17 rfl (by first | exact Or.inl rfl | exact Or.inr rfl) ⟨rfl, congrArg (fun z => some (Value.int (iI z))) (by rw [bI_dec]; first | (rw [if_pos (by omega)]; done) | (rw [if_neg (by omega)]; done))⟩ (by simp)

set_option maxHeartbeats 4000000 in
theorem l_X7_so1 {S : mx_Sc} {f : Bool} {M : Nat → Int → Int} {L : Nat → Nat → Int64} {Rf : Nat → Nat → Option Nat} (hR : mx_rf Rf) {n : Int} (hn : 0 ≤ n ∧ n ≤ 500) (hB : ∀ i, 0 ≤ i → i < 500 → 0 ≤ M 62 i ∧ M 62 i ≤ 255) {P : Option Value → mx_H → Prop} {PX : String → mx_H → Prop} (hlen : M 48 17 = n) : ∀ (kk : Nat) (N : Nat → Int → Int), sfP M N → 0 ≤ N 48 16 → N 48 16 + kk = n → sk (M 62) n (N 48 16) = (sk (M 62) n (M 48 16)) → (∀ N, sfP M N → N 48 16 = (sk (M 62) n (M 48 16)) → mx_E S mX7_stepOn 39 [some (.ref 48), none] [] (f, mx_SH, N, L, Rf) 0 0 P PX) → mx_E S mX7_stepOn 0 [some (.ref 48), none] [] (f, mx_SH, N, L, Rf) 0 0 P PX := by
  intro kk
  induction kk with
  | zero =>
    intro N q1 g0 g1 q2 hK
    have e3 : N 48 17 = n := (q1.2 17 (by omega)).trans hlen
    have e1 : N 62 = M 62 := q1.1 62 (by decide)
    have hB2 : ∀ i, 0 ≤ i → i < 500 → 0 ≤ N 62 i ∧ N 62 i ≤ 255 := by rw [e1]; exact hB
    refine ms_aload_n dX7_stepOn_0 rfl ?_
    refine ms_aload_n dX7_stepOn_1 rfl ?_
    refine ms_getI (z := 16) dX7_stepOn_2 (fo_X7_144 rfl) (by first | rfl | assumption) rfl rfl ?_
    refine ms_callV1 (ci := 7) (r := (RX7, TX7, 48)) dX7_stepOn_5 cv_X7_stepOn_X7_byteAt (k_X7_byteAt (M := N) hR hn hB2 e3 (a := N 48 16) (by omega)) rfl rfl (by first | rfl | assumption) (Nat.le_of_ble_eq_true rfl) rfl (fun _ _ z => z.elim) (fun v9 h9 hp9 => ?_)
    obtain ⟨rfl, rfl⟩ := hp9
    rw [if_neg (show ¬ N 48 16 < n by omega)]
    refine mi_bipush dX7_stepOn_8 (by decide) ?_
    refine mi_icmp_eq (tgt := 26) dX7_stepOn_10 (by decide) (fun c_10 => ?_) (fun c_10 => ?_)
    · exact absurd c_10 (by omega)
    · refine ms_aload_n dX7_stepOn_13 rfl ?_
      refine ms_aload_n dX7_stepOn_14 rfl ?_
      refine ms_getI (z := 16) dX7_stepOn_15 (fo_X7_144 rfl) (by first | rfl | assumption) rfl rfl ?_
      refine ms_callV1 (ci := 7) (r := (RX7, TX7, 48)) dX7_stepOn_18 cv_X7_stepOn_X7_byteAt (k_X7_byteAt (M := N) hR hn hB2 e3 (a := N 48 16) (by omega)) rfl rfl (by first | rfl | assumption) (Nat.le_of_ble_eq_true rfl) rfl (fun _ _ z => z.elim) (fun v9 h9 hp9 => ?_)
      obtain ⟨rfl, rfl⟩ := hp9
      rw [if_neg (show ¬ N 48 16 < n by omega)]
      refine mi_bipush dX7_stepOn_21 (by decide) ?_
      refine mi_icmp_ne (tgt := 39) dX7_stepOn_23 (by decide) (fun c_23 => ?_) (fun c_23 => ?_)
      · exact hK N q1 (by rw [← q2, sk_stop (by omega)])
      · exact absurd c_23 (by omega)
  | succ kk ih =>
    intro N q1 g0 g1 q2 hK
    have e3 : N 48 17 = n := (q1.2 17 (by omega)).trans hlen
    have e1 : N 62 = M 62 := q1.1 62 (by decide)
    have hB2 : ∀ i, 0 ≤ i → i < 500 → 0 ≤ N 62 i ∧ N 62 i ≤ 255 := by rw [e1]; exact hB
    have hb := hB2 (N 48 16) (by omega) (by omega)
    refine ms_aload_n dX7_stepOn_0 rfl ?_
    refine ms_aload_n dX7_stepOn_1 rfl ?_
    refine ms_getI (z := 16) dX7_stepOn_2 (fo_X7_144 rfl) (by first | rfl | assumption) rfl rfl ?_
    refine ms_callV1 (ci := 7) (r := (RX7, TX7, 48)) dX7_stepOn_5 cv_X7_stepOn_X7_byteAt (k_X7_byteAt (M := N) hR hn hB2 e3 (a := N 48 16) (by omega)) rfl rfl (by first | rfl | assumption) (Nat.le_of_ble_eq_true rfl) rfl (fun _ _ z => z.elim) (fun v9 h9 hp9 => ?_)
    obtain ⟨rfl, rfl⟩ := hp9
    rw [if_pos (show N 48 16 < n by omega)]
    refine mi_bipush dX7_stepOn_8 (by decide) ?_
    refine mi_icmp_eq (tgt := 26) dX7_stepOn_10 (by decide) (fun c_10 => ?_) (fun c_10 => ?_)
    · refine ms_aload_n dX7_stepOn_26 rfl ?_
      refine ms_dup dX7_stepOn_27 rfl ?_
      refine ms_getI (z := 16) dX7_stepOn_28 (fo_X7_144 rfl) (by first | rfl | assumption) rfl rfl ?_
      refine mi_iconst dX7_stepOn_31 ?_
      refine mi_iadd dX7_stepOn_32 ?_
      refine ms_putI (z := 16) dX7_stepOn_33 (fo_X7_144 rfl) (by first | rfl | assumption) rfl rfl rfl ?_
      refine ms_goto (tgt := 0) dX7_stepOn_36 (by decide) ?_
      exact ih _ (q1.put (Or.inl rfl)) (by rw [up_s, iu_s]; omega) (by rw [up_s, iu_s]; omega) (by rw [up_s, iu_s, ← q2, ← sk_step (by omega) (by rw [← e1]; unfold spc; omega)]) hK
    · refine ms_aload_n dX7_stepOn_13 rfl ?_
      refine ms_aload_n dX7_stepOn_14 rfl ?_
      refine ms_getI (z := 16) dX7_stepOn_15 (fo_X7_144 rfl) (by first | rfl | assumption) rfl rfl ?_
      refine ms_callV1 (ci := 7) (r := (RX7, TX7, 48)) dX7_stepOn_18 cv_X7_stepOn_X7_byteAt (k_X7_byteAt (M := N) hR hn hB2 e3 (a := N 48 16) (by omega)) rfl rfl (by first | rfl | assumption) (Nat.le_of_ble_eq_true rfl) rfl (fun _ _ z => z.elim) (fun v9 h9 hp9 => ?_)
      obtain ⟨rfl, rfl⟩ := hp9
      rw [if_pos (show N 48 16 < n by omega)]
      refine mi_bipush dX7_stepOn_21 (by decide) ?_
      refine mi_icmp_ne (tgt := 39) dX7_stepOn_23 (by decide) (fun c_23 => ?_) (fun c_23 => ?_)
      · exact hK N q1 (by rw [← q2, sk_stop (fun q => by rcases q.2 with z | z <;> rw [← e1] at z <;> omega)])
      · refine ms_aload_n dX7_stepOn_26 rfl ?_
        refine ms_dup dX7_stepOn_27 rfl ?_
        refine ms_getI (z := 16) dX7_stepOn_28 (fo_X7_144 rfl) (by first | rfl | assumption) rfl rfl ?_
        refine mi_iconst dX7_stepOn_31 ?_
        refine mi_iadd dX7_stepOn_32 ?_
        refine ms_putI (z := 16) dX7_stepOn_33 (fo_X7_144 rfl) (by first | rfl | assumption) rfl rfl rfl ?_
        refine ms_goto (tgt := 0) dX7_stepOn_36 (by decide) ?_
        exact ih _ (q1.put (Or.inl rfl)) (by rw [up_s, iu_s]; omega) (by rw [up_s, iu_s]; omega) (by rw [up_s, iu_s, ← q2, ← sk_step (by omega) (by rw [← e1]; unfold spc; omega)]) hK
set_option maxHeartbeats 4000000 in
theorem l_X7_so2 {S : mx_Sc} {f : Bool} {M : Nat → Int → Int} {L : Nat → Nat → Int64} {Rf : Nat → Nat → Option Nat} (hR : mx_rf Rf) {n : Int} (hn : 0 ≤ n ∧ n ≤ 500) (hB : ∀ i, 0 ≤ i → i < 500 → 0 ≤ M 62 i ∧ M 62 i ≤ 255) {P : Option Value → mx_H → Prop} {PX : String → mx_H → Prop} (hlen : M 48 17 = n) {q : Int} (hq : 0 ≤ q ∧ q ≤ n) {z1 : Int} : ∀ (kk : Nat) (N : Nat → Int → Int), sfP M N → N 48 20 = q → 0 ≤ N 48 16 → N 48 16 + kk = n → en (M 62) n 0 (N 48 16) = te (M 62) n q → (∀ N, sfP M N → N 48 20 = q → N 48 16 = te (M 62) n q → mx_E S mX7_stepOn 103 [some (.ref 48), some (.int (iI z1))] [] (f, mx_SH, N, L, Rf) 0 0 P PX) → mx_E S mX7_stepOn 76 [some (.ref 48), some (.int (iI z1))] [] (f, mx_SH, N, L, Rf) 0 0 P PX := by
  intro kk
  induction kk with
  | zero =>
    intro N q1 q5 g0 g1 q2 hK
    have e3 : N 48 17 = n := (q1.2 17 (by omega)).trans hlen
    have e1 : N 62 = M 62 := q1.1 62 (by decide)
    have hB2 : ∀ i, 0 ≤ i → i < 500 → 0 ≤ N 62 i ∧ N 62 i ≤ 255 := by rw [e1]; exact hB
    refine ms_aload_n dX7_stepOn_76 rfl ?_
    refine ms_aload_n dX7_stepOn_77 rfl ?_
    refine ms_getI (z := 16) dX7_stepOn_78 (fo_X7_144 rfl) (by first | rfl | assumption) rfl rfl ?_
    refine ms_callV1 (ci := 7) (r := (RX7, TX7, 48)) dX7_stepOn_81 cv_X7_stepOn_X7_byteAt (k_X7_byteAt (M := N) hR hn hB2 e3 (a := N 48 16) (by omega)) rfl rfl (by first | rfl | assumption) (Nat.le_of_ble_eq_true rfl) rfl (fun _ _ z => z.elim) (fun v9 h9 hp9 => ?_)
    obtain ⟨rfl, rfl⟩ := hp9
    rw [if_neg (show ¬ N 48 16 < n by omega)]
    refine ms_callS1 dX7_stepOn_84 cv_X7_stepOn_X7_isLetter (k_X7_isLetter (f := f) (M := N) (L := L) (Rf := Rf) (c := -1) (by omega)) (Nat.le_of_ble_eq_true rfl) rfl (fun _ _ z => z.elim) (fun v9 h9 hp9 => ?_)
    obtain ⟨rfl, rfl⟩ := hp9
    refine mi_if_eqB (tgt := 103) dX7_stepOn_87 (by decide) (fun c_87 => ?_) (fun c_87 => ?_)
    · exact hK N q1 q5 (by rw [← q2, en_stop (by omega)])
    · exact absurd (of_decide_eq_true c_87) (by omega)
  | succ kk ih =>
    intro N q1 q5 g0 g1 q2 hK
    have e3 : N 48 17 = n := (q1.2 17 (by omega)).trans hlen
    have e1 : N 62 = M 62 := q1.1 62 (by decide)
    have hB2 : ∀ i, 0 ≤ i → i < 500 → 0 ≤ N 62 i ∧ N 62 i ≤ 255 := by rw [e1]; exact hB
    have hb := hB2 (N 48 16) (by omega) (by omega)
    have htc : tcl (N 62 (N 48 16)) = 0 ↔ (97 ≤ N 62 (N 48 16) ∧ N 62 (N 48 16) ≤ 122) := by
      unfold tcl
      constructor
      · intro z; split at z; assumption; split at z; omega; split at z <;> omega
      · intro z; rw [if_pos z]
    rw [e1] at htc
    refine ms_aload_n dX7_stepOn_76 rfl ?_
    refine ms_aload_n dX7_stepOn_77 rfl ?_
    refine ms_getI (z := 16) dX7_stepOn_78 (fo_X7_144 rfl) (by first | rfl | assumption) rfl rfl ?_
    refine ms_callV1 (ci := 7) (r := (RX7, TX7, 48)) dX7_stepOn_81 cv_X7_stepOn_X7_byteAt (k_X7_byteAt (M := N) hR hn hB2 e3 (a := N 48 16) (by omega)) rfl rfl (by first | rfl | assumption) (Nat.le_of_ble_eq_true rfl) rfl (fun _ _ z => z.elim) (fun v9 h9 hp9 => ?_)
    obtain ⟨rfl, rfl⟩ := hp9
    rw [if_pos (show N 48 16 < n by omega)]
    refine ms_callS1 dX7_stepOn_84 cv_X7_stepOn_X7_isLetter (k_X7_isLetter (f := f) (M := N) (L := L) (Rf := Rf) (c := N 62 (N 48 16)) (by omega)) (Nat.le_of_ble_eq_true rfl) rfl (fun _ _ z => z.elim) (fun v9 h9 hp9 => ?_)
    obtain ⟨rfl, rfl⟩ := hp9
    refine mi_if_eqB (tgt := 103) dX7_stepOn_87 (by decide) (fun c_87 => ?_) (fun c_87 => ?_)
    · have c9 := of_decide_eq_false c_87
      rw [e1] at c9
      exact hK N q1 q5 (by rw [← q2, en_stop (fun z => c9 (htc.mp z.2))])
    · refine ms_aload_n dX7_stepOn_90 rfl ?_
      refine ms_dup dX7_stepOn_91 rfl ?_
      refine ms_getI (z := 16) dX7_stepOn_92 (fo_X7_144 rfl) (by first | rfl | assumption) rfl rfl ?_
      refine mi_iconst dX7_stepOn_95 ?_
      refine mi_iadd dX7_stepOn_96 ?_
      refine ms_putI (z := 16) dX7_stepOn_97 (fo_X7_144 rfl) (by first | rfl | assumption) rfl rfl rfl ?_
      refine ms_goto (tgt := 76) dX7_stepOn_100 (by decide) ?_
      have c9 := of_decide_eq_true c_87
      rw [e1] at c9
      exact ih _ (q1.put (Or.inl rfl)) (by rw [up_s, iu_n _ _ (by decide)]; exact q5) (by rw [up_s, iu_s]; omega) (by rw [up_s, iu_s]; omega) (by rw [up_s, iu_s, ← q2, ← en_step (by omega) (htc.mpr c9)]) hK
set_option maxHeartbeats 4000000 in
theorem l_X7_so3 {S : mx_Sc} {f : Bool} {M : Nat → Int → Int} {L : Nat → Nat → Int64} {Rf : Nat → Nat → Option Nat} (hR : mx_rf Rf) {n : Int} (hn : 0 ≤ n ∧ n ≤ 500) (hB : ∀ i, 0 ≤ i → i < 500 → 0 ≤ M 62 i ∧ M 62 i ≤ 255) {P : Option Value → mx_H → Prop} {PX : String → mx_H → Prop} (hlen : M 48 17 = n) {q : Int} (hq : 0 ≤ q ∧ q ≤ n) {z1 : Int} : ∀ (kk k : Nat) (N : Nat → Int → Int), sfP M N → N 48 20 = q → N 48 16 = q + k → N 48 16 + kk = n → en (M 62) n 1 (N 48 16) = te (M 62) n q → (∀ i, q ≤ i → i < q + k → 48 ≤ M 62 i ∧ M 62 i ≤ 57) → (0 ≤ N 48 19 ∧ N 48 19 ≤ 10000) → (k ≤ 3 → N 48 19 = nb (M 62) q k) → (∀ N, sfP M N → N 48 20 = q → N 48 16 = te (M 62) n q → (0 ≤ N 48 19 ∧ N 48 19 ≤ 10000) → (te (M 62) n q - q ≤ 3 → N 48 19 = nV (M 62) n q) → mx_E S mX7_stepOn 179 [some (.ref 48), some (.int (iI z1))] [] (f, mx_SH, N, L, Rf) 0 0 P PX) → mx_E S mX7_stepOn 123 [some (.ref 48), some (.int (iI z1))] [] (f, mx_SH, N, L, Rf) 0 0 P PX := by
  intro kk
  induction kk with
  | zero =>
    intro k N q1 q5 g0 g1 q2 q6 q7 q8 hK
    have e3 : N 48 17 = n := (q1.2 17 (by omega)).trans hlen
    have e1 : N 62 = M 62 := q1.1 62 (by decide)
    have hB2 : ∀ i, 0 ≤ i → i < 500 → 0 ≤ N 62 i ∧ N 62 i ≤ 255 := by rw [e1]; exact hB
    refine ms_aload_n dX7_stepOn_123 rfl ?_
    refine ms_aload_n dX7_stepOn_124 rfl ?_
    refine ms_getI (z := 16) dX7_stepOn_125 (fo_X7_144 rfl) (by first | rfl | assumption) rfl rfl ?_
    refine ms_callV1 (ci := 7) (r := (RX7, TX7, 48)) dX7_stepOn_128 cv_X7_stepOn_X7_byteAt (k_X7_byteAt (M := N) hR hn hB2 e3 (a := N 48 16) (by omega)) rfl rfl (by first | rfl | assumption) (Nat.le_of_ble_eq_true rfl) rfl (fun _ _ z => z.elim) (fun v9 h9 hp9 => ?_)
    obtain ⟨rfl, rfl⟩ := hp9
    rw [if_neg (show ¬ N 48 16 < n by omega)]
    refine ms_callS1 dX7_stepOn_131 cv_X7_stepOn_X7_isDigit (k_X7_isDigit (f := f) (M := N) (L := L) (Rf := Rf) (c := -1) (by omega)) (Nat.le_of_ble_eq_true rfl) rfl (fun _ _ z => z.elim) (fun v9 h9 hp9 => ?_)
    obtain ⟨rfl, rfl⟩ := hp9
    refine mi_if_eqB (tgt := 179) dX7_stepOn_134 (by decide) (fun c_134 => ?_) (fun c_134 => ?_)
    · have e9 : N 48 16 = te (M 62) n q := by rw [← q2, en_stop (by omega)]
      exact hK N q1 q5 e9 q7 (fun z => by rw [q8 (by omega)]; unfold nV; congr 1; omega)
    · exact absurd (of_decide_eq_true c_134) (by omega)
  | succ kk ih =>
    intro k N q1 q5 g0 g1 q2 q6 q7 q8 hK
    have e3 : N 48 17 = n := (q1.2 17 (by omega)).trans hlen
    have e1 : N 62 = M 62 := q1.1 62 (by decide)
    have hB2 : ∀ i, 0 ≤ i → i < 500 → 0 ≤ N 62 i ∧ N 62 i ≤ 255 := by rw [e1]; exact hB
    have hb := hB2 (N 48 16) (by omega) (by omega)
    have htc : tcl (N 62 (N 48 16)) = 1 ↔ (48 ≤ N 62 (N 48 16) ∧ N 62 (N 48 16) ≤ 57) := by
      unfold tcl
      constructor
      · intro z; split at z; omega; split at z; assumption; split at z <;> omega
      · intro z; rw [if_neg (by omega), if_pos z]
    rw [e1] at htc
    refine ms_aload_n dX7_stepOn_123 rfl ?_
    refine ms_aload_n dX7_stepOn_124 rfl ?_
    refine ms_getI (z := 16) dX7_stepOn_125 (fo_X7_144 rfl) (by first | rfl | assumption) rfl rfl ?_
    refine ms_callV1 (ci := 7) (r := (RX7, TX7, 48)) dX7_stepOn_128 cv_X7_stepOn_X7_byteAt (k_X7_byteAt (M := N) hR hn hB2 e3 (a := N 48 16) (by omega)) rfl rfl (by first | rfl | assumption) (Nat.le_of_ble_eq_true rfl) rfl (fun _ _ z => z.elim) (fun v9 h9 hp9 => ?_)
    obtain ⟨rfl, rfl⟩ := hp9
    rw [if_pos (show N 48 16 < n by omega)]
    refine ms_callS1 dX7_stepOn_131 cv_X7_stepOn_X7_isDigit (k_X7_isDigit (f := f) (M := N) (L := L) (Rf := Rf) (c := N 62 (N 48 16)) (by omega)) (Nat.le_of_ble_eq_true rfl) rfl (fun _ _ z => z.elim) (fun v9 h9 hp9 => ?_)
    obtain ⟨rfl, rfl⟩ := hp9
    refine mi_if_eqB (tgt := 179) dX7_stepOn_134 (by decide) (fun c_134 => ?_) (fun c_134 => ?_)
    · have c9 := of_decide_eq_false c_134
      rw [e1] at c9
      have e9 : N 48 16 = te (M 62) n q := by rw [← q2, en_stop (fun z => c9 (htc.mp z.2))]
      exact hK N q1 q5 e9 q7 (fun z => by rw [q8 (by omega)]; unfold nV; congr 1; omega)
    · have c9 := of_decide_eq_true c_134
      rw [e1] at c9
      refine ms_aload_n dX7_stepOn_137 rfl ?_
      refine mi_sipush dX7_stepOn_138 (by decide) ?_
      refine mi_bipush dX7_stepOn_141 (by decide) ?_
      refine ms_aload_n dX7_stepOn_143 rfl ?_
      refine ms_getI (z := 19) dX7_stepOn_144 (fo_X7_164 rfl) (by first | rfl | assumption) rfl rfl ?_
      refine mi_imul dX7_stepOn_147 ?_
      refine ms_aload_n dX7_stepOn_148 rfl ?_
      refine ms_aload_n dX7_stepOn_149 rfl ?_
      refine ms_getI (z := 16) dX7_stepOn_150 (fo_X7_144 rfl) (by first | rfl | assumption) rfl rfl ?_
      refine ms_callV1 (ci := 7) (r := (RX7, TX7, 48)) dX7_stepOn_153 cv_X7_stepOn_X7_byteAt (k_X7_byteAt (M := N) hR hn hB2 e3 (a := N 48 16) (by omega)) rfl rfl (by first | rfl | assumption) (Nat.le_of_ble_eq_true rfl) rfl (fun _ _ z => z.elim) (fun v9 h9 hp9 => ?_)
      obtain ⟨rfl, rfl⟩ := hp9
      rw [if_pos (show N 48 16 < n by omega)]
      refine mi_iadd dX7_stepOn_156 ?_
      refine mi_bipush dX7_stepOn_157 (by decide) ?_
      refine mi_isub dX7_stepOn_159 ?_
      refine mi_mmin dX7_stepOn_160 ma_X7_stepOn_min (Nat.le_of_ble_eq_true rfl) ?_
      refine ms_putI (z := 19) dX7_stepOn_163 (fo_X7_164 rfl) (by first | rfl | assumption) rfl rfl rfl ?_
      refine mx_gen (fun N2 => sfP M N2 ∧ N2 48 20 = q ∧ N2 48 16 = N 48 16 ∧ (0 ≤ N2 48 19 ∧ N2 48 19 ≤ 10000) ∧ (k + 1 ≤ 3 → N2 48 19 = nb (M 62) q (k + 1))) ⟨q1.put (Or.inr (Or.inr (Or.inl rfl))), by rw [up_s, iu_n _ _ (by decide)]; exact q5, by rw [up_s, iu_n _ _ (by decide)], ?_, ?_⟩ (fun N2 hN2 => ?_)
      · rw [up_s, iu_s, e1]
        split <;> omega
      · intro hk3
        have h8 := q8 (by omega)
        have hb2 := nb_b (g := M 62) (p := q) k q6
        have hp : (10 : Int) ^ k ≤ 100 := by
          rcases (show k = 0 ∨ k = 1 ∨ k = 2 by omega) with rfl | rfl | rfl <;> decide
        rw [up_s, iu_s, e1, show nb (M 62) q (k + 1) = nb (M 62) q k * 10 + M 62 (q + k) - 48 from rfl, ← g0]
        rw [if_pos (by omega)]
        omega
      obtain ⟨p1, p5, p6, p7, p8⟩ := hN2
      refine ms_aload_n dX7_stepOn_166 rfl ?_
      refine ms_dup dX7_stepOn_167 rfl ?_
      refine ms_getI (z := 16) dX7_stepOn_168 (fo_X7_144 rfl) (by first | rfl | assumption) rfl rfl ?_
      refine mi_iconst dX7_stepOn_171 ?_
      refine mi_iadd dX7_stepOn_172 ?_
      refine ms_putI (z := 16) dX7_stepOn_173 (fo_X7_144 rfl) (by first | rfl | assumption) rfl rfl rfl ?_
      refine ms_goto (tgt := 123) dX7_stepOn_176 (by decide) ?_
      refine ih (k + 1) _ (p1.put (Or.inl rfl)) (by rw [up_s, iu_n _ _ (by decide)]; exact p5) (by rw [up_s, iu_s]; omega) (by rw [up_s, iu_s]; omega) (by rw [up_s, iu_s, p6, ← q2, ← en_step (by omega) (htc.mpr c9)]) (fun i i0 i1 => ?_) (by rw [up_s, iu_n _ _ (by decide)]; exact p7) (by rw [up_s, iu_n _ _ (by decide)]; exact p8) hK
      by_cases e : i = q + k
      · rw [e, ← g0]; exact c9
      · exact q6 i i0 (by omega)
