/-- the reader stands before what begins at p -/
def rdS (N : Nat → Int → Int) (n p : Int) : Prop := N 45 3 = n ∧ N 45 5 = p ∧ N 45 6 = te (N 1) n p ∧ N 45 4 = tk (N 1) n p ∧ 0 ≤ p ∧ p ≤ n
/-- what an advance leaves as it was -/
def adP (M N : Nat → Int → Int) (n : Int) : Prop := (∀ x, x ≠ 45 → N x = M x) ∧ N 45 0 = M 45 0 ∧ N 45 1 = M 45 1 ∧ N 45 8 = M 45 8 ∧ N 45 7 = M 45 5 ∧ N 45 3 = n
theorem adP.put {M N : Nat → Int → Int} {n : Int} (h : adP M N n) {k v : Int} (hk : k = 4 ∨ k = 5 ∨ k = 6) : adP M (va_up N 45 (iu (N 45) k v)) n := by
  refine ⟨fun x hx => by rw [up_n _ _ hx]; exact h.1 x hx, ?_, ?_, ?_, ?_, ?_⟩ <;> rw [up_s, iu_n _ _ (by omega)]
  · exact h.2.1
  · exact h.2.2.1
  · exact h.2.2.2.1
  · exact h.2.2.2.2.1
  · exact h.2.2.2.2.2
set_option maxHeartbeats 4000000 in
set_option maxRecDepth 100000 in
theorem k_X1_refuse {S : mx_Sc} {f : Bool} {M : Nat → Int → Int} {L : Nat → Nat → Int64} {Rf : Nat → Nat → Option Nat} (hR : mx_rf Rf) {e p : Int} (hw : 0 ≤ M 45 0 ∧ M 45 0 ≤ 5) : mx_C S mX1_refuse [.ref 45, .int (iI e), .int (iI p)] (f, mx_SH, M, L, Rf) 0 0 (fun v9 h9 => h9 = (f, mx_SH, (if M 45 0 = 0 then va_up M 45 (iu (iu (M 45) 0 e) 1 p) else M), L, Rf) ∧ v9 = none) (fun _ _ => False) := by
  refine mx_C_of (by decide) (by simp [Value.category]) (Nat.le_of_ble_eq_true rfl) rfl ?_
  show mx_E S mX1_refuse 0 [some (.ref 45), some (.int (iI e)), some (.int (iI p))] [] (f, mx_SH, M, L, Rf) 0 0 _ _
  refine ms_aload_n dX1_refuse_0 rfl ?_
  refine ms_getI (z := 0) dX1_refuse_1 (fo_X1_34 rfl) (by first | rfl | assumption) rfl rfl ?_
  refine mi_if_ne (tgt := 17) dX1_refuse_4 (by decide) (fun c_4 => ?_) (fun c_4 => ?_)
  · refine ms_retV dX1_refuse_17 rfl ⟨by rw [if_neg c_4], rfl⟩ (by simp)
  · refine ms_aload_n dX1_refuse_7 rfl ?_
    refine ms_iload_n dX1_refuse_8 rfl ?_
    refine ms_putI (z := 0) dX1_refuse_9 (fo_X1_34 rfl) (by first | rfl | assumption) rfl rfl rfl ?_
    refine ms_aload_n dX1_refuse_12 rfl ?_
    refine ms_iload_n dX1_refuse_13 rfl ?_
    refine ms_putI (z := 1) dX1_refuse_14 (fo_X1_37 rfl) (by first | rfl | assumption) rfl rfl rfl ?_
    refine ms_retV dX1_refuse_17 rfl ⟨by rw [if_pos c_4, bx_uu, up_s], rfl⟩ (by simp)

set_option maxHeartbeats 4000000 in
set_option maxRecDepth 100000 in
theorem k_X1_classify {S : mx_Sc} {f : Bool} {M : Nat → Int → Int} {L : Nat → Nat → Int64} {Rf : Nat → Nat → Option Nat} (hR : mx_rf Rf) {n : Int} (hn : 0 ≤ n ∧ n ≤ 500) (hB : ∀ i, 0 ≤ i → i < 500 → 0 ≤ M 1 i ∧ M 1 i ≤ 255) (hlen : M 45 3 = n) {a : Int} (ha : 0 ≤ a ∧ a ≤ n) : mx_C S mX1_classify [.ref 45, .int (iI a)] (f, mx_SH, M, L, Rf) 0 0 (fun v9 h9 => h9 = (f, mx_SH, M, L, Rf) ∧ v9 = some (.int (iI (tk (M 1) n a)))) (fun _ _ => False) := by
  refine mx_C_of (by decide) (by simp [Value.category]) (Nat.le_of_ble_eq_true rfl) rfl ?_
  show mx_E S mX1_classify 0 [some (.ref 45), some (.int (iI a)), none] [] (f, mx_SH, M, L, Rf) 0 0 _ _
  refine ms_iload_n dX1_classify_0 rfl ?_
  refine ms_aload_n dX1_classify_1 rfl ?_
  refine ms_getI (z := 3) dX1_classify_2 (fo_X1_25 rfl) (by first | rfl | assumption) rfl rfl ?_
  refine mi_icmp_lt (tgt := 10) dX1_classify_5 (by decide) (fun c_5 => ?_) (fun c_5 => ?_)
  · have hb := hB a (by omega) (by omega)
    rw [tk_in (show a < n by omega)]
    unfold tcl
    refine ms_aload_n dX1_classify_10 rfl ?_
    refine ms_getR dX1_classify_11 (fo_X1_9 rfl) (by first | rfl | assumption) rfl (by first | assumption | exact rf_45_2 hR ) ?_
    refine ms_iload_n dX1_classify_14 rfl ?_
    refine ms_iald dX1_classify_15 (by first | rfl | assumption) ?_
    refine ms_istore_n dX1_classify_16 (by decide) rfl ?_
    dsimp only [List.set, Nat.reduceAdd]
    refine ms_iload_n dX1_classify_17 rfl ?_
    refine mi_bipush dX1_classify_18 (by decide) ?_
    refine mi_icmp_lt (tgt := 31) dX1_classify_20 (by decide) (fun c_20 => ?_) (fun c_20 => ?_)
    · refine ms_iload_n dX1_classify_31 rfl ?_
      refine mi_bipush dX1_classify_32 (by decide) ?_
      refine mi_icmp_lt (tgt := 45) dX1_classify_34 (by decide) (fun c_34 => ?_) (fun c_34 => ?_)
      · refine ms_iload_n dX1_classify_45 rfl ?_
        refine mi_bipush dX1_classify_46 (by decide) ?_
        refine mi_icmp_ne (tgt := 55) dX1_classify_48 (by decide) (fun c_48 => ?_) (fun c_48 => ?_)
        · refine mi_iconst dX1_classify_55 ?_
          refine ms_ret dX1_classify_56 rfl ⟨rfl, by rw [if_neg (by omega), if_neg (by omega)]; first | (rw [if_pos (by omega)]; done) | (rw [if_neg (by omega)]; done)⟩ (by simp)
        · refine mi_iconst dX1_classify_51 ?_
          refine ms_goto (tgt := 56) dX1_classify_52 (by decide) ?_
          refine ms_ret dX1_classify_56 rfl ⟨rfl, by rw [if_neg (by omega), if_neg (by omega)]; first | (rw [if_pos (by omega)]; done) | (rw [if_neg (by omega)]; done)⟩ (by simp)
      · refine ms_iload_n dX1_classify_37 rfl ?_
        refine mi_bipush dX1_classify_38 (by decide) ?_
        refine mi_icmp_gt (tgt := 45) dX1_classify_40 (by decide) (fun c_40 => ?_) (fun c_40 => ?_)
        · refine ms_iload_n dX1_classify_45 rfl ?_
          refine mi_bipush dX1_classify_46 (by decide) ?_
          refine mi_icmp_ne (tgt := 55) dX1_classify_48 (by decide) (fun c_48 => ?_) (fun c_48 => ?_)
          · refine mi_iconst dX1_classify_55 ?_
            refine ms_ret dX1_classify_56 rfl ⟨rfl, by rw [if_neg (by omega), if_neg (by omega)]; first | (rw [if_pos (by omega)]; done) | (rw [if_neg (by omega)]; done)⟩ (by simp)
          · refine mi_iconst dX1_classify_51 ?_
            refine ms_goto (tgt := 56) dX1_classify_52 (by decide) ?_
            refine ms_ret dX1_classify_56 rfl ⟨rfl, by rw [if_neg (by omega), if_neg (by omega)]; first | (rw [if_pos (by omega)]; done) | (rw [if_neg (by omega)]; done)⟩ (by simp)
        · refine mi_iconst dX1_classify_43 ?_
          refine ms_ret dX1_classify_44 rfl ⟨rfl, by rw [if_neg (by omega), if_pos ⟨by omega, by omega⟩]⟩ (by simp)
    · refine ms_iload_n dX1_classify_23 rfl ?_
      refine mi_bipush dX1_classify_24 (by decide) ?_
      refine mi_icmp_gt (tgt := 31) dX1_classify_26 (by decide) (fun c_26 => ?_) (fun c_26 => ?_)
      · refine ms_iload_n dX1_classify_31 rfl ?_
        refine mi_bipush dX1_classify_32 (by decide) ?_
        refine mi_icmp_lt (tgt := 45) dX1_classify_34 (by decide) (fun c_34 => ?_) (fun c_34 => ?_)
        · refine ms_iload_n dX1_classify_45 rfl ?_
          refine mi_bipush dX1_classify_46 (by decide) ?_
          refine mi_icmp_ne (tgt := 55) dX1_classify_48 (by decide) (fun c_48 => ?_) (fun c_48 => ?_)
          · refine mi_iconst dX1_classify_55 ?_
            refine ms_ret dX1_classify_56 rfl ⟨rfl, by rw [if_neg (by omega), if_neg (by omega)]; first | (rw [if_pos (by omega)]; done) | (rw [if_neg (by omega)]; done)⟩ (by simp)
          · refine mi_iconst dX1_classify_51 ?_
            refine ms_goto (tgt := 56) dX1_classify_52 (by decide) ?_
            refine ms_ret dX1_classify_56 rfl ⟨rfl, by rw [if_neg (by omega), if_neg (by omega)]; first | (rw [if_pos (by omega)]; done) | (rw [if_neg (by omega)]; done)⟩ (by simp)
        · refine ms_iload_n dX1_classify_37 rfl ?_
          refine mi_bipush dX1_classify_38 (by decide) ?_
          refine mi_icmp_gt (tgt := 45) dX1_classify_40 (by decide) (fun c_40 => ?_) (fun c_40 => ?_)
          · refine ms_iload_n dX1_classify_45 rfl ?_
            refine mi_bipush dX1_classify_46 (by decide) ?_
            refine mi_icmp_ne (tgt := 55) dX1_classify_48 (by decide) (fun c_48 => ?_) (fun c_48 => ?_)
            · refine mi_iconst dX1_classify_55 ?_
              refine ms_ret dX1_classify_56 rfl ⟨rfl, by rw [if_neg (by omega), if_neg (by omega)]; first | (rw [if_pos (by omega)]; done) | (rw [if_neg (by omega)]; done)⟩ (by simp)
            · refine mi_iconst dX1_classify_51 ?_
              refine ms_goto (tgt := 56) dX1_classify_52 (by decide) ?_
              refine ms_ret dX1_classify_56 rfl ⟨rfl, by rw [if_neg (by omega), if_neg (by omega)]; first | (rw [if_pos (by omega)]; done) | (rw [if_neg (by omega)]; done)⟩ (by simp)
          · refine mi_iconst dX1_classify_43 ?_
            refine ms_ret dX1_classify_44 rfl ⟨rfl, by rw [if_neg (by omega), if_pos ⟨by omega, by omega⟩]⟩ (by simp)
      · refine mi_iconst dX1_classify_29 ?_
        refine ms_ret dX1_classify_30 rfl ⟨rfl, by rw [if_pos ⟨by omega, by omega⟩]⟩ (by simp)
  · refine mi_iconst dX1_classify_8 ?_
    refine ms_ret dX1_classify_9 rfl ⟨rfl, by rw [tk_4 (by omega)]⟩ (by simp)

set_option maxHeartbeats 4000000 in
set_option maxRecDepth 100000 in
theorem l_X1_av1 {S : mx_Sc} {f : Bool} {M : Nat → Int → Int} {L : Nat → Nat → Int64} {Rf : Nat → Nat → Option Nat} (hR : mx_rf Rf) {n : Int} (hn : 0 ≤ n ∧ n ≤ 500) (hB : ∀ i, 0 ≤ i → i < 500 → 0 ≤ M 1 i ∧ M 1 i ≤ 255) {P : Option Value → mx_H → Prop} {PX : String → mx_H → Prop} : ∀ (kk : Nat) (N : Nat → Int → Int), adP M N n → 0 ≤ N 45 5 → N 45 5 + kk = n → sk (M 1) n (N 45 5) = (sk (M 1) n (M 45 6)) → (∀ N, adP M N n → N 45 5 = (sk (M 1) n (M 45 6)) → mx_E S mX1_advance 68 [some (.ref 45)] [] (f, mx_SH, N, L, Rf) 0 0 P PX) → mx_E S mX1_advance 16 [some (.ref 45)] [] (f, mx_SH, N, L, Rf) 0 0 P PX := by
  intro kk
  induction kk with
  | zero => 
    intro N q1 g0 g1 q2 hK
    have e3 := q1.2.2.2.2.2
    refine ms_aload_n dX1_advance_16 rfl ?_
    refine ms_getI (z := 5) dX1_advance_17 (fo_X1_56 rfl) (by first | rfl | assumption) rfl rfl ?_
    refine ms_aload_n dX1_advance_20 rfl ?_
    refine ms_getI (z := 3) dX1_advance_21 (fo_X1_25 rfl) (by first | rfl | assumption) rfl rfl ?_
    refine mi_icmp_ge (tgt := 68) dX1_advance_24 (by decide) (fun c_24 => ?_) (fun c_24 => ?_)
    · exact hK N q1 (by rw [← q2, sk_stop (by omega)])
    · exact absurd c_24 (by omega)
  | succ kk ih => 
    intro N q1 g0 g1 q2 hK
    have e3 := q1.2.2.2.2.2
    have e1 : N 1 = M 1 := q1.1 1 (by decide)
    have hb := hB (N 45 5) (by omega) (by omega)
    rw [← e1] at hb
    refine ms_aload_n dX1_advance_16 rfl ?_
    refine ms_getI (z := 5) dX1_advance_17 (fo_X1_56 rfl) (by first | rfl | assumption) rfl rfl ?_
    refine ms_aload_n dX1_advance_20 rfl ?_
    refine ms_getI (z := 3) dX1_advance_21 (fo_X1_25 rfl) (by first | rfl | assumption) rfl rfl ?_
    refine mi_icmp_ge (tgt := 68) dX1_advance_24 (by decide) (fun c_24 => ?_) (fun c_24 => ?_)
    · exact absurd c_24 (by omega)
    · refine ms_aload_n dX1_advance_27 rfl ?_
      refine ms_getR dX1_advance_28 (fo_X1_9 rfl) (by first | rfl | assumption) rfl (by first | assumption | exact rf_45_2 hR ) ?_
      refine ms_aload_n dX1_advance_31 rfl ?_
      refine ms_getI (z := 5) dX1_advance_32 (fo_X1_56 rfl) (by first | rfl | assumption) rfl rfl ?_
      refine ms_iald dX1_advance_35 (by first | rfl | assumption) ?_
      refine mi_bipush dX1_advance_36 (by decide) ?_
      refine mi_icmp_eq (tgt := 55) dX1_advance_38 (by decide) (fun c_38 => ?_) (fun c_38 => ?_)
      · refine ms_aload_n dX1_advance_55 rfl ?_
        refine ms_dup dX1_advance_56 rfl ?_
        refine ms_getI (z := 5) dX1_advance_57 (fo_X1_56 rfl) (by first | rfl | assumption) rfl rfl ?_
        refine mi_iconst dX1_advance_60 ?_
        refine mi_iadd dX1_advance_61 ?_
        refine ms_putI (z := 5) dX1_advance_62 (fo_X1_56 rfl) (by first | rfl | assumption) rfl rfl rfl ?_
        refine ms_goto (tgt := 16) dX1_advance_65 (by decide) ?_
        exact ih _ (q1.put (Or.inr (Or.inl rfl))) (by rw [up_s, iu_s]; omega) (by rw [up_s, iu_s]; omega) (by rw [up_s, iu_s, ← q2, ← sk_step (by omega) (by rw [← e1]; unfold spc; omega)]) hK
      · refine ms_aload_n dX1_advance_41 rfl ?_
        refine ms_getR dX1_advance_42 (fo_X1_9 rfl) (by first | rfl | assumption) rfl (by first | assumption | exact rf_45_2 hR ) ?_
        refine ms_aload_n dX1_advance_45 rfl ?_
        refine ms_getI (z := 5) dX1_advance_46 (fo_X1_56 rfl) (by first | rfl | assumption) rfl rfl ?_
        refine ms_iald dX1_advance_49 (by first | rfl | assumption) ?_
        refine mi_bipush dX1_advance_50 (by decide) ?_
        refine mi_icmp_ne (tgt := 68) dX1_advance_52 (by decide) (fun c_52 => ?_) (fun c_52 => ?_)
        · exact hK N q1 (by rw [← q2, sk_stop (fun q => by rcases q.2 with z | z <;> rw [← e1] at z <;> omega)])
        · refine ms_aload_n dX1_advance_55 rfl ?_
          refine ms_dup dX1_advance_56 rfl ?_
          refine ms_getI (z := 5) dX1_advance_57 (fo_X1_56 rfl) (by first | rfl | assumption) rfl rfl ?_
          refine mi_iconst dX1_advance_60 ?_
          refine mi_iadd dX1_advance_61 ?_
          refine ms_putI (z := 5) dX1_advance_62 (fo_X1_56 rfl) (by first | rfl | assumption) rfl rfl rfl ?_
          refine ms_goto (tgt := 16) dX1_advance_65 (by decide) ?_
          exact ih _ (q1.put (Or.inr (Or.inl rfl))) (by rw [up_s, iu_s]; omega) (by rw [up_s, iu_s]; omega) (by rw [up_s, iu_s, ← q2, ← sk_step (by omega) (by rw [← e1]; unfold spc; omega)]) hK

set_option maxHeartbeats 4000000 in
set_option maxRecDepth 100000 in
theorem l_X1_av2 {S : mx_Sc} {f : Bool} {M : Nat → Int → Int} {L : Nat → Nat → Int64} {Rf : Nat → Nat → Option Nat} (hR : mx_rf Rf) {n : Int} (hn : 0 ≤ n ∧ n ≤ 500) (hB : ∀ i, 0 ≤ i → i < 500 → 0 ≤ M 1 i ∧ M 1 i ≤ 255) {q : Int} (hq : 0 ≤ q ∧ q ≤ n) (hc : tk (M 1) n q = 0 ∨ tk (M 1) n q = 1) (hqq : q = (sk (M 1) n (M 45 6))) : ∀ (kk : Nat) (N : Nat → Int → Int), adP M N n → N 45 5 = q → N 45 4 = tk (M 1) n q → 0 ≤ N 45 6 → N 45 6 + kk = n → en (M 1) n (tk (M 1) n q) (N 45 6) = te (M 1) n q → mx_E S mX1_advance 103 [some (.ref 45)] [] (f, mx_SH, N, L, Rf) 0 0 (fun v9 h9 => ∃ N, h9 = (f, mx_SH, N, L, Rf) ∧ v9 = none ∧ adP M N n ∧ rdS N n (sk (M 1) n (M 45 6))) (fun _ _ => False) := by
  intro kk
  induction kk with
  | zero => 
    intro N q1 q5 q4 g0 g1 q2
    have e3 := q1.2.2.2.2.2
    have e1 : N 1 = M 1 := q1.1 1 (by decide)
    refine ms_aload_n dX1_advance_103 rfl ?_
    refine ms_getI (z := 6) dX1_advance_104 (fo_X1_40 rfl) (by first | rfl | assumption) rfl rfl ?_
    refine ms_aload_n dX1_advance_107 rfl ?_
    refine ms_getI (z := 3) dX1_advance_108 (fo_X1_25 rfl) (by first | rfl | assumption) rfl rfl ?_
    refine mi_icmp_ge (tgt := 160) dX1_advance_111 (by decide) (fun c_111 => ?_) (fun c_111 => ?_)
    · refine ms_retV dX1_advance_160 rfl ⟨N, rfl, rfl, q1, e3, q5.trans hqq, by rw [e1, ← hqq, ← q2, en_stop (by omega)], by rw [e1, ← hqq, q4], by rw [← hqq]; exact hq.1, by rw [← hqq]; exact hq.2⟩ (by simp)
    · exact absurd c_111 (by omega)
  | succ kk ih => 
    intro N q1 q5 q4 g0 g1 q2
    have e3 := q1.2.2.2.2.2
    have e1 : N 1 = M 1 := q1.1 1 (by decide)
    have htb := tk_b (M 1) n (N 45 6)
    refine ms_aload_n dX1_advance_103 rfl ?_
    refine ms_getI (z := 6) dX1_advance_104 (fo_X1_40 rfl) (by first | rfl | assumption) rfl rfl ?_
    refine ms_aload_n dX1_advance_107 rfl ?_
    refine ms_getI (z := 3) dX1_advance_108 (fo_X1_25 rfl) (by first | rfl | assumption) rfl rfl ?_
    refine mi_icmp_ge (tgt := 160) dX1_advance_111 (by decide) (fun c_111 => ?_) (fun c_111 => ?_)
    · exact absurd c_111 (by omega)
    · refine ms_aload_n dX1_advance_114 rfl ?_
      refine ms_aload_n dX1_advance_115 rfl ?_
      refine ms_getI (z := 6) dX1_advance_116 (fo_X1_40 rfl) (by first | rfl | assumption) rfl rfl ?_
      refine ms_callV1 (ci := 1) (r := (RX1, TX1, 10)) dX1_advance_119 cv_X1_advance_X1_classify (k_X1_classify (M := N) hR hn (by rw [e1]; exact hB) e3 (a := N 45 6) (by omega)) rfl rfl (by first | rfl | assumption) (Nat.le_of_ble_eq_true rfl) rfl (fun _ _ z => z.elim) (fun v9 h9 hp9 => ?_)
      obtain ⟨rfl, rfl⟩ := hp9
      rw [e1, tk_in (show N 45 6 < n by omega)]
      have htc := tcl_b (M 1 (N 45 6))
      refine ms_aload_n dX1_advance_122 rfl ?_
      refine ms_getI (z := 4) dX1_advance_123 (fo_X1_49 rfl) (by first | rfl | assumption) rfl rfl ?_
      refine mi_icmp_ne (tgt := 160) dX1_advance_126 (by decide) (fun c_126 => ?_) (fun c_126 => ?_)
      · refine ms_retV dX1_advance_160 rfl ⟨N, rfl, rfl, q1, e3, q5.trans hqq, by rw [e1, ← hqq, ← q2, en_stop (fun z => by have := z.2; omega)], by rw [e1, ← hqq, q4], by rw [← hqq]; exact hq.1, by rw [← hqq]; exact hq.2⟩ (by simp)
      · refine ms_aload_n dX1_advance_129 rfl ?_
        refine ms_dup dX1_advance_130 rfl ?_
        refine ms_getI (z := 6) dX1_advance_131 (fo_X1_40 rfl) (by first | rfl | assumption) rfl rfl ?_
        refine mi_iconst dX1_advance_134 ?_
        refine mi_iadd dX1_advance_135 ?_
        refine ms_putI (z := 6) dX1_advance_136 (fo_X1_40 rfl) (by first | rfl | assumption) rfl rfl rfl ?_
        refine ms_goto (tgt := 103) dX1_advance_139 (by decide) ?_
        exact ih _ (q1.put (Or.inr (Or.inr rfl))) (by rw [up_s, iu_n _ _ (by decide)]; exact q5) (by rw [up_s, iu_n _ _ (by decide)]; exact q4) (by rw [up_s, iu_s]; omega) (by rw [up_s, iu_s]; omega) (by rw [up_s, iu_s, ← q2, ← en_step (by omega) (by omega)])

set_option maxHeartbeats 4000000 in
set_option maxRecDepth 100000 in
theorem k_X1_advance {S : mx_Sc} {f : Bool} {M : Nat → Int → Int} {L : Nat → Nat → Int64} {Rf : Nat → Nat → Option Nat} (hR : mx_rf Rf) {n : Int} (hn : 0 ≤ n ∧ n ≤ 500) (hB : ∀ i, 0 ≤ i → i < 500 → 0 ≤ M 1 i ∧ M 1 i ≤ 255) (hlen : M 45 3 = n) (hbe : 0 ≤ M 45 6 ∧ M 45 6 ≤ n) : mx_C S mX1_advance [.ref 45] (f, mx_SH, M, L, Rf) 0 0 (fun v9 h9 => ∃ N, h9 = (f, mx_SH, N, L, Rf) ∧ v9 = none ∧ adP M N n ∧ rdS N n (sk (M 1) n (M 45 6))) (fun _ _ => False) := by
  refine mx_C_of (by decide) (by simp [Value.category]) (Nat.le_of_ble_eq_true rfl) rfl ?_
  show mx_E S mX1_advance 0 [some (.ref 45)] [] (f, mx_SH, M, L, Rf) 0 0 _ _
  refine ms_aload_n dX1_advance_0 rfl ?_
  refine ms_aload_n dX1_advance_1 rfl ?_
  refine ms_getI (z := 5) dX1_advance_2 (fo_X1_56 rfl) (by first | rfl | assumption) rfl rfl ?_
  refine ms_putI (z := 7) dX1_advance_5 (fo_X1_59 rfl) (by first | rfl | assumption) rfl rfl rfl ?_
  refine ms_aload_n dX1_advance_8 rfl ?_
  refine ms_aload_n dX1_advance_9 rfl ?_
  refine ms_getI (z := 6) dX1_advance_10 (fo_X1_40 rfl) (by first | rfl | assumption) rfl rfl ?_
  refine ms_putI (z := 5) dX1_advance_13 (fo_X1_56 rfl) (by first | rfl | assumption) rfl rfl rfl ?_
  refine l_X1_av1 (S := S) (f := f) (L := L) (P := (fun v9 h9 => ∃ N, h9 = (f, mx_SH, N, L, Rf) ∧ v9 = none ∧ adP M N n ∧ rdS N n (sk (M 1) n (M 45 6)))) (PX := fun _ _ => False) hR hn hB (n - M 45 6).toNat _ ⟨fun x hx => by rw [up_n _ _ hx, up_n _ _ hx], ?_, ?_, ?_, ?_, ?_⟩ ?_ ?_ ?_ (fun N q1 q5 => ?_)
  · simp [va_up, iu]
  · simp [va_up, iu]
  · simp [va_up, iu]
  · simp [va_up, iu]
  · simp [va_up, iu]; exact hlen
  · simp [va_up, iu]; omega
  · simp [va_up, iu]; omega
  · simp [va_up, iu]
  · have hq0 := sk_b (g := M 1) (n := n) (p := M 45 6) (by omega)
    have e1 : N 1 = M 1 := q1.1 1 (by decide)
    refine ms_aload_n dX1_advance_68 rfl ?_
    refine ms_aload_n dX1_advance_69 rfl ?_
    refine ms_getI (z := 5) dX1_advance_70 (fo_X1_56 rfl) (by first | rfl | assumption) rfl rfl ?_
    refine ms_putI (z := 6) dX1_advance_73 (fo_X1_40 rfl) (by first | rfl | assumption) rfl rfl rfl ?_
    refine mx_gen (fun N2 => adP M N2 n ∧ N2 45 5 = (sk (M 1) n (M 45 6)) ∧ N2 45 6 = (sk (M 1) n (M 45 6))) ⟨q1.put (Or.inr (Or.inr rfl)), by rw [up_s, iu_n _ _ (by decide)]; exact q5, by rw [up_s, iu_s]; exact q5⟩ (fun N2 hN2 => ?_)
    obtain ⟨p1, p5, p6⟩ := hN2
    have f1 : N2 1 = M 1 := p1.1 1 (by decide)
    have f3 := p1.2.2.2.2.2
    refine ms_aload_n dX1_advance_76 rfl ?_
    refine ms_aload_n dX1_advance_77 rfl ?_
    refine ms_aload_n dX1_advance_78 rfl ?_
    refine ms_getI (z := 5) dX1_advance_79 (fo_X1_56 rfl) (by first | rfl | assumption) rfl rfl ?_
    refine ms_callV1 (ci := 1) (r := (RX1, TX1, 10)) dX1_advance_82 cv_X1_advance_X1_classify (k_X1_classify (M := N2) hR hn (by rw [f1]; exact hB) f3 (a := N2 45 5) (by omega)) rfl rfl (by first | rfl | assumption) (Nat.le_of_ble_eq_true rfl) rfl (fun _ _ z => z.elim) (fun v9 h9 hp9 => ?_)
    obtain ⟨rfl, rfl⟩ := hp9
    rw [f1, p5]
    refine ms_putI (z := 4) dX1_advance_85 (fo_X1_49 rfl) (by first | rfl | assumption) rfl rfl rfl ?_
    refine mx_gen (fun N3 => adP M N3 n ∧ N3 45 5 = (sk (M 1) n (M 45 6)) ∧ N3 45 6 = (sk (M 1) n (M 45 6)) ∧ N3 45 4 = tk (M 1) n (sk (M 1) n (M 45 6))) ⟨p1.put (Or.inl rfl), by rw [up_s, iu_n _ _ (by decide)]; exact p5, by rw [up_s, iu_n _ _ (by decide)]; exact p6, by rw [up_s, iu_s]⟩ (fun N3 hN3 => ?_)
    obtain ⟨r1, r5, r6, r4⟩ := hN3
    have d1 : N3 1 = M 1 := r1.1 1 (by decide)
    have d3 := r1.2.2.2.2.2
    have htb := tk_b (M 1) n (sk (M 1) n (M 45 6))
    refine ms_aload_n dX1_advance_88 rfl ?_
    refine ms_getI (z := 4) dX1_advance_89 (fo_X1_49 rfl) (by first | rfl | assumption) rfl rfl ?_
    refine mi_if_eq (tgt := 103) dX1_advance_92 (by decide) (fun c_92 => ?_) (fun c_92 => ?_)
    · exact l_X1_av2 (S := S) (f := f) (L := L) hR hn hB (q := (sk (M 1) n (M 45 6))) (by omega) (by omega) rfl (n - (sk (M 1) n (M 45 6))).toNat N3 r1 r5 r4 (by omega) (by omega) (by rw [r6]; unfold te; rw [if_neg (by omega), if_pos (by omega)])
    · refine ms_aload_n dX1_advance_95 rfl ?_
      refine ms_getI (z := 4) dX1_advance_96 (fo_X1_49 rfl) (by first | rfl | assumption) rfl rfl ?_
      refine mi_iconst dX1_advance_99 ?_
      refine mi_icmp_ne (tgt := 142) dX1_advance_100 (by decide) (fun c_100 => ?_) (fun c_100 => ?_)
      · refine ms_aload_n dX1_advance_142 rfl ?_
        refine ms_getI (z := 4) dX1_advance_143 (fo_X1_49 rfl) (by first | rfl | assumption) rfl rfl ?_
        refine mi_iconst dX1_advance_146 ?_
        refine mi_icmp_eq (tgt := 160) dX1_advance_147 (by decide) (fun c_147 => ?_) (fun c_147 => ?_)
        · refine ms_retV dX1_advance_160 rfl ⟨N3, rfl, rfl, r1, d3, r5, by rw [d1, r6]; unfold te; rw [if_pos (by omega)], by rw [d1, r4], by omega, by omega⟩ (by simp)
        · refine ms_aload_n dX1_advance_150 rfl ?_
          refine ms_dup dX1_advance_151 rfl ?_
          refine ms_getI (z := 6) dX1_advance_152 (fo_X1_40 rfl) (by first | rfl | assumption) rfl rfl ?_
          refine mi_iconst dX1_advance_155 ?_
          refine mi_iadd dX1_advance_156 ?_
          refine ms_putI (z := 6) dX1_advance_157 (fo_X1_40 rfl) (by first | rfl | assumption) rfl rfl rfl ?_
          refine ms_retV dX1_advance_160 rfl ⟨_, rfl, rfl, r1.put (Or.inr (Or.inr rfl)), by rw [up_s, iu_n _ _ (by decide)]; exact d3, by rw [up_s, iu_n _ _ (by decide)]; exact r5, by rw [up_s, iu_s, up_n _ _ (by decide), d1, r6]; unfold te; rw [if_neg (by omega), if_neg (by omega)], by rw [up_s, iu_n _ _ (by decide), up_n _ _ (by decide), d1, r4], by omega, by omega⟩ (by simp)
      · exact l_X1_av2 (S := S) (f := f) (L := L) hR hn hB (q := (sk (M 1) n (M 45 6))) (by omega) (by omega) rfl (n - (sk (M 1) n (M 45 6))).toNat N3 r1 r5 r4 (by omega) (by omega) (by rw [r6]; unfold te; rw [if_neg (by omega), if_pos (by omega)])

