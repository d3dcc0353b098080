/-- a fault was written down, no more -/
def ffP (M N : Nat → Int → Int) (c q : Int) : Prop := (∀ x, x ≠ 48 → N x = M x) ∧ mdF N c q ∧ ∀ k, (k < 16 ∨ k = 17 ∨ 23 < k) → N 48 k = M 48 k
theorem ffP.mf {M N : Nat → Int → Int} {c q : Int} (h : ffP M N c q) : mfP M N := mfP.o48 h.1 h.2.2
theorem mdG.ff {M : Nat → Int → Int} {n p c : Int} {T : td_T} (hG : mdG M n p T) (hc : 1 ≤ c ∧ c ≤ 5) : ffP M (va_up M 48 (iu (iu (M 48) 22 c) 23 (M 48 20))) c p := ⟨fun x hx => up_n _ _ hx, (hG.F hc).1, fun k hk => by rw [up_s, iu_n _ _ (by omega), iu_n _ _ (by omega)]⟩
def mdR (N : Nat → Int → Int) (n : Int) : pR → Prop
  | .inl (c, q) => mdF N c q
  | .inr (p, T) => mdG N n p T
set_option maxHeartbeats 4000000 in
set_option maxRecDepth 100000 in
theorem k_X7_numberNow {S : mx_Sc} {f : Bool} {M : Nat → Int → Int} {L : Nat → Nat → Int64} {Rf : Nat → Nat → Option Nat} (hR : mx_rf Rf) {n : Int} (hn : 0 ≤ n ∧ n ≤ 500) (hB : ∀ i, 0 ≤ i → i < 500 → 0 ≤ M 62 i ∧ M 62 i ≤ 255) {p : Int} {T : td_T} (hG : mdG M n p T) {a b : Int} (ha : 0 ≤ a ∧ a ≤ 1) (hb : -1 ≤ b ∧ b ≤ 1000) : mx_C S mX7_numberNow [.ref 48, .int (iI a), .int (iI b)] (f, mx_SH, M, L, Rf) 0 0 (fun v9 h9 => (nC (M 62) n p a b 2 ≠ 0 ∧ ∃ N, h9 = (f, mx_SH, N, L, Rf) ∧ v9 = some (.int (iI 0)) ∧ ffP M N (nC (M 62) n p a b 2) p) ∨ (nC (M 62) n p a b 2 = 0 ∧ h9 = (f, mx_SH, M, L, Rf) ∧ v9 = some (.int (iI (nV (M 62) n p))))) (fun _ _ => False) := by
  refine mx_C_of (by decide) (by simp [Value.category]) (Nat.le_of_ble_eq_true rfl) rfl ?_
  show mx_E S mX7_numberNow 0 [some (.ref 48), some (.int (iI a)), some (.int (iI b))] [] (f, mx_SH, M, L, Rf) 0 0 _ _
  have hS := hG.1
  have hw0 := hG.2.1
  have h20 := hS.2.1
  have h21 := hS.2.2.1
  have h16 := hS.2.2.2.1
  have h18 := hS.2.2.2.2.1
  have hnum := hS.2.2.2.2.2.1
  have h0 := hS.2.2.2.2.2.2
  have htb := tk_b (M 62) n p
  have ht9 := te_b (g := M 62) h0.2
  have e0 : ∀ k, 0 ≤ k → k < 7 → M 53 (7 + k) = T 0 k := hG.2.2.1.1
  have e00 : M 53 7 = T 0 0 := e0 0 (by decide) (by decide)
  have e01 : M 53 8 = T 0 1 := e0 1 (by decide) (by decide)
  have e06 : M 53 13 = T 0 6 := e0 6 (by decide) (by decide)
  have o0 : 1 ≤ T 0 0 ∧ T 0 0 ≤ 30 := hG.2.2.2.1.1
  have o1 : 0 ≤ T 0 1 ∧ T 0 1 ≤ 6 := hG.2.2.2.1.2.1
  have o6 : 0 ≤ T 0 6 ∧ T 0 6 ≤ 10 := hG.2.2.2.1.2.2.2.2.2.2.1
  have hmt : mtk (tk (M 62) n p) = if tk (M 62) n p = 4 then 0 else tk (M 62) n p + 1 := rfl
  refine ms_aload_n dX7_numberNow_0 rfl ?_
  refine ms_getI (z := 22) dX7_numberNow_1 (fo_X7_176 rfl) (by first | rfl | assumption) rfl rfl ?_
  refine mi_if_eq (tgt := 9) dX7_numberNow_4 (by decide) (fun c_4 => ?_) (fun c_4 => ?_)
  · refine ms_aload_n dX7_numberNow_9 rfl ?_
    refine ms_getI (z := 18) dX7_numberNow_10 (fo_X7_154 rfl) (by first | rfl | assumption) rfl rfl ?_
    refine mi_iconst dX7_numberNow_13 ?_
    refine mi_icmp_eq (tgt := 25) dX7_numberNow_14 (by decide) (fun c_14 => ?_) (fun c_14 => ?_)
    · have htk : tk (M 62) n p = 1 := by rw [h18, hmt] at c_14; split at c_14 <;> omega
      have hnv := hnum htk
      refine ms_aload_n dX7_numberNow_25 rfl ?_
      refine ms_getI (z := 21) dX7_numberNow_26 (fo_X7_173 rfl) (by first | rfl | assumption) rfl rfl ?_
      refine ms_aload_n dX7_numberNow_29 rfl ?_
      refine ms_getI (z := 20) dX7_numberNow_30 (fo_X7_151 rfl) (by first | rfl | assumption) rfl rfl ?_
      refine mi_isub dX7_numberNow_33 ?_
      refine mi_iconst dX7_numberNow_34 ?_
      refine mi_icmp_gt (tgt := 54) dX7_numberNow_35 (by decide) (fun c_35 => ?_) (fun c_35 => ?_)
      · refine ms_aload_n dX7_numberNow_54 rfl ?_
        refine mi_iconst dX7_numberNow_55 ?_
        refine ms_callV1 (ci := 7) (r := (RX7, TX7, 48)) dX7_numberNow_56 cv_X7_numberNow_X7_wrong (k_X7_wrong (e := 2) hR (by omega)) rfl rfl (by first | rfl | assumption) (Nat.le_of_ble_eq_true rfl) rfl (fun _ _ z => z.elim) (fun v9 h9 hp9 => ?_)
        obtain ⟨rfl, rfl⟩ := hp9
        have hcc : nC (M 62) n p a b 2 = 2 := by
          unfold nC
          rw [if_neg (by omega), if_pos (by omega)]
        rw [if_pos hw0]
        have hFF := hG.ff (c := 2) (by decide)
        have hv9 := hFF.2.1.1
        refine ms_aload_n dX7_numberNow_59 rfl ?_
        refine ms_getI (z := 22) dX7_numberNow_60 (fo_X7_176 rfl) (by first | rfl | assumption) rfl rfl ?_
        refine mi_if_ne (tgt := 73) dX7_numberNow_63 (by decide) (fun c_63 => ?_) (fun c_63 => ?_)
        · refine mi_iconst dX7_numberNow_73 ?_
          refine ms_ret dX7_numberNow_74 rfl (Or.inl ⟨by omega, _, rfl, rfl, by rw [hcc]; exact hFF⟩) (by simp)
        · exact absurd c_63 (by omega)
      · have hn3 := hnv.2 (by omega)
        have hnb := hnv.1
        refine ms_aload_n dX7_numberNow_38 rfl ?_
        refine ms_getI (z := 19) dX7_numberNow_39 (fo_X7_164 rfl) (by first | rfl | assumption) rfl rfl ?_
        refine ms_iload_n dX7_numberNow_42 rfl ?_
        refine mi_icmp_lt (tgt := 54) dX7_numberNow_43 (by decide) (fun c_43 => ?_) (fun c_43 => ?_)
        · refine ms_aload_n dX7_numberNow_54 rfl ?_
          refine mi_iconst dX7_numberNow_55 ?_
          refine ms_callV1 (ci := 7) (r := (RX7, TX7, 48)) dX7_numberNow_56 cv_X7_numberNow_X7_wrong (k_X7_wrong (e := 2) hR (by omega)) rfl rfl (by first | rfl | assumption) (Nat.le_of_ble_eq_true rfl) rfl (fun _ _ z => z.elim) (fun v9 h9 hp9 => ?_)
          obtain ⟨rfl, rfl⟩ := hp9
          have hcc : nC (M 62) n p a b 2 = 2 := by
            unfold nC
            rw [if_neg (by omega), if_neg (by omega), if_pos (by omega)]
          rw [if_pos hw0]
          have hFF := hG.ff (c := 2) (by decide)
          have hv9 := hFF.2.1.1
          refine ms_aload_n dX7_numberNow_59 rfl ?_
          refine ms_getI (z := 22) dX7_numberNow_60 (fo_X7_176 rfl) (by first | rfl | assumption) rfl rfl ?_
          refine mi_if_ne (tgt := 73) dX7_numberNow_63 (by decide) (fun c_63 => ?_) (fun c_63 => ?_)
          · refine mi_iconst dX7_numberNow_73 ?_
            refine ms_ret dX7_numberNow_74 rfl (Or.inl ⟨by omega, _, rfl, rfl, by rw [hcc]; exact hFF⟩) (by simp)
          · exact absurd c_63 (by omega)
        · refine ms_aload_n dX7_numberNow_46 rfl ?_
          refine ms_getI (z := 19) dX7_numberNow_47 (fo_X7_164 rfl) (by first | rfl | assumption) rfl rfl ?_
          refine ms_iload_n dX7_numberNow_50 rfl ?_
          refine mi_icmp_le (tgt := 59) dX7_numberNow_51 (by decide) (fun c_51 => ?_) (fun c_51 => ?_)
          · refine ms_aload_n dX7_numberNow_59 rfl ?_
            refine ms_getI (z := 22) dX7_numberNow_60 (fo_X7_176 rfl) (by first | rfl | assumption) rfl rfl ?_
            refine mi_if_ne (tgt := 73) dX7_numberNow_63 (by decide) (fun c_63 => ?_) (fun c_63 => ?_)
            · exact absurd hw0 c_63
            · refine ms_aload_n dX7_numberNow_66 rfl ?_
              refine ms_getI (z := 19) dX7_numberNow_67 (fo_X7_164 rfl) (by first | rfl | assumption) rfl rfl ?_
              refine ms_goto (tgt := 74) dX7_numberNow_70 (by decide) ?_
              refine ms_ret dX7_numberNow_74 rfl (Or.inr ⟨by unfold nC; rw [if_neg (by omega), if_neg (by omega), if_neg (by omega)], rfl, by rw [hnv.2 (by omega)]⟩) (by simp)
          · refine ms_aload_n dX7_numberNow_54 rfl ?_
            refine mi_iconst dX7_numberNow_55 ?_
            refine ms_callV1 (ci := 7) (r := (RX7, TX7, 48)) dX7_numberNow_56 cv_X7_numberNow_X7_wrong (k_X7_wrong (e := 2) hR (by omega)) rfl rfl (by first | rfl | assumption) (Nat.le_of_ble_eq_true rfl) rfl (fun _ _ z => z.elim) (fun v9 h9 hp9 => ?_)
            obtain ⟨rfl, rfl⟩ := hp9
            have hcc : nC (M 62) n p a b 2 = 2 := by
              unfold nC
              rw [if_neg (by omega), if_neg (by omega), if_pos (by omega)]
            rw [if_pos hw0]
            have hFF := hG.ff (c := 2) (by decide)
            have hv9 := hFF.2.1.1
            refine ms_aload_n dX7_numberNow_59 rfl ?_
            refine ms_getI (z := 22) dX7_numberNow_60 (fo_X7_176 rfl) (by first | rfl | assumption) rfl rfl ?_
            refine mi_if_ne (tgt := 73) dX7_numberNow_63 (by decide) (fun c_63 => ?_) (fun c_63 => ?_)
            · refine mi_iconst dX7_numberNow_73 ?_
              refine ms_ret dX7_numberNow_74 rfl (Or.inl ⟨by omega, _, rfl, rfl, by rw [hcc]; exact hFF⟩) (by simp)
            · exact absurd c_63 (by omega)
    · refine ms_aload_n dX7_numberNow_17 rfl ?_
      refine mi_iconst dX7_numberNow_18 ?_
      refine ms_callV1 (ci := 7) (r := (RX7, TX7, 48)) dX7_numberNow_19 cv_X7_numberNow_X7_wrong (k_X7_wrong (e := 1) hR (by omega)) rfl rfl (by first | rfl | assumption) (Nat.le_of_ble_eq_true rfl) rfl (fun _ _ z => z.elim) (fun v9 h9 hp9 => ?_)
      obtain ⟨rfl, rfl⟩ := hp9
      have hcc : nC (M 62) n p a b 2 = 1 := by
        unfold nC
        rw [if_pos (fun z => c_14 (by rw [h18, z]; rfl))]
      rw [if_pos hw0]
      have hFF := hG.ff (c := 1) (by decide)
      have hv9 := hFF.2.1.1
      refine ms_goto (tgt := 59) dX7_numberNow_22 (by decide) ?_
      refine ms_aload_n dX7_numberNow_59 rfl ?_
      refine ms_getI (z := 22) dX7_numberNow_60 (fo_X7_176 rfl) (by first | rfl | assumption) rfl rfl ?_
      refine mi_if_ne (tgt := 73) dX7_numberNow_63 (by decide) (fun c_63 => ?_) (fun c_63 => ?_)
      · refine mi_iconst dX7_numberNow_73 ?_
        refine ms_ret dX7_numberNow_74 rfl (Or.inl ⟨by omega, _, rfl, rfl, by rw [hcc]; exact hFF⟩) (by simp)
      · exact absurd c_63 (by omega)
  · exact absurd hw0 c_4

set_option maxHeartbeats 4000000 in
set_option maxRecDepth 100000 in
theorem k_X7_numberNowF {S : mx_Sc} {f : Bool} {M : Nat → Int → Int} {L : Nat → Nat → Int64} {Rf : Nat → Nat → Option Nat} (hR : mx_rf Rf) {c q : Int} (hF : mdF M c q) {a b : Int} : mx_C S mX7_numberNow [.ref 48, .int (iI a), .int (iI b)] (f, mx_SH, M, L, Rf) 0 0 (fun v9 h9 => h9 = (f, mx_SH, M, L, Rf) ∧ v9 = some (.int (iI 0))) (fun _ _ => False) := by
  refine mx_C_of (by decide) (by simp [Value.category]) (Nat.le_of_ble_eq_true rfl) rfl ?_
  show mx_E S mX7_numberNow 0 [some (.ref 48), some (.int (iI a)), some (.int (iI b))] [] (f, mx_SH, M, L, Rf) 0 0 _ _
  have hw0 := hF.1
  have hcc := hF.2.2
  refine ms_aload_n dX7_numberNow_0 rfl ?_
  refine ms_getI (z := 22) dX7_numberNow_1 (fo_X7_176 rfl) (by first | rfl | assumption) rfl rfl ?_
  refine mi_if_eq (tgt := 9) dX7_numberNow_4 (by decide) (fun c_4 => ?_) (fun c_4 => ?_)
  · exact absurd c_4 (by omega)
  · refine mi_iconst dX7_numberNow_7 ?_
    refine ms_ret dX7_numberNow_8 rfl ⟨rfl, rfl⟩ (by simp)

set_option maxHeartbeats 4000000 in
set_option maxRecDepth 100000 in
theorem k_X7_readNumber {S : mx_Sc} {f : Bool} {M : Nat → Int → Int} {L : Nat → Nat → Int64} {Rf : Nat → Nat → Option Nat} (hR : mx_rf Rf) {n : Int} (hn : 0 ≤ n ∧ n ≤ 500) (hB : ∀ i, 0 ≤ i → i < 500 → 0 ≤ M 62 i ∧ M 62 i ≤ 255) {p : Int} {T : td_T} (hG : mdG M n p T) {a b : Int} (ha : 0 ≤ a ∧ a ≤ 1) (hb : -1 ≤ b ∧ b ≤ 1000) : mx_C S mX7_readNumber [.ref 48, .int (iI a), .int (iI b)] (f, mx_SH, M, L, Rf) 0 0 (fun v9 h9 => ∃ N x, h9 = (f, mx_SH, N, L, Rf) ∧ v9 = some (.int (iI x)) ∧ ((nC (M 62) n p a b 2 ≠ 0 ∧ ffP M N (nC (M 62) n p a b 2) p ∧ x = 0) ∨ (nC (M 62) n p a b 2 = 0 ∧ sfP M N ∧ mdG N n (nx (M 62) n p) T ∧ x = nV (M 62) n p))) (fun _ _ => False) := by
  refine mx_C_of (by decide) (by simp [Value.category]) (Nat.le_of_ble_eq_true rfl) rfl ?_
  show mx_E S mX7_readNumber 0 [some (.ref 48), some (.int (iI a)), some (.int (iI b)), none] [] (f, mx_SH, M, L, Rf) 0 0 _ _
  have hS := hG.1
  have hw0 := hG.2.1
  have h20 := hS.2.1
  have h21 := hS.2.2.1
  have h16 := hS.2.2.2.1
  have h18 := hS.2.2.2.2.1
  have hnum := hS.2.2.2.2.2.1
  have h0 := hS.2.2.2.2.2.2
  have htb := tk_b (M 62) n p
  have ht9 := te_b (g := M 62) h0.2
  have e0 : ∀ k, 0 ≤ k → k < 7 → M 53 (7 + k) = T 0 k := hG.2.2.1.1
  have e00 : M 53 7 = T 0 0 := e0 0 (by decide) (by decide)
  have e01 : M 53 8 = T 0 1 := e0 1 (by decide) (by decide)
  have e06 : M 53 13 = T 0 6 := e0 6 (by decide) (by decide)
  have o0 : 1 ≤ T 0 0 ∧ T 0 0 ≤ 30 := hG.2.2.2.1.1
  have o1 : 0 ≤ T 0 1 ∧ T 0 1 ≤ 6 := hG.2.2.2.1.2.1
  have o6 : 0 ≤ T 0 6 ∧ T 0 6 ≤ 10 := hG.2.2.2.1.2.2.2.2.2.2.1
  have hmt : mtk (tk (M 62) n p) = if tk (M 62) n p = 4 then 0 else tk (M 62) n p + 1 := rfl
  refine ms_aload_n dX7_readNumber_0 rfl ?_
  refine ms_iload_n dX7_readNumber_1 rfl ?_
  refine ms_iload_n dX7_readNumber_2 rfl ?_
  refine ms_callV2 (ci := 7) (r := (RX7, TX7, 48)) dX7_readNumber_3 cv_X7_readNumber_X7_numberNow (k_X7_numberNow hR hn hB hG ha hb) rfl rfl (by first | rfl | assumption) (Nat.le_of_ble_eq_true rfl) rfl (fun _ _ z => z.elim) (fun v9 h9 hp9 => ?_)
  rcases hp9 with ⟨z1, N, rfl, rfl, hff⟩ | ⟨z1, rfl, rfl⟩
  · have hv9 := hff.2.1.1
    have hvc := hff.2.1.2.2
    refine ms_istore_n dX7_readNumber_6 (by decide) rfl ?_
    dsimp only [List.set, Nat.reduceAdd]
    refine ms_aload_n dX7_readNumber_7 rfl ?_
    refine ms_getI (z := 22) dX7_readNumber_8 (fo_X7_176 rfl) (by first | rfl | assumption) rfl rfl ?_
    refine mi_if_ne (tgt := 18) dX7_readNumber_11 (by decide) (fun c_11 => ?_) (fun c_11 => ?_)
    · refine ms_iload_n dX7_readNumber_18 rfl ?_
      refine ms_ret dX7_readNumber_19 rfl ⟨N, 0, rfl, rfl, Or.inl ⟨z1, hff, rfl⟩⟩ (by simp)
    · exact absurd c_11 (by omega)
  refine ms_istore_n dX7_readNumber_6 (by decide) rfl ?_
  dsimp only [List.set, Nat.reduceAdd]
  refine ms_aload_n dX7_readNumber_7 rfl ?_
  refine ms_getI (z := 22) dX7_readNumber_8 (fo_X7_176 rfl) (by first | rfl | assumption) rfl rfl ?_
  refine mi_if_ne (tgt := 18) dX7_readNumber_11 (by decide) (fun c_11 => ?_) (fun c_11 => ?_)
  · exact absurd hw0 c_11
  · refine ms_aload_n dX7_readNumber_14 rfl ?_
    refine ms_callV0 (ci := 7) (r := (RX7, TX7, 48)) dX7_readNumber_15 cv_X7_readNumber_X7_stepOn (k_X7_stepOn hR hn hB hS.1 (by omega)) rfl rfl (by first | rfl | assumption) (Nat.le_of_ble_eq_true rfl) rfl (fun _ _ z => z.elim) (fun v9 h9 hp9 => ?_)
    obtain ⟨N2, rfl, rfl, r1, r2⟩ := hp9
    rw [h16] at r2
    refine ms_iload_n dX7_readNumber_18 rfl ?_
    refine ms_ret dX7_readNumber_19 rfl ⟨N2, _, rfl, rfl, Or.inr ⟨z1, r1, r1.G hG r2, rfl⟩⟩ (by simp)
set_option maxHeartbeats 4000000 in
set_option maxRecDepth 100000 in
theorem k_X7_readNumberF {S : mx_Sc} {f : Bool} {M : Nat → Int → Int} {L : Nat → Nat → Int64} {Rf : Nat → Nat → Option Nat} (hR : mx_rf Rf) {c q : Int} (hF : mdF M c q) {a b : Int} : mx_C S mX7_readNumber [.ref 48, .int (iI a), .int (iI b)] (f, mx_SH, M, L, Rf) 0 0 (fun v9 h9 => h9 = (f, mx_SH, M, L, Rf) ∧ v9 = some (.int (iI 0))) (fun _ _ => False) := by
  refine mx_C_of (by decide) (by simp [Value.category]) (Nat.le_of_ble_eq_true rfl) rfl ?_
  show mx_E S mX7_readNumber 0 [some (.ref 48), some (.int (iI a)), some (.int (iI b)), none] [] (f, mx_SH, M, L, Rf) 0 0 _ _
  have hw0 := hF.1
  have hcc := hF.2.2
  refine ms_aload_n dX7_readNumber_0 rfl ?_
  refine ms_iload_n dX7_readNumber_1 rfl ?_
  refine ms_iload_n dX7_readNumber_2 rfl ?_
  refine ms_callV2 (ci := 7) (r := (RX7, TX7, 48)) dX7_readNumber_3 cv_X7_readNumber_X7_numberNow (k_X7_numberNowF hR hF) rfl rfl (by first | rfl | assumption) (Nat.le_of_ble_eq_true rfl) rfl (fun _ _ z => z.elim) (fun v9 h9 hp9 => ?_)
  obtain ⟨rfl, rfl⟩ := hp9
  refine ms_istore_n dX7_readNumber_6 (by decide) rfl ?_
  dsimp only [List.set, Nat.reduceAdd]
  refine ms_aload_n dX7_readNumber_7 rfl ?_
  refine ms_getI (z := 22) dX7_readNumber_8 (fo_X7_176 rfl) (by first | rfl | assumption) rfl rfl ?_
  refine mi_if_ne (tgt := 18) dX7_readNumber_11 (by decide) (fun c_11 => ?_) (fun c_11 => ?_)
  · refine ms_iload_n dX7_readNumber_18 rfl ?_
    refine ms_ret dX7_readNumber_19 rfl ⟨rfl, rfl⟩ (by simp)
  · exact absurd c_11 (by omega)

set_option maxHeartbeats 4000000 in
set_option maxRecDepth 100000 in
theorem k_X7_lampNow {S : mx_Sc} {f : Bool} {M : Nat → Int → Int} {L : Nat → Nat → Int64} {Rf : Nat → Nat → Option Nat} (hR : mx_rf Rf) {n : Int} (hn : 0 ≤ n ∧ n ≤ 500) (hB : ∀ i, 0 ≤ i → i < 500 → 0 ≤ M 62 i ∧ M 62 i ≤ 255) {p : Int} {T : td_T} (hG : mdG M n p T) : mx_C S mX7_lampNow [.ref 48] (f, mx_SH, M, L, Rf) 0 0 (fun v9 h9 => (nC (M 62) n p 0 (T 0 1 - 1) 3 ≠ 0 ∧ ∃ N, h9 = (f, mx_SH, N, L, Rf) ∧ v9 = some (.int (iI 0)) ∧ ffP M N (nC (M 62) n p 0 (T 0 1 - 1) 3) p) ∨ (nC (M 62) n p 0 (T 0 1 - 1) 3 = 0 ∧ h9 = (f, mx_SH, M, L, Rf) ∧ v9 = some (.int (iI (nV (M 62) n p))))) (fun _ _ => False) := by
  refine mx_C_of (by decide) (by simp [Value.category]) (Nat.le_of_ble_eq_true rfl) rfl ?_
  show mx_E S mX7_lampNow 0 [some (.ref 48), none] [] (f, mx_SH, M, L, Rf) 0 0 _ _
  have hS := hG.1
  have hw0 := hG.2.1
  have h20 := hS.2.1
  have h21 := hS.2.2.1
  have h16 := hS.2.2.2.1
  have h18 := hS.2.2.2.2.1
  have hnum := hS.2.2.2.2.2.1
  have h0 := hS.2.2.2.2.2.2
  have htb := tk_b (M 62) n p
  have ht9 := te_b (g := M 62) h0.2
  have e0 : ∀ k, 0 ≤ k → k < 7 → M 53 (7 + k) = T 0 k := hG.2.2.1.1
  have e00 : M 53 7 = T 0 0 := e0 0 (by decide) (by decide)
  have e01 : M 53 8 = T 0 1 := e0 1 (by decide) (by decide)
  have e06 : M 53 13 = T 0 6 := e0 6 (by decide) (by decide)
  have o0 : 1 ≤ T 0 0 ∧ T 0 0 ≤ 30 := hG.2.2.2.1.1
  have o1 : 0 ≤ T 0 1 ∧ T 0 1 ≤ 6 := hG.2.2.2.1.2.1
  have o6 : 0 ≤ T 0 6 ∧ T 0 6 ≤ 10 := hG.2.2.2.1.2.2.2.2.2.2.1
  have hmt : mtk (tk (M 62) n p) = if tk (M 62) n p = 4 then 0 else tk (M 62) n p + 1 := rfl
  refine ms_aload_n dX7_lampNow_0 rfl ?_
  refine mi_iconst dX7_lampNow_1 ?_
  refine mi_sipush dX7_lampNow_2 (by decide) ?_
  refine ms_callV2 (ci := 7) (r := (RX7, TX7, 48)) dX7_lampNow_5 cv_X7_lampNow_X7_numberNow (k_X7_numberNow hR hn hB hG (a := 0) (b := 999) (by decide) (by decide)) rfl rfl (by first | rfl | assumption) (Nat.le_of_ble_eq_true rfl) rfl (fun _ _ z => z.elim) (fun v9 h9 hp9 => ?_)
  rcases hp9 with ⟨z1, N, rfl, rfl, hff⟩ | ⟨z1, rfl, rfl⟩
  · have hv9 := hff.2.1.1
    have hvc := hff.2.1.2.2
    have hcc : nC (M 62) n p 0 (T 0 1 - 1) 3 = nC (M 62) n p 0 999 2 := by
      unfold nC at z1 ⊢
      by_cases k1 : tk (M 62) n p ≠ 1
      · rw [if_pos k1, if_pos k1]
      · rw [if_neg k1] at z1 ⊢
        rw [if_neg k1]
        by_cases k2 : 3 < te (M 62) n p - p
        · rw [if_pos k2, if_pos k2]
        · rw [if_neg k2] at z1
          have := nV_b (g := M 62) (n := n) (p := p) (by omega) (by omega)
          rw [if_neg (by omega)] at z1
          exact absurd rfl z1
    refine ms_istore_n dX7_lampNow_8 (by decide) rfl ?_
    dsimp only [List.set, Nat.reduceAdd]
    refine ms_aload_n dX7_lampNow_9 rfl ?_
    refine ms_getI (z := 22) dX7_lampNow_10 (fo_X7_176 rfl) (by first | rfl | assumption) rfl rfl ?_
    refine mi_if_ne (tgt := 32) dX7_lampNow_13 (by decide) (fun c_13 => ?_) (fun c_13 => ?_)
    · refine ms_aload_n dX7_lampNow_32 rfl ?_
      refine ms_getI (z := 22) dX7_lampNow_33 (fo_X7_176 rfl) (by first | rfl | assumption) rfl rfl ?_
      refine mi_if_ne (tgt := 43) dX7_lampNow_36 (by decide) (fun c_36 => ?_) (fun c_36 => ?_)
      · refine mi_iconst dX7_lampNow_43 ?_
        refine ms_ret dX7_lampNow_44 rfl (Or.inl ⟨by rw [hcc]; exact z1, N, rfl, rfl, by rw [hcc]; exact hff⟩) (by simp)
      · exact absurd c_36 (by omega)
    · exact absurd c_13 (by omega)
  refine ms_istore_n dX7_lampNow_8 (by decide) rfl ?_
  dsimp only [List.set, Nat.reduceAdd]
  have v1 := nC_0 (by decide) z1
  refine ms_aload_n dX7_lampNow_9 rfl ?_
  refine ms_getI (z := 22) dX7_lampNow_10 (fo_X7_176 rfl) (by first | rfl | assumption) rfl rfl ?_
  refine mi_if_ne (tgt := 32) dX7_lampNow_13 (by decide) (fun c_13 => ?_) (fun c_13 => ?_)
  · exact absurd hw0 c_13
  · refine ms_iload_n dX7_lampNow_16 rfl ?_
    refine ms_aload_n dX7_lampNow_17 rfl ?_
    refine ms_getR dX7_lampNow_18 (fo_X7_43 rfl) (by first | rfl | assumption) rfl (by first | assumption | exact rf_48_5 hR ) ?_
    refine mi_bipush dX7_lampNow_21 (by decide) ?_
    refine ms_iald dX7_lampNow_23 (by first | rfl | assumption) ?_
    refine mi_icmp_lt (tgt := 32) dX7_lampNow_24 (by decide) (fun c_24 => ?_) (fun c_24 => ?_)
    · refine ms_aload_n dX7_lampNow_32 rfl ?_
      refine ms_getI (z := 22) dX7_lampNow_33 (fo_X7_176 rfl) (by first | rfl | assumption) rfl rfl ?_
      refine mi_if_ne (tgt := 43) dX7_lampNow_36 (by decide) (fun c_36 => ?_) (fun c_36 => ?_)
      · exact absurd hw0 c_36
      · refine ms_iload_n dX7_lampNow_39 rfl ?_
        refine ms_goto (tgt := 44) dX7_lampNow_40 (by decide) ?_
        refine ms_ret dX7_lampNow_44 rfl (Or.inr ⟨by unfold nC; rw [if_neg (by omega), if_neg (by omega), if_neg (by omega)], rfl, rfl⟩) (by simp)
    · refine ms_aload_n dX7_lampNow_27 rfl ?_
      refine mi_iconst dX7_lampNow_28 ?_
      refine ms_callV1 (ci := 7) (r := (RX7, TX7, 48)) dX7_lampNow_29 cv_X7_lampNow_X7_wrong (k_X7_wrong (e := 3) hR (by omega)) rfl rfl (by first | rfl | assumption) (Nat.le_of_ble_eq_true rfl) rfl (fun _ _ z => z.elim) (fun v9 h9 hp9 => ?_)
      obtain ⟨rfl, rfl⟩ := hp9
      have hcc : nC (M 62) n p 0 (T 0 1 - 1) 3 = 3 := by
        unfold nC
        rw [if_neg (by omega), if_neg (by omega), if_pos (by omega)]
      rw [if_pos hw0]
      have hFF := hG.ff (c := 3) (by decide)
      have hv9 := hFF.2.1.1
      refine ms_aload_n dX7_lampNow_32 rfl ?_
      refine ms_getI (z := 22) dX7_lampNow_33 (fo_X7_176 rfl) (by first | rfl | assumption) rfl rfl ?_
      refine mi_if_ne (tgt := 43) dX7_lampNow_36 (by decide) (fun c_36 => ?_) (fun c_36 => ?_)
      · refine mi_iconst dX7_lampNow_43 ?_
        refine ms_ret dX7_lampNow_44 rfl (Or.inl ⟨by omega, _, rfl, rfl, by rw [hcc]; exact hFF⟩) (by simp)
      · exact absurd c_36 (by omega)
set_option maxHeartbeats 4000000 in
set_option maxRecDepth 100000 in
theorem k_X7_lampNowF {S : mx_Sc} {f : Bool} {M : Nat → Int → Int} {L : Nat → Nat → Int64} {Rf : Nat → Nat → Option Nat} (hR : mx_rf Rf) {c q : Int} (hF : mdF M c q) : mx_C S mX7_lampNow [.ref 48] (f, mx_SH, M, L, Rf) 0 0 (fun v9 h9 => h9 = (f, mx_SH, M, L, Rf) ∧ v9 = some (.int (iI 0))) (fun _ _ => False) := by
  refine mx_C_of (by decide) (by simp [Value.category]) (Nat.le_of_ble_eq_true rfl) rfl ?_
  show mx_E S mX7_lampNow 0 [some (.ref 48), none] [] (f, mx_SH, M, L, Rf) 0 0 _ _
  have hw0 := hF.1
  have hcc := hF.2.2
  refine ms_aload_n dX7_lampNow_0 rfl ?_
  refine mi_iconst dX7_lampNow_1 ?_
  refine mi_sipush dX7_lampNow_2 (by decide) ?_
  refine ms_callV2 (ci := 7) (r := (RX7, TX7, 48)) dX7_lampNow_5 cv_X7_lampNow_X7_numberNow (k_X7_numberNowF hR hF) rfl rfl (by first | rfl | assumption) (Nat.le_of_ble_eq_true rfl) rfl (fun _ _ z => z.elim) (fun v9 h9 hp9 => ?_)
  obtain ⟨rfl, rfl⟩ := hp9
  refine ms_istore_n dX7_lampNow_8 (by decide) rfl ?_
  dsimp only [List.set, Nat.reduceAdd]
  refine ms_aload_n dX7_lampNow_9 rfl ?_
  refine ms_getI (z := 22) dX7_lampNow_10 (fo_X7_176 rfl) (by first | rfl | assumption) rfl rfl ?_
  refine mi_if_ne (tgt := 32) dX7_lampNow_13 (by decide) (fun c_13 => ?_) (fun c_13 => ?_)
  · refine ms_aload_n dX7_lampNow_32 rfl ?_
    refine ms_getI (z := 22) dX7_lampNow_33 (fo_X7_176 rfl) (by first | rfl | assumption) rfl rfl ?_
    refine mi_if_ne (tgt := 43) dX7_lampNow_36 (by decide) (fun c_36 => ?_) (fun c_36 => ?_)
    · refine mi_iconst dX7_lampNow_43 ?_
      refine ms_ret dX7_lampNow_44 rfl ⟨rfl, rfl⟩ (by simp)
    · exact absurd c_36 (by omega)
  · exact absurd c_13 (by omega)

set_option maxHeartbeats 4000000 in
set_option maxRecDepth 100000 in
theorem k_X7_readLamp {S : mx_Sc} {f : Bool} {M : Nat → Int → Int} {L : Nat → Nat → Int64} {Rf : Nat → Nat → Option Nat} (hR : mx_rf Rf) {n : Int} (hn : 0 ≤ n ∧ n ≤ 500) (hB : ∀ i, 0 ≤ i → i < 500 → 0 ≤ M 62 i ∧ M 62 i ≤ 255) {p : Int} {T : td_T} (hG : mdG M n p T) : mx_C S mX7_readLamp [.ref 48] (f, mx_SH, M, L, Rf) 0 0 (fun v9 h9 => ∃ N x, h9 = (f, mx_SH, N, L, Rf) ∧ v9 = some (.int (iI x)) ∧ ((nC (M 62) n p 0 (T 0 1 - 1) 3 ≠ 0 ∧ ffP M N (nC (M 62) n p 0 (T 0 1 - 1) 3) p ∧ x = 0) ∨ (nC (M 62) n p 0 (T 0 1 - 1) 3 = 0 ∧ sfP M N ∧ mdG N n (nx (M 62) n p) T ∧ x = nV (M 62) n p))) (fun _ _ => False) := by
  refine mx_C_of (by decide) (by simp [Value.category]) (Nat.le_of_ble_eq_true rfl) rfl ?_
  show mx_E S mX7_readLamp 0 [some (.ref 48), none] [] (f, mx_SH, M, L, Rf) 0 0 _ _
  have hS := hG.1
  have hw0 := hG.2.1
  have h20 := hS.2.1
  have h21 := hS.2.2.1
  have h16 := hS.2.2.2.1
  have h18 := hS.2.2.2.2.1
  have hnum := hS.2.2.2.2.2.1
  have h0 := hS.2.2.2.2.2.2
  have htb := tk_b (M 62) n p
  have ht9 := te_b (g := M 62) h0.2
  have e0 : ∀ k, 0 ≤ k → k < 7 → M 53 (7 + k) = T 0 k := hG.2.2.1.1
  have e00 : M 53 7 = T 0 0 := e0 0 (by decide) (by decide)
  have e01 : M 53 8 = T 0 1 := e0 1 (by decide) (by decide)
  have e06 : M 53 13 = T 0 6 := e0 6 (by decide) (by decide)
  have o0 : 1 ≤ T 0 0 ∧ T 0 0 ≤ 30 := hG.2.2.2.1.1
  have o1 : 0 ≤ T 0 1 ∧ T 0 1 ≤ 6 := hG.2.2.2.1.2.1
  have o6 : 0 ≤ T 0 6 ∧ T 0 6 ≤ 10 := hG.2.2.2.1.2.2.2.2.2.2.1
  have hmt : mtk (tk (M 62) n p) = if tk (M 62) n p = 4 then 0 else tk (M 62) n p + 1 := rfl
  refine ms_aload_n dX7_readLamp_0 rfl ?_
  refine ms_callV0 (ci := 7) (r := (RX7, TX7, 48)) dX7_readLamp_1 cv_X7_readLamp_X7_lampNow (k_X7_lampNow hR hn hB hG) rfl rfl (by first | rfl | assumption) (Nat.le_of_ble_eq_true rfl) rfl (fun _ _ z => z.elim) (fun v9 h9 hp9 => ?_)
  rcases hp9 with ⟨z1, N, rfl, rfl, hff⟩ | ⟨z1, rfl, rfl⟩
  · have hv9 := hff.2.1.1
    have hvc := hff.2.1.2.2
    refine ms_istore_n dX7_readLamp_4 (by decide) rfl ?_
    dsimp only [List.set, Nat.reduceAdd]
    refine ms_aload_n dX7_readLamp_5 rfl ?_
    refine ms_getI (z := 22) dX7_readLamp_6 (fo_X7_176 rfl) (by first | rfl | assumption) rfl rfl ?_
    refine mi_if_ne (tgt := 16) dX7_readLamp_9 (by decide) (fun c_9 => ?_) (fun c_9 => ?_)
    · refine ms_iload_n dX7_readLamp_16 rfl ?_
      refine ms_ret dX7_readLamp_17 rfl ⟨N, 0, rfl, rfl, Or.inl ⟨z1, hff, rfl⟩⟩ (by simp)
    · exact absurd c_9 (by omega)
  refine ms_istore_n dX7_readLamp_4 (by decide) rfl ?_
  dsimp only [List.set, Nat.reduceAdd]
  refine ms_aload_n dX7_readLamp_5 rfl ?_
  refine ms_getI (z := 22) dX7_readLamp_6 (fo_X7_176 rfl) (by first | rfl | assumption) rfl rfl ?_
  refine mi_if_ne (tgt := 16) dX7_readLamp_9 (by decide) (fun c_9 => ?_) (fun c_9 => ?_)
  · exact absurd hw0 c_9
  · refine ms_aload_n dX7_readLamp_12 rfl ?_
    refine ms_callV0 (ci := 7) (r := (RX7, TX7, 48)) dX7_readLamp_13 cv_X7_readLamp_X7_stepOn (k_X7_stepOn hR hn hB hS.1 (by omega)) rfl rfl (by first | rfl | assumption) (Nat.le_of_ble_eq_true rfl) rfl (fun _ _ z => z.elim) (fun v9 h9 hp9 => ?_)
    obtain ⟨N2, rfl, rfl, r1, r2⟩ := hp9
    rw [h16] at r2
    refine ms_iload_n dX7_readLamp_16 rfl ?_
    refine ms_ret dX7_readLamp_17 rfl ⟨N2, _, rfl, rfl, Or.inr ⟨z1, r1, r1.G hG r2, rfl⟩⟩ (by simp)
set_option maxHeartbeats 4000000 in
set_option maxRecDepth 100000 in
theorem k_X7_readLampF {S : mx_Sc} {f : Bool} {M : Nat → Int → Int} {L : Nat → Nat → Int64} {Rf : Nat → Nat → Option Nat} (hR : mx_rf Rf) {c q : Int} (hF : mdF M c q) : mx_C S mX7_readLamp [.ref 48] (f, mx_SH, M, L, Rf) 0 0 (fun v9 h9 => h9 = (f, mx_SH, M, L, Rf) ∧ v9 = some (.int (iI 0))) (fun _ _ => False) := by
  refine mx_C_of (by decide) (by simp [Value.category]) (Nat.le_of_ble_eq_true rfl) rfl ?_
  show mx_E S mX7_readLamp 0 [some (.ref 48), none] [] (f, mx_SH, M, L, Rf) 0 0 _ _
  have hw0 := hF.1
  have hcc := hF.2.2
  refine ms_aload_n dX7_readLamp_0 rfl ?_
  refine ms_callV0 (ci := 7) (r := (RX7, TX7, 48)) dX7_readLamp_1 cv_X7_readLamp_X7_lampNow (k_X7_lampNowF hR hF) rfl rfl (by first | rfl | assumption) (Nat.le_of_ble_eq_true rfl) rfl (fun _ _ z => z.elim) (fun v9 h9 hp9 => ?_)
  obtain ⟨rfl, rfl⟩ := hp9
  refine ms_istore_n dX7_readLamp_4 (by decide) rfl ?_
  dsimp only [List.set, Nat.reduceAdd]
  refine ms_aload_n dX7_readLamp_5 rfl ?_
  refine ms_getI (z := 22) dX7_readLamp_6 (fo_X7_176 rfl) (by first | rfl | assumption) rfl rfl ?_
  refine mi_if_ne (tgt := 16) dX7_readLamp_9 (by decide) (fun c_9 => ?_) (fun c_9 => ?_)
  · refine ms_iload_n dX7_readLamp_16 rfl ?_
    refine ms_ret dX7_readLamp_17 rfl ⟨rfl, rfl⟩ (by simp)
  · exact absurd c_9 (by omega)

