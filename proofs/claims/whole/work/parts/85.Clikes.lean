set_option maxHeartbeats 4000000 in
theorem l_X1_lF4 {S : mx_Sc} {f : Bool} {M : Nat → Int → Int} {L : Nat → Nat → Int64} {Rf : Nat → Nat → Option Nat} (hR : mx_rf Rf) {t : Nat} (ht : t = 29 ∨ t = 37) {n : Int} (hn : 0 ≤ n ∧ n ≤ 500) (hB : ∀ i, 0 ≤ i → i < 500 → 0 ≤ M 1 i ∧ M 1 i ≤ 255) (hin : Rf 45 9 = some t) {c q : Int} (hF : rdF M t n c q)  : mx_E S mX1_readLikes 4 [some (.ref 45), none, none] [.int (iI 0)] (f, mx_SH, M, L, Rf) 0 0 (fun v9 h9 => h9 = (f, mx_SH, M, L, Rf) ∧ v9 = none) (fun _ _ => False) := by
  have hw0 := hF.2.1
  have hcc := hF.2.2.2.1
  have hfm := hF.2.2.2.2.2
  unfold fm at hfm
  have hs0 : mx_SH[t]? = some (7, 14) := by rcases ht with rfl | rfl <;> rfl
  refine ms_istore_n dX1_readLikes_4 (by decide) rfl ?_
  dsimp only [List.set, Nat.reduceAdd]
  refine ms_aload_n dX1_readLikes_5 rfl ?_
  refine ms_getI (z := 0) dX1_readLikes_6 (fo_X1_34 rfl) (by first | rfl | assumption) rfl rfl ?_
  refine mi_if_ne (tgt := 34) dX1_readLikes_9 (by decide) (fun c_9 => ?_) (fun c_9 => ?_)
  · refine ms_aload_n dX1_readLikes_34 rfl ?_
    refine ms_callV0 (ci := 1) (r := (RX1, TX1, 10)) dX1_readLikes_35 cv_X1_readLikes_X1_readLamp (k_X1_rlF hR ht hn hB hin hF) rfl rfl (by first | rfl | assumption) (Nat.le_of_ble_eq_true rfl) rfl (fun _ _ z => z.elim) (fun v9 h9 hp9 => ?_)
    obtain ⟨rfl, rfl⟩ := hp9
    refine ms_istore_n dX1_readLikes_38 (by decide) rfl ?_
    dsimp only [List.set, Nat.reduceAdd]
    refine ms_iload_n dX1_readLikes_39 rfl ?_
    refine ms_iload_n dX1_readLikes_40 rfl ?_
    refine mi_icmp_ne (tgt := 53) dX1_readLikes_41 (by decide) (fun c_41 => ?_) (fun c_41 => ?_)
    · refine ms_aload_n dX1_readLikes_53 rfl ?_
      refine ms_getI (z := 0) dX1_readLikes_54 (fo_X1_34 rfl) (by first | rfl | assumption) rfl rfl ?_
      refine mi_if_ne (tgt := 70) dX1_readLikes_57 (by decide) (fun c_57 => ?_) (fun c_57 => ?_)
      · refine ms_retV dX1_readLikes_70 rfl ⟨rfl, rfl⟩ (by simp)
      · exact absurd c_57 (by omega)
    · refine ms_aload_n dX1_readLikes_44 rfl ?_
      refine mi_iconst dX1_readLikes_45 ?_
      refine ms_aload_n dX1_readLikes_46 rfl ?_
      refine ms_getI (z := 7) dX1_readLikes_47 (fo_X1_59 rfl) (by first | rfl | assumption) rfl rfl ?_
      refine ms_callV2 (ci := 1) (r := (RX1, TX1, 10)) dX1_readLikes_50 cv_X1_readLikes_X1_refuse (k_X1_refuse (e := 5) (p := M 45 7) hR (by omega)) rfl rfl (by first | rfl | assumption) (Nat.le_of_ble_eq_true rfl) rfl (fun _ _ z => z.elim) (fun v9 h9 hp9 => ?_)
      obtain ⟨rfl, rfl⟩ := hp9
      rw [if_neg (show ¬ M 45 0 = 0 by omega)]
      refine ms_aload_n dX1_readLikes_53 rfl ?_
      refine ms_getI (z := 0) dX1_readLikes_54 (fo_X1_34 rfl) (by first | rfl | assumption) rfl rfl ?_
      refine mi_if_ne (tgt := 70) dX1_readLikes_57 (by decide) (fun c_57 => ?_) (fun c_57 => ?_)
      · refine ms_retV dX1_readLikes_70 rfl ⟨rfl, rfl⟩ (by simp)
      · exact absurd c_57 (by omega)
  · exact absurd c_9 (by omega)
set_option maxHeartbeats 4000000 in
theorem l_X1_lF34 {S : mx_Sc} {f : Bool} {M : Nat → Int → Int} {L : Nat → Nat → Int64} {Rf : Nat → Nat → Option Nat} (hR : mx_rf Rf) {t : Nat} (ht : t = 29 ∨ t = 37) {n : Int} (hn : 0 ≤ n ∧ n ≤ 500) (hB : ∀ i, 0 ≤ i → i < 500 → 0 ≤ M 1 i ∧ M 1 i ≤ 255) (hin : Rf 45 9 = some t) {c q : Int} (hF : rdF M t n c q)  {x : Int} (hx : 0 ≤ x ∧ x ≤ 999) : mx_E S mX1_readLikes 34 [some (.ref 45), some (.int (iI x)), none] [] (f, mx_SH, M, L, Rf) 0 0 (fun v9 h9 => h9 = (f, mx_SH, M, L, Rf) ∧ v9 = none) (fun _ _ => False) := by
  have hw0 := hF.2.1
  have hcc := hF.2.2.2.1
  have hfm := hF.2.2.2.2.2
  unfold fm at hfm
  have hs0 : mx_SH[t]? = some (7, 14) := by rcases ht with rfl | rfl <;> rfl
  refine ms_aload_n dX1_readLikes_34 rfl ?_
  refine ms_callV0 (ci := 1) (r := (RX1, TX1, 10)) dX1_readLikes_35 cv_X1_readLikes_X1_readLamp (k_X1_rlF hR ht hn hB hin hF) rfl rfl (by first | rfl | assumption) (Nat.le_of_ble_eq_true rfl) rfl (fun _ _ z => z.elim) (fun v9 h9 hp9 => ?_)
  obtain ⟨rfl, rfl⟩ := hp9
  refine ms_istore_n dX1_readLikes_38 (by decide) rfl ?_
  dsimp only [List.set, Nat.reduceAdd]
  refine ms_iload_n dX1_readLikes_39 rfl ?_
  refine ms_iload_n dX1_readLikes_40 rfl ?_
  refine mi_icmp_ne (tgt := 53) dX1_readLikes_41 (by decide) (fun c_41 => ?_) (fun c_41 => ?_)
  · refine ms_aload_n dX1_readLikes_53 rfl ?_
    refine ms_getI (z := 0) dX1_readLikes_54 (fo_X1_34 rfl) (by first | rfl | assumption) rfl rfl ?_
    refine mi_if_ne (tgt := 70) dX1_readLikes_57 (by decide) (fun c_57 => ?_) (fun c_57 => ?_)
    · refine ms_retV dX1_readLikes_70 rfl ⟨rfl, rfl⟩ (by simp)
    · exact absurd c_57 (by omega)
  · refine ms_aload_n dX1_readLikes_44 rfl ?_
    refine mi_iconst dX1_readLikes_45 ?_
    refine ms_aload_n dX1_readLikes_46 rfl ?_
    refine ms_getI (z := 7) dX1_readLikes_47 (fo_X1_59 rfl) (by first | rfl | assumption) rfl rfl ?_
    refine ms_callV2 (ci := 1) (r := (RX1, TX1, 10)) dX1_readLikes_50 cv_X1_readLikes_X1_refuse (k_X1_refuse (e := 5) (p := M 45 7) hR (by omega)) rfl rfl (by first | rfl | assumption) (Nat.le_of_ble_eq_true rfl) rfl (fun _ _ z => z.elim) (fun v9 h9 hp9 => ?_)
    obtain ⟨rfl, rfl⟩ := hp9
    rw [if_neg (show ¬ M 45 0 = 0 by omega)]
    refine ms_aload_n dX1_readLikes_53 rfl ?_
    refine ms_getI (z := 0) dX1_readLikes_54 (fo_X1_34 rfl) (by first | rfl | assumption) rfl rfl ?_
    refine mi_if_ne (tgt := 70) dX1_readLikes_57 (by decide) (fun c_57 => ?_) (fun c_57 => ?_)
    · refine ms_retV dX1_readLikes_70 rfl ⟨rfl, rfl⟩ (by simp)
    · exact absurd c_57 (by omega)
set_option maxHeartbeats 4000000 in
theorem l_X1_lF38 {S : mx_Sc} {f : Bool} {M : Nat → Int → Int} {L : Nat → Nat → Int64} {Rf : Nat → Nat → Option Nat} (hR : mx_rf Rf) {t : Nat} (ht : t = 29 ∨ t = 37) {n : Int} (hn : 0 ≤ n ∧ n ≤ 500) (hB : ∀ i, 0 ≤ i → i < 500 → 0 ≤ M 1 i ∧ M 1 i ≤ 255) (hin : Rf 45 9 = some t) {c q : Int} (hF : rdF M t n c q)  {x : Int} (hx : 0 ≤ x ∧ x ≤ 999) : mx_E S mX1_readLikes 38 [some (.ref 45), some (.int (iI x)), none] [.int (iI 0)] (f, mx_SH, M, L, Rf) 0 0 (fun v9 h9 => h9 = (f, mx_SH, M, L, Rf) ∧ v9 = none) (fun _ _ => False) := by
  have hw0 := hF.2.1
  have hcc := hF.2.2.2.1
  have hfm := hF.2.2.2.2.2
  unfold fm at hfm
  have hs0 : mx_SH[t]? = some (7, 14) := by rcases ht with rfl | rfl <;> rfl
  refine ms_istore_n dX1_readLikes_38 (by decide) rfl ?_
  dsimp only [List.set, Nat.reduceAdd]
  refine ms_iload_n dX1_readLikes_39 rfl ?_
  refine ms_iload_n dX1_readLikes_40 rfl ?_
  refine mi_icmp_ne (tgt := 53) dX1_readLikes_41 (by decide) (fun c_41 => ?_) (fun c_41 => ?_)
  · refine ms_aload_n dX1_readLikes_53 rfl ?_
    refine ms_getI (z := 0) dX1_readLikes_54 (fo_X1_34 rfl) (by first | rfl | assumption) rfl rfl ?_
    refine mi_if_ne (tgt := 70) dX1_readLikes_57 (by decide) (fun c_57 => ?_) (fun c_57 => ?_)
    · refine ms_retV dX1_readLikes_70 rfl ⟨rfl, rfl⟩ (by simp)
    · exact absurd c_57 (by omega)
  · refine ms_aload_n dX1_readLikes_44 rfl ?_
    refine mi_iconst dX1_readLikes_45 ?_
    refine ms_aload_n dX1_readLikes_46 rfl ?_
    refine ms_getI (z := 7) dX1_readLikes_47 (fo_X1_59 rfl) (by first | rfl | assumption) rfl rfl ?_
    refine ms_callV2 (ci := 1) (r := (RX1, TX1, 10)) dX1_readLikes_50 cv_X1_readLikes_X1_refuse (k_X1_refuse (e := 5) (p := M 45 7) hR (by omega)) rfl rfl (by first | rfl | assumption) (Nat.le_of_ble_eq_true rfl) rfl (fun _ _ z => z.elim) (fun v9 h9 hp9 => ?_)
    obtain ⟨rfl, rfl⟩ := hp9
    rw [if_neg (show ¬ M 45 0 = 0 by omega)]
    refine ms_aload_n dX1_readLikes_53 rfl ?_
    refine ms_getI (z := 0) dX1_readLikes_54 (fo_X1_34 rfl) (by first | rfl | assumption) rfl rfl ?_
    refine mi_if_ne (tgt := 70) dX1_readLikes_57 (by decide) (fun c_57 => ?_) (fun c_57 => ?_)
    · refine ms_retV dX1_readLikes_70 rfl ⟨rfl, rfl⟩ (by simp)
    · exact absurd c_57 (by omega)
set_option maxHeartbeats 4000000 in
theorem l_X1_lF53 {S : mx_Sc} {f : Bool} {M : Nat → Int → Int} {L : Nat → Nat → Int64} {Rf : Nat → Nat → Option Nat} (hR : mx_rf Rf) {t : Nat} (ht : t = 29 ∨ t = 37) {n : Int} (hn : 0 ≤ n ∧ n ≤ 500) (hB : ∀ i, 0 ≤ i → i < 500 → 0 ≤ M 1 i ∧ M 1 i ≤ 255) (hin : Rf 45 9 = some t) {c q : Int} (hF : rdF M t n c q)  {x y : Int} : mx_E S mX1_readLikes 53 [some (.ref 45), some (.int (iI x)), some (.int (iI y))] [] (f, mx_SH, M, L, Rf) 0 0 (fun v9 h9 => h9 = (f, mx_SH, M, L, Rf) ∧ v9 = none) (fun _ _ => False) := by
  have hw0 := hF.2.1
  have hcc := hF.2.2.2.1
  have hfm := hF.2.2.2.2.2
  unfold fm at hfm
  have hs0 : mx_SH[t]? = some (7, 14) := by rcases ht with rfl | rfl <;> rfl
  refine ms_aload_n dX1_readLikes_53 rfl ?_
  refine ms_getI (z := 0) dX1_readLikes_54 (fo_X1_34 rfl) (by first | rfl | assumption) rfl rfl ?_
  refine mi_if_ne (tgt := 70) dX1_readLikes_57 (by decide) (fun c_57 => ?_) (fun c_57 => ?_)
  · refine ms_retV dX1_readLikes_70 rfl ⟨rfl, rfl⟩ (by simp)
  · exact absurd c_57 (by omega)
set_option maxHeartbeats 4000000 in
set_option maxRecDepth 100000 in
theorem k_X1_readLikes {S : mx_Sc} {f : Bool} {M : Nat → Int → Int} {L : Nat → Nat → Int64} {Rf : Nat → Nat → Option Nat} (hR : mx_rf Rf) {t : Nat} (ht : t = 29 ∨ t = 37) {n : Int} (hn : 0 ≤ n ∧ n ≤ 500) (hB : ∀ i, 0 ≤ i → i < 500 → 0 ≤ M 1 i ∧ M 1 i ≤ 255) (hin : Rf 45 9 = some t) {p : Int} {T : td_T} (hG : rdG M t n p T) : mx_C S mX1_readLikes [.ref 45] (f, mx_SH, M, L, Rf) 0 0 (fun v9 h9 => ∃ N, h9 = (f, mx_SH, N, L, Rf) ∧ v9 = none ∧ rfP M N t ∧ rdR N t n (pLikes (M 1) n p T)) (fun _ _ => False) := by
  refine mx_C_of (by decide) (by simp [Value.category]) (Nat.le_of_ble_eq_true rfl) rfl ?_
  show mx_E S mX1_readLikes 0 [some (.ref 45), none, none] [] (f, mx_SH, M, L, Rf) 0 0 _ _
  have e00 : M t 0 = T 0 0 := hG.2.2.2.1.1 0 (by decide) (by decide)
  have e01 : M t 1 = T 0 1 := hG.2.2.2.1.1 1 (by decide) (by decide)
  have e06 : M t 6 = T 0 6 := hG.2.2.2.1.1 6 (by decide) (by decide)
  have o0 : 1 ≤ T 0 0 ∧ T 0 0 ≤ 30 := hG.2.2.2.2.1.1.1
  have o1 : 0 ≤ T 0 1 ∧ T 0 1 ≤ 6 := hG.2.2.2.2.1.1.2.1
  have o6 : 0 ≤ T 0 6 ∧ T 0 6 ≤ 10 := hG.2.2.2.2.1.1.2.2.2.2.2.2.1
  have hs0 : mx_SH[t]? = some (7, 14) := by rcases ht with rfl | rfl <;> rfl
  refine ms_aload_n dX1_readLikes_0 rfl ?_
  refine ms_callV0 (ci := 1) (r := (RX1, TX1, 10)) dX1_readLikes_1 cv_X1_readLikes_X1_readLamp (k_X1_rl hR ht hn hB hin hG) rfl rfl (by first | rfl | assumption) (Nat.le_of_ble_eq_true rfl) rfl (fun _ _ z => z.elim) (fun v9 h9 hp9 => ?_)
  obtain ⟨N1, x1, rfl, rfl, f1, h1⟩ := hp9
  have g1 : N1 1 = M 1 := (f1.1 1 (by decide) (by omega))
  
  rcases h1 with ⟨z1, zF, rfl⟩ | ⟨z1, zG1, zl1, rfl⟩
  · refine ms_conseq (fun v9 h9 hp => ?_) (fun _ _ z => z) (l_X1_lF4 (S := S) (f := f) (L := L) (M := N1) hR ht hn (by rw [g1]; exact hB) hin zF)
    obtain ⟨rfl, rfl⟩ := hp
    exact ⟨N1, rfl, rfl, f1, by unfold pLikes; rw [if_pos z1]; exact zF⟩
  have en00 : N1 t 0 = T 0 0 := zG1.2.2.2.1.1 0 (by decide) (by decide)
  have en01 : N1 t 1 = T 0 1 := zG1.2.2.2.1.1 1 (by decide) (by decide)
  have v1 := nC_0 (by decide) z1
  have hq1 := zG1.2.2.2.1
  have hs3 : mx_SH[t + 3]? = some (0, 6) := by rcases ht with rfl | rfl <;> rfl
  have hr32 : Rf t 9 = some (t + 3) := by rcases ht with rfl | rfl; exact rf_29_9 hR; exact rf_37_9 hR
  have w1 := zG1.2.1
  have hlk : N1 (t + 3) (nV (M 1) n p) = T 3 (nV (M 1) n p) := (hq1.2.1 _ (by omega) (by omega)).2.2
  have hlb := hG.2.2.2.2.1.2.1 (nV (M 1) n p) (by omega) (by simp only [td_s]; omega)
  simp only [td_s] at hlb
  refine ms_istore_n dX1_readLikes_4 (by decide) rfl ?_
  dsimp only [List.set, Nat.reduceAdd]
  refine ms_aload_n dX1_readLikes_5 rfl ?_
  refine ms_getI (z := 0) dX1_readLikes_6 (fo_X1_34 rfl) (by first | rfl | assumption) rfl rfl ?_
  refine mi_if_ne (tgt := 34) dX1_readLikes_9 (by decide) (fun c_9 => ?_) (fun c_9 => ?_)
  · exact absurd w1 c_9
  · refine ms_aload_n dX1_readLikes_12 rfl ?_
    refine ms_getR dX1_readLikes_13 (fo_X1_15 rfl) (by first | rfl | assumption) rfl (by first | assumption ) ?_
    refine ms_getR dX1_readLikes_16 (fo_X1_123 rfl) (by first | rfl | assumption) rfl (by first | assumption | exact rf_29_9 hR | exact rf_37_9 hR ) ?_
    refine ms_iload_n dX1_readLikes_19 rfl ?_
    refine ms_iald dX1_readLikes_20 (by first | rfl | assumption) ?_
    refine mi_iconst dX1_readLikes_21 ?_
    skip
    refine mi_icmp_eq (tgt := 34) dX1_readLikes_22 (by decide) (fun c_22 => ?_) (fun c_22 => ?_)
    · refine ms_aload_n dX1_readLikes_34 rfl ?_
      refine ms_callV0 (ci := 1) (r := (RX1, TX1, 10)) dX1_readLikes_35 cv_X1_readLikes_X1_readLamp (k_X1_rl (M := N1) hR ht hn (by rw [g1]; exact hB) hin zG1) rfl rfl (by first | rfl | assumption) (Nat.le_of_ble_eq_true rfl) rfl (fun _ _ z => z.elim) (fun v9 h9 hp9 => ?_)
      obtain ⟨N2, x2, rfl, rfl, f2, h2⟩ := hp9
      have g2 : N2 1 = M 1 := (f2.1 1 (by decide) (by omega)).trans g1
      rw [g1] at h2
      rcases h2 with ⟨z2, zF, rfl⟩ | ⟨z2, zG2, zl2, rfl⟩
      · refine ms_conseq (fun v9 h9 hp => ?_) (fun _ _ z => z) (l_X1_lF38 (S := S) (f := f) (L := L) (M := N2) hR ht hn (by rw [g2]; exact hB) hin zF (by omega))
        obtain ⟨rfl, rfl⟩ := hp
        exact ⟨N2, rfl, rfl, f1.tr f2, by unfold pLikes; rw [if_neg (by omega), if_neg (by omega), if_pos z2]; exact zF⟩
      have en00 : N2 t 0 = T 0 0 := zG2.2.2.2.1.1 0 (by decide) (by decide)
      have en01 : N2 t 1 = T 0 1 := zG2.2.2.2.1.1 1 (by decide) (by decide)
      have v2 := nC_0 (by decide) z2
      have w2 := zG2.2.1
      have hq2 := zG2.2.2.2.1
      have hs3 : mx_SH[t + 3]? = some (0, 6) := by rcases ht with rfl | rfl <;> rfl
      have hr32 : Rf t 9 = some (t + 3) := by rcases ht with rfl | rfl; exact rf_29_9 hR; exact rf_37_9 hR
      refine ms_istore_n dX1_readLikes_38 (by decide) rfl ?_
      dsimp only [List.set, Nat.reduceAdd]
      refine ms_iload_n dX1_readLikes_39 rfl ?_
      refine ms_iload_n dX1_readLikes_40 rfl ?_
      refine mi_icmp_ne (tgt := 53) dX1_readLikes_41 (by decide) (fun c_41 => ?_) (fun c_41 => ?_)
      · refine ms_aload_n dX1_readLikes_53 rfl ?_
        refine ms_getI (z := 0) dX1_readLikes_54 (fo_X1_34 rfl) (by first | rfl | assumption) rfl rfl ?_
        refine mi_if_ne (tgt := 70) dX1_readLikes_57 (by decide) (fun c_57 => ?_) (fun c_57 => ?_)
        · exact absurd w2 c_57
        · refine ms_aload_n dX1_readLikes_60 rfl ?_
          refine ms_getR dX1_readLikes_61 (fo_X1_15 rfl) (by first | rfl | assumption) rfl (by first | assumption ) ?_
          refine ms_getR dX1_readLikes_64 (fo_X1_123 rfl) (by first | rfl | assumption) rfl (by first | assumption | exact rf_29_9 hR | exact rf_37_9 hR ) ?_
          refine ms_iload_n dX1_readLikes_67 rfl ?_
          refine ms_iload_n dX1_readLikes_68 rfl ?_
          refine ms_iast dX1_readLikes_69 (by first | rfl | assumption) ?_
          refine ms_retV dX1_readLikes_70 rfl ⟨_, rfl, rfl, (f1.tr f2).tr ⟨fun x _ hx => by rw [up_n _ _ (by omega)], by rw [up_n _ _ (by omega)]⟩, by
    unfold pLikes
    rw [if_neg (by omega), if_neg (by omega), if_neg (by omega), if_neg c_41]
    have u : ∀ j, j ≠ t + 3 → va_up N2 (t + 3) (iu (N2 (t + 3)) (nV (M 1) n p) (nV (M 1) n (nx (M 1) n p))) j = N2 j := fun j hj => up_n _ _ hj
    refine ⟨zG2.1.fr (u 1 (by omega)) (by rw [u 45 (by omega)]) (by rw [u 45 (by omega)]) (by rw [u 45 (by omega)]) (by rw [u 45 (by omega)]), by rw [u 45 (by omega)]; exact w2, by rw [u 45 (by omega)]; exact zG2.2.2.1, ⟨fun k k0 k1 => ?_, fun l l0 l1 => ?_, fun i i0 i1 => ?_, fun f f0 f1 => ?_⟩, tdK_ok hG.2.2.2.2.1 (by omega), fun i i0 i1 => ?_⟩
    · show va_up N2 (t + 3) _ (t + 0) k = _; rw [u (t + 0) (by omega)]; exact hq2.1 k k0 k1
    · show va_up N2 (t + 3) _ (t + 1) l = _ ∧ va_up N2 (t + 3) _ (t + 2) l = _ ∧ va_up N2 (t + 3) _ (t + 3) l = _
      have h9 := hq2.2.1 l l0 l1
      rw [u (t + 1) (by omega), u (t + 2) (by omega), up_s]
      refine ⟨h9.1, h9.2.1, ?_⟩
      show iu (N2 (t + 3)) _ _ l = iu (T 3) _ _ l
      simp only [iu]
      split
      · rfl
      · exact h9.2.2
    · show va_up N2 (t + 3) _ (t + 4) i = _; rw [u (t + 4) (by omega)]; exact hq2.2.2.1 i i0 i1
    · show va_up N2 (t + 3) _ (t + 5) f = _ ∧ va_up N2 (t + 3) _ (t + 6) f = _ ∧ va_up N2 (t + 3) _ (t + 7) f = _; rw [u (t + 5) (by omega), u (t + 6) (by omega), u (t + 7) (by omega)]; exact hq2.2.2.2 f f0 f1
    · rw [u (t + 4) (by omega)]; exact zG2.2.2.2.2.2 i i0 i1⟩ (by simp)
      · refine ms_aload_n dX1_readLikes_44 rfl ?_
        refine mi_iconst dX1_readLikes_45 ?_
        refine ms_aload_n dX1_readLikes_46 rfl ?_
        refine ms_getI (z := 7) dX1_readLikes_47 (fo_X1_59 rfl) (by first | rfl | assumption) rfl rfl ?_
        refine ms_callV2 (ci := 1) (r := (RX1, TX1, 10)) dX1_readLikes_50 cv_X1_readLikes_X1_refuse (k_X1_refuse (M := N2) (e := 5) (p := N2 45 7) hR (by omega)) rfl rfl (by first | rfl | assumption) (Nat.le_of_ble_eq_true rfl) rfl (fun _ _ z => z.elim) (fun v9 h9 hp9 => ?_)
        obtain ⟨rfl, rfl⟩ := hp9
        rw [if_pos zG2.2.1]
        obtain ⟨hF9, hP9⟩ := zG2.F ht (c := 5) (q := N2 45 7) (by decide)
        refine ms_conseq (fun v9 h9 hp => ?_) (fun _ _ z => z) (l_X1_lF53 (S := S) (f := f) (L := L) hR ht hn (by rw [up_n _ _ (by decide), g2]; exact hB) hin hF9)
        obtain ⟨rfl, rfl⟩ := hp
        rw [zl2] at hF9
        exact ⟨_, rfl, rfl, (f1.tr f2).tr hP9, by unfold pLikes; rw [if_neg (by omega), if_neg (by omega), if_neg (by omega), if_pos c_41]; rw [zl2]; exact hF9⟩
        done
    · refine ms_aload_n dX1_readLikes_25 rfl ?_
      refine mi_iconst dX1_readLikes_26 ?_
      refine ms_aload_n dX1_readLikes_27 rfl ?_
      refine ms_getI (z := 7) dX1_readLikes_28 (fo_X1_59 rfl) (by first | rfl | assumption) rfl rfl ?_
      refine ms_callV2 (ci := 1) (r := (RX1, TX1, 10)) dX1_readLikes_31 cv_X1_readLikes_X1_refuse (k_X1_refuse (M := N1) (e := 5) (p := N1 45 7) hR (by omega)) rfl rfl (by first | rfl | assumption) (Nat.le_of_ble_eq_true rfl) rfl (fun _ _ z => z.elim) (fun v9 h9 hp9 => ?_)
      have hlk1 : T 3 (nV (M 1) n p) ≠ -1 := by rw [← hlk]; exact c_22
      obtain ⟨rfl, rfl⟩ := hp9
      rw [if_pos zG1.2.1]
      obtain ⟨hF9, hP9⟩ := zG1.F ht (c := 5) (q := N1 45 7) (by decide)
      refine ms_conseq (fun v9 h9 hp => ?_) (fun _ _ z => z) (l_X1_lF34 (S := S) (f := f) (L := L) hR ht hn (by rw [up_n _ _ (by decide), g1]; exact hB) hin hF9 (by omega))
      obtain ⟨rfl, rfl⟩ := hp
      rw [zl1] at hF9
      exact ⟨_, rfl, rfl, (f1).tr hP9, by unfold pLikes; rw [if_neg (by omega), if_pos hlk1]; rw [zl1]; exact hF9⟩
      done

set_option maxHeartbeats 4000000 in
theorem l_X1_fF8 {S : mx_Sc} {f : Bool} {M : Nat → Int → Int} {L : Nat → Nat → Int64} {Rf : Nat → Nat → Option Nat} (hR : mx_rf Rf) {t : Nat} (ht : t = 29 ∨ t = 37) {n : Int} (hn : 0 ≤ n ∧ n ≤ 500) (hB : ∀ i, 0 ≤ i → i < 500 → 0 ≤ M 1 i ∧ M 1 i ≤ 255) (hin : Rf 45 9 = some t) {c q : Int} (hF : rdF M t n c q)  : mx_E S mX1_readFog 8 [some (.ref 45), none, none, none] [.int (iI 0)] (f, mx_SH, M, L, Rf) 0 0 (fun v9 h9 => h9 = (f, mx_SH, M, L, Rf) ∧ v9 = none) (fun _ _ => False) := by
  have hw0 := hF.2.1
  have hcc := hF.2.2.2.1
  have hfm := hF.2.2.2.2.2
  unfold fm at hfm
  have hs0 : mx_SH[t]? = some (7, 14) := by rcases ht with rfl | rfl <;> rfl
  refine ms_istore_n dX1_readFog_8 (by decide) rfl ?_
  dsimp only [List.set, Nat.reduceAdd]
  refine ms_aload_n dX1_readFog_9 rfl ?_
  refine ms_callV0 (ci := 1) (r := (RX1, TX1, 10)) dX1_readFog_10 cv_X1_readFog_X1_readLamp (k_X1_rlF hR ht hn hB hin hF) rfl rfl (by first | rfl | assumption) (Nat.le_of_ble_eq_true rfl) rfl (fun _ _ z => z.elim) (fun v9 h9 hp9 => ?_)
  obtain ⟨rfl, rfl⟩ := hp9
  refine ms_istore_n dX1_readFog_13 (by decide) rfl ?_
  dsimp only [List.set, Nat.reduceAdd]
  refine ms_aload_n dX1_readFog_14 rfl ?_
  refine ms_callV0 (ci := 1) (r := (RX1, TX1, 10)) dX1_readFog_15 cv_X1_readFog_X1_readLamp (k_X1_rlF hR ht hn hB hin hF) rfl rfl (by first | rfl | assumption) (Nat.le_of_ble_eq_true rfl) rfl (fun _ _ z => z.elim) (fun v9 h9 hp9 => ?_)
  obtain ⟨rfl, rfl⟩ := hp9
  refine ms_istore_n dX1_readFog_18 (by decide) rfl ?_
  dsimp only [List.set, Nat.reduceAdd]
  refine ms_iload_n dX1_readFog_19 rfl ?_
  refine ms_iload_n dX1_readFog_20 rfl ?_
  refine mi_icmp_ne (tgt := 33) dX1_readFog_21 (by decide) (fun c_21 => ?_) (fun c_21 => ?_)
  · refine ms_aload_n dX1_readFog_33 rfl ?_
    refine ms_getI (z := 0) dX1_readFog_34 (fo_X1_34 rfl) (by first | rfl | assumption) rfl rfl ?_
    refine mi_if_ne (tgt := 50) dX1_readFog_37 (by decide) (fun c_37 => ?_) (fun c_37 => ?_)
    · refine ms_retV dX1_readFog_50 rfl ⟨rfl, rfl⟩ (by simp)
    · exact absurd c_37 (by omega)
  · refine ms_aload_n dX1_readFog_24 rfl ?_
    refine mi_iconst dX1_readFog_25 ?_
    refine ms_aload_n dX1_readFog_26 rfl ?_
    refine ms_getI (z := 7) dX1_readFog_27 (fo_X1_59 rfl) (by first | rfl | assumption) rfl rfl ?_
    refine ms_callV2 (ci := 1) (r := (RX1, TX1, 10)) dX1_readFog_30 cv_X1_readFog_X1_refuse (k_X1_refuse (e := 5) (p := M 45 7) hR (by omega)) rfl rfl (by first | rfl | assumption) (Nat.le_of_ble_eq_true rfl) rfl (fun _ _ z => z.elim) (fun v9 h9 hp9 => ?_)
    obtain ⟨rfl, rfl⟩ := hp9
    rw [if_neg (show ¬ M 45 0 = 0 by omega)]
    refine ms_aload_n dX1_readFog_33 rfl ?_
    refine ms_getI (z := 0) dX1_readFog_34 (fo_X1_34 rfl) (by first | rfl | assumption) rfl rfl ?_
    refine mi_if_ne (tgt := 50) dX1_readFog_37 (by decide) (fun c_37 => ?_) (fun c_37 => ?_)
    · refine ms_retV dX1_readFog_50 rfl ⟨rfl, rfl⟩ (by simp)
    · exact absurd c_37 (by omega)
set_option maxHeartbeats 4000000 in
theorem l_X1_fF13 {S : mx_Sc} {f : Bool} {M : Nat → Int → Int} {L : Nat → Nat → Int64} {Rf : Nat → Nat → Option Nat} (hR : mx_rf Rf) {t : Nat} (ht : t = 29 ∨ t = 37) {n : Int} (hn : 0 ≤ n ∧ n ≤ 500) (hB : ∀ i, 0 ≤ i → i < 500 → 0 ≤ M 1 i ∧ M 1 i ≤ 255) (hin : Rf 45 9 = some t) {c q : Int} (hF : rdF M t n c q)  {x : Int} : mx_E S mX1_readFog 13 [some (.ref 45), some (.int (iI x)), none, none] [.int (iI 0)] (f, mx_SH, M, L, Rf) 0 0 (fun v9 h9 => h9 = (f, mx_SH, M, L, Rf) ∧ v9 = none) (fun _ _ => False) := by
  have hw0 := hF.2.1
  have hcc := hF.2.2.2.1
  have hfm := hF.2.2.2.2.2
  unfold fm at hfm
  have hs0 : mx_SH[t]? = some (7, 14) := by rcases ht with rfl | rfl <;> rfl
  refine ms_istore_n dX1_readFog_13 (by decide) rfl ?_
  dsimp only [List.set, Nat.reduceAdd]
  refine ms_aload_n dX1_readFog_14 rfl ?_
  refine ms_callV0 (ci := 1) (r := (RX1, TX1, 10)) dX1_readFog_15 cv_X1_readFog_X1_readLamp (k_X1_rlF hR ht hn hB hin hF) rfl rfl (by first | rfl | assumption) (Nat.le_of_ble_eq_true rfl) rfl (fun _ _ z => z.elim) (fun v9 h9 hp9 => ?_)
  obtain ⟨rfl, rfl⟩ := hp9
  refine ms_istore_n dX1_readFog_18 (by decide) rfl ?_
  dsimp only [List.set, Nat.reduceAdd]
  refine ms_iload_n dX1_readFog_19 rfl ?_
  refine ms_iload_n dX1_readFog_20 rfl ?_
  refine mi_icmp_ne (tgt := 33) dX1_readFog_21 (by decide) (fun c_21 => ?_) (fun c_21 => ?_)
  · refine ms_aload_n dX1_readFog_33 rfl ?_
    refine ms_getI (z := 0) dX1_readFog_34 (fo_X1_34 rfl) (by first | rfl | assumption) rfl rfl ?_
    refine mi_if_ne (tgt := 50) dX1_readFog_37 (by decide) (fun c_37 => ?_) (fun c_37 => ?_)
    · refine ms_retV dX1_readFog_50 rfl ⟨rfl, rfl⟩ (by simp)
    · exact absurd c_37 (by omega)
  · refine ms_aload_n dX1_readFog_24 rfl ?_
    refine mi_iconst dX1_readFog_25 ?_
    refine ms_aload_n dX1_readFog_26 rfl ?_
    refine ms_getI (z := 7) dX1_readFog_27 (fo_X1_59 rfl) (by first | rfl | assumption) rfl rfl ?_
    refine ms_callV2 (ci := 1) (r := (RX1, TX1, 10)) dX1_readFog_30 cv_X1_readFog_X1_refuse (k_X1_refuse (e := 5) (p := M 45 7) hR (by omega)) rfl rfl (by first | rfl | assumption) (Nat.le_of_ble_eq_true rfl) rfl (fun _ _ z => z.elim) (fun v9 h9 hp9 => ?_)
    obtain ⟨rfl, rfl⟩ := hp9
    rw [if_neg (show ¬ M 45 0 = 0 by omega)]
    refine ms_aload_n dX1_readFog_33 rfl ?_
    refine ms_getI (z := 0) dX1_readFog_34 (fo_X1_34 rfl) (by first | rfl | assumption) rfl rfl ?_
    refine mi_if_ne (tgt := 50) dX1_readFog_37 (by decide) (fun c_37 => ?_) (fun c_37 => ?_)
    · refine ms_retV dX1_readFog_50 rfl ⟨rfl, rfl⟩ (by simp)
    · exact absurd c_37 (by omega)
set_option maxHeartbeats 4000000 in
theorem l_X1_fF18 {S : mx_Sc} {f : Bool} {M : Nat → Int → Int} {L : Nat → Nat → Int64} {Rf : Nat → Nat → Option Nat} (hR : mx_rf Rf) {t : Nat} (ht : t = 29 ∨ t = 37) {n : Int} (hn : 0 ≤ n ∧ n ≤ 500) (hB : ∀ i, 0 ≤ i → i < 500 → 0 ≤ M 1 i ∧ M 1 i ≤ 255) (hin : Rf 45 9 = some t) {c q : Int} (hF : rdF M t n c q)  {x y : Int} (hy : 0 ≤ y ∧ y ≤ 999) : mx_E S mX1_readFog 18 [some (.ref 45), some (.int (iI x)), some (.int (iI y)), none] [.int (iI 0)] (f, mx_SH, M, L, Rf) 0 0 (fun v9 h9 => h9 = (f, mx_SH, M, L, Rf) ∧ v9 = none) (fun _ _ => False) := by
  have hw0 := hF.2.1
  have hcc := hF.2.2.2.1
  have hfm := hF.2.2.2.2.2
  unfold fm at hfm
  have hs0 : mx_SH[t]? = some (7, 14) := by rcases ht with rfl | rfl <;> rfl
  refine ms_istore_n dX1_readFog_18 (by decide) rfl ?_
  dsimp only [List.set, Nat.reduceAdd]
  refine ms_iload_n dX1_readFog_19 rfl ?_
  refine ms_iload_n dX1_readFog_20 rfl ?_
  refine mi_icmp_ne (tgt := 33) dX1_readFog_21 (by decide) (fun c_21 => ?_) (fun c_21 => ?_)
  · refine ms_aload_n dX1_readFog_33 rfl ?_
    refine ms_getI (z := 0) dX1_readFog_34 (fo_X1_34 rfl) (by first | rfl | assumption) rfl rfl ?_
    refine mi_if_ne (tgt := 50) dX1_readFog_37 (by decide) (fun c_37 => ?_) (fun c_37 => ?_)
    · refine ms_retV dX1_readFog_50 rfl ⟨rfl, rfl⟩ (by simp)
    · exact absurd c_37 (by omega)
  · refine ms_aload_n dX1_readFog_24 rfl ?_
    refine mi_iconst dX1_readFog_25 ?_
    refine ms_aload_n dX1_readFog_26 rfl ?_
    refine ms_getI (z := 7) dX1_readFog_27 (fo_X1_59 rfl) (by first | rfl | assumption) rfl rfl ?_
    refine ms_callV2 (ci := 1) (r := (RX1, TX1, 10)) dX1_readFog_30 cv_X1_readFog_X1_refuse (k_X1_refuse (e := 5) (p := M 45 7) hR (by omega)) rfl rfl (by first | rfl | assumption) (Nat.le_of_ble_eq_true rfl) rfl (fun _ _ z => z.elim) (fun v9 h9 hp9 => ?_)
    obtain ⟨rfl, rfl⟩ := hp9
    rw [if_neg (show ¬ M 45 0 = 0 by omega)]
    refine ms_aload_n dX1_readFog_33 rfl ?_
    refine ms_getI (z := 0) dX1_readFog_34 (fo_X1_34 rfl) (by first | rfl | assumption) rfl rfl ?_
    refine mi_if_ne (tgt := 50) dX1_readFog_37 (by decide) (fun c_37 => ?_) (fun c_37 => ?_)
    · refine ms_retV dX1_readFog_50 rfl ⟨rfl, rfl⟩ (by simp)
    · exact absurd c_37 (by omega)
set_option maxHeartbeats 4000000 in
theorem l_X1_fF33 {S : mx_Sc} {f : Bool} {M : Nat → Int → Int} {L : Nat → Nat → Int64} {Rf : Nat → Nat → Option Nat} (hR : mx_rf Rf) {t : Nat} (ht : t = 29 ∨ t = 37) {n : Int} (hn : 0 ≤ n ∧ n ≤ 500) (hB : ∀ i, 0 ≤ i → i < 500 → 0 ≤ M 1 i ∧ M 1 i ≤ 255) (hin : Rf 45 9 = some t) {c q : Int} (hF : rdF M t n c q)  {x y z : Int} : mx_E S mX1_readFog 33 [some (.ref 45), some (.int (iI x)), some (.int (iI y)), some (.int (iI z))] [] (f, mx_SH, M, L, Rf) 0 0 (fun v9 h9 => h9 = (f, mx_SH, M, L, Rf) ∧ v9 = none) (fun _ _ => False) := by
  have hw0 := hF.2.1
  have hcc := hF.2.2.2.1
  have hfm := hF.2.2.2.2.2
  unfold fm at hfm
  have hs0 : mx_SH[t]? = some (7, 14) := by rcases ht with rfl | rfl <;> rfl
  refine ms_aload_n dX1_readFog_33 rfl ?_
  refine ms_getI (z := 0) dX1_readFog_34 (fo_X1_34 rfl) (by first | rfl | assumption) rfl rfl ?_
  refine mi_if_ne (tgt := 50) dX1_readFog_37 (by decide) (fun c_37 => ?_) (fun c_37 => ?_)
  · refine ms_retV dX1_readFog_50 rfl ⟨rfl, rfl⟩ (by simp)
  · exact absurd c_37 (by omega)
set_option maxHeartbeats 4000000 in
set_option maxRecDepth 100000 in
theorem k_X1_readFog {S : mx_Sc} {f : Bool} {M : Nat → Int → Int} {L : Nat → Nat → Int64} {Rf : Nat → Nat → Option Nat} (hR : mx_rf Rf) {t : Nat} (ht : t = 29 ∨ t = 37) {n : Int} (hn : 0 ≤ n ∧ n ≤ 500) (hB : ∀ i, 0 ≤ i → i < 500 → 0 ≤ M 1 i ∧ M 1 i ≤ 255) (hin : Rf 45 9 = some t) {p : Int} {T : td_T} (hG : rdG M t n p T) (hF6 : T 0 6 < 10) : mx_C S mX1_readFog [.ref 45] (f, mx_SH, M, L, Rf) 0 0 (fun v9 h9 => ∃ N, h9 = (f, mx_SH, N, L, Rf) ∧ v9 = none ∧ rfP M N t ∧ rdR N t n (pFog (M 1) n p T)) (fun _ _ => False) := by
  refine mx_C_of (by decide) (by simp [Value.category]) (Nat.le_of_ble_eq_true rfl) rfl ?_
  show mx_E S mX1_readFog 0 [some (.ref 45), none, none, none] [] (f, mx_SH, M, L, Rf) 0 0 _ _
  have e00 : M t 0 = T 0 0 := hG.2.2.2.1.1 0 (by decide) (by decide)
  have e01 : M t 1 = T 0 1 := hG.2.2.2.1.1 1 (by decide) (by decide)
  have e06 : M t 6 = T 0 6 := hG.2.2.2.1.1 6 (by decide) (by decide)
  have o0 : 1 ≤ T 0 0 ∧ T 0 0 ≤ 30 := hG.2.2.2.2.1.1.1
  have o1 : 0 ≤ T 0 1 ∧ T 0 1 ≤ 6 := hG.2.2.2.2.1.1.2.1
  have o6 : 0 ≤ T 0 6 ∧ T 0 6 ≤ 10 := hG.2.2.2.2.1.1.2.2.2.2.2.2.1
  have hs0 : mx_SH[t]? = some (7, 14) := by rcases ht with rfl | rfl <;> rfl
  refine ms_aload_n dX1_readFog_0 rfl ?_
  refine mi_iconst dX1_readFog_1 ?_
  refine mi_bipush dX1_readFog_2 (by decide) ?_
  refine mi_iconst dX1_readFog_4 ?_
  refine ms_callV3 (ci := 1) (r := (RX1, TX1, 10)) dX1_readFog_5 cv_X1_readFog_X1_readNumber (k_X1_rn hR ht hn hB (a := 0) (b := 99) (e := 2) (by omega) (by omega) (by omega) hG) rfl rfl (by first | rfl | assumption) (Nat.le_of_ble_eq_true rfl) rfl (fun _ _ z => z.elim) (fun v9 h9 hp9 => ?_)
  obtain ⟨N1, x1, rfl, rfl, f1, h1⟩ := hp9
  have g1 : N1 1 = M 1 := (f1.1 1 (by decide) (by omega))
  
  rcases h1 with ⟨z1, zF, rfl⟩ | ⟨z1, zG1, zl1, rfl⟩
  · refine ms_conseq (fun v9 h9 hp => ?_) (fun _ _ z => z) (l_X1_fF8 (S := S) (f := f) (L := L) (M := N1) hR ht hn (by rw [g1]; exact hB) hin zF)
    obtain ⟨rfl, rfl⟩ := hp
    exact ⟨N1, rfl, rfl, f1, by unfold pFog; rw [if_pos z1]; exact zF⟩
  have v1 := nC_0 (by decide) z1
  refine ms_istore_n dX1_readFog_8 (by decide) rfl ?_
  dsimp only [List.set, Nat.reduceAdd]
  refine ms_aload_n dX1_readFog_9 rfl ?_
  refine ms_callV0 (ci := 1) (r := (RX1, TX1, 10)) dX1_readFog_10 cv_X1_readFog_X1_readLamp (k_X1_rl (M := N1) hR ht hn (by rw [g1]; exact hB) hin zG1) rfl rfl (by first | rfl | assumption) (Nat.le_of_ble_eq_true rfl) rfl (fun _ _ z => z.elim) (fun v9 h9 hp9 => ?_)
  obtain ⟨N2, x2, rfl, rfl, f2, h2⟩ := hp9
  have g2 : N2 1 = M 1 := (f2.1 1 (by decide) (by omega)).trans g1
  rw [g1] at h2
  rcases h2 with ⟨z2, zF, rfl⟩ | ⟨z2, zG2, zl2, rfl⟩
  · refine ms_conseq (fun v9 h9 hp => ?_) (fun _ _ z => z) (l_X1_fF13 (S := S) (f := f) (L := L) (M := N2) hR ht hn (by rw [g2]; exact hB) hin zF)
    obtain ⟨rfl, rfl⟩ := hp
    exact ⟨N2, rfl, rfl, f1.tr f2, by unfold pFog; rw [if_neg (by omega), if_pos z2]; exact zF⟩
  have v2 := nC_0 (by decide) z2
  refine ms_istore_n dX1_readFog_13 (by decide) rfl ?_
  dsimp only [List.set, Nat.reduceAdd]
  refine ms_aload_n dX1_readFog_14 rfl ?_
  refine ms_callV0 (ci := 1) (r := (RX1, TX1, 10)) dX1_readFog_15 cv_X1_readFog_X1_readLamp (k_X1_rl (M := N2) hR ht hn (by rw [g2]; exact hB) hin zG2) rfl rfl (by first | rfl | assumption) (Nat.le_of_ble_eq_true rfl) rfl (fun _ _ z => z.elim) (fun v9 h9 hp9 => ?_)
  obtain ⟨N3, x3, rfl, rfl, f3, h3⟩ := hp9
  have g3 : N3 1 = M 1 := (f3.1 1 (by decide) (by omega)).trans g2
  rw [g2] at h3
  rcases h3 with ⟨z3, zF, rfl⟩ | ⟨z3, zG3, zl3, rfl⟩
  · refine ms_conseq (fun v9 h9 hp => ?_) (fun _ _ z => z) (l_X1_fF18 (S := S) (f := f) (L := L) (M := N3) hR ht hn (by rw [g3]; exact hB) hin zF (by omega))
    obtain ⟨rfl, rfl⟩ := hp
    exact ⟨N3, rfl, rfl, (f1.tr f2).tr f3, by unfold pFog; rw [if_neg (by omega), if_neg (by omega), if_pos z3]; exact zF⟩
  have en00 : N3 t 0 = T 0 0 := zG3.2.2.2.1.1 0 (by decide) (by decide)
  have en01 : N3 t 1 = T 0 1 := zG3.2.2.2.1.1 1 (by decide) (by decide)
  have v3 := nC_0 (by decide) z3
  have w3 := zG3.2.1
  refine ms_istore_n dX1_readFog_18 (by decide) rfl ?_
  dsimp only [List.set, Nat.reduceAdd]
  refine ms_iload_n dX1_readFog_19 rfl ?_
  refine ms_iload_n dX1_readFog_20 rfl ?_
  refine mi_icmp_ne (tgt := 33) dX1_readFog_21 (by decide) (fun c_21 => ?_) (fun c_21 => ?_)
  · refine ms_aload_n dX1_readFog_33 rfl ?_
    refine ms_getI (z := 0) dX1_readFog_34 (fo_X1_34 rfl) (by first | rfl | assumption) rfl rfl ?_
    refine mi_if_ne (tgt := 50) dX1_readFog_37 (by decide) (fun c_37 => ?_) (fun c_37 => ?_)
    · exact absurd w3 c_37
    · refine ms_aload_n dX1_readFog_40 rfl ?_
      refine ms_getR dX1_readFog_41 (fo_X1_15 rfl) (by first | rfl | assumption) rfl (by first | assumption ) ?_
      refine ms_iload_n dX1_readFog_44 rfl ?_
      refine ms_iload_n dX1_readFog_45 rfl ?_
      refine ms_iload_n dX1_readFog_46 rfl ?_
      refine ms_callV3 (ci := 4) (r := (RX4, TX4, 14)) dX1_readFog_47 cv_X1_readFog_X4_addFog (k_X4_addFog (M := N3) hR ht zG3.2.2.2.1 zG3.2.2.2.2.1 (by omega)) rfl rfl (by first | rfl | assumption) (Nat.le_of_ble_eq_true rfl) rfl (fun _ _ z => z.elim) (fun v9 h9 hp9 => ?_)
      obtain ⟨N4, rfl, rfl, a1, a2, a3⟩ := hp9
      have a45 : N4 45 = N3 45 := a1 45 (by omega)
      refine ms_retV dX1_readFog_50 rfl ⟨N4, rfl, rfl, ((f1.tr f2).tr f3).tr ⟨fun x _ hx => a1 x hx, by rw [a45]⟩, by
    unfold pFog
    rw [if_neg (by omega), if_neg (by omega), if_neg (by omega), if_neg (fun z => c_21 z.symm)]
    exact ⟨zG3.1.fr (a1 1 (by omega)) (by rw [a45]) (by rw [a45]) (by rw [a45]) (by rw [a45]), by rw [a45]; exact w3, by rw [a45]; exact zG3.2.2.1, a2, tdF_ok hG.2.2.2.2.1 hF6 (by omega) (by omega) (by omega), fun i i0 i1 => by rw [a3]; exact zG3.2.2.2.2.2 i i0 i1⟩⟩ (by simp)
  · refine ms_aload_n dX1_readFog_24 rfl ?_
    refine mi_iconst dX1_readFog_25 ?_
    refine ms_aload_n dX1_readFog_26 rfl ?_
    refine ms_getI (z := 7) dX1_readFog_27 (fo_X1_59 rfl) (by first | rfl | assumption) rfl rfl ?_
    refine ms_callV2 (ci := 1) (r := (RX1, TX1, 10)) dX1_readFog_30 cv_X1_readFog_X1_refuse (k_X1_refuse (M := N3) (e := 5) (p := N3 45 7) hR (by omega)) rfl rfl (by first | rfl | assumption) (Nat.le_of_ble_eq_true rfl) rfl (fun _ _ z => z.elim) (fun v9 h9 hp9 => ?_)
    obtain ⟨rfl, rfl⟩ := hp9
    rw [if_pos zG3.2.1]
    obtain ⟨hF9, hP9⟩ := zG3.F ht (c := 5) (q := N3 45 7) (by decide)
    refine ms_conseq (fun v9 h9 hp => ?_) (fun _ _ z => z) (l_X1_fF33 (S := S) (f := f) (L := L) hR ht hn (by rw [up_n _ _ (by decide), g3]; exact hB) hin hF9)
    obtain ⟨rfl, rfl⟩ := hp
    rw [zl3] at hF9
    exact ⟨_, rfl, rfl, ((f1.tr f2).tr f3).tr hP9, by unfold pFog; rw [if_neg (by omega), if_neg (by omega), if_neg (by omega), if_pos c_21.symm]; rw [zl3]; exact hF9⟩
    done

