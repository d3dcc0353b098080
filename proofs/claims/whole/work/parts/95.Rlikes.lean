theorem mr_addK {N M : Nat → Int → Int} {T : td_T} {a b : Int} (hq : tq T (mr M)) (h57 : N 57 = iu (M 57) (6 + a) b) (h : ∀ x, x ≠ 48 → x ≠ 57 → N x = M x) : tq (tdK T a b) (mr N) := by
  refine ⟨fun k k0 k1 => ?_, fun l l0 l1 => ?_, fun i i0 i1 => ?_, fun g g0 g1 => ?_⟩
  · rw [mr_r0, h 53 (by decide) (by decide)]; exact hq.1 k k0 k1
  · rw [mr_r1, mr_r2, mr_r3, h 54 (by decide) (by decide), h 55 (by decide) (by decide), h57]
    have h9 := hq.2.1 l l0 l1
    refine ⟨h9.1, h9.2.1, ?_⟩
    show iu (M 57) (6 + a) b (6 + l) = iu (T 3) a b l
    simp only [iu]
    by_cases e : l = a
    · rw [if_pos (by omega), if_pos e]
    · rw [if_neg (by omega), if_neg e]; exact h9.2.2
  · rw [mr_r4, h 56 (by decide) (by decide)]; exact hq.2.2.1 i i0 i1
  · rw [mr_r5, mr_r6, mr_r7, h 58 (by decide) (by decide), h 59 (by decide) (by decide), h 60 (by decide) (by decide)]; exact hq.2.2.2 g g0 g1
theorem mr_addF {N M : Nat → Int → Int} {T : td_T} {u a b : Int} (hq : tq T (mr M)) (h53 : N 53 = iu (M 53) 13 (T 0 6 + 1)) (h58 : N 58 = iu (M 58) (10 + T 0 6) u) (h59 : N 59 = iu (M 59) (10 + T 0 6) a) (h60 : N 60 = iu (M 60) (10 + T 0 6) b) (h : ∀ x, 53 < x → x < 58 → N x = M x) : tq (tdF T u a b) (mr N) := by
  refine ⟨fun k k0 k1 => ?_, fun l l0 l1 => ?_, fun i i0 i1 => ?_, fun g g0 g1 => ?_⟩
  · rw [mr_r0, h53]
    show _ = iu (T 0) 6 (T 0 6 + 1) k
    simp only [iu]
    by_cases e : k = 6
    · rw [if_pos (by omega), if_pos e]
    · rw [if_neg (by omega), if_neg e]
      exact hq.1 k k0 k1
  · rw [mr_r1, mr_r2, mr_r3, h 54 (by decide) (by decide), h 55 (by decide) (by decide), h 57 (by decide) (by decide)]; exact hq.2.1 l l0 l1
  · rw [mr_r4, h 56 (by decide) (by decide)]; exact hq.2.2.1 i i0 i1
  · have l2 : g < T 0 6 + 1 := g1
    rw [mr_r5, mr_r6, mr_r7, h58, h59, h60]
    show iu _ _ _ _ = iu (T 5) (T 0 6) u g ∧ iu _ _ _ _ = iu (T 6) (T 0 6) a g ∧ iu _ _ _ _ = iu (T 7) (T 0 6) b g
    simp only [iu]
    by_cases e : g = T 0 6
    · rw [if_pos (by omega), if_pos e, if_pos (by omega), if_pos e, if_pos (by omega), if_pos e]
      exact ⟨rfl, rfl, rfl⟩
    · rw [if_neg (by omega), if_neg e, if_neg (by omega), if_neg e, if_neg (by omega), if_neg e]
      exact hq.2.2.2 g g0 (by omega)
set_option maxHeartbeats 4000000 in
theorem l_X7_lF8 {S : mx_Sc} {f : Bool} {M : Nat → Int → Int} {L : Nat → Nat → Int64} {Rf : Nat → Nat → Option Nat} (hR : mx_rf Rf) {c q : Int} (hF : mdF M c q)  : mx_E S mX7_readLikes 8 [some (.ref 48), none, none] [.int (iI 0)] (f, mx_SH, M, L, Rf) 0 0 (fun v9 h9 => h9 = (f, mx_SH, M, L, Rf) ∧ v9 = none) (fun _ _ => False) := by
  have hw0 := hF.1
  have hcc := hF.2.2
  refine ms_istore_n dX7_readLikes_8 (by decide) rfl ?_
  dsimp only [List.set, Nat.reduceAdd]
  refine ms_aload_n dX7_readLikes_9 rfl ?_
  refine ms_getI (z := 22) dX7_readLikes_10 (fo_X7_176 rfl) (by first | rfl | assumption) rfl rfl ?_
  refine mi_if_ne (tgt := 34) dX7_readLikes_13 (by decide) (fun c_13 => ?_) (fun c_13 => ?_)
  · refine ms_aload_n dX7_readLikes_34 rfl ?_
    refine ms_getI (z := 22) dX7_readLikes_35 (fo_X7_176 rfl) (by first | rfl | assumption) rfl rfl ?_
    refine mi_if_ne (tgt := 45) dX7_readLikes_38 (by decide) (fun c_38 => ?_) (fun c_38 => ?_)
    · refine ms_aload_n dX7_readLikes_45 rfl ?_
      refine ms_callV0 (ci := 7) (r := (RX7, TX7, 48)) dX7_readLikes_46 cv_X7_readLikes_X7_lampNow (k_X7_lampNowF hR hF) rfl rfl (by first | rfl | assumption) (Nat.le_of_ble_eq_true rfl) rfl (fun _ _ z => z.elim) (fun v9 h9 hp9 => ?_)
      obtain ⟨rfl, rfl⟩ := hp9
      refine ms_istore_n dX7_readLikes_49 (by decide) rfl ?_
      dsimp only [List.set, Nat.reduceAdd]
      refine ms_aload_n dX7_readLikes_50 rfl ?_
      refine ms_getI (z := 22) dX7_readLikes_51 (fo_X7_176 rfl) (by first | rfl | assumption) rfl rfl ?_
      refine mi_if_ne (tgt := 67) dX7_readLikes_54 (by decide) (fun c_54 => ?_) (fun c_54 => ?_)
      · refine ms_aload_n dX7_readLikes_67 rfl ?_
        refine ms_getI (z := 22) dX7_readLikes_68 (fo_X7_176 rfl) (by first | rfl | assumption) rfl rfl ?_
        refine mi_if_eq (tgt := 75) dX7_readLikes_71 (by decide) (fun c_71 => ?_) (fun c_71 => ?_)
        · exact absurd c_71 (by omega)
        · refine ms_retV dX7_readLikes_74 rfl ⟨rfl, rfl⟩ (by simp)
      · exact absurd c_54 (by omega)
    · exact absurd c_38 (by omega)
  · exact absurd c_13 (by omega)
set_option maxHeartbeats 4000000 in
theorem l_X7_lF34 {S : mx_Sc} {f : Bool} {M : Nat → Int → Int} {L : Nat → Nat → Int64} {Rf : Nat → Nat → Option Nat} (hR : mx_rf Rf) {c q : Int} (hF : mdF M c q)  {x : Int} : mx_E S mX7_readLikes 34 [some (.ref 48), some (.int (iI x)), none] [] (f, mx_SH, M, L, Rf) 0 0 (fun v9 h9 => h9 = (f, mx_SH, M, L, Rf) ∧ v9 = none) (fun _ _ => False) := by
  have hw0 := hF.1
  have hcc := hF.2.2
  refine ms_aload_n dX7_readLikes_34 rfl ?_
  refine ms_getI (z := 22) dX7_readLikes_35 (fo_X7_176 rfl) (by first | rfl | assumption) rfl rfl ?_
  refine mi_if_ne (tgt := 45) dX7_readLikes_38 (by decide) (fun c_38 => ?_) (fun c_38 => ?_)
  · refine ms_aload_n dX7_readLikes_45 rfl ?_
    refine ms_callV0 (ci := 7) (r := (RX7, TX7, 48)) dX7_readLikes_46 cv_X7_readLikes_X7_lampNow (k_X7_lampNowF hR hF) rfl rfl (by first | rfl | assumption) (Nat.le_of_ble_eq_true rfl) rfl (fun _ _ z => z.elim) (fun v9 h9 hp9 => ?_)
    obtain ⟨rfl, rfl⟩ := hp9
    refine ms_istore_n dX7_readLikes_49 (by decide) rfl ?_
    dsimp only [List.set, Nat.reduceAdd]
    refine ms_aload_n dX7_readLikes_50 rfl ?_
    refine ms_getI (z := 22) dX7_readLikes_51 (fo_X7_176 rfl) (by first | rfl | assumption) rfl rfl ?_
    refine mi_if_ne (tgt := 67) dX7_readLikes_54 (by decide) (fun c_54 => ?_) (fun c_54 => ?_)
    · refine ms_aload_n dX7_readLikes_67 rfl ?_
      refine ms_getI (z := 22) dX7_readLikes_68 (fo_X7_176 rfl) (by first | rfl | assumption) rfl rfl ?_
      refine mi_if_eq (tgt := 75) dX7_readLikes_71 (by decide) (fun c_71 => ?_) (fun c_71 => ?_)
      · exact absurd c_71 (by omega)
      · refine ms_retV dX7_readLikes_74 rfl ⟨rfl, rfl⟩ (by simp)
    · exact absurd c_54 (by omega)
  · exact absurd c_38 (by omega)
set_option maxHeartbeats 4000000 in
theorem l_X7_lF49 {S : mx_Sc} {f : Bool} {M : Nat → Int → Int} {L : Nat → Nat → Int64} {Rf : Nat → Nat → Option Nat} (hR : mx_rf Rf) {c q : Int} (hF : mdF M c q)  {x : Int} : mx_E S mX7_readLikes 49 [some (.ref 48), some (.int (iI x)), none] [.int (iI 0)] (f, mx_SH, M, L, Rf) 0 0 (fun v9 h9 => h9 = (f, mx_SH, M, L, Rf) ∧ v9 = none) (fun _ _ => False) := by
  have hw0 := hF.1
  have hcc := hF.2.2
  refine ms_istore_n dX7_readLikes_49 (by decide) rfl ?_
  dsimp only [List.set, Nat.reduceAdd]
  refine ms_aload_n dX7_readLikes_50 rfl ?_
  refine ms_getI (z := 22) dX7_readLikes_51 (fo_X7_176 rfl) (by first | rfl | assumption) rfl rfl ?_
  refine mi_if_ne (tgt := 67) dX7_readLikes_54 (by decide) (fun c_54 => ?_) (fun c_54 => ?_)
  · refine ms_aload_n dX7_readLikes_67 rfl ?_
    refine ms_getI (z := 22) dX7_readLikes_68 (fo_X7_176 rfl) (by first | rfl | assumption) rfl rfl ?_
    refine mi_if_eq (tgt := 75) dX7_readLikes_71 (by decide) (fun c_71 => ?_) (fun c_71 => ?_)
    · exact absurd c_71 (by omega)
    · refine ms_retV dX7_readLikes_74 rfl ⟨rfl, rfl⟩ (by simp)
  · exact absurd c_54 (by omega)
set_option maxHeartbeats 4000000 in
theorem l_X7_lF67 {S : mx_Sc} {f : Bool} {M : Nat → Int → Int} {L : Nat → Nat → Int64} {Rf : Nat → Nat → Option Nat} (hR : mx_rf Rf) {c q : Int} (hF : mdF M c q)  {x y : Int} : mx_E S mX7_readLikes 67 [some (.ref 48), some (.int (iI x)), some (.int (iI y))] [] (f, mx_SH, M, L, Rf) 0 0 (fun v9 h9 => h9 = (f, mx_SH, M, L, Rf) ∧ v9 = none) (fun _ _ => False) := by
  have hw0 := hF.1
  have hcc := hF.2.2
  refine ms_aload_n dX7_readLikes_67 rfl ?_
  refine ms_getI (z := 22) dX7_readLikes_68 (fo_X7_176 rfl) (by first | rfl | assumption) rfl rfl ?_
  refine mi_if_eq (tgt := 75) dX7_readLikes_71 (by decide) (fun c_71 => ?_) (fun c_71 => ?_)
  · exact absurd c_71 (by omega)
  · refine ms_retV dX7_readLikes_74 rfl ⟨rfl, rfl⟩ (by simp)
set_option maxHeartbeats 4000000 in
set_option maxRecDepth 100000 in
theorem k_X7_readLikes {S : mx_Sc} {f : Bool} {M : Nat → Int → Int} {L : Nat → Nat → Int64} {Rf : Nat → Nat → Option Nat} (hR : mx_rf Rf) {n : Int} (hn : 0 ≤ n ∧ n ≤ 500) (hB : ∀ i, 0 ≤ i → i < 500 → 0 ≤ M 62 i ∧ M 62 i ≤ 255) {p : Int} {T : td_T} (hG : mdG M n p T) : mx_C S mX7_readLikes [.ref 48] (f, mx_SH, M, L, Rf) 0 0 (fun v9 h9 => ∃ N, h9 = (f, mx_SH, N, L, Rf) ∧ v9 = none ∧ mfP M N ∧ mdR N n (pLikes (M 62) n (nx (M 62) n p) T)) (fun _ _ => False) := by
  refine mx_C_of (by decide) (by simp [Value.category]) (Nat.le_of_ble_eq_true rfl) rfl ?_
  show mx_E S mX7_readLikes 0 [some (.ref 48), none, none] [] (f, mx_SH, M, L, Rf) 0 0 _ _
  have hS := hG.1
  have hw0 := hG.2.1
  have h20 := hS.2.1
  have h21 := hS.2.2.1
  have h16 := hS.2.2.2.1
  have h18 := hS.2.2.2.2.1
  have hnum := hS.2.2.2.2.2.1
  have h0 := hS.2.2.2.2.2.2
  have htb := tk_b (M 62) n p
  have ht9 := te_b (g := M 62) h0.2
  have e0 : ∀ k, 0 ≤ k → k < 7 → M 53 (7 + k) = T 0 k := hG.2.2.1.1
  have e00 : M 53 7 = T 0 0 := e0 0 (by decide) (by decide)
  have e01 : M 53 8 = T 0 1 := e0 1 (by decide) (by decide)
  have e06 : M 53 13 = T 0 6 := e0 6 (by decide) (by decide)
  have o0 : 1 ≤ T 0 0 ∧ T 0 0 ≤ 30 := hG.2.2.2.1.1
  have o1 : 0 ≤ T 0 1 ∧ T 0 1 ≤ 6 := hG.2.2.2.1.2.1
  have o6 : 0 ≤ T 0 6 ∧ T 0 6 ≤ 10 := hG.2.2.2.1.2.2.2.2.2.2.1
  have hmt : mtk (tk (M 62) n p) = if tk (M 62) n p = 4 then 0 else tk (M 62) n p + 1 := rfl
  refine ms_aload_n dX7_readLikes_0 rfl ?_
  refine ms_callV0 (ci := 7) (r := (RX7, TX7, 48)) dX7_readLikes_1 cv_X7_readLikes_X7_stepOn (k_X7_stepOn hR hn hB hS.1 (by omega)) rfl rfl (by first | rfl | assumption) (Nat.le_of_ble_eq_true rfl) rfl (fun _ _ z => z.elim) (fun v9 h9 hp9 => ?_)
  obtain ⟨N0, rfl, rfl, s1, s2⟩ := hp9
  rw [h16, show sk (M 62) n (te (M 62) n p) = nx (M 62) n p from rfl] at s2
  have sG := s1.G hG s2
  have a62 : N0 62 = M 62 := s1.1 62 (by decide)
  refine ms_aload_n dX7_readLikes_4 rfl ?_
  refine ms_callV0 (ci := 7) (r := (RX7, TX7, 48)) dX7_readLikes_5 cv_X7_readLikes_X7_lampNow (k_X7_lampNow (M := N0) hR hn (by rw [a62]; exact hB) sG) rfl rfl (by first | rfl | assumption) (Nat.le_of_ble_eq_true rfl) rfl (fun _ _ z => z.elim) (fun v9 h9 hp9 => ?_)
  rw [a62] at hp9
  rcases hp9 with ⟨z1, N1, rfl, rfl, zF⟩ | ⟨z1, rfl, rfl⟩
  · refine ms_conseq (fun v9 h9 hp => ?_) (fun _ _ z => z) (l_X7_lF8 (S := S) (f := f) (L := L) hR zF.2.1)
    obtain ⟨rfl, rfl⟩ := hp
    refine ⟨_, rfl, rfl, s1.mf.tr zF.mf, ?_⟩
    unfold pLikes
    rw [if_pos z1]
    exact zF.2.1
  have v1 := nC_0 (by decide) z1
  have w0 := sG.2.1
  have hlk : N0 57 (6 + nV (M 62) n (nx (M 62) n p)) = T 3 (nV (M 62) n (nx (M 62) n p)) := (sG.2.2.1.2.1 _ (by omega) (by omega)).2.2
  have hlb := hG.2.2.2.2.1 (nV (M 62) n (nx (M 62) n p)) (by omega) (by simp only [td_s]; omega)
  simp only [td_s] at hlb
  have k16 := sG.1.2.2.2.1
  have k17 := sG.1.1
  have k0 := sG.1.2.2.2.2.2.2
  have k9 := te_b (g := N0 62) k0.2
  refine ms_istore_n dX7_readLikes_8 (by decide) rfl ?_
  dsimp only [List.set, Nat.reduceAdd]
  refine ms_aload_n dX7_readLikes_9 rfl ?_
  refine ms_getI (z := 22) dX7_readLikes_10 (fo_X7_176 rfl) (by first | rfl | assumption) rfl rfl ?_
  refine mi_if_ne (tgt := 34) dX7_readLikes_13 (by decide) (fun c_13 => ?_) (fun c_13 => ?_)
  · exact absurd w0 c_13
  · refine ms_aload_n dX7_readLikes_16 rfl ?_
    refine ms_getR dX7_readLikes_17 (fo_X7_55 rfl) (by first | rfl | assumption) rfl (by first | assumption | exact rf_48_9 hR ) ?_
    refine mi_bipush dX7_readLikes_20 (by decide) ?_
    refine ms_iload_n dX7_readLikes_22 rfl ?_
    refine mi_iadd dX7_readLikes_23 ?_
    refine ms_iald dX7_readLikes_24 (by first | rfl | assumption) ?_
    refine mi_iconst dX7_readLikes_25 ?_
    refine mi_icmp_eq (tgt := 34) dX7_readLikes_26 (by decide) (fun c_26 => ?_) (fun c_26 => ?_)
    · refine ms_aload_n dX7_readLikes_34 rfl ?_
      refine ms_getI (z := 22) dX7_readLikes_35 (fo_X7_176 rfl) (by first | rfl | assumption) rfl rfl ?_
      refine mi_if_ne (tgt := 45) dX7_readLikes_38 (by decide) (fun c_38 => ?_) (fun c_38 => ?_)
      · exact absurd w0 c_38
      · refine ms_aload_n dX7_readLikes_41 rfl ?_
        refine ms_callV0 (ci := 7) (r := (RX7, TX7, 48)) dX7_readLikes_42 cv_X7_readLikes_X7_stepOn (k_X7_stepOn (M := N0) hR hn (by rw [a62]; exact hB) k17 (by omega)) rfl rfl (by first | rfl | assumption) (Nat.le_of_ble_eq_true rfl) rfl (fun _ _ z => z.elim) (fun v9 h9 hp9 => ?_)
        obtain ⟨N2, rfl, rfl, t1, t2⟩ := hp9
        rw [k16, a62, show sk (M 62) n (te (M 62) n (nx (M 62) n p)) = nx (M 62) n (nx (M 62) n p) from rfl] at t2
        have G2 := t1.G sG t2
        have b62 : N2 62 = M 62 := (t1.1 62 (by decide)).trans a62
        refine ms_aload_n dX7_readLikes_45 rfl ?_
        refine ms_callV0 (ci := 7) (r := (RX7, TX7, 48)) dX7_readLikes_46 cv_X7_readLikes_X7_lampNow (k_X7_lampNow (M := N2) hR hn (by rw [b62]; exact hB) G2) rfl rfl (by first | rfl | assumption) (Nat.le_of_ble_eq_true rfl) rfl (fun _ _ z => z.elim) (fun v9 h9 hp9 => ?_)
        rw [b62] at hp9
        rcases hp9 with ⟨z2, N3, rfl, rfl, zF⟩ | ⟨z2, rfl, rfl⟩
        · refine ms_conseq (fun v9 h9 hp => ?_) (fun _ _ z => z) (l_X7_lF49 (S := S) (f := f) (L := L) hR zF.2.1)
          obtain ⟨rfl, rfl⟩ := hp
          refine ⟨_, rfl, rfl, (s1.mf.tr t1.mf).tr zF.mf, ?_⟩
          unfold pLikes
          rw [if_neg (by omega), if_neg (by omega), if_pos z2]
          exact zF.2.1
        have v2 := nC_0 (by decide) z2
        have w2 := G2.2.1
        have j16 := G2.1.2.2.2.1
        have j17 := G2.1.1
        have j0 := G2.1.2.2.2.2.2.2
        have j9 := te_b (g := N2 62) j0.2
        refine ms_istore_n dX7_readLikes_49 (by decide) rfl ?_
        dsimp only [List.set, Nat.reduceAdd]
        refine ms_aload_n dX7_readLikes_50 rfl ?_
        refine ms_getI (z := 22) dX7_readLikes_51 (fo_X7_176 rfl) (by first | rfl | assumption) rfl rfl ?_
        refine mi_if_ne (tgt := 67) dX7_readLikes_54 (by decide) (fun c_54 => ?_) (fun c_54 => ?_)
        · exact absurd w2 c_54
        · refine ms_iload_n dX7_readLikes_57 rfl ?_
          refine ms_iload_n dX7_readLikes_58 rfl ?_
          refine mi_icmp_ne (tgt := 67) dX7_readLikes_59 (by decide) (fun c_59 => ?_) (fun c_59 => ?_)
          · refine ms_aload_n dX7_readLikes_67 rfl ?_
            refine ms_getI (z := 22) dX7_readLikes_68 (fo_X7_176 rfl) (by first | rfl | assumption) rfl rfl ?_
            refine mi_if_eq (tgt := 75) dX7_readLikes_71 (by decide) (fun c_71 => ?_) (fun c_71 => ?_)
            · refine ms_aload_n dX7_readLikes_75 rfl ?_
              refine ms_callV0 (ci := 7) (r := (RX7, TX7, 48)) dX7_readLikes_76 cv_X7_readLikes_X7_stepOn (k_X7_stepOn (M := N2) hR hn (by rw [b62]; exact hB) j17 (by omega)) rfl rfl (by first | rfl | assumption) (Nat.le_of_ble_eq_true rfl) rfl (fun _ _ z => z.elim) (fun v9 h9 hp9 => ?_)
              obtain ⟨N4, rfl, rfl, u1, u2⟩ := hp9
              rw [j16, b62, show sk (M 62) n (te (M 62) n (nx (M 62) n (nx (M 62) n p))) = nx (M 62) n (nx (M 62) n (nx (M 62) n p)) from rfl] at u2
              have G4 := u1.G G2 u2
              refine ms_aload_n dX7_readLikes_79 rfl ?_
              refine ms_getR dX7_readLikes_80 (fo_X7_55 rfl) (by first | rfl | assumption) rfl (by first | assumption | exact rf_48_9 hR ) ?_
              refine mi_bipush dX7_readLikes_83 (by decide) ?_
              refine ms_iload_n dX7_readLikes_85 rfl ?_
              refine mi_iadd dX7_readLikes_86 ?_
              refine ms_iload_n dX7_readLikes_87 rfl ?_
              refine ms_iast dX7_readLikes_88 (by first | rfl | assumption) ?_
              refine ms_retV dX7_readLikes_89 rfl ?_ (by simp)
              refine ⟨_, rfl, rfl, (((s1.mf.tr t1.mf).tr u1.mf)).put (by omega), ?_⟩
              unfold pLikes
              rw [if_neg (by omega), if_neg (by omega), if_neg (by omega), if_neg (fun z => c_59 z.symm)]
              refine ⟨G4.1.fr (up_n _ _ (by decide)) (up_n _ _ (by decide)), by rw [up_n _ _ (by decide)]; exact G4.2.1, mr_addK (M := N4) G4.2.2.1 (by rw [up_s]) (fun x _ hx => up_n _ _ hx), tdK_ok hG.2.2.2 (by omega)⟩
            · exact absurd w2 c_71
          · refine ms_aload_n dX7_readLikes_62 rfl ?_
            refine mi_iconst dX7_readLikes_63 ?_
            refine ms_callV1 (ci := 7) (r := (RX7, TX7, 48)) dX7_readLikes_64 cv_X7_readLikes_X7_wrong (k_X7_wrong (M := N2) (e := 5) hR (by rw [G2.2.1]; decide)) rfl rfl (by first | rfl | assumption) (Nat.le_of_ble_eq_true rfl) rfl (fun _ _ z => z.elim) (fun v9 h9 hp9 => ?_)
            obtain ⟨rfl, rfl⟩ := hp9
            rw [if_pos G2.2.1]
            have zF := G2.ff (c := 5) (by decide)
            refine ms_conseq (fun v9 h9 hp => ?_) (fun _ _ z => z) (l_X7_lF67 (S := S) (f := f) (L := L) hR zF.2.1)
            obtain ⟨rfl, rfl⟩ := hp
            refine ⟨_, rfl, rfl, (s1.mf.tr t1.mf).tr zF.mf, ?_⟩
            unfold pLikes
            rw [if_neg (by omega), if_neg (by omega), if_neg (by omega), if_pos c_59.symm]
            exact zF.2.1
            done
    · refine ms_aload_n dX7_readLikes_29 rfl ?_
      refine mi_iconst dX7_readLikes_30 ?_
      refine ms_callV1 (ci := 7) (r := (RX7, TX7, 48)) dX7_readLikes_31 cv_X7_readLikes_X7_wrong (k_X7_wrong (M := N0) (e := 5) hR (by rw [sG.2.1]; decide)) rfl rfl (by first | rfl | assumption) (Nat.le_of_ble_eq_true rfl) rfl (fun _ _ z => z.elim) (fun v9 h9 hp9 => ?_)
      have hlk1 : T 3 (nV (M 62) n (nx (M 62) n p)) ≠ -1 := by rw [← hlk]; exact c_26
      obtain ⟨rfl, rfl⟩ := hp9
      rw [if_pos sG.2.1]
      have zF := sG.ff (c := 5) (by decide)
      refine ms_conseq (fun v9 h9 hp => ?_) (fun _ _ z => z) (l_X7_lF34 (S := S) (f := f) (L := L) hR zF.2.1)
      obtain ⟨rfl, rfl⟩ := hp
      refine ⟨_, rfl, rfl, s1.mf.tr zF.mf, ?_⟩
      unfold pLikes
      rw [if_neg (by omega), if_pos hlk1]
      exact zF.2.1
      done

set_option maxHeartbeats 4000000 in
theorem l_X7_fF100 {S : mx_Sc} {f : Bool} {M : Nat → Int → Int} {L : Nat → Nat → Int64} {Rf : Nat → Nat → Option Nat} (hR : mx_rf Rf) {c q : Int} (hF : mdF M c q)  {l : Int} (hl : 10 ≤ l ∧ l < 20) (hF6 : 0 ≤ M 53 13 ∧ M 53 13 < 10) : mx_E S mX7_readFog 100 [some (.ref 48), some (.int (iI l))] [] (f, mx_SH, M, L, Rf) 0 0 (fun v9 h9 => ∃ N, h9 = (f, mx_SH, N, L, Rf) ∧ v9 = none ∧ mfP M N ∧ mdF N c q) (fun _ _ => False) := by
  have hw0 := hF.1
  have hcc := hF.2.2
  refine ms_aload_n dX7_readFog_100 rfl ?_
  refine ms_getI (z := 22) dX7_readFog_101 (fo_X7_176 rfl) (by first | rfl | assumption) rfl rfl ?_
  refine mi_if_ne (tgt := 111) dX7_readFog_104 (by decide) (fun c_104 => ?_) (fun c_104 => ?_)
  · refine ms_aload_n dX7_readFog_111 rfl ?_
    refine ms_getR dX7_readFog_112 (fo_X7_43 rfl) (by first | rfl | assumption) rfl (by first | assumption | exact rf_48_5 hR ) ?_
    refine mi_bipush dX7_readFog_115 (by decide) ?_
    refine ms_dup2 dX7_readFog_117 rfl rfl ?_
    refine ms_iald dX7_readFog_118 (by first | rfl | assumption) ?_
    refine mi_iconst dX7_readFog_119 ?_
    refine mi_iadd dX7_readFog_120 ?_
    refine ms_iast dX7_readFog_121 (by first | rfl | assumption) ?_
    refine ms_retV dX7_readFog_122 rfl ⟨_, rfl, rfl, (mfP.rf (M := M)).put (by omega), by unfold mdF; rw [up_n _ _ (by decide)]; exact hF⟩ (by simp)
  · exact absurd c_104 (by omega)
set_option maxHeartbeats 4000000 in
theorem l_X7_fF72 {S : mx_Sc} {f : Bool} {M : Nat → Int → Int} {L : Nat → Nat → Int64} {Rf : Nat → Nat → Option Nat} (hR : mx_rf Rf) {c q : Int} (hF : mdF M c q)  {l : Int} (hl : 10 ≤ l ∧ l < 20) (hF6 : 0 ≤ M 53 13 ∧ M 53 13 < 10) : mx_E S mX7_readFog 72 [some (.ref 48), some (.int (iI l))] [.int (iI 0), .int (iI l), .ref 60] (f, mx_SH, M, L, Rf) 0 0 (fun v9 h9 => ∃ N, h9 = (f, mx_SH, N, L, Rf) ∧ v9 = none ∧ mfP M N ∧ mdF N c q) (fun _ _ => False) := by
  have hw0 := hF.1
  have hcc := hF.2.2
  refine ms_iast dX7_readFog_72 (by first | rfl | assumption) ?_
  refine ms_conseq (P2 := fun v9 h9 => ∃ N, h9 = (f, mx_SH, N, L, Rf) ∧ v9 = none ∧ mfP (va_up M 60 (iu (M 60) l 0)) N ∧ mdF N c q) (fun v9 h9 hp => ?_) (fun _ _ z => z) ?_
  · obtain ⟨N, y1, y2, y3, y4⟩ := hp
    exact ⟨N, y1, y2, ((mfP.rf (M := M)).put (by omega)).tr y3, y4⟩
  have hF2 : mdF (va_up M 60 (iu (M 60) l 0)) c q := by unfold mdF; rw [up_n _ _ (by decide)]; exact hF
  have hF62 : 0 ≤ va_up M 60 (iu (M 60) l 0) 53 13 ∧ va_up M 60 (iu (M 60) l 0) 53 13 < 10 := by rw [up_n _ _ (by decide)]; exact hF6
  generalize va_up M 60 (iu (M 60) l 0) = M9 at hF2 hF62 ⊢
  have hw2 := hF2.1
  refine ms_aload_n dX7_readFog_73 rfl ?_
  refine ms_getI (z := 22) dX7_readFog_74 (fo_X7_176 rfl) (by first | rfl | assumption) rfl rfl ?_
  refine mi_if_ne (tgt := 100) dX7_readFog_77 (by decide) (fun c_77 => ?_) (fun c_77 => ?_)
  · exact l_X7_fF100 (S := S) (f := f) (L := L) hR hF2 hl hF62
  · exact absurd c_77 (by omega)
set_option maxHeartbeats 4000000 in
theorem l_X7_fF62 {S : mx_Sc} {f : Bool} {M : Nat → Int → Int} {L : Nat → Nat → Int64} {Rf : Nat → Nat → Option Nat} (hR : mx_rf Rf) {c q : Int} (hF : mdF M c q)  {l : Int} (hl : 10 ≤ l ∧ l < 20) (hF6 : 0 ≤ M 53 13 ∧ M 53 13 < 10) : mx_E S mX7_readFog 62 [some (.ref 48), some (.int (iI l))] [.int (iI 0), .int (iI l), .ref 59] (f, mx_SH, M, L, Rf) 0 0 (fun v9 h9 => ∃ N, h9 = (f, mx_SH, N, L, Rf) ∧ v9 = none ∧ mfP M N ∧ mdF N c q) (fun _ _ => False) := by
  have hw0 := hF.1
  have hcc := hF.2.2
  refine ms_iast dX7_readFog_62 (by first | rfl | assumption) ?_
  refine ms_conseq (P2 := fun v9 h9 => ∃ N, h9 = (f, mx_SH, N, L, Rf) ∧ v9 = none ∧ mfP (va_up M 59 (iu (M 59) l 0)) N ∧ mdF N c q) (fun v9 h9 hp => ?_) (fun _ _ z => z) ?_
  · obtain ⟨N, y1, y2, y3, y4⟩ := hp
    exact ⟨N, y1, y2, ((mfP.rf (M := M)).put (by omega)).tr y3, y4⟩
  have hF2 : mdF (va_up M 59 (iu (M 59) l 0)) c q := by unfold mdF; rw [up_n _ _ (by decide)]; exact hF
  have hF62 : 0 ≤ va_up M 59 (iu (M 59) l 0) 53 13 ∧ va_up M 59 (iu (M 59) l 0) 53 13 < 10 := by rw [up_n _ _ (by decide)]; exact hF6
  generalize va_up M 59 (iu (M 59) l 0) = M9 at hF2 hF62 ⊢
  have hw2 := hF2.1
  refine ms_aload_n dX7_readFog_63 rfl ?_
  refine ms_getR dX7_readFog_64 (fo_X7_64 rfl) (by first | rfl | assumption) rfl (by first | assumption | exact rf_48_12 hR ) ?_
  refine ms_iload_n dX7_readFog_67 rfl ?_
  refine ms_aload_n dX7_readFog_68 rfl ?_
  refine ms_callV0 (ci := 7) (r := (RX7, TX7, 48)) dX7_readFog_69 cv_X7_readFog_X7_lampNow (k_X7_lampNowF hR hF2) rfl rfl (by first | rfl | assumption) (Nat.le_of_ble_eq_true rfl) rfl (fun _ _ z => z.elim) (fun v9 h9 hp9 => ?_)
  obtain ⟨rfl, rfl⟩ := hp9
  exact l_X7_fF72 (S := S) (f := f) (L := L) hR hF2 hl hF62
set_option maxHeartbeats 4000000 in
theorem l_X7_fF52 {S : mx_Sc} {f : Bool} {M : Nat → Int → Int} {L : Nat → Nat → Int64} {Rf : Nat → Nat → Option Nat} (hR : mx_rf Rf) {c q : Int} (hF : mdF M c q)  {l : Int} (hl : 10 ≤ l ∧ l < 20) (hF6 : 0 ≤ M 53 13 ∧ M 53 13 < 10) : mx_E S mX7_readFog 52 [some (.ref 48), some (.int (iI l))] [.int (iI 0), .int (iI l), .ref 58] (f, mx_SH, M, L, Rf) 0 0 (fun v9 h9 => ∃ N, h9 = (f, mx_SH, N, L, Rf) ∧ v9 = none ∧ mfP M N ∧ mdF N c q) (fun _ _ => False) := by
  have hw0 := hF.1
  have hcc := hF.2.2
  refine ms_iast dX7_readFog_52 (by first | rfl | assumption) ?_
  refine ms_conseq (P2 := fun v9 h9 => ∃ N, h9 = (f, mx_SH, N, L, Rf) ∧ v9 = none ∧ mfP (va_up M 58 (iu (M 58) l 0)) N ∧ mdF N c q) (fun v9 h9 hp => ?_) (fun _ _ z => z) ?_
  · obtain ⟨N, y1, y2, y3, y4⟩ := hp
    exact ⟨N, y1, y2, ((mfP.rf (M := M)).put (by omega)).tr y3, y4⟩
  have hF2 : mdF (va_up M 58 (iu (M 58) l 0)) c q := by unfold mdF; rw [up_n _ _ (by decide)]; exact hF
  have hF62 : 0 ≤ va_up M 58 (iu (M 58) l 0) 53 13 ∧ va_up M 58 (iu (M 58) l 0) 53 13 < 10 := by rw [up_n _ _ (by decide)]; exact hF6
  generalize va_up M 58 (iu (M 58) l 0) = M9 at hF2 hF62 ⊢
  have hw2 := hF2.1
  refine ms_aload_n dX7_readFog_53 rfl ?_
  refine ms_getR dX7_readFog_54 (fo_X7_61 rfl) (by first | rfl | assumption) rfl (by first | assumption | exact rf_48_11 hR ) ?_
  refine ms_iload_n dX7_readFog_57 rfl ?_
  refine ms_aload_n dX7_readFog_58 rfl ?_
  refine ms_callV0 (ci := 7) (r := (RX7, TX7, 48)) dX7_readFog_59 cv_X7_readFog_X7_readLamp (k_X7_readLampF hR hF2) rfl rfl (by first | rfl | assumption) (Nat.le_of_ble_eq_true rfl) rfl (fun _ _ z => z.elim) (fun v9 h9 hp9 => ?_)
  obtain ⟨rfl, rfl⟩ := hp9
  exact l_X7_fF62 (S := S) (f := f) (L := L) hR hF2 hl hF62
