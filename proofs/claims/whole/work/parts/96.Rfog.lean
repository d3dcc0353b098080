set_option maxHeartbeats 4000000 in
set_option maxRecDepth 100000 in
theorem k_X7_readFog {S : mx_Sc} {f : Bool} {M : Nat → Int → Int} {L : Nat → Nat → Int64} {Rf : Nat → Nat → Option Nat} (hR : mx_rf Rf) {n : Int} (hn : 0 ≤ n ∧ n ≤ 500) (hB : ∀ i, 0 ≤ i → i < 500 → 0 ≤ M 62 i ∧ M 62 i ≤ 255) {p : Int} {T : td_T} (hG : mdG M n p T) : mx_C S mX7_readFog [.ref 48] (f, mx_SH, M, L, Rf) 0 0 (fun v9 h9 => ∃ N, h9 = (f, mx_SH, N, L, Rf) ∧ v9 = none ∧ mfP M N ∧ mdR N n (if 10 ≤ T 0 6 then .inl (2, p) else pFog (M 62) n (nx (M 62) n p) T)) (fun _ _ => False) := by
  refine mx_C_of (by decide) (by simp [Value.category]) (Nat.le_of_ble_eq_true rfl) rfl ?_
  show mx_E S mX7_readFog 0 [some (.ref 48), none] [] (f, mx_SH, M, L, Rf) 0 0 _ _
  have hS := hG.1
  have hw0 := hG.2.1
  have h20 := hS.2.1
  have h21 := hS.2.2.1
  have h16 := hS.2.2.2.1
  have h18 := hS.2.2.2.2.1
  have hnum := hS.2.2.2.2.2.1
  have h0 := hS.2.2.2.2.2.2
  have htb := tk_b (M 62) n p
  have ht9 := te_b (g := M 62) h0.2
  have e0 : ∀ k, 0 ≤ k → k < 7 → M 53 (7 + k) = T 0 k := hG.2.2.1.1
  have e00 : M 53 7 = T 0 0 := e0 0 (by decide) (by decide)
  have e01 : M 53 8 = T 0 1 := e0 1 (by decide) (by decide)
  have e06 : M 53 13 = T 0 6 := e0 6 (by decide) (by decide)
  have o0 : 1 ≤ T 0 0 ∧ T 0 0 ≤ 30 := hG.2.2.2.1.1
  have o1 : 0 ≤ T 0 1 ∧ T 0 1 ≤ 6 := hG.2.2.2.1.2.1
  have o6 : 0 ≤ T 0 6 ∧ T 0 6 ≤ 10 := hG.2.2.2.1.2.2.2.2.2.2.1
  have hmt : mtk (tk (M 62) n p) = if tk (M 62) n p = 4 then 0 else tk (M 62) n p + 1 := rfl
  refine ms_aload_n dX7_readFog_0 rfl ?_
  refine ms_getR dX7_readFog_1 (fo_X7_43 rfl) (by first | rfl | assumption) rfl (by first | assumption | exact rf_48_5 hR ) ?_
  refine mi_bipush dX7_readFog_4 (by decide) ?_
  refine ms_iald dX7_readFog_6 (by first | rfl | assumption) ?_
  refine mi_bipush dX7_readFog_7 (by decide) ?_
  refine mi_icmp_ne (tgt := 17) dX7_readFog_9 (by decide) (fun c_9 => ?_) (fun c_9 => ?_)
  · refine ms_aload_n dX7_readFog_17 rfl ?_
    refine ms_getI (z := 22) dX7_readFog_18 (fo_X7_176 rfl) (by first | rfl | assumption) rfl rfl ?_
    refine mi_if_eq (tgt := 25) dX7_readFog_21 (by decide) (fun c_21 => ?_) (fun c_21 => ?_)
    · refine ms_aload_n dX7_readFog_25 rfl ?_
      refine ms_callV0 (ci := 7) (r := (RX7, TX7, 48)) dX7_readFog_26 cv_X7_readFog_X7_stepOn (k_X7_stepOn hR hn hB hS.1 (by omega)) rfl rfl (by first | rfl | assumption) (Nat.le_of_ble_eq_true rfl) rfl (fun _ _ z => z.elim) (fun v9 h9 hp9 => ?_)
      obtain ⟨N0, rfl, rfl, s1, s2⟩ := hp9
      rw [h16, show sk (M 62) n (te (M 62) n p) = nx (M 62) n p from rfl] at s2
      have sG := s1.G hG s2
      have a62 : N0 62 = M 62 := s1.1 62 (by decide)
      have n13 : N0 53 13 = T 0 6 := by rw [s1.1 53 (by decide)]; exact e06
      refine mi_bipush dX7_readFog_29 (by decide) ?_
      refine ms_aload_n dX7_readFog_31 rfl ?_
      refine ms_getR dX7_readFog_32 (fo_X7_43 rfl) (by first | rfl | assumption) rfl (by first | assumption | exact rf_48_5 hR ) ?_
      refine mi_bipush dX7_readFog_35 (by decide) ?_
      refine ms_iald dX7_readFog_37 (by first | rfl | assumption) ?_
      refine mi_iadd dX7_readFog_38 ?_
      rw [n13]
      refine ms_istore_n dX7_readFog_39 (by decide) rfl ?_
      dsimp only [List.set, Nat.reduceAdd]
      refine ms_aload_n dX7_readFog_40 rfl ?_
      refine ms_getR dX7_readFog_41 (fo_X7_58 rfl) (by first | rfl | assumption) rfl (by first | assumption | exact rf_48_10 hR ) ?_
      refine ms_iload_n dX7_readFog_44 rfl ?_
      refine ms_aload_n dX7_readFog_45 rfl ?_
      refine mi_iconst dX7_readFog_46 ?_
      refine mi_bipush dX7_readFog_47 (by decide) ?_
      refine ms_callV2 (ci := 7) (r := (RX7, TX7, 48)) dX7_readFog_49 cv_X7_readFog_X7_readNumber (k_X7_readNumber (M := N0) hR hn (by rw [a62]; exact hB) sG (a := 0) (b := 99) (by decide) (by decide)) rfl rfl (by first | rfl | assumption) (Nat.le_of_ble_eq_true rfl) rfl (fun _ _ z => z.elim) (fun v9 h9 hp9 => ?_)
      obtain ⟨N1, x1, rfl, rfl, h1⟩ := hp9
      rw [a62] at h1
      rcases h1 with ⟨z1, zF, rfl⟩ | ⟨z1, zs1, zG1, rfl⟩
      · refine ms_conseq (fun v9 h9 hp => ?_) (fun _ _ z => z) (l_X7_fF52 (S := S) (f := f) (L := L) (l := 10 + T 0 6) hR zF.2.1 (by omega) (by rw [zF.1 53 (by decide), n13]; omega))
        obtain ⟨N9, y1, y2, y3, y4⟩ := hp
        refine ⟨N9, y1, y2, (s1.mf.tr zF.mf).tr y3, ?_⟩
        rw [if_neg (by omega)]
        unfold pFog
        rw [if_pos z1]
        exact y4
      have v1 := nC_0 (by decide) z1
      refine ms_iast dX7_readFog_52 (by first | rfl | assumption) ?_
      have hK1 : mdG (va_up N1 58 (iu (N1 58) (10 + T 0 6) (nV (M 62) n (nx (M 62) n p)))) n (nx (M 62) n (nx (M 62) n p)) T := zG1.beh (by omega)
      have mK1 : mfP M (va_up N1 58 (iu (N1 58) (10 + T 0 6) (nV (M 62) n (nx (M 62) n p)))) := (s1.mf.tr zs1.mf).put (by omega)
      have kr1 : (va_up N1 58 (iu (N1 58) (10 + T 0 6) (nV (M 62) n (nx (M 62) n p)))) 58 = iu (N1 58) (10 + T 0 6) (nV (M 62) n (nx (M 62) n p)) := up_s _ _ _
      have kx1 : ∀ x, x ≠ 58 → (va_up N1 58 (iu (N1 58) (10 + T 0 6) (nV (M 62) n (nx (M 62) n p)))) x = N1 x := fun x hx => up_n _ _ hx
      generalize va_up N1 58 (iu (N1 58) (10 + T 0 6) (nV (M 62) n (nx (M 62) n p))) = K1 at hK1 mK1 kr1 kx1 ⊢
      have c62 : K1 62 = M 62 := by rw [kx1 62 (by decide), zs1.1 62 (by decide), a62]
      refine ms_aload_n dX7_readFog_53 rfl ?_
      refine ms_getR dX7_readFog_54 (fo_X7_61 rfl) (by first | rfl | assumption) rfl (by first | assumption | exact rf_48_11 hR ) ?_
      refine ms_iload_n dX7_readFog_57 rfl ?_
      refine ms_aload_n dX7_readFog_58 rfl ?_
      refine ms_callV0 (ci := 7) (r := (RX7, TX7, 48)) dX7_readFog_59 cv_X7_readFog_X7_readLamp (k_X7_readLamp (M := K1) hR hn (by rw [c62]; exact hB) hK1) rfl rfl (by first | rfl | assumption) (Nat.le_of_ble_eq_true rfl) rfl (fun _ _ z => z.elim) (fun v9 h9 hp9 => ?_)
      obtain ⟨N2, x2, rfl, rfl, h2⟩ := hp9
      rw [c62] at h2
      have m13 : K1 53 13 = T 0 6 := by rw [kx1 53 (by decide), zs1.1 53 (by decide)]; exact n13
      rcases h2 with ⟨z2, zF, rfl⟩ | ⟨z2, zs2, zG2, rfl⟩
      · refine ms_conseq (fun v9 h9 hp => ?_) (fun _ _ z => z) (l_X7_fF62 (S := S) (f := f) (L := L) (l := 10 + T 0 6) hR zF.2.1 (by omega) (by rw [zF.1 53 (by decide), m13]; omega))
        obtain ⟨N9, y1, y2, y3, y4⟩ := hp
        refine ⟨N9, y1, y2, (mK1.tr zF.mf).tr y3, ?_⟩
        rw [if_neg (by omega)]
        unfold pFog
        rw [if_neg (by omega), if_pos z2]
        exact y4
      have v2 := nC_0 (by decide) z2
      refine ms_iast dX7_readFog_62 (by first | rfl | assumption) ?_
      have hK2 : mdG (va_up N2 59 (iu (N2 59) (10 + T 0 6) (nV (M 62) n (nx (M 62) n (nx (M 62) n p))))) n (nx (M 62) n (nx (M 62) n (nx (M 62) n p))) T := zG2.beh (by omega)
      have mK2 : mfP M (va_up N2 59 (iu (N2 59) (10 + T 0 6) (nV (M 62) n (nx (M 62) n (nx (M 62) n p))))) := (mK1.tr zs2.mf).put (by omega)
      have kr2 : (va_up N2 59 (iu (N2 59) (10 + T 0 6) (nV (M 62) n (nx (M 62) n (nx (M 62) n p))))) 59 = iu (N2 59) (10 + T 0 6) (nV (M 62) n (nx (M 62) n (nx (M 62) n p))) := up_s _ _ _
      have kx2 : ∀ x, x ≠ 59 → (va_up N2 59 (iu (N2 59) (10 + T 0 6) (nV (M 62) n (nx (M 62) n (nx (M 62) n p))))) x = N2 x := fun x hx => up_n _ _ hx
      generalize va_up N2 59 (iu (N2 59) (10 + T 0 6) (nV (M 62) n (nx (M 62) n (nx (M 62) n p)))) = K2 at hK2 mK2 kr2 kx2 ⊢
      have d62 : K2 62 = M 62 := by rw [kx2 62 (by decide), zs2.1 62 (by decide), c62]
      refine ms_aload_n dX7_readFog_63 rfl ?_
      refine ms_getR dX7_readFog_64 (fo_X7_64 rfl) (by first | rfl | assumption) rfl (by first | assumption | exact rf_48_12 hR ) ?_
      refine ms_iload_n dX7_readFog_67 rfl ?_
      refine ms_aload_n dX7_readFog_68 rfl ?_
      refine ms_callV0 (ci := 7) (r := (RX7, TX7, 48)) dX7_readFog_69 cv_X7_readFog_X7_lampNow (k_X7_lampNow (M := K2) hR hn (by rw [d62]; exact hB) hK2) rfl rfl (by first | rfl | assumption) (Nat.le_of_ble_eq_true rfl) rfl (fun _ _ z => z.elim) (fun v9 h9 hp9 => ?_)
      rw [d62] at hp9
      have l13 : K2 53 13 = T 0 6 := by rw [kx2 53 (by decide), zs2.1 53 (by decide)]; exact m13
      rcases hp9 with ⟨z3, N3, rfl, rfl, zF⟩ | ⟨z3, rfl, rfl⟩
      · refine ms_conseq (fun v9 h9 hp => ?_) (fun _ _ z => z) (l_X7_fF72 (S := S) (f := f) (L := L) (l := 10 + T 0 6) hR zF.2.1 (by omega) (by rw [zF.1 53 (by decide), l13]; omega))
        obtain ⟨N9, y1, y2, y3, y4⟩ := hp
        refine ⟨N9, y1, y2, (mK2.tr zF.mf).tr y3, ?_⟩
        rw [if_neg (by omega)]
        unfold pFog
        rw [if_neg (by omega), if_neg (by omega), if_pos z3]
        exact y4
      have v3 := nC_0 (by decide) z3
      have hK2x := hK2
      refine ms_iast dX7_readFog_72 (by first | rfl | assumption) ?_
      have hK3 : mdG (va_up K2 60 (iu (K2 60) (10 + T 0 6) (nV (M 62) n (nx (M 62) n (nx (M 62) n (nx (M 62) n p)))))) n (nx (M 62) n (nx (M 62) n (nx (M 62) n p))) T := hK2x.beh (by omega)
      have mK3 : mfP M (va_up K2 60 (iu (K2 60) (10 + T 0 6) (nV (M 62) n (nx (M 62) n (nx (M 62) n (nx (M 62) n p)))))) := (mK2).put (by omega)
      have kr3 : (va_up K2 60 (iu (K2 60) (10 + T 0 6) (nV (M 62) n (nx (M 62) n (nx (M 62) n (nx (M 62) n p)))))) 60 = iu (K2 60) (10 + T 0 6) (nV (M 62) n (nx (M 62) n (nx (M 62) n (nx (M 62) n p)))) := up_s _ _ _
      have kx3 : ∀ x, x ≠ 60 → (va_up K2 60 (iu (K2 60) (10 + T 0 6) (nV (M 62) n (nx (M 62) n (nx (M 62) n (nx (M 62) n p)))))) x = K2 x := fun x hx => up_n _ _ hx
      generalize va_up K2 60 (iu (K2 60) (10 + T 0 6) (nV (M 62) n (nx (M 62) n (nx (M 62) n (nx (M 62) n p))))) = K3 at hK3 mK3 kr3 kx3 ⊢
      have k13 : K3 53 13 = T 0 6 := by rw [kx3 53 (by decide), kx2 53 (by decide), zs2.1 53 (by decide), kx1 53 (by decide), zs1.1 53 (by decide)]; exact n13
      have q60 : K3 60 = iu (K2 60) (10 + T 0 6) (nV (M 62) n (nx (M 62) n (nx (M 62) n (nx (M 62) n p)))) := kr3
      have q59 : K3 59 = iu (N2 59) (10 + T 0 6) (nV (M 62) n (nx (M 62) n (nx (M 62) n p))) := by rw [kx3 59 (by decide)]; exact kr2
      have w3 := hK3.2.1
      have v60 : K3 60 (10 + T 0 6) = nV (M 62) n (nx (M 62) n (nx (M 62) n (nx (M 62) n p))) := by rw [q60, iu_s]
      have v59 : K3 59 (10 + T 0 6) = nV (M 62) n (nx (M 62) n (nx (M 62) n p)) := by rw [q59, iu_s]
      have j16 := hK3.1.2.2.2.1
      have j17 := hK3.1.1
      have j0 := hK3.1.2.2.2.2.2.2
      have j9 := te_b (g := K3 62) j0.2
      have j62 : K3 62 = M 62 := by rw [kx3 62 (by decide)]; exact d62
      refine ms_aload_n dX7_readFog_73 rfl ?_
      refine ms_getI (z := 22) dX7_readFog_74 (fo_X7_176 rfl) (by first | rfl | assumption) rfl rfl ?_
      refine mi_if_ne (tgt := 100) dX7_readFog_77 (by decide) (fun c_77 => ?_) (fun c_77 => ?_)
      · exact absurd w3 c_77
      · refine ms_aload_n dX7_readFog_80 rfl ?_
        refine ms_getR dX7_readFog_81 (fo_X7_64 rfl) (by first | rfl | assumption) rfl (by first | assumption | exact rf_48_12 hR ) ?_
        refine ms_iload_n dX7_readFog_84 rfl ?_
        refine ms_iald dX7_readFog_85 (by first | rfl | assumption) ?_
        refine ms_aload_n dX7_readFog_86 rfl ?_
        refine ms_getR dX7_readFog_87 (fo_X7_61 rfl) (by first | rfl | assumption) rfl (by first | assumption | exact rf_48_11 hR ) ?_
        refine ms_iload_n dX7_readFog_90 rfl ?_
        refine ms_iald dX7_readFog_91 (by first | rfl | assumption) ?_
        refine mi_icmp_ne (tgt := 100) dX7_readFog_92 (by decide) (fun c_92 => ?_) (fun c_92 => ?_)
        · refine ms_aload_n dX7_readFog_100 rfl ?_
          refine ms_getI (z := 22) dX7_readFog_101 (fo_X7_176 rfl) (by first | rfl | assumption) rfl rfl ?_
          refine mi_if_ne (tgt := 111) dX7_readFog_104 (by decide) (fun c_104 => ?_) (fun c_104 => ?_)
          · exact absurd w3 c_104
          · refine ms_aload_n dX7_readFog_107 rfl ?_
            refine ms_callV0 (ci := 7) (r := (RX7, TX7, 48)) dX7_readFog_108 cv_X7_readFog_X7_stepOn (k_X7_stepOn (M := K3) hR hn (by rw [j62]; exact hB) j17 (by omega)) rfl rfl (by first | rfl | assumption) (Nat.le_of_ble_eq_true rfl) rfl (fun _ _ z => z.elim) (fun v9 h9 hp9 => ?_)
            obtain ⟨N4, rfl, rfl, u1, u2⟩ := hp9
            rw [j16, j62, show sk (M 62) n (te (M 62) n (nx (M 62) n (nx (M 62) n (nx (M 62) n p)))) = nx (M 62) n (nx (M 62) n (nx (M 62) n (nx (M 62) n p))) from rfl] at u2
            have G4 := u1.G hK3 u2
            have i13 : N4 53 13 = T 0 6 := by rw [u1.1 53 (by decide)]; exact k13
            refine ms_aload_n dX7_readFog_111 rfl ?_
            refine ms_getR dX7_readFog_112 (fo_X7_43 rfl) (by first | rfl | assumption) rfl (by first | assumption | exact rf_48_5 hR ) ?_
            refine mi_bipush dX7_readFog_115 (by decide) ?_
            refine ms_dup2 dX7_readFog_117 rfl rfl ?_
            refine ms_iald dX7_readFog_118 (by first | rfl | assumption) ?_
            refine mi_iconst dX7_readFog_119 ?_
            refine mi_iadd dX7_readFog_120 ?_
            refine ms_iast dX7_readFog_121 (by first | rfl | assumption) ?_
            refine ms_retV dX7_readFog_122 rfl ?_ (by simp)
            refine ⟨_, rfl, rfl, (mK3.tr u1.mf).put (by omega), ?_⟩
            rw [if_neg (by omega)]
            unfold pFog
            rw [if_neg (by omega), if_neg (by omega), if_neg (by omega), if_neg (by rw [v60, v59] at c_92; exact c_92)]
            have hM0 : ∀ x, x ≠ 48 → N0 x = M x := s1.1
            refine ⟨G4.1.fr (up_n _ _ (by decide)) (up_n _ _ (by decide)), by rw [up_n _ _ (by decide)]; exact G4.2.1, mr_addF (M := M) hG.2.2.1 ?_ ?_ ?_ ?_ ?_, tdF_ok hG.2.2.2 (by omega) (by omega) (by omega) (by omega)⟩
            · rw [up_s, i13, u1.1 53 (by decide), kx3 53 (by decide), kx2 53 (by decide), zs2.1 53 (by decide), kx1 53 (by decide), zs1.1 53 (by decide), hM0 53 (by decide)]
            · rw [up_n _ _ (by decide), u1.1 58 (by decide), kx3 58 (by decide), kx2 58 (by decide), zs2.1 58 (by decide), kr1, zs1.1 58 (by decide), hM0 58 (by decide)]
            · rw [up_n _ _ (by decide), u1.1 59 (by decide), q59, zs2.1 59 (by decide), kx1 59 (by decide), zs1.1 59 (by decide), hM0 59 (by decide)]
            · rw [up_n _ _ (by decide), u1.1 60 (by decide), q60, kx2 60 (by decide), zs2.1 60 (by decide), kx1 60 (by decide), zs1.1 60 (by decide), hM0 60 (by decide)]
            · intro x x0 x1
              rw [up_n _ _ (by omega), u1.1 x (by omega), kx3 x (by omega), kx2 x (by omega), zs2.1 x (by omega), kx1 x (by omega), zs1.1 x (by omega), hM0 x (by omega)]
        · refine ms_aload_n dX7_readFog_95 rfl ?_
          refine mi_iconst dX7_readFog_96 ?_
          refine ms_callV1 (ci := 7) (r := (RX7, TX7, 48)) dX7_readFog_97 cv_X7_readFog_X7_wrong (k_X7_wrong (M := K3) (e := 5) hR (by rw [hK3.2.1]; decide)) rfl rfl (by first | rfl | assumption) (Nat.le_of_ble_eq_true rfl) rfl (fun _ _ z => z.elim) (fun v9 h9 hp9 => ?_)
          have hab : nV (M 62) n (nx (M 62) n (nx (M 62) n (nx (M 62) n p))) = nV (M 62) n (nx (M 62) n (nx (M 62) n p)) := by rw [q60, q59, iu_s, iu_s] at c_92; exact c_92
          obtain ⟨rfl, rfl⟩ := hp9
          rw [if_pos hK3.2.1]
          have zF := hK3.ff (c := 5) (by decide)
          refine ms_conseq (fun v9 h9 hp => ?_) (fun _ _ z => z) (l_X7_fF100 (S := S) (f := f) (L := L) (l := 10 + T 0 6) hR zF.2.1 (by omega) (by rw [zF.1 53 (by decide), k13]; omega))
          obtain ⟨N9, y1, y2, y3, y4⟩ := hp
          refine ⟨N9, y1, y2, (mK3.tr zF.mf).tr y3, ?_⟩
          rw [if_neg (by omega)]
          unfold pFog
          rw [if_neg (by omega), if_neg (by omega), if_neg (by omega), if_pos hab]
          exact y4
          done
    · exact absurd hw0 c_21
  · refine ms_aload_n dX7_readFog_12 rfl ?_
    refine mi_iconst dX7_readFog_13 ?_
    refine ms_callV1 (ci := 7) (r := (RX7, TX7, 48)) dX7_readFog_14 cv_X7_readFog_X7_wrong (k_X7_wrong (e := 2) hR (by omega)) rfl rfl (by first | rfl | assumption) (Nat.le_of_ble_eq_true rfl) rfl (fun _ _ z => z.elim) (fun v9 h9 hp9 => ?_)
    obtain ⟨rfl, rfl⟩ := hp9
    rw [if_pos hw0]
    have hFF := hG.ff (c := 2) (by decide)
    have hv9 := hFF.2.1.1
    refine ms_aload_n dX7_readFog_17 rfl ?_
    refine ms_getI (z := 22) dX7_readFog_18 (fo_X7_176 rfl) (by first | rfl | assumption) rfl rfl ?_
    refine mi_if_eq (tgt := 25) dX7_readFog_21 (by decide) (fun c_21 => ?_) (fun c_21 => ?_)
    · exact absurd c_21 (by omega)
    · refine ms_retV dX7_readFog_24 rfl ⟨_, rfl, rfl, hFF.mf, by rw [if_pos (by omega)]; exact hFF.2.1⟩ (by simp)

