def tsP (M N : Nat → Int → Int) : Prop := (∀ x, x ≠ 64 → x ≠ 65 → x ≠ 67 → x ≠ 75 → N x = M x) ∧ (nk M → nk N)
theorem tl_s_c (t : sp_T) (lk v : Int → Int) (n l r : Int) (hn : 0 ≤ n) : ∀ k : Nat, (-1 ≤ (tl_s t lk v n l r k).2 ∧ (tl_s t lk v n l r k).2 ≤ 7) ∧ (-1 ≤ (tl_s t lk v n l r k).1 ∧ (tl_s t lk v n l r k).1 ≤ n + k) ∧ ((tl_s t lk v n l r k).1 = -1 ↔ (tl_s t lk v n l r k).2 = -1)
  | 0 => ⟨⟨(by decide : (-1 : Int) ≤ -1), (by decide : (-1 : Int) ≤ 7)⟩, ⟨(by decide : (-1 : Int) ≤ -1), by show (-1 : Int) ≤ n + ((0 : Nat) : Int); omega⟩, Iff.rfl⟩
  | k + 1 => by
    have ih := tl_s_c t lk v n l r hn k
    have hc := tl_c_b t lk v n l r k
    simp only [tl_s]
    split
    · simp only; omega
    · omega
set_option maxHeartbeats 4000000 in
set_option maxRecDepth 100000 in
theorem l_X7_tl {S : mx_Sc} {f : Bool} {M : Nat → Int → Int} {L : Nat → Nat → Int64} {Rf : Nat → Nat → Option Nat} (hR : mx_rf Rf) (hT : sp_tok (sp_tR M)) (hv : sp_vok (sp_tR M) (M 63)) (hlk : sp_lok (sp_tR M) (M 57)) {n l r z2 : Int} (hn : 0 ≤ n ∧ n ≤ 99) (hnn : M 48 29 = n) (hne : n ≤ M 53 5) (hl : 0 ≤ l ∧ l < M 53 1) (hr : 0 ≤ r ∧ r < 128) (hrb : ∀ j, 0 ≤ j → j < 6 → M 53 1 ≤ j → ob r j = 0) (hz : 0 ≤ z2 ∧ z2 < 2) {U : Int → Int} (hU : qv U (M 63)) : ∀ (kk : Nat) (k : Nat) (N : Nat → Int → Int) (o7 : Option Value), n + k + kk = M 53 5 → tsP M N → N 64 = sp_run (sp_tR M) (M 57) false false n k U → mx_E S mX7_tells 57 [some (.ref 48), some (.int (iI l)), some (.int (iI z2)), some (.int (iI r)), some (.int (iI (tl_s (sp_tR M) (M 57) (M 63) n l r k).1)), some (.int (iI (tl_s (sp_tR M) (M 57) (M 63) n l r k).2)), some (.int (iI (n + k))), o7] [] (f, mx_SH, N, L, Rf) 0 0 (fun v9 h9 => ∃ N, h9 = (f, mx_SH, N, L, Rf) ∧ tsP M N ∧ v9 = some (.int (iI (if z2 = 0 then (tl_s (sp_tR M) (M 57) (M 63) n l r (M 53 5 - n).toNat).1 else (tl_s (sp_tR M) (M 57) (M 63) n l r (M 53 5 - n).toNat).2)))) (fun _ _ => False) := by
  intro kk
  induction kk with
  | zero => 
    intro k N o7 g1 q1 q2
    have hT0 : 1 ≤ M 53 0 ∧ M 53 0 ≤ 30 := hT.1
    have hT1 : 0 ≤ M 53 1 ∧ M 53 1 ≤ 6 := hT.2.1
    have hT5 : 1 ≤ M 53 5 ∧ M 53 5 ≤ 99 := hT.2.2.2.2.2.1
    have hT6 : 0 ≤ M 53 6 ∧ M 53 6 ≤ 10 := hT.2.2.2.2.2.2.1
    have eT : sp_tR N = sp_tR M := by simp only [sp_tR, q1.1 53 (by decide) (by decide) (by decide) (by decide), q1.1 54 (by decide) (by decide) (by decide) (by decide), q1.1 55 (by decide) (by decide) (by decide) (by decide), q1.1 58 (by decide) (by decide) (by decide) (by decide), q1.1 59 (by decide) (by decide) (by decide) (by decide), q1.1 60 (by decide) (by decide) (by decide) (by decide)]
    have x53 : N 53 = M 53 := q1.1 53 (by decide) (by decide) (by decide) (by decide)
    have x57 : N 57 = M 57 := q1.1 57 (by decide) (by decide) (by decide) (by decide)
    have hvU := hU.vok hT hv
    have hts := tl_s_c (sp_tR M) (M 57) (M 63) n l r hn.1 k
    refine ms_iload dX7_tells_57 rfl ?_
    refine ms_aload_n dX7_tells_59 rfl ?_
    refine ms_getR dX7_tells_60 (fo_X7_43 rfl) (by first | rfl | assumption) rfl (by first | assumption | exact rf_48_5 hR ) ?_
    refine mi_iconst dX7_tells_63 ?_
    refine ms_iald dX7_tells_64 (by first | rfl | assumption) ?_
    rw [x53]
    refine mi_icmp_ge (tgt := 135) dX7_tells_65 (by decide) (fun c_65 => ?_) (fun c_65 => ?_)
    · refine ms_iload_n dX7_tells_135 rfl ?_
      refine mi_if_ne (tgt := 144) dX7_tells_136 (by decide) (fun c_136 => ?_) (fun c_136 => ?_)
      · refine ms_iload dX7_tells_144 rfl ?_
        refine ms_ret dX7_tells_146 rfl ⟨N, rfl, q1, by rw [show (M 53 5 - n).toNat = k by omega]; first | (rw [if_pos (by omega)]; done) | (rw [if_neg (by omega)]; done)⟩ (by simp)
      · refine ms_iload dX7_tells_139 rfl ?_
        refine ms_goto (tgt := 146) dX7_tells_141 (by decide) ?_
        refine ms_ret dX7_tells_146 rfl ⟨N, rfl, q1, by rw [show (M 53 5 - n).toNat = k by omega]; first | (rw [if_pos (by omega)]; done) | (rw [if_neg (by omega)]; done)⟩ (by simp)
    · exact absurd c_65 (by omega)
  | succ kk ih => 
    intro k N o7 g1 q1 q2
    have hT0 : 1 ≤ M 53 0 ∧ M 53 0 ≤ 30 := hT.1
    have hT1 : 0 ≤ M 53 1 ∧ M 53 1 ≤ 6 := hT.2.1
    have hT5 : 1 ≤ M 53 5 ∧ M 53 5 ≤ 99 := hT.2.2.2.2.2.1
    have hT6 : 0 ≤ M 53 6 ∧ M 53 6 ≤ 10 := hT.2.2.2.2.2.2.1
    have eT : sp_tR N = sp_tR M := by simp only [sp_tR, q1.1 53 (by decide) (by decide) (by decide) (by decide), q1.1 54 (by decide) (by decide) (by decide) (by decide), q1.1 55 (by decide) (by decide) (by decide) (by decide), q1.1 58 (by decide) (by decide) (by decide) (by decide), q1.1 59 (by decide) (by decide) (by decide) (by decide), q1.1 60 (by decide) (by decide) (by decide) (by decide)]
    have x53 : N 53 = M 53 := q1.1 53 (by decide) (by decide) (by decide) (by decide)
    have x57 : N 57 = M 57 := q1.1 57 (by decide) (by decide) (by decide) (by decide)
    have hvU := hU.vok hT hv
    have hts := tl_s_c (sp_tR M) (M 57) (M 63) n l r hn.1 k
    refine ms_iload dX7_tells_57 rfl ?_
    refine ms_aload_n dX7_tells_59 rfl ?_
    refine ms_getR dX7_tells_60 (fo_X7_43 rfl) (by first | rfl | assumption) rfl (by first | assumption | exact rf_48_5 hR ) ?_
    refine mi_iconst dX7_tells_63 ?_
    refine ms_iald dX7_tells_64 (by first | rfl | assumption) ?_
    rw [x53]
    refine mi_icmp_ge (tgt := 135) dX7_tells_65 (by decide) (fun c_65 => ?_) (fun c_65 => ?_)
    · exact absurd c_65 (by omega)
    · refine ms_aload_n dX7_tells_68 rfl ?_
      refine ms_getR dX7_tells_69 (fo_X7_113 rfl) (by first | rfl | assumption) rfl (by first | assumption | exact rf_48_39 hR ) ?_
      refine ms_aload_n dX7_tells_72 rfl ?_
      refine ms_getR dX7_tells_73 (fo_X7_80 rfl) (by first | rfl | assumption) rfl (by first | assumption | exact rf_48_26 hR ) ?_
      refine ms_callS2 dX7_tells_76 cv_X7_tells_X7_be (k_X7_be (a := 75) (b := 64) (by decide) (by decide) rfl rfl (by decide) (by decide) (by decide)) (Nat.le_of_ble_eq_true rfl) rfl (fun _ _ z => z.elim) (fun v9 h9 hp9 => ?_)
      obtain ⟨rfl, rfl⟩ := hp9
      refine mx_gen (fun N1 => (∀ x, x ≠ 75 → N1 x = N x) ∧ qv (N1 75) (N 64)) ⟨fun x hx => up_n _ _ hx, by rw [up_s]; exact qv_ic⟩ (fun N1 hN1 => ?_)
      obtain ⟨r1, r75⟩ := hN1
      have eT1 : sp_tR N1 = sp_tR M := by rw [← eT]; simp only [sp_tR, r1 53 (by decide), r1 54 (by decide), r1 55 (by decide), r1 58 (by decide), r1 59 (by decide), r1 60 (by decide)]
      have y57 : N1 57 = M 57 := by rw [r1 57 (by decide)]; exact x57
      have y64 : N1 64 = N 64 := r1 64 (by decide)
      have hv1 : sp_vok (sp_tR M) (N 64) := by rw [q2]; exact run_vok hT hlk false false hn.1 hvU k (by omega)
      refine ms_aload_n dX7_tells_79 rfl ?_
      refine ms_aload_n dX7_tells_80 rfl ?_
      refine ms_getR dX7_tells_81 (fo_X7_80 rfl) (by first | rfl | assumption) rfl (by first | assumption | exact rf_48_26 hR ) ?_
      refine ms_iload dX7_tells_84 rfl ?_
      refine ms_aload_n dX7_tells_86 rfl ?_
      refine ms_getR dX7_tells_87 (fo_X7_55 rfl) (by first | rfl | assumption) rfl (by first | assumption | exact rf_48_9 hR ) ?_
      refine mi_iconst dX7_tells_90 ?_
      refine ms_callV4 (ci := 7) (r := (RX7, TX7, 48)) dX7_tells_91 cv_X7_tells_X7_goNight (k_X7_goNight (M := N1) hR (by rw [eT1]; exact hT) (r := 64) (by decide) rfl (wr := 57) (by decide) rfl (by decide) (hf := false) (ng := false) (n := n + k) (by omega) (by decide) (by decide) (by decide) (by decide) (by rw [eT1, y64]; exact hv1) (by rw [eT1, y57]; exact hlk)) rfl rfl (by first | rfl | assumption) (Nat.le_of_ble_eq_true rfl) rfl (fun _ _ z => z.elim) (fun v9 h9 hp9 => ?_)
      obtain ⟨N3, m3, rfl, rfl, u1, u2, u3, u4, u5, u6⟩ := hp9
      rw [eT1, y57, y64] at u2
      rw [eT1] at u3
      have eT3 : sp_tR N3 = sp_tR M := by rw [← eT1]; simp only [sp_tR, u1 53 (by decide) (by decide) (by decide), u1 54 (by decide) (by decide) (by decide), u1 55 (by decide) (by decide) (by decide), u1 58 (by decide) (by decide) (by decide), u1 59 (by decide) (by decide) (by decide), u1 60 (by decide) (by decide) (by decide)]
      have z53 : N3 53 = M 53 := by rw [u1 53 (by decide) (by decide) (by decide), r1 53 (by decide)]; exact x53
      have z75 : N3 75 = N1 75 := u1 75 (by decide) (by decide) (by decide)
      have h64 : N3 64 = sp_run (sp_tR M) (M 57) false false n (k + 1) U := by rw [u2, q2]; rfl
      have hv75 : sp_vok (sp_tR M) (N3 75) := by rw [z75]; exact r75.vok hT hv1
      have hb64 : ∀ q, 0 ≤ q → q < 3 → -1000 ≤ N3 64 (3 * l + q) ∧ N3 64 (3 * l + q) ≤ 1000 := fun q q0 q1 => by
        have h9 := u3.1 l hl.1 hl.2
        simp only at h9
        rcases (show q = 0 ∨ q = 1 ∨ q = 2 by omega) with rfl | rfl | rfl
        · rw [Int.add_zero]; omega
        · omega
        · omega
      refine ms_pop dX7_tells_94 rfl ?_
      refine ms_aload_n dX7_tells_95 rfl ?_
      refine ms_iload dX7_tells_96 rfl ?_
      refine ms_iload_n dX7_tells_98 rfl ?_
      refine ms_iload_n dX7_tells_99 rfl ?_
      refine ms_callV3 (ci := 7) (r := (RX7, TX7, 48)) dX7_tells_100 cv_X7_tells_X7_leftBy (k_X7_leftBy (M := N3) hR (by rw [eT3]; exact hT) (n := n + k) (l := l) (r := r) (by omega) (by rw [z53]; exact hl) hr (by rw [eT3]; exact hv75) hb64) rfl rfl (by first | rfl | assumption) (Nat.le_of_ble_eq_true rfl) rfl (fun _ _ z => z.elim) (fun v9 h9 hp9 => ?_)
      obtain ⟨N4, rfl, w1, rfl⟩ := hp9
      have hlb : lbK (sp_tR N3) (N3 75) (n + k) l (fun q => N3 64 (3 * l + q)) r (N3 53 1) (N3 53 1 + 1) = tl_c (sp_tR M) (M 57) (M 63) n l r k := by
        rw [eT3, z53]
        refine lb_tl (t := sp_tR M) hT hlk hl ?_ ?_ (fun j a b c => hrb j a b c)
        · rw [z75]
          refine r75.tr ?_
          rw [q2]
          exact hU.run hT hlk false false n k
        · rw [h64]
          exact hU.run hT hlk false false n (k + 1)
      rw [hlb]
      have hcb := tl_c_b (sp_tR M) (M 57) (M 63) n l r k
      have hx4 : ∀ x, x ≠ 64 → x ≠ 65 → x ≠ 67 → x ≠ 75 → N4 x = M x := fun x a b c d => by rw [w1 x c, u1 x a b c, r1 x d]; exact q1.1 x a b c d
      have h644 : N4 64 = sp_run (sp_tR M) (M 57) false false n (k + 1) U := by rw [w1 64 (by decide)]; exact h64
      have hnk4 : nk N4 := fun a a0 a1 => by rw [w1 64 (by decide)]; exact u3.nk a a0 a1
      refine ms_istore dX7_tells_103 (by decide) rfl ?_
      dsimp only [List.set, Nat.reduceAdd]
      refine ms_iload dX7_tells_105 rfl ?_
      refine mi_iconst dX7_tells_107 ?_
      refine mi_icmp_eq (tgt := 121) dX7_tells_108 (by decide) (fun c_108 => ?_) (fun c_108 => ?_)
      · refine ms_iload dX7_tells_121 rfl ?_
        refine ms_istore dX7_tells_123 (by decide) rfl ?_
        dsimp only [List.set, Nat.reduceAdd]
        refine ms_iload dX7_tells_125 rfl ?_
        refine ms_istore dX7_tells_127 (by decide) rfl ?_
        dsimp only [List.set, Nat.reduceAdd]
        refine mi_iinc dX7_tells_129 rfl (by decide) rfl ?_
        dsimp only [List.set, Nat.reduceAdd]
        refine ms_goto (tgt := 57) dX7_tells_132 (by decide) ?_
        have i9 := ih (k + 1) N4 (some (.int (iI (tl_c (sp_tR M) (M 57) (M 63) n l r k)))) (by omega) ⟨hx4, fun _ => hnk4⟩ h644
        rw [show tl_s (sp_tR M) (M 57) (M 63) n l r (k + 1) = (n + k, tl_c (sp_tR M) (M 57) (M 63) n l r k) from by simp only [tl_s]; rw [if_pos (by omega)], show n + ((k + 1 : Nat) : Int) = n + k + 1 by omega] at i9
        exact i9
      · refine ms_iload dX7_tells_111 rfl ?_
        refine ms_iload dX7_tells_113 rfl ?_
        refine mi_icmp_lt (tgt := 121) dX7_tells_115 (by decide) (fun c_115 => ?_) (fun c_115 => ?_)
        · refine ms_iload dX7_tells_121 rfl ?_
          refine ms_istore dX7_tells_123 (by decide) rfl ?_
          dsimp only [List.set, Nat.reduceAdd]
          refine ms_iload dX7_tells_125 rfl ?_
          refine ms_istore dX7_tells_127 (by decide) rfl ?_
          dsimp only [List.set, Nat.reduceAdd]
          refine mi_iinc dX7_tells_129 rfl (by decide) rfl ?_
          dsimp only [List.set, Nat.reduceAdd]
          refine ms_goto (tgt := 57) dX7_tells_132 (by decide) ?_
          have i9 := ih (k + 1) N4 (some (.int (iI (tl_c (sp_tR M) (M 57) (M 63) n l r k)))) (by omega) ⟨hx4, fun _ => hnk4⟩ h644
          rw [show tl_s (sp_tR M) (M 57) (M 63) n l r (k + 1) = (n + k, tl_c (sp_tR M) (M 57) (M 63) n l r k) from by simp only [tl_s]; rw [if_pos (by omega)], show n + ((k + 1 : Nat) : Int) = n + k + 1 by omega] at i9
          exact i9
        · refine ms_goto (tgt := 129) dX7_tells_118 (by decide) ?_
          refine mi_iinc dX7_tells_129 rfl (by decide) rfl ?_
          dsimp only [List.set, Nat.reduceAdd]
          refine ms_goto (tgt := 57) dX7_tells_132 (by decide) ?_
          have i9 := ih (k + 1) N4 (some (.int (iI (tl_c (sp_tR M) (M 57) (M 63) n l r k)))) (by omega) ⟨hx4, fun _ => hnk4⟩ h644
          rw [show tl_s (sp_tR M) (M 57) (M 63) n l r (k + 1) = tl_s (sp_tR M) (M 57) (M 63) n l r k from by simp only [tl_s]; rw [if_neg (by omega)], show n + ((k + 1 : Nat) : Int) = n + k + 1 by omega] at i9
          exact i9

set_option maxHeartbeats 4000000 in
set_option maxRecDepth 100000 in
theorem k_X7_tells {S : mx_Sc} {f : Bool} {M : Nat → Int → Int} {L : Nat → Nat → Int64} {Rf : Nat → Nat → Option Nat} (hR : mx_rf Rf) (hT : sp_tok (sp_tR M)) {n l : Int} (hn : 0 ≤ n ∧ n ≤ 99) (hnn : M 48 29 = n) (hl : 0 ≤ l ∧ l < M 53 1) (hO : ∀ j, 0 ≤ j → j < n → 0 ≤ M 70 j ∧ M 70 j < 64) (hD : ∀ j, 0 ≤ j → j < n → sp_vok (sp_tR M) (bkM (M 68) (M 70) j)) (hW : ∀ i, 0 ≤ i → i < 1800 → -1000 ≤ M 69 i ∧ M 69 i ≤ 1000) (hnk : nk M) (hv : sp_vok (sp_tR M) (M 63)) (hlk : sp_lok (sp_tR M) (M 57)) (hne : n ≤ M 53 5) {z2 : Int} (hz232 : -2147483648 ≤ z2 ∧ z2 ≤ 2147483647) (hl32 : -2147483648 ≤ l ∧ l ≤ 2147483647) (hz : 0 ≤ z2 ∧ z2 < 2) : mx_C S mX7_tells [.ref 48, .int (iI l), .int (iI z2)] (f, mx_SH, M, L, Rf) 0 0 (fun v9 h9 => ∃ N r, h9 = (f, mx_SH, N, L, Rf) ∧ (∀ x, x ≠ 48 → x ≠ 64 → x ≠ 65 → x ≠ 67 → x ≠ 75 → N x = M x) ∧ N 48 4 = 0 ∧ (∀ k, k ≠ 4 → N 48 k = M 48 k) ∧ nk N ∧ v9 = some (.int (iI (if z2 = 0 then (tl_s (sp_tR M) (M 57) (M 63) n l r (M 53 5 - n).toNat).1 else (tl_s (sp_tR M) (M 57) (M 63) n l r (M 53 5 - n).toNat).2))) ∧ (0 ≤ r ∧ r < 128) ∧ ∀ b, 0 ≤ b → b < 7 → ob r b = if b ≠ l ∧ (b = 6 ∨ b < M 53 1) ∧ mfA (sp_tR M) (M 70) (M 68) (M 69) l n.toNat (if b = 6 then -1 else b) = true then (1 : Int) else 0) (fun _ _ => False) := by
  refine mx_C_of (by decide) (by simp [Value.category]) (Nat.le_of_ble_eq_true rfl) rfl ?_
  show mx_E S mX7_tells 0 [some (.ref 48), some (.int (iI l)), some (.int (iI z2)), none, none, none, none, none] [] (f, mx_SH, M, L, Rf) 0 0 _ _
  have hT0 : 1 ≤ M 53 0 ∧ M 53 0 ≤ 30 := hT.1
  have hT1 : 0 ≤ M 53 1 ∧ M 53 1 ≤ 6 := hT.2.1
  have hT5 : 1 ≤ M 53 5 ∧ M 53 5 ≤ 99 := hT.2.2.2.2.2.1
  have hT6 : 0 ≤ M 53 6 ∧ M 53 6 ≤ 10 := hT.2.2.2.2.2.2.1
  refine ms_aload_n dX7_tells_0 rfl ?_
  refine mi_iconst dX7_tells_1 ?_
  refine ms_putI (z := 4) dX7_tells_2 (fo_X7_131 rfl) (by first | rfl | assumption) rfl rfl rfl ?_
  refine mx_gen (fun N => cdP M N 0) cdP.mk' (fun N hN => ?_)
  have e53 : N 53 = M 53 := hN.1 53 (by decide)
  have e63 : N 63 = M 63 := hN.1 63 (by decide)
  have eTR : sp_tR N = sp_tR M := by simp only [sp_tR, hN.1 53 (by decide), hN.1 54 (by decide), hN.1 55 (by decide), hN.1 58 (by decide), hN.1 59 (by decide), hN.1 60 (by decide)]
  have e29 : N 48 29 = n := (hN.2.2 29 (by decide)).trans hnn
  have e70 : N 70 = M 70 := hN.1 70 (by decide)
  have e68 : N 68 = M 68 := hN.1 68 (by decide)
  have e69 : N 69 = M 69 := hN.1 69 (by decide)
  have hnk2 : nk N := fun l l0 l1 => by rw [hN.1 64 (by decide)]; exact hnk l l0 l1
  refine ms_aload_n dX7_tells_5 rfl ?_
  refine ms_iload_n dX7_tells_6 rfl ?_
  refine ms_callV1 (ci := 7) (r := (RX7, TX7, 48)) dX7_tells_7 cv_X7_tells_X7_isLamp (k_X7_isLamp (M := N) hR (by rw [e53]; exact hT1) hl32) rfl rfl (by first | rfl | assumption) (Nat.le_of_ble_eq_true rfl) rfl (fun _ _ z => z.elim) (fun v9 h9 hp9 => ?_)
  obtain ⟨rfl, rfl⟩ := hp9
  rw [e53]
  refine mi_if_eqB (tgt := 22) dX7_tells_10 (by decide) (fun c_10 => ?_) (fun c_10 => ?_)
  · exact absurd (of_decide_eq_false c_10) (by omega)
  · refine ms_iload_n dX7_tells_13 rfl ?_
    refine mi_if_lt (tgt := 22) dX7_tells_14 (by decide) (fun c_14 => ?_) (fun c_14 => ?_)
    · exact absurd c_14 (by omega)
    · refine ms_iload_n dX7_tells_17 rfl ?_
      refine mi_iconst dX7_tells_18 ?_
      refine mi_icmp_le (tgt := 28) dX7_tells_19 (by decide) (fun c_19 => ?_) (fun c_19 => ?_)
      · refine ms_aload_n dX7_tells_28 rfl ?_
        refine ms_iload_n dX7_tells_29 rfl ?_
        refine ms_callV1 (ci := 7) (r := (RX7, TX7, 48)) dX7_tells_30 cv_X7_tells_X7_mayOf (k_X7_mayOf (M := N) hR (by rw [eTR]; exact hT) (n := n) (l := l) hn e29 (by rw [e53]; exact hl) (by rw [e70]; exact hO) (by rw [eTR, e68, e70]; exact hD) (by rw [e69]; exact hW) hnk2) rfl rfl (by first | rfl | assumption) (Nat.le_of_ble_eq_true rfl) rfl (fun _ _ z => z.elim) (fun v9 h9 hp9 => ?_)
        obtain ⟨N2, r, rfl, y1, y2, rfl, hr, hbits⟩ := hp9
        rw [eTR, e70, e68, e69, e53] at hbits
        have eT2 : sp_tR N2 = sp_tR M := by rw [← eTR]; simp only [sp_tR, y1 53 (by decide) (by decide), y1 54 (by decide) (by decide), y1 55 (by decide) (by decide), y1 58 (by decide) (by decide), y1 59 (by decide) (by decide), y1 60 (by decide) (by decide)]
        have f63 : N2 63 = M 63 := by rw [y1 63 (by decide) (by decide)]; exact e63
        have f53 : N2 53 = M 53 := by rw [y1 53 (by decide) (by decide)]; exact e53
        have f57 : N2 57 = M 57 := by rw [y1 57 (by decide) (by decide)]; exact hN.1 57 (by decide)
        have f48 : N2 48 = N 48 := y1 48 (by decide) (by decide)
        refine ms_istore_n dX7_tells_33 (by decide) rfl ?_
        dsimp only [List.set, Nat.reduceAdd]
        refine mi_iconst dX7_tells_34 ?_
        refine ms_istore dX7_tells_35 (by decide) rfl ?_
        dsimp only [List.set, Nat.reduceAdd]
        refine mi_iconst dX7_tells_37 ?_
        refine ms_istore dX7_tells_38 (by decide) rfl ?_
        dsimp only [List.set, Nat.reduceAdd]
        refine ms_aload_n dX7_tells_40 rfl ?_
        refine ms_getR dX7_tells_41 (fo_X7_80 rfl) (by first | rfl | assumption) rfl (by first | assumption | exact rf_48_26 hR ) ?_
        refine ms_aload_n dX7_tells_44 rfl ?_
        refine ms_getR dX7_tells_45 (fo_X7_77 rfl) (by first | rfl | assumption) rfl (by first | assumption | exact rf_48_25 hR ) ?_
        refine ms_callS2 dX7_tells_48 cv_X7_tells_X7_be (k_X7_be (a := 64) (b := 63) (by decide) (by decide) rfl rfl (by decide) (by decide) (by decide)) (Nat.le_of_ble_eq_true rfl) rfl (fun _ _ z => z.elim) (fun v9 h9 hp9 => ?_)
        obtain ⟨rfl, rfl⟩ := hp9
        refine mx_gen (fun N4 => (∀ x, x ≠ 64 → N4 x = N2 x) ∧ qv (N4 64) (M 63)) ⟨fun x hx => up_n _ _ hx, by rw [up_s, ← f63]; exact qv_ic⟩ (fun N4 hN4 => ?_)
        obtain ⟨r1, r64⟩ := hN4
        have eT4 : sp_tR N4 = sp_tR M := by rw [← eT2]; simp only [sp_tR, r1 53 (by decide), r1 54 (by decide), r1 55 (by decide), r1 58 (by decide), r1 59 (by decide), r1 60 (by decide)]
        have g63 : N4 63 = M 63 := by rw [r1 63 (by decide)]; exact f63
        have g53 : N4 53 = M 53 := by rw [r1 53 (by decide)]; exact f53
        have g57 : N4 57 = M 57 := by rw [r1 57 (by decide)]; exact f57
        have g29 : N4 48 29 = n := by rw [r1 48 (by decide), f48]; exact e29
        refine ms_aload_n dX7_tells_51 rfl ?_
        refine ms_getI (z := 29) dX7_tells_52 (fo_X7_248 rfl) (by first | rfl | assumption) rfl rfl ?_
        refine ms_istore dX7_tells_55 (by decide) rfl ?_
        dsimp only [List.set, Nat.reduceAdd]
        rw [g29]
        have i9 := l_X7_tl (S := S) (f := f) (L := L) (M := N4) (n := n) (l := l) (r := r) (z2 := z2) (U := N4 64) hR (by rw [eT4]; exact hT) (by rw [eT4, g63]; exact hv) (by rw [eT4, g57]; exact hlk) hn g29 (by rw [g53]; exact hne) (by rw [g53]; exact hl) hr (fun j j0 j1 j2 => by rw [g53] at j2; rw [hbits j j0 (by omega), if_neg (by omega)]) hz (by rw [g63]; exact r64) (M 53 5 - n).toNat 0 N4 none (by rw [g53]; omega) ⟨fun _ _ _ _ _ => rfl, id⟩ rfl
        rw [show n + ((0 : Nat) : Int) = n by omega] at i9
        refine ms_conseq (fun v9 h9 hp => ?_) (fun _ _ z => z) i9
        obtain ⟨N5, w1, w2, w3⟩ := hp
        rw [eT4, g57, g63, g53] at w3
        have hnk4 : nk N4 := fun a a0 a1 => by rw [r64 _ (by omega) (by omega)]; exact (hv.2 a a0 a1).2
        exact ⟨N5, r, w1, fun x x0 x1 x2 x3 x4 => by rw [w2.1 x x1 x2 x3 x4, r1 x x1, y1 x x1 x3]; exact hN.1 x x0, by rw [w2.1 48 (by decide) (by decide) (by decide) (by decide), r1 48 (by decide), f48]; exact hN.2.1, fun k hk => by rw [w2.1 48 (by decide) (by decide) (by decide) (by decide), r1 48 (by decide), f48]; exact hN.2.2 k hk, w2.2 hnk4, w3, hr, hbits⟩
      · exact absurd c_19 (by omega)

set_option maxHeartbeats 4000000 in
set_option maxRecDepth 100000 in
theorem k_X7_tells_x {S : mx_Sc} {f : Bool} {M : Nat → Int → Int} {L : Nat → Nat → Int64} {Rf : Nat → Nat → Option Nat} (hR : mx_rf Rf) (hT : sp_tok (sp_tR M)) {l : Int} (hl32 : -2147483648 ≤ l ∧ l ≤ 2147483647) {k : Int} (hk32 : -2147483648 ≤ k ∧ k ≤ 2147483647) (hc : ¬ ((0 ≤ l ∧ l < M 53 1) ∧ (0 ≤ k ∧ k < 2))) : mx_C S mX7_tells [.ref 48, .int (iI l), .int (iI k)] (f, mx_SH, M, L, Rf) 0 0 (fun v9 h9 => ∃ N, h9 = (f, mx_SH, N, L, Rf) ∧ cdP M N 1 ∧ v9 = some (.int (iI (0)))) (fun _ _ => False) := by
  refine mx_C_of (by decide) (by simp [Value.category]) (Nat.le_of_ble_eq_true rfl) rfl ?_
  show mx_E S mX7_tells 0 [some (.ref 48), some (.int (iI l)), some (.int (iI k)), none, none, none, none, none] [] (f, mx_SH, M, L, Rf) 0 0 _ _
  have hT0 : 1 ≤ M 53 0 ∧ M 53 0 ≤ 30 := hT.1
  have hT1 : 0 ≤ M 53 1 ∧ M 53 1 ≤ 6 := hT.2.1
  have hT5 : 1 ≤ M 53 5 ∧ M 53 5 ≤ 99 := hT.2.2.2.2.2.1
  have hT6 : 0 ≤ M 53 6 ∧ M 53 6 ≤ 10 := hT.2.2.2.2.2.2.1
  refine ms_aload_n dX7_tells_0 rfl ?_
  refine mi_iconst dX7_tells_1 ?_
  refine ms_putI (z := 4) dX7_tells_2 (fo_X7_131 rfl) (by first | rfl | assumption) rfl rfl rfl ?_
  refine mx_gen (fun N => cdP M N 0) cdP.mk' (fun N hN => ?_)
  have e53 : N 53 = M 53 := hN.1 53 (by decide)
  have e63 : N 63 = M 63 := hN.1 63 (by decide)
  have eTR : sp_tR N = sp_tR M := by simp only [sp_tR, hN.1 53 (by decide), hN.1 54 (by decide), hN.1 55 (by decide), hN.1 58 (by decide), hN.1 59 (by decide), hN.1 60 (by decide)]
  refine ms_aload_n dX7_tells_5 rfl ?_
  refine ms_iload_n dX7_tells_6 rfl ?_
  refine ms_callV1 (ci := 7) (r := (RX7, TX7, 48)) dX7_tells_7 cv_X7_tells_X7_isLamp (k_X7_isLamp (M := N) hR (by rw [e53]; exact hT1) hl32) rfl rfl (by first | rfl | assumption) (Nat.le_of_ble_eq_true rfl) rfl (fun _ _ z => z.elim) (fun v9 h9 hp9 => ?_)
  obtain ⟨rfl, rfl⟩ := hp9
  rw [e53]
  refine mi_if_eqB (tgt := 22) dX7_tells_10 (by decide) (fun c_10 => ?_) (fun c_10 => ?_)
  · refine ms_aload_n dX7_tells_22 rfl ?_
    refine mi_iconst dX7_tells_23 ?_
    refine ms_callV1 (ci := 7) (r := (RX7, TX7, 48)) dX7_tells_24 cv_X7_tells_X7_fail (k_X7_fail (M := N) hR) rfl rfl (by first | rfl | assumption) (Nat.le_of_ble_eq_true rfl) rfl (fun _ _ z => z.elim) (fun v9 h9 hp9 => ?_)
    obtain ⟨rfl, rfl⟩ := hp9
    refine ms_ret dX7_tells_27 rfl ⟨_, rfl, hN.set, rfl⟩ (by simp)
  · refine ms_iload_n dX7_tells_13 rfl ?_
    refine mi_if_lt (tgt := 22) dX7_tells_14 (by decide) (fun c_14 => ?_) (fun c_14 => ?_)
    · refine ms_aload_n dX7_tells_22 rfl ?_
      refine mi_iconst dX7_tells_23 ?_
      refine ms_callV1 (ci := 7) (r := (RX7, TX7, 48)) dX7_tells_24 cv_X7_tells_X7_fail (k_X7_fail (M := N) hR) rfl rfl (by first | rfl | assumption) (Nat.le_of_ble_eq_true rfl) rfl (fun _ _ z => z.elim) (fun v9 h9 hp9 => ?_)
      obtain ⟨rfl, rfl⟩ := hp9
      refine ms_ret dX7_tells_27 rfl ⟨_, rfl, hN.set, rfl⟩ (by simp)
    · refine ms_iload_n dX7_tells_17 rfl ?_
      refine mi_iconst dX7_tells_18 ?_
      refine mi_icmp_le (tgt := 28) dX7_tells_19 (by decide) (fun c_19 => ?_) (fun c_19 => ?_)
      · exact absurd ⟨of_decide_eq_true c_10, by omega⟩ hc
      · refine ms_aload_n dX7_tells_22 rfl ?_
        refine mi_iconst dX7_tells_23 ?_
        refine ms_callV1 (ci := 7) (r := (RX7, TX7, 48)) dX7_tells_24 cv_X7_tells_X7_fail (k_X7_fail (M := N) hR) rfl rfl (by first | rfl | assumption) (Nat.le_of_ble_eq_true rfl) rfl (fun _ _ z => z.elim) (fun v9 h9 hp9 => ?_)
        obtain ⟨rfl, rfl⟩ := hp9
        refine ms_ret dX7_tells_27 rfl ⟨_, rfl, hN.set, rfl⟩ (by simp)

