set_option maxHeartbeats 4000000 in
set_option maxRecDepth 100000 in
theorem k_X7_stepOn {S : mx_Sc} {f : Bool} {M : Nat → Int → Int} {L : Nat → Nat → Int64} {Rf : Nat → Nat → Option Nat} (hR : mx_rf Rf) {n : Int} (hn : 0 ≤ n ∧ n ≤ 500) (hB : ∀ i, 0 ≤ i → i < 500 → 0 ≤ M 62 i ∧ M 62 i ≤ 255) (hlen : M 48 17 = n) (hat : 0 ≤ M 48 16 ∧ M 48 16 ≤ n) : mx_C S mX7_stepOn [.ref 48] (f, mx_SH, M, L, Rf) 0 0 (fun v9 h9 => ∃ N, h9 = (f, mx_SH, N, L, Rf) ∧ v9 = none ∧ sfP M N ∧ mdS N n (sk (M 62) n (M 48 16))) (fun _ _ => False) := by
  refine mx_C_of (by decide) (by simp [Value.category]) (Nat.le_of_ble_eq_true rfl) rfl ?_
  show mx_E S mX7_stepOn 0 [some (.ref 48), none] [] (f, mx_SH, M, L, Rf) 0 0 _ _
  refine l_X7_so1 (S := S) (f := f) (L := L) (P := (fun v9 h9 => ∃ N, h9 = (f, mx_SH, N, L, Rf) ∧ v9 = none ∧ sfP M N ∧ mdS N n (sk (M 62) n (M 48 16)))) (PX := fun _ _ => False) hR hn hB hlen (n - M 48 16).toNat M sfP.rf (by omega) (by omega) rfl (fun N q1 q5 => ?_)
  refine ms_aload_n dX7_stepOn_39 rfl ?_
  refine ms_aload_n dX7_stepOn_40 rfl ?_
  refine ms_getI (z := 16) dX7_stepOn_41 (fo_X7_144 rfl) (by first | rfl | assumption) rfl rfl ?_
  refine ms_putI (z := 20) dX7_stepOn_44 (fo_X7_151 rfl) (by first | rfl | assumption) rfl rfl rfl ?_
  refine mx_gen (fun N2 => sfP M N2 ∧ N2 48 16 = (sk (M 62) n (M 48 16)) ∧ N2 48 20 = (sk (M 62) n (M 48 16))) ⟨q1.put (by omega), by rw [up_s, iu_n _ _ (by decide)]; exact q5, by rw [up_s, iu_s]; exact q5⟩ (fun N2 hN2 => ?_)
  obtain ⟨p1, p16, p20⟩ := hN2
  have e2 : N2 62 = M 62 := p1.1 62 (by decide)
  have e17 : N2 48 17 = n := (p1.2 17 (by omega)).trans hlen
  have hq0 := sk_b (g := M 62) (n := n) (p := M 48 16) (by omega)
  by_cases hlt : (sk (M 62) n (M 48 16)) < n
  · refine ms_aload_n dX7_stepOn_47 rfl ?_
    refine ms_aload_n dX7_stepOn_48 rfl ?_
    refine ms_getI (z := 16) dX7_stepOn_49 (fo_X7_144 rfl) (by first | rfl | assumption) rfl rfl ?_
    refine ms_callV1 (ci := 7) (r := (RX7, TX7, 48)) dX7_stepOn_52 cv_X7_stepOn_X7_byteAt (k_X7_byteAt (M := N2) hR hn (by rw [e2]; exact hB) e17 (a := N2 48 16) (by omega)) rfl rfl (by first | rfl | assumption) (Nat.le_of_ble_eq_true rfl) rfl (fun _ _ z => z.elim) (fun v9 h9 hp9 => ?_)
    obtain ⟨rfl, rfl⟩ := hp9
    rw [p16, e2, if_pos hlt]
    have hb := hB (sk (M 62) n (M 48 16)) (by omega) (by omega)
    refine ms_istore_n dX7_stepOn_55 (by decide) rfl ?_
    dsimp only [List.set, Nat.reduceAdd]
    refine ms_iload_n dX7_stepOn_56 rfl ?_
    refine mi_iconst dX7_stepOn_57 ?_
    refine mi_icmp_ne (tgt := 69) dX7_stepOn_58 (by decide) (fun c_58 => ?_) (fun c_58 => ?_)
    · refine ms_iload_n dX7_stepOn_69 rfl ?_
      refine ms_callS1 dX7_stepOn_70 cv_X7_stepOn_X7_isLetter (k_X7_isLetter (f := f) (M := N2) (L := L) (Rf := Rf) (c := M 62 (sk (M 62) n (M 48 16))) (by omega)) (Nat.le_of_ble_eq_true rfl) rfl (fun _ _ z => z.elim) (fun v9 h9 hp9 => ?_)
      obtain ⟨rfl, rfl⟩ := hp9
      refine mi_if_eqB (tgt := 111) dX7_stepOn_73 (by decide) (fun c_73 => ?_) (fun c_73 => ?_)
      · refine ms_iload_n dX7_stepOn_111 rfl ?_
        refine ms_callS1 dX7_stepOn_112 cv_X7_stepOn_X7_isDigit (k_X7_isDigit (f := f) (M := N2) (L := L) (Rf := Rf) (c := M 62 (sk (M 62) n (M 48 16))) (by omega)) (Nat.le_of_ble_eq_true rfl) rfl (fun _ _ z => z.elim) (fun v9 h9 hp9 => ?_)
        obtain ⟨rfl, rfl⟩ := hp9
        refine mi_if_eqB (tgt := 187) dX7_stepOn_115 (by decide) (fun c_115 => ?_) (fun c_115 => ?_)
        · refine ms_aload_n dX7_stepOn_187 rfl ?_
          refine ms_dup dX7_stepOn_188 rfl ?_
          refine ms_getI (z := 16) dX7_stepOn_189 (fo_X7_144 rfl) (by first | rfl | assumption) rfl rfl ?_
          refine mi_iconst dX7_stepOn_192 ?_
          refine mi_iadd dX7_stepOn_193 ?_
          refine ms_putI (z := 16) dX7_stepOn_194 (fo_X7_144 rfl) (by first | rfl | assumption) rfl rfl rfl ?_
          refine ms_aload_n dX7_stepOn_197 rfl ?_
          refine ms_iload_n dX7_stepOn_198 rfl ?_
          refine mi_bipush dX7_stepOn_199 (by decide) ?_
          refine mi_icmp_ne (tgt := 208) dX7_stepOn_201 (by decide) (fun c_201 => ?_) (fun c_201 => ?_)
          · have htk : tk (M 62) n (sk (M 62) n (M 48 16)) = 3 := by
              rw [tk_in hlt]
              unfold tcl
              rw [if_neg (of_decide_eq_false c_73), if_neg (of_decide_eq_false c_115)]
              rw [if_neg c_201]
            have h20 : va_up N2 48 (iu (N2 48) 16 (N2 48 16 + 1)) 48 20 = (sk (M 62) n (M 48 16)) := by rw [up_s, iu_n _ _ (by decide)]; exact p20
            have h16 : va_up N2 48 (iu (N2 48) 16 (N2 48 16 + 1)) 48 16 = te (M 62) n (sk (M 62) n (M 48 16)) := by rw [up_s, iu_s, p16]; unfold te; rw [if_neg (by omega), if_neg (by omega)]
            refine mi_iconst dX7_stepOn_208 ?_
            refine ms_putI (z := 18) dX7_stepOn_209 (fo_X7_154 rfl) (by first | rfl | assumption) rfl rfl rfl ?_
            refine mx_gen (fun N3 => sfP M N3 ∧ N3 48 20 = (sk (M 62) n (M 48 16)) ∧ N3 48 16 = te (M 62) n (sk (M 62) n (M 48 16)) ∧ N3 48 18 = 4) ⟨(p1.put (Or.inl rfl)).put (Or.inr (Or.inl rfl)), by rw [up_s, iu_n _ _ (by decide)]; exact h20, by rw [up_s, iu_n _ _ (by decide)]; exact h16, by rw [up_s, iu_s]⟩ (fun N3 hN9 => ?_)
            obtain ⟨s1, s20, s16, s18⟩ := hN9
            refine ms_aload_n dX7_stepOn_212 rfl ?_
            refine ms_aload_n dX7_stepOn_213 rfl ?_
            refine ms_getI (z := 16) dX7_stepOn_214 (fo_X7_144 rfl) (by first | rfl | assumption) rfl rfl ?_
            refine ms_putI (z := 21) dX7_stepOn_217 (fo_X7_173 rfl) (by first | rfl | assumption) rfl rfl rfl ?_
            refine ms_retV dX7_stepOn_220 rfl ?_ (by simp)
            refine ⟨_, rfl, rfl, (s1).put (by omega), ?_⟩
            have u62 : va_up N3 48 (iu (N3 48) 21 (N3 48 16)) 62 = M 62 := by rw [up_n _ _ (by decide)]; exact (s1).1 62 (by decide)
            have w : ∀ k, k ≠ 21 → va_up N3 48 (iu (N3 48) 21 (N3 48 16)) 48 k = N3 48 k := fun k hk => by rw [up_s, iu_n _ _ hk]
            unfold mdS
            rw [u62, up_s, iu_s]
            rw [iu_n _ _ (show (17 : Int) ≠ 21 by decide), iu_n _ _ (show (20 : Int) ≠ 21 by decide), iu_n _ _ (show (16 : Int) ≠ 21 by decide), iu_n _ _ (show (18 : Int) ≠ 21 by decide), iu_n _ _ (show (19 : Int) ≠ 21 by decide)]
            exact ⟨((s1).2 17 (by omega)).trans hlen, s20, s16, s16, by rw [htk]; exact s18, fun z => by omega, by omega, by omega⟩
          · have htk : tk (M 62) n (sk (M 62) n (M 48 16)) = 2 := by
              rw [tk_in hlt]
              unfold tcl
              rw [if_neg (of_decide_eq_false c_73), if_neg (of_decide_eq_false c_115)]
              rw [if_pos c_201]
            have h20 : va_up N2 48 (iu (N2 48) 16 (N2 48 16 + 1)) 48 20 = (sk (M 62) n (M 48 16)) := by rw [up_s, iu_n _ _ (by decide)]; exact p20
            have h16 : va_up N2 48 (iu (N2 48) 16 (N2 48 16 + 1)) 48 16 = te (M 62) n (sk (M 62) n (M 48 16)) := by rw [up_s, iu_s, p16]; unfold te; rw [if_neg (by omega), if_neg (by omega)]
            refine mi_iconst dX7_stepOn_204 ?_
            refine ms_goto (tgt := 209) dX7_stepOn_205 (by decide) ?_
            refine ms_putI (z := 18) dX7_stepOn_209 (fo_X7_154 rfl) (by first | rfl | assumption) rfl rfl rfl ?_
            refine mx_gen (fun N3 => sfP M N3 ∧ N3 48 20 = (sk (M 62) n (M 48 16)) ∧ N3 48 16 = te (M 62) n (sk (M 62) n (M 48 16)) ∧ N3 48 18 = 3) ⟨(p1.put (Or.inl rfl)).put (Or.inr (Or.inl rfl)), by rw [up_s, iu_n _ _ (by decide)]; exact h20, by rw [up_s, iu_n _ _ (by decide)]; exact h16, by rw [up_s, iu_s]⟩ (fun N3 hN9 => ?_)
            obtain ⟨s1, s20, s16, s18⟩ := hN9
            refine ms_aload_n dX7_stepOn_212 rfl ?_
            refine ms_aload_n dX7_stepOn_213 rfl ?_
            refine ms_getI (z := 16) dX7_stepOn_214 (fo_X7_144 rfl) (by first | rfl | assumption) rfl rfl ?_
            refine ms_putI (z := 21) dX7_stepOn_217 (fo_X7_173 rfl) (by first | rfl | assumption) rfl rfl rfl ?_
            refine ms_retV dX7_stepOn_220 rfl ?_ (by simp)
            refine ⟨_, rfl, rfl, (s1).put (by omega), ?_⟩
            have u62 : va_up N3 48 (iu (N3 48) 21 (N3 48 16)) 62 = M 62 := by rw [up_n _ _ (by decide)]; exact (s1).1 62 (by decide)
            have w : ∀ k, k ≠ 21 → va_up N3 48 (iu (N3 48) 21 (N3 48 16)) 48 k = N3 48 k := fun k hk => by rw [up_s, iu_n _ _ hk]
            unfold mdS
            rw [u62, up_s, iu_s]
            rw [iu_n _ _ (show (17 : Int) ≠ 21 by decide), iu_n _ _ (show (20 : Int) ≠ 21 by decide), iu_n _ _ (show (16 : Int) ≠ 21 by decide), iu_n _ _ (show (18 : Int) ≠ 21 by decide), iu_n _ _ (show (19 : Int) ≠ 21 by decide)]
            exact ⟨((s1).2 17 (by omega)).trans hlen, s20, s16, s16, by rw [htk]; exact s18, fun z => by omega, by omega, by omega⟩
        · have htc : tcl (M 62 (sk (M 62) n (M 48 16))) = 1 := by unfold tcl; rw [if_neg (of_decide_eq_false c_73), if_pos (of_decide_eq_true c_115)]
          have htk : tk (M 62) n (sk (M 62) n (M 48 16)) = 1 := by rw [tk_in hlt]; exact htc
          have hte : en (M 62) n 1 (sk (M 62) n (M 48 16)) = te (M 62) n (sk (M 62) n (M 48 16)) := by unfold te; rw [if_neg (by omega), if_pos (Or.inr htk), htk]
          refine ms_aload_n dX7_stepOn_118 rfl ?_
          refine mi_iconst dX7_stepOn_119 ?_
          refine ms_putI (z := 19) dX7_stepOn_120 (fo_X7_164 rfl) (by first | rfl | assumption) rfl rfl rfl ?_
          refine l_X7_so3 (S := S) (f := f) (L := L) (P := (fun v9 h9 => ∃ N, h9 = (f, mx_SH, N, L, Rf) ∧ v9 = none ∧ sfP M N ∧ mdS N n (sk (M 62) n (M 48 16)))) (PX := fun _ _ => False) hR hn hB hlen (q := (sk (M 62) n (M 48 16))) (by omega) (n - (sk (M 62) n (M 48 16))).toNat 0 _ (p1.put (Or.inr (Or.inr (Or.inl rfl)))) (by rw [up_s, iu_n _ _ (by decide)]; exact p20) (by rw [up_s, iu_n _ _ (by decide), p16]; omega) (by rw [up_s, iu_n _ _ (by decide), p16]; omega) (by rw [up_s, iu_n _ _ (by decide), p16]; exact hte) (fun i i0 i1 => by omega) (by rw [up_s, iu_s]; decide) (fun _ => by rw [up_s, iu_s]; rfl) (fun N4 t1 h20 h16 h19 h19b => ?_)
          refine ms_aload_n dX7_stepOn_179 rfl ?_
          refine mi_iconst dX7_stepOn_180 ?_
          refine ms_putI (z := 18) dX7_stepOn_181 (fo_X7_154 rfl) (by first | rfl | assumption) rfl rfl rfl ?_
          refine ms_goto (tgt := 212) dX7_stepOn_184 (by decide) ?_
          refine mx_gen (fun N3 => sfP M N3 ∧ N3 48 20 = (sk (M 62) n (M 48 16)) ∧ N3 48 16 = te (M 62) n (sk (M 62) n (M 48 16)) ∧ N3 48 18 = 2 ∧ (0 ≤ N3 48 19 ∧ N3 48 19 ≤ 10000) ∧ (te (M 62) n (sk (M 62) n (M 48 16)) - (sk (M 62) n (M 48 16)) ≤ 3 → N3 48 19 = nV (M 62) n (sk (M 62) n (M 48 16)))) ⟨(t1).put (Or.inr (Or.inl rfl)), by rw [up_s, iu_n _ _ (by decide)]; exact h20, by rw [up_s, iu_n _ _ (by decide)]; exact h16, by rw [up_s, iu_s], by rw [up_s, iu_n _ _ (by decide)]; exact ⟨h19, h19b⟩⟩ (fun N3 hN9 => ?_)
          obtain ⟨s1, s20, s16, s18, s19⟩ := hN9
          refine ms_aload_n dX7_stepOn_212 rfl ?_
          refine ms_aload_n dX7_stepOn_213 rfl ?_
          refine ms_getI (z := 16) dX7_stepOn_214 (fo_X7_144 rfl) (by first | rfl | assumption) rfl rfl ?_
          refine ms_putI (z := 21) dX7_stepOn_217 (fo_X7_173 rfl) (by first | rfl | assumption) rfl rfl rfl ?_
          refine ms_retV dX7_stepOn_220 rfl ?_ (by simp)
          refine ⟨_, rfl, rfl, (s1).put (by omega), ?_⟩
          have u62 : va_up N3 48 (iu (N3 48) 21 (N3 48 16)) 62 = M 62 := by rw [up_n _ _ (by decide)]; exact (s1).1 62 (by decide)
          have w : ∀ k, k ≠ 21 → va_up N3 48 (iu (N3 48) 21 (N3 48 16)) 48 k = N3 48 k := fun k hk => by rw [up_s, iu_n _ _ hk]
          unfold mdS
          rw [u62, up_s, iu_s]
          rw [iu_n _ _ (show (17 : Int) ≠ 21 by decide), iu_n _ _ (show (20 : Int) ≠ 21 by decide), iu_n _ _ (show (16 : Int) ≠ 21 by decide), iu_n _ _ (show (18 : Int) ≠ 21 by decide), iu_n _ _ (show (19 : Int) ≠ 21 by decide)]
          exact ⟨((s1).2 17 (by omega)).trans hlen, s20, s16, s16, by rw [htk]; exact s18, fun _ => s19, by omega, by omega⟩
      · have htc : tcl (M 62 (sk (M 62) n (M 48 16))) = 0 := by unfold tcl; rw [if_pos (of_decide_eq_true c_73)]
        have htk : tk (M 62) n (sk (M 62) n (M 48 16)) = 0 := by rw [tk_in hlt]; exact htc
        have hte : en (M 62) n 0 (sk (M 62) n (M 48 16)) = te (M 62) n (sk (M 62) n (M 48 16)) := by unfold te; rw [if_neg (by omega), if_pos (Or.inl htk), htk]
        refine l_X7_so2 (S := S) (f := f) (L := L) (P := (fun v9 h9 => ∃ N, h9 = (f, mx_SH, N, L, Rf) ∧ v9 = none ∧ sfP M N ∧ mdS N n (sk (M 62) n (M 48 16)))) (PX := fun _ _ => False) hR hn hB hlen (q := (sk (M 62) n (M 48 16))) (by omega) (n - (sk (M 62) n (M 48 16))).toNat N2 p1 p20 (by omega) (by omega) (by rw [p16]; exact hte) (fun N4 t1 h20 h16 => ?_)
        refine ms_aload_n dX7_stepOn_103 rfl ?_
        refine mi_iconst dX7_stepOn_104 ?_
        refine ms_putI (z := 18) dX7_stepOn_105 (fo_X7_154 rfl) (by first | rfl | assumption) rfl rfl rfl ?_
        refine ms_goto (tgt := 212) dX7_stepOn_108 (by decide) ?_
        refine mx_gen (fun N3 => sfP M N3 ∧ N3 48 20 = (sk (M 62) n (M 48 16)) ∧ N3 48 16 = te (M 62) n (sk (M 62) n (M 48 16)) ∧ N3 48 18 = 1) ⟨(t1).put (Or.inr (Or.inl rfl)), by rw [up_s, iu_n _ _ (by decide)]; exact h20, by rw [up_s, iu_n _ _ (by decide)]; exact h16, by rw [up_s, iu_s]⟩ (fun N3 hN9 => ?_)
        obtain ⟨s1, s20, s16, s18⟩ := hN9
        refine ms_aload_n dX7_stepOn_212 rfl ?_
        refine ms_aload_n dX7_stepOn_213 rfl ?_
        refine ms_getI (z := 16) dX7_stepOn_214 (fo_X7_144 rfl) (by first | rfl | assumption) rfl rfl ?_
        refine ms_putI (z := 21) dX7_stepOn_217 (fo_X7_173 rfl) (by first | rfl | assumption) rfl rfl rfl ?_
        refine ms_retV dX7_stepOn_220 rfl ?_ (by simp)
        refine ⟨_, rfl, rfl, (s1).put (by omega), ?_⟩
        have u62 : va_up N3 48 (iu (N3 48) 21 (N3 48 16)) 62 = M 62 := by rw [up_n _ _ (by decide)]; exact (s1).1 62 (by decide)
        have w : ∀ k, k ≠ 21 → va_up N3 48 (iu (N3 48) 21 (N3 48 16)) 48 k = N3 48 k := fun k hk => by rw [up_s, iu_n _ _ hk]
        unfold mdS
        rw [u62, up_s, iu_s]
        rw [iu_n _ _ (show (17 : Int) ≠ 21 by decide), iu_n _ _ (show (20 : Int) ≠ 21 by decide), iu_n _ _ (show (16 : Int) ≠ 21 by decide), iu_n _ _ (show (18 : Int) ≠ 21 by decide), iu_n _ _ (show (19 : Int) ≠ 21 by decide)]
        exact ⟨((s1).2 17 (by omega)).trans hlen, s20, s16, s16, by rw [htk]; exact s18, fun z => by omega, by omega, by omega⟩
    · exact absurd c_58 (by omega)
  · refine ms_aload_n dX7_stepOn_47 rfl ?_
    refine ms_aload_n dX7_stepOn_48 rfl ?_
    refine ms_getI (z := 16) dX7_stepOn_49 (fo_X7_144 rfl) (by first | rfl | assumption) rfl rfl ?_
    refine ms_callV1 (ci := 7) (r := (RX7, TX7, 48)) dX7_stepOn_52 cv_X7_stepOn_X7_byteAt (k_X7_byteAt (M := N2) hR hn (by rw [e2]; exact hB) e17 (a := N2 48 16) (by omega)) rfl rfl (by first | rfl | assumption) (Nat.le_of_ble_eq_true rfl) rfl (fun _ _ z => z.elim) (fun v9 h9 hp9 => ?_)
    obtain ⟨rfl, rfl⟩ := hp9
    rw [p16, e2, if_neg hlt]
    refine ms_istore_n dX7_stepOn_55 (by decide) rfl ?_
    dsimp only [List.set, Nat.reduceAdd]
    refine ms_iload_n dX7_stepOn_56 rfl ?_
    refine mi_iconst dX7_stepOn_57 ?_
    refine mi_icmp_ne (tgt := 69) dX7_stepOn_58 (by decide) (fun c_58 => ?_) (fun c_58 => ?_)
    · exact absurd rfl c_58
    · refine ms_aload_n dX7_stepOn_61 rfl ?_
      refine mi_iconst dX7_stepOn_62 ?_
      refine ms_putI (z := 18) dX7_stepOn_63 (fo_X7_154 rfl) (by first | rfl | assumption) rfl rfl rfl ?_
      refine ms_goto (tgt := 212) dX7_stepOn_66 (by decide) ?_
      have htk : tk (M 62) n (sk (M 62) n (M 48 16)) = 4 := tk_4 (by omega)
      have hte : te (M 62) n (sk (M 62) n (M 48 16)) = (sk (M 62) n (M 48 16)) := by unfold te; rw [if_pos htk]
      have h20 := p20
      have h16 : N2 48 16 = te (M 62) n (sk (M 62) n (M 48 16)) := by rw [hte]; exact p16
      refine mx_gen (fun N3 => sfP M N3 ∧ N3 48 20 = (sk (M 62) n (M 48 16)) ∧ N3 48 16 = te (M 62) n (sk (M 62) n (M 48 16)) ∧ N3 48 18 = 0) ⟨(p1).put (Or.inr (Or.inl rfl)), by rw [up_s, iu_n _ _ (by decide)]; exact h20, by rw [up_s, iu_n _ _ (by decide)]; exact h16, by rw [up_s, iu_s]⟩ (fun N3 hN9 => ?_)
      obtain ⟨s1, s20, s16, s18⟩ := hN9
      refine ms_aload_n dX7_stepOn_212 rfl ?_
      refine ms_aload_n dX7_stepOn_213 rfl ?_
      refine ms_getI (z := 16) dX7_stepOn_214 (fo_X7_144 rfl) (by first | rfl | assumption) rfl rfl ?_
      refine ms_putI (z := 21) dX7_stepOn_217 (fo_X7_173 rfl) (by first | rfl | assumption) rfl rfl rfl ?_
      refine ms_retV dX7_stepOn_220 rfl ?_ (by simp)
      refine ⟨_, rfl, rfl, (s1).put (by omega), ?_⟩
      have u62 : va_up N3 48 (iu (N3 48) 21 (N3 48 16)) 62 = M 62 := by rw [up_n _ _ (by decide)]; exact (s1).1 62 (by decide)
      have w : ∀ k, k ≠ 21 → va_up N3 48 (iu (N3 48) 21 (N3 48 16)) 48 k = N3 48 k := fun k hk => by rw [up_s, iu_n _ _ hk]
      unfold mdS
      rw [u62, up_s, iu_s]
      rw [iu_n _ _ (show (17 : Int) ≠ 21 by decide), iu_n _ _ (show (20 : Int) ≠ 21 by decide), iu_n _ _ (show (16 : Int) ≠ 21 by decide), iu_n _ _ (show (18 : Int) ≠ 21 by decide), iu_n _ _ (show (19 : Int) ≠ 21 by decide)]
      exact ⟨((s1).2 17 (by omega)).trans hlen, s20, s16, s16, by rw [htk]; exact s18, fun z => by omega, by omega, by omega⟩


