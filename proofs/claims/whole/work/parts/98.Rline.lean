/-- which bit stands for a line -/
def lj (w : Int) : Int := if w = 5 then 4 else if 7 ≤ w ∧ w ≤ 10 then w - 7 else 5
theorem lj_b (w : Int) : 0 ≤ lj w ∧ lj w < 6 := by
  unfold lj
  split
  · omega
  · split <;> omega
theorem oan_p0 : ∀ s : Fin 64, ∀ j : Fin 6, (oan (s.val : Int) (2 ^ ((j.val : Int)).toNat) = 0 ↔ ob (s.val : Int) (j.val : Int) = 0) := by decide +kernel
theorem oan_p {s j : Int} (hs : 0 ≤ s ∧ s < 64) (hj : 0 ≤ j ∧ j < 6) : oan s (2 ^ j.toNat) = 0 ↔ ob s j = 0 := fin_of (n := 64) (P := fun s => (oan s (2 ^ j.toNat) = 0 ↔ ob s j = 0)) (fun i => fin_of (n := 6) (P := fun j => (oan (i.val : Int) (2 ^ j.toNat) = 0 ↔ ob (i.val : Int) j = 0)) (fun k => oan_p0 i k) hj.1 hj.2) hs.1 hs.2
theorem oor_b {a b : Int} (ha : 0 ≤ a ∧ a < 64) (hb : 0 ≤ b ∧ b < 64) : 0 ≤ oor a b ∧ oor a b < 64 := ⟨by unfold oor; omega, (fin_of (n := 64) (P := fun a => iI a ||| iI b = iI (oor a b) ∧ oor a b < 64) (fun i => fin_of (n := 64) (P := fun b => iI (i.val : Int) ||| iI b = iI (oor (i.val : Int) b) ∧ oor (i.val : Int) b < 64) (fun j => oor_0 i j) hb.1 hb.2) ha.1 ha.2).2⟩
set_option maxHeartbeats 4000000 in
theorem l_X7_rF92 {S : mx_Sc} {f : Bool} {M : Nat → Int → Int} {L : Nat → Nat → Int64} {Rf : Nat → Nat → Option Nat} (hR : mx_rf Rf) {c q : Int} (hF : mdF M c q)  {s w x1 x2 : Int} (hs : 0 ≤ s ∧ s < 64) : mx_E S mX7_readLine 92 [some (.ref 48), some (.int (iI s)), some (.int (iI x1)), some (.int (iI x2)), some (.int (iI (2 ^ (lj w).toNat)))] [] (f, mx_SH, M, L, Rf) 0 0 (fun v9 h9 => h9 = (f, mx_SH, M, L, Rf) ∧ v9 = some (.int (iI (oor s (2 ^ (lj w).toNat))))) (fun _ _ => False) := by
  have hw0 := hF.1
  have hcc := hF.2.2
  have hlj := p2_lt (lj_b w)
  refine ms_aload_n dX7_readLine_92 rfl ?_
  refine ms_getI (z := 22) dX7_readLine_93 (fo_X7_176 rfl) (by first | rfl | assumption) rfl rfl ?_
  refine mi_if_ne (tgt := 112) dX7_readLine_96 (by decide) (fun c_96 => ?_) (fun c_96 => ?_)
  · refine ms_aload_n dX7_readLine_112 rfl ?_
    refine ms_getI (z := 22) dX7_readLine_113 (fo_X7_176 rfl) (by first | rfl | assumption) rfl rfl ?_
    refine mi_if_ne (tgt := 123) dX7_readLine_116 (by decide) (fun c_116 => ?_) (fun c_116 => ?_)
    · refine ms_iload_n dX7_readLine_123 rfl ?_
      refine ms_iload dX7_readLine_124 rfl ?_
      refine mi_ior (oor s (2 ^ (lj w).toNat)) dX7_readLine_126 (oor_e hs hlj) ?_
      refine ms_ret dX7_readLine_127 rfl ⟨rfl, rfl⟩ (by simp)
    · exact absurd c_116 (by omega)
  · exact absurd c_96 (by omega)
set_option maxHeartbeats 4000000 in
theorem l_X7_rG92 {S : mx_Sc} {f : Bool} {M : Nat → Int → Int} {L : Nat → Nat → Int64} {Rf : Nat → Nat → Option Nat} (hR : mx_rf Rf) {n : Int} (hn : 0 ≤ n ∧ n ≤ 500) (hB : ∀ i, 0 ≤ i → i < 500 → 0 ≤ M 62 i ∧ M 62 i ≤ 255) {p : Int} {T : td_T} (hG : mdG M n p T)  {s w x1 x2 : Int} (hs : 0 ≤ s ∧ s < 64) : mx_E S mX7_readLine 92 [some (.ref 48), some (.int (iI s)), some (.int (iI x1)), some (.int (iI x2)), some (.int (iI (2 ^ (lj w).toNat)))] [] (f, mx_SH, M, L, Rf) 0 0 (fun v9 h9 => ∃ N, h9 = (f, mx_SH, N, L, Rf) ∧ v9 = some (.int (iI (oor s (2 ^ (lj w).toNat)))) ∧ mfP M N ∧ mdR N n (pEnd (M 62) n (.inr (p, T)))) (fun _ _ => False) := by
  have hS := hG.1
  have hw0 := hG.2.1
  have h20 := hS.2.1
  have h21 := hS.2.2.1
  have h16 := hS.2.2.2.1
  have h18 := hS.2.2.2.2.1
  have hnum := hS.2.2.2.2.2.1
  have h0 := hS.2.2.2.2.2.2
  have htb := tk_b (M 62) n p
  have ht9 := te_b (g := M 62) h0.2
  have e0 : ∀ k, 0 ≤ k → k < 7 → M 53 (7 + k) = T 0 k := hG.2.2.1.1
  have e00 : M 53 7 = T 0 0 := e0 0 (by decide) (by decide)
  have e01 : M 53 8 = T 0 1 := e0 1 (by decide) (by decide)
  have e06 : M 53 13 = T 0 6 := e0 6 (by decide) (by decide)
  have o0 : 1 ≤ T 0 0 ∧ T 0 0 ≤ 30 := hG.2.2.2.1.1
  have o1 : 0 ≤ T 0 1 ∧ T 0 1 ≤ 6 := hG.2.2.2.1.2.1
  have o6 : 0 ≤ T 0 6 ∧ T 0 6 ≤ 10 := hG.2.2.2.1.2.2.2.2.2.2.1
  have hmt : mtk (tk (M 62) n p) = if tk (M 62) n p = 4 then 0 else tk (M 62) n p + 1 := rfl
  have hlj := p2_lt (lj_b w)
  refine ms_aload_n dX7_readLine_92 rfl ?_
  refine ms_getI (z := 22) dX7_readLine_93 (fo_X7_176 rfl) (by first | rfl | assumption) rfl rfl ?_
  refine mi_if_ne (tgt := 112) dX7_readLine_96 (by decide) (fun c_96 => ?_) (fun c_96 => ?_)
  · exact absurd hw0 c_96
  · refine ms_aload_n dX7_readLine_99 rfl ?_
    refine ms_getI (z := 18) dX7_readLine_100 (fo_X7_154 rfl) (by first | rfl | assumption) rfl rfl ?_
    refine mi_iconst dX7_readLine_103 ?_
    refine mi_icmp_eq (tgt := 112) dX7_readLine_104 (by decide) (fun c_104 => ?_) (fun c_104 => ?_)
    · refine ms_aload_n dX7_readLine_112 rfl ?_
      refine ms_getI (z := 22) dX7_readLine_113 (fo_X7_176 rfl) (by first | rfl | assumption) rfl rfl ?_
      refine mi_if_ne (tgt := 123) dX7_readLine_116 (by decide) (fun c_116 => ?_) (fun c_116 => ?_)
      · exact absurd hw0 c_116
      · refine ms_aload_n dX7_readLine_119 rfl ?_
        refine ms_callV0 (ci := 7) (r := (RX7, TX7, 48)) dX7_readLine_120 cv_X7_readLine_X7_stepOn (k_X7_stepOn hR hn hB hS.1 (by omega)) rfl rfl (by first | rfl | assumption) (Nat.le_of_ble_eq_true rfl) rfl (fun _ _ z => z.elim) (fun v9 h9 hp9 => ?_)
        obtain ⟨N2, rfl, rfl, r1, r2⟩ := hp9
        rw [h16] at r2
        refine ms_iload_n dX7_readLine_123 rfl ?_
        refine ms_iload dX7_readLine_124 rfl ?_
        refine mi_ior (oor s (2 ^ (lj w).toNat)) dX7_readLine_126 (oor_e hs hlj) ?_
        refine ms_ret dX7_readLine_127 rfl ⟨N2, rfl, rfl, r1.mf, by simp only [pEnd]; rw [if_neg (by rw [h18, hmt] at c_104; split at c_104 <;> omega)]; exact r1.G hG r2⟩ (by simp)
    · refine ms_aload_n dX7_readLine_107 rfl ?_
      refine mi_iconst dX7_readLine_108 ?_
      refine ms_callV1 (ci := 7) (r := (RX7, TX7, 48)) dX7_readLine_109 cv_X7_readLine_X7_wrong (k_X7_wrong (e := 1) hR (by omega)) rfl rfl (by first | rfl | assumption) (Nat.le_of_ble_eq_true rfl) rfl (fun _ _ z => z.elim) (fun v9 h9 hp9 => ?_)
      obtain ⟨rfl, rfl⟩ := hp9
      rw [if_pos hw0]
      have hFF := hG.ff (c := 1) (by decide)
      have hv9 := hFF.2.1.1
      refine ms_aload_n dX7_readLine_112 rfl ?_
      refine ms_getI (z := 22) dX7_readLine_113 (fo_X7_176 rfl) (by first | rfl | assumption) rfl rfl ?_
      refine mi_if_ne (tgt := 123) dX7_readLine_116 (by decide) (fun c_116 => ?_) (fun c_116 => ?_)
      · refine ms_iload_n dX7_readLine_123 rfl ?_
        refine ms_iload dX7_readLine_124 rfl ?_
        refine mi_ior (oor s (2 ^ (lj w).toNat)) dX7_readLine_126 (oor_e hs hlj) ?_
        refine ms_ret dX7_readLine_127 rfl ⟨_, rfl, rfl, hFF.mf, by simp only [pEnd]; rw [if_pos (by intro z; exact c_104 (by rw [h18, z]; rfl))]; exact hFF.2.1⟩ (by simp)
      · exact absurd c_116 (by omega)
set_option maxHeartbeats 4000000 in
theorem l_X7_rl45 {S : mx_Sc} {f : Bool} {M : Nat → Int → Int} {L : Nat → Nat → Int64} {Rf : Nat → Nat → Option Nat} (hR : mx_rf Rf) {n : Int} (hn : 0 ≤ n ∧ n ≤ 500) (hB : ∀ i, 0 ≤ i → i < 500 → 0 ≤ M 62 i ∧ M 62 i ≤ 255) {p : Int} {T : td_T} (hG : mdG M n p T) (hcs : mcs M) {s x1 x2 : Int} (hs : 0 ≤ s ∧ s < 64) {sn : Int → Bool} {fs : Bool} (hsn : ∀ j, 0 ≤ j → j < 4 → (sn (7 + j) = true ↔ ob s j = 1)) (hfs : fs = true ↔ s = 0) (hT1 : fs = true → T 0 1 = 0) (hx1 : x1 = if 0 ≤ (wdn (M 62) n p) ∧ (wdn (M 62) n p) ≤ 4 then (wdn (M 62) n p) else -1) (hx2 : x2 = if 7 ≤ (wdn (M 62) n p) ∧ (wdn (M 62) n p) ≤ 10 then (wdn (M 62) n p) - 7 else -1) : mx_E S mX7_readLine 45 [some (.ref 48), some (.int (iI s)), some (.int (iI x1)), some (.int (iI x2)), none] [.int (iI ((2 : Int) ^ (lj (wdn (M 62) n p)).toNat))] (f, mx_SH, M, L, Rf) 0 0 (fun v9 h9 => ∃ N, h9 = (f, mx_SH, N, L, Rf) ∧ v9 = some (.int (iI (oor s ((2 : Int) ^ (lj (wdn (M 62) n p)).toNat)))) ∧ mfP M N ∧ mdR N n (pLine (M 62) n p T sn fs)) (fun _ _ => False) := by
  have hS := hG.1
  have hw0 := hG.2.1
  have h20 := hS.2.1
  have h21 := hS.2.2.1
  have h16 := hS.2.2.2.1
  have h18 := hS.2.2.2.2.1
  have hnum := hS.2.2.2.2.2.1
  have h0 := hS.2.2.2.2.2.2
  have htb := tk_b (M 62) n p
  have ht9 := te_b (g := M 62) h0.2
  have e0 : ∀ k, 0 ≤ k → k < 7 → M 53 (7 + k) = T 0 k := hG.2.2.1.1
  have e00 : M 53 7 = T 0 0 := e0 0 (by decide) (by decide)
  have e01 : M 53 8 = T 0 1 := e0 1 (by decide) (by decide)
  have e06 : M 53 13 = T 0 6 := e0 6 (by decide) (by decide)
  have o0 : 1 ≤ T 0 0 ∧ T 0 0 ≤ 30 := hG.2.2.2.1.1
  have o1 : 0 ≤ T 0 1 ∧ T 0 1 ≤ 6 := hG.2.2.2.1.2.1
  have o6 : 0 ≤ T 0 6 ∧ T 0 6 ≤ 10 := hG.2.2.2.1.2.2.2.2.2.2.1
  have hmt : mtk (tk (M 62) n p) = if tk (M 62) n p = 4 then 0 else tk (M 62) n p + 1 := rfl
  have hwb := wdn_b (M 62) n p (wdP_x _ _ _)
  have hlj := p2_lt (lj_b (wdn (M 62) n p))
  have hl16 : ((2 : Int) ^ (lj (wdn (M 62) n p)).toNat) = 16 ↔ (wdn (M 62) n p) = 5 := by
    unfold lj
    constructor
    · intro z
      refine Classical.byContradiction fun q => ?_
      rw [if_neg q] at z
      split at z
      · rcases (show (wdn (M 62) n p) - 7 = 0 ∨ (wdn (M 62) n p) - 7 = 1 ∨ (wdn (M 62) n p) - 7 = 2 ∨ (wdn (M 62) n p) - 7 = 3 by omega) with e | e | e | e <;> rw [e] at z <;> exact absurd z (by decide)
      · exact absurd z (by decide)
    · intro z
      rw [if_pos z]
      rfl
  have hl15 : ((2 : Int) ^ (lj (wdn (M 62) n p)).toNat) < 16 ↔ (7 ≤ (wdn (M 62) n p) ∧ (wdn (M 62) n p) ≤ 10) := by
    unfold lj
    constructor
    · intro z
      refine Classical.byContradiction fun q => ?_
      rw [if_neg q] at z
      split at z <;> exact absurd z (by decide)
    · intro z
      rw [if_neg (by omega), if_pos z]
      rcases (show (wdn (M 62) n p) - 7 = 0 ∨ (wdn (M 62) n p) - 7 = 1 ∨ (wdn (M 62) n p) - 7 = 2 ∨ (wdn (M 62) n p) - 7 = 3 by omega) with e | e | e | e <;> rw [e] <;> decide
  have hl32 : 0 ≤ ((2 : Int) ^ (lj (wdn (M 62) n p)).toNat) ∧ ((2 : Int) ^ (lj (wdn (M 62) n p)).toNat) ≤ 32 := by
    refine ⟨hlj.1, ?_⟩
    rcases (show lj (wdn (M 62) n p) = 0 ∨ lj (wdn (M 62) n p) = 1 ∨ lj (wdn (M 62) n p) = 2 ∨ lj (wdn (M 62) n p) = 3 ∨ lj (wdn (M 62) n p) = 4 ∨ lj (wdn (M 62) n p) = 5 by have := lj_b (wdn (M 62) n p); omega) with e | e | e | e | e | e <;> rw [e] <;> decide
  have hoan := oan_e hs hlj
  have hoan2 := oan_p hs (lj_b (wdn (M 62) n p))
  refine ms_istore dX7_readLine_45 (by decide) rfl ?_
  dsimp only [List.set, Nat.reduceAdd]
  refine ms_iload dX7_readLine_47 rfl ?_
  refine mi_bipush dX7_readLine_49 (by decide) ?_
  refine mi_icmp_ne (tgt := 58) dX7_readLine_51 (by decide) (fun c_51 => ?_) (fun c_51 => ?_)
  · refine ms_iload dX7_readLine_58 rfl ?_
    refine mi_bipush dX7_readLine_60 (by decide) ?_
    refine mi_icmp_ge (tgt := 77) dX7_readLine_62 (by decide) (fun c_62 => ?_) (fun c_62 => ?_)
    · have hnl : ¬ (((wdn (M 62) n p) = 5 ∧ fs = false) ∨ (7 ≤ (wdn (M 62) n p) ∧ (wdn (M 62) n p) ≤ 10 ∧ sn (wdn (M 62) n p) = true)) := (by rintro (⟨z, _⟩ | ⟨z1, z2, _⟩); exact c_51 (hl16.mpr z); exact absurd (hl15.mpr ⟨z1, z2⟩) (by omega))
      refine ms_aload_n dX7_readLine_77 rfl ?_
      refine ms_getI (z := 22) dX7_readLine_78 (fo_X7_176 rfl) (by first | rfl | assumption) rfl rfl ?_
      refine mi_if_ne (tgt := 92) dX7_readLine_81 (by decide) (fun c_81 => ?_) (fun c_81 => ?_)
      · exact absurd hw0 c_81
      · refine ms_aload_n dX7_readLine_84 rfl ?_
        refine ms_iload_n dX7_readLine_85 rfl ?_
        refine ms_iload_n dX7_readLine_86 rfl ?_
        refine ms_iload dX7_readLine_87 rfl ?_
        refine ms_callV3 (ci := 7) (r := (RX7, TX7, 48)) dX7_readLine_89 cv_X7_readLine_X7_readBy (k_X7_readBy hR hn hB hG hcs (k := x1) (oc := x2) (ln := ((2 : Int) ^ (lj (wdn (M 62) n p)).toNat)) hx1 hx2 hl16 hl32 (fun z => hT1 (by cases e : fs; exact absurd (Or.inl ⟨z, e⟩) hnl; rfl))) rfl rfl (by first | rfl | assumption) (Nat.le_of_ble_eq_true rfl) rfl (fun _ _ z => z.elim) (fun v9 h9 hp9 => ?_)
        obtain ⟨N1, rfl, rfl, y1, y2⟩ := hp9
        have e62 : N1 62 = M 62 := y1.1 62 (by decide) (by omega)
        cases eb : pBy (M 62) n p T (wdn (M 62) n p) with
        | inl x =>
          obtain ⟨c9, q9⟩ := x
          rw [eb] at y2
          refine ms_conseq (fun v9 h9 hp => ?_) (fun _ _ z => z) (l_X7_rF92 (S := S) (f := f) (L := L) (M := N1) (w := (wdn (M 62) n p)) hR y2 hs)
          obtain ⟨rfl, rfl⟩ := hp
          exact ⟨N1, rfl, rfl, y1, by rw [pLine_by, if_neg hnl, eb]; exact y2⟩
        | inr x =>
          obtain ⟨p9, T9⟩ := x
          rw [eb] at y2
          refine ms_conseq (fun v9 h9 hp => ?_) (fun _ _ z => z) (l_X7_rG92 (S := S) (f := f) (L := L) (M := N1) (w := (wdn (M 62) n p)) hR hn (by rw [e62]; exact hB) y2 hs)
          obtain ⟨N2, r1, r2, r3, r4⟩ := hp
          rw [e62] at r4
          exact ⟨N2, r1, r2, y1.tr r3, by rw [pLine_by, if_neg hnl, eb]; exact r4⟩
    · have h710 := hl15.mp (by omega)
      refine ms_iload_n dX7_readLine_65 rfl ?_
      refine ms_iload dX7_readLine_66 rfl ?_
      refine mi_iand (oan s ((2 : Int) ^ (lj (wdn (M 62) n p)).toNat)) dX7_readLine_68 hoan.1 ?_
      refine mi_if_eq (tgt := 77) dX7_readLine_69 (by decide) (fun c_69 => ?_) (fun c_69 => ?_)
      · have hj9 : lj (wdn (M 62) n p) = (wdn (M 62) n p) - 7 := by unfold lj; rw [if_neg (by omega), if_pos (by omega)]
        have hs9 := hsn ((wdn (M 62) n p) - 7) (by omega) (by omega)
        rw [show 7 + ((wdn (M 62) n p) - 7) = (wdn (M 62) n p) by omega, ← hj9] at hs9
        have hnl : ¬ (((wdn (M 62) n p) = 5 ∧ fs = false) ∨ (7 ≤ (wdn (M 62) n p) ∧ (wdn (M 62) n p) ≤ 10 ∧ sn (wdn (M 62) n p) = true)) := (by rintro (⟨z, _⟩ | ⟨z1, z2, z3⟩); exact c_51 (hl16.mpr z); exact absurd (hs9.mp z3) (by rw [hoan2.mp c_69]; decide))
        refine ms_aload_n dX7_readLine_77 rfl ?_
        refine ms_getI (z := 22) dX7_readLine_78 (fo_X7_176 rfl) (by first | rfl | assumption) rfl rfl ?_
        refine mi_if_ne (tgt := 92) dX7_readLine_81 (by decide) (fun c_81 => ?_) (fun c_81 => ?_)
        · exact absurd hw0 c_81
        · refine ms_aload_n dX7_readLine_84 rfl ?_
          refine ms_iload_n dX7_readLine_85 rfl ?_
          refine ms_iload_n dX7_readLine_86 rfl ?_
          refine ms_iload dX7_readLine_87 rfl ?_
          refine ms_callV3 (ci := 7) (r := (RX7, TX7, 48)) dX7_readLine_89 cv_X7_readLine_X7_readBy (k_X7_readBy hR hn hB hG hcs (k := x1) (oc := x2) (ln := ((2 : Int) ^ (lj (wdn (M 62) n p)).toNat)) hx1 hx2 hl16 hl32 (fun z => hT1 (by cases e : fs; exact absurd (Or.inl ⟨z, e⟩) hnl; rfl))) rfl rfl (by first | rfl | assumption) (Nat.le_of_ble_eq_true rfl) rfl (fun _ _ z => z.elim) (fun v9 h9 hp9 => ?_)
          obtain ⟨N1, rfl, rfl, y1, y2⟩ := hp9
          have e62 : N1 62 = M 62 := y1.1 62 (by decide) (by omega)
          cases eb : pBy (M 62) n p T (wdn (M 62) n p) with
          | inl x =>
            obtain ⟨c9, q9⟩ := x
            rw [eb] at y2
            refine ms_conseq (fun v9 h9 hp => ?_) (fun _ _ z => z) (l_X7_rF92 (S := S) (f := f) (L := L) (M := N1) (w := (wdn (M 62) n p)) hR y2 hs)
            obtain ⟨rfl, rfl⟩ := hp
            exact ⟨N1, rfl, rfl, y1, by rw [pLine_by, if_neg hnl, eb]; exact y2⟩
          | inr x =>
            obtain ⟨p9, T9⟩ := x
            rw [eb] at y2
            refine ms_conseq (fun v9 h9 hp => ?_) (fun _ _ z => z) (l_X7_rG92 (S := S) (f := f) (L := L) (M := N1) (w := (wdn (M 62) n p)) hR hn (by rw [e62]; exact hB) y2 hs)
            obtain ⟨N2, r1, r2, r3, r4⟩ := hp
            rw [e62] at r4
            exact ⟨N2, r1, r2, y1.tr r3, by rw [pLine_by, if_neg hnl, eb]; exact r4⟩
      · have hj9 : lj (wdn (M 62) n p) = (wdn (M 62) n p) - 7 := by unfold lj; rw [if_neg (by omega), if_pos (by omega)]
        have hs9 := hsn ((wdn (M 62) n p) - 7) (by omega) (by omega)
        rw [show 7 + ((wdn (M 62) n p) - 7) = (wdn (M 62) n p) by omega, ← hj9] at hs9
        refine ms_aload_n dX7_readLine_72 rfl ?_
        refine mi_iconst dX7_readLine_73 ?_
        refine ms_callV1 (ci := 7) (r := (RX7, TX7, 48)) dX7_readLine_74 cv_X7_readLine_X7_wrong (k_X7_wrong (e := 4) hR (by omega)) rfl rfl (by first | rfl | assumption) (Nat.le_of_ble_eq_true rfl) rfl (fun _ _ z => z.elim) (fun v9 h9 hp9 => ?_)
        obtain ⟨rfl, rfl⟩ := hp9
        rw [if_pos hw0]
        have hFF := hG.ff (c := 4) (by decide)
        have hv9 := hFF.2.1.1
        refine ms_aload_n dX7_readLine_77 rfl ?_
        refine ms_getI (z := 22) dX7_readLine_78 (fo_X7_176 rfl) (by first | rfl | assumption) rfl rfl ?_
        refine mi_if_ne (tgt := 92) dX7_readLine_81 (by decide) (fun c_81 => ?_) (fun c_81 => ?_)
        · refine ms_conseq (fun v9 h9 hp => ?_) (fun _ _ z => z) (l_X7_rF92 (S := S) (f := f) (L := L) (w := (wdn (M 62) n p)) hR hFF.2.1 hs)
          obtain ⟨rfl, rfl⟩ := hp
          refine ⟨_, rfl, rfl, hFF.mf, ?_⟩
          rw [pLine_by, if_pos (Or.inr ⟨(hl15.mp (by omega)).1, (hl15.mp (by omega)).2, hs9.mpr (by have := ob_01 s (lj (wdn (M 62) n p)); have : ¬ ob s (lj (wdn (M 62) n p)) = 0 := fun z => c_69 (hoan2.mpr z); omega)⟩)]
          exact hFF.2.1
        · exact absurd c_81 (by omega)
  · refine ms_iload_n dX7_readLine_54 rfl ?_
    refine mi_if_ne (tgt := 72) dX7_readLine_55 (by decide) (fun c_55 => ?_) (fun c_55 => ?_)
    · refine ms_aload_n dX7_readLine_72 rfl ?_
      refine mi_iconst dX7_readLine_73 ?_
      refine ms_callV1 (ci := 7) (r := (RX7, TX7, 48)) dX7_readLine_74 cv_X7_readLine_X7_wrong (k_X7_wrong (e := 4) hR (by omega)) rfl rfl (by first | rfl | assumption) (Nat.le_of_ble_eq_true rfl) rfl (fun _ _ z => z.elim) (fun v9 h9 hp9 => ?_)
      obtain ⟨rfl, rfl⟩ := hp9
      rw [if_pos hw0]
      have hFF := hG.ff (c := 4) (by decide)
      have hv9 := hFF.2.1.1
      refine ms_aload_n dX7_readLine_77 rfl ?_
      refine ms_getI (z := 22) dX7_readLine_78 (fo_X7_176 rfl) (by first | rfl | assumption) rfl rfl ?_
      refine mi_if_ne (tgt := 92) dX7_readLine_81 (by decide) (fun c_81 => ?_) (fun c_81 => ?_)
      · refine ms_conseq (fun v9 h9 hp => ?_) (fun _ _ z => z) (l_X7_rF92 (S := S) (f := f) (L := L) (w := (wdn (M 62) n p)) hR hFF.2.1 hs)
        obtain ⟨rfl, rfl⟩ := hp
        refine ⟨_, rfl, rfl, hFF.mf, ?_⟩
        rw [pLine_by, if_pos (Or.inl ⟨hl16.mp c_51, by cases fs; rfl; exact absurd (hfs.mp rfl) c_55⟩)]
        exact hFF.2.1
      · exact absurd c_81 (by omega)
    · refine ms_iload dX7_readLine_58 rfl ?_
      refine mi_bipush dX7_readLine_60 (by decide) ?_
      refine mi_icmp_ge (tgt := 77) dX7_readLine_62 (by decide) (fun c_62 => ?_) (fun c_62 => ?_)
      · have hnl : ¬ (((wdn (M 62) n p) = 5 ∧ fs = false) ∨ (7 ≤ (wdn (M 62) n p) ∧ (wdn (M 62) n p) ≤ 10 ∧ sn (wdn (M 62) n p) = true)) := (by rintro (⟨z, z2⟩ | ⟨z1, z2, z3⟩); (rw [hfs.mpr c_55] at z2; cases z2); have := hl16.mp c_51; omega)
        refine ms_aload_n dX7_readLine_77 rfl ?_
        refine ms_getI (z := 22) dX7_readLine_78 (fo_X7_176 rfl) (by first | rfl | assumption) rfl rfl ?_
        refine mi_if_ne (tgt := 92) dX7_readLine_81 (by decide) (fun c_81 => ?_) (fun c_81 => ?_)
        · exact absurd hw0 c_81
        · refine ms_aload_n dX7_readLine_84 rfl ?_
          refine ms_iload_n dX7_readLine_85 rfl ?_
          refine ms_iload_n dX7_readLine_86 rfl ?_
          refine ms_iload dX7_readLine_87 rfl ?_
          refine ms_callV3 (ci := 7) (r := (RX7, TX7, 48)) dX7_readLine_89 cv_X7_readLine_X7_readBy (k_X7_readBy hR hn hB hG hcs (k := x1) (oc := x2) (ln := ((2 : Int) ^ (lj (wdn (M 62) n p)).toNat)) hx1 hx2 hl16 hl32 (fun z => hT1 (by cases e : fs; exact absurd (Or.inl ⟨z, e⟩) hnl; rfl))) rfl rfl (by first | rfl | assumption) (Nat.le_of_ble_eq_true rfl) rfl (fun _ _ z => z.elim) (fun v9 h9 hp9 => ?_)
          obtain ⟨N1, rfl, rfl, y1, y2⟩ := hp9
          have e62 : N1 62 = M 62 := y1.1 62 (by decide) (by omega)
          cases eb : pBy (M 62) n p T (wdn (M 62) n p) with
          | inl x =>
            obtain ⟨c9, q9⟩ := x
            rw [eb] at y2
            refine ms_conseq (fun v9 h9 hp => ?_) (fun _ _ z => z) (l_X7_rF92 (S := S) (f := f) (L := L) (M := N1) (w := (wdn (M 62) n p)) hR y2 hs)
            obtain ⟨rfl, rfl⟩ := hp
            exact ⟨N1, rfl, rfl, y1, by rw [pLine_by, if_neg hnl, eb]; exact y2⟩
          | inr x =>
            obtain ⟨p9, T9⟩ := x
            rw [eb] at y2
            refine ms_conseq (fun v9 h9 hp => ?_) (fun _ _ z => z) (l_X7_rG92 (S := S) (f := f) (L := L) (M := N1) (w := (wdn (M 62) n p)) hR hn (by rw [e62]; exact hB) y2 hs)
            obtain ⟨N2, r1, r2, r3, r4⟩ := hp
            rw [e62] at r4
            exact ⟨N2, r1, r2, y1.tr r3, by rw [pLine_by, if_neg hnl, eb]; exact r4⟩
      · exact absurd c_62 (by omega)
set_option maxHeartbeats 4000000 in
set_option maxRecDepth 100000 in
theorem k_X7_readLine {S : mx_Sc} {f : Bool} {M : Nat → Int → Int} {L : Nat → Nat → Int64} {Rf : Nat → Nat → Option Nat} (hR : mx_rf Rf) {n : Int} (hn : 0 ≤ n ∧ n ≤ 500) (hB : ∀ i, 0 ≤ i → i < 500 → 0 ≤ M 62 i ∧ M 62 i ≤ 255) {p : Int} {T : td_T} (hG : mdG M n p T) (hcs : mcs M) {s : Int} (hs : 0 ≤ s ∧ s < 64) {sn : Int → Bool} {fs : Bool} (hsn : ∀ j, 0 ≤ j → j < 4 → (sn (7 + j) = true ↔ ob s j = 1)) (hfs : fs = true ↔ s = 0) (hT1 : fs = true → T 0 1 = 0) (hrs : (∀ k : Nat, k < 5 → Rf 49 k = some (1001 + (1 + k))) ∧ ∀ k : Nat, k < 4 → Rf 50 k = some (1001 + (6 + k))) : mx_C S mX7_readLine [.ref 48, .int (iI s)] (f, mx_SH, M, L, Rf) 0 0 (fun v9 h9 => ∃ N, h9 = (f, mx_SH, N, L, Rf) ∧ v9 = some (.int (iI (oor s ((2 : Int) ^ (lj (wdn (M 62) n p)).toNat)))) ∧ mfP M N ∧ mdR N n (pLine (M 62) n p T sn fs)) (fun _ _ => False) := by
  refine mx_C_of (by decide) (by simp [Value.category]) (Nat.le_of_ble_eq_true rfl) rfl ?_
  show mx_E S mX7_readLine 0 [some (.ref 48), some (.int (iI s)), none, none, none] [] (f, mx_SH, M, L, Rf) 0 0 _ _
  have hwb := wdn_b (M 62) n p (wdP_x _ _ _)
  refine ms_aload_n dX7_readLine_0 rfl ?_
  refine ms_aload_n dX7_readLine_1 rfl ?_
  refine ms_getR dX7_readLine_2 (fo_X7_19 rfl) (by first | rfl | assumption) rfl (by first | assumption | exact rf_48_0 hR ) ?_
  refine ms_callV1 (ci := 7) (r := (RX7, TX7, 48)) dX7_readLine_5 cv_X7_readLine_X7_which (k_X7_which hR hn hB hG (a := 49) (b := 1) (m := 5) (by decide) rfl (by decide) hrs.1) rfl rfl (by first | rfl | assumption) (Nat.le_of_ble_eq_true rfl) rfl (fun _ _ z => z.elim) (fun v9 h9 hp9 => ?_)
  obtain ⟨rfl, x1, rfl, hx1⟩ := hp9
  have hx1 : x1 = if 0 ≤ (wdn (M 62) n p) ∧ (wdn (M 62) n p) ≤ 4 then (wdn (M 62) n p) - 0 else -1 := by
    rcases hx1 with ⟨z, z2⟩ | ⟨z1, z2, z3⟩
    · rw [if_neg]
      · exact z
      · rintro ⟨q1, q2⟩
        refine z2 ((wdn (M 62) n p) - 0).toNat (by omega) ?_
        have h9 := (isP_w (g := M 62) (n := n) (p := p) (k := (wdn (M 62) n p)) (by omega)).mpr rfl
        rcases (show (wdn (M 62) n p) = 0 ∨ (wdn (M 62) n p) = 1 ∨ (wdn (M 62) n p) = 2 ∨ (wdn (M 62) n p) = 3 ∨ (wdn (M 62) n p) = 4 by omega) with e | e | e | e | e <;> rw [e] at h9 ⊢ <;> exact h9
    · have h9 : (wdn (M 62) n p) = x1 + 0 := by
        have h8 : isP (M 62) n p (wsi (x1 + 0)) := by
          rcases (show x1 = 0 ∨ x1 = 1 ∨ x1 = 2 ∨ x1 = 3 ∨ x1 = 4 by omega) with e | e | e | e | e <;> rw [e] at z3 ⊢ <;> exact z3
        exact (isP_w (by omega)).mp h8
      rw [if_pos (by omega)]
      omega
  rw [Int.sub_zero] at hx1
  refine ms_istore_n dX7_readLine_8 (by decide) rfl ?_
  dsimp only [List.set, Nat.reduceAdd]
  refine ms_aload_n dX7_readLine_9 rfl ?_
  refine ms_aload_n dX7_readLine_10 rfl ?_
  refine ms_getR dX7_readLine_11 (fo_X7_33 rfl) (by first | rfl | assumption) rfl (by first | assumption | exact rf_48_1 hR ) ?_
  refine ms_callV1 (ci := 7) (r := (RX7, TX7, 48)) dX7_readLine_14 cv_X7_readLine_X7_which (k_X7_which hR hn hB hG (a := 50) (b := 6) (m := 4) (by decide) rfl (by decide) hrs.2) rfl rfl (by first | rfl | assumption) (Nat.le_of_ble_eq_true rfl) rfl (fun _ _ z => z.elim) (fun v9 h9 hp9 => ?_)
  obtain ⟨rfl, x2, rfl, hx2⟩ := hp9
  have hx2 : x2 = if 7 ≤ (wdn (M 62) n p) ∧ (wdn (M 62) n p) ≤ 10 then (wdn (M 62) n p) - 7 else -1 := by
    rcases hx2 with ⟨z, z2⟩ | ⟨z1, z2, z3⟩
    · rw [if_neg]
      · exact z
      · rintro ⟨q1, q2⟩
        refine z2 ((wdn (M 62) n p) - 7).toNat (by omega) ?_
        have h9 := (isP_w (g := M 62) (n := n) (p := p) (k := (wdn (M 62) n p)) (by omega)).mpr rfl
        rcases (show (wdn (M 62) n p) = 7 ∨ (wdn (M 62) n p) = 8 ∨ (wdn (M 62) n p) = 9 ∨ (wdn (M 62) n p) = 10 by omega) with e | e | e | e <;> rw [e] at h9 ⊢ <;> exact h9
    · have h9 : (wdn (M 62) n p) = x2 + 7 := by
        have h8 : isP (M 62) n p (wsi (x2 + 7)) := by
          rcases (show x2 = 0 ∨ x2 = 1 ∨ x2 = 2 ∨ x2 = 3 by omega) with e | e | e | e <;> rw [e] at z3 ⊢ <;> exact z3
        exact (isP_w (by omega)).mp h8
      rw [if_pos (by omega)]
      omega
  refine ms_istore_n dX7_readLine_17 (by decide) rfl ?_
  dsimp only [List.set, Nat.reduceAdd]
  refine ms_aload_n dX7_readLine_18 rfl ?_
  refine ms_ldcS (i := 10) dX7_readLine_19 rfl ?_
  refine ms_callV1 (ci := 7) (r := (RX7, TX7, 48)) dX7_readLine_21 cv_X7_readLine_X7_is (k_X7_is hR hn hB hG (i := 10) (by decide)) rfl rfl (by first | rfl | assumption) (Nat.le_of_ble_eq_true rfl) rfl (fun _ _ z => z.elim) (fun v9 h9 hp9 => ?_)
  obtain ⟨rfl, rfl⟩ := hp9
  have hxb : -1 ≤ x2 ∧ x2 ≤ 3 := by rw [hx2]; split <;> omega
  refine mi_if_eqB (tgt := 32) dX7_readLine_24 (by decide) (fun c_24 => ?_) (fun c_24 => ?_)
  · have hw5 : ¬ (wdn (M 62) n p) = 5 := fun z => isB_n c_24 ((isP_w (k := 5) (by decide)).mpr z)
    refine ms_iload_n dX7_readLine_32 rfl ?_
    refine mi_iconst dX7_readLine_33 ?_
    refine mi_icmp_ne (tgt := 42) dX7_readLine_34 (by decide) (fun c_34 => ?_) (fun c_34 => ?_)
    · have hw7 : 7 ≤ (wdn (M 62) n p) ∧ (wdn (M 62) n p) ≤ 10 := by refine Classical.byContradiction fun z => ?_; rw [if_neg z] at hx2; exact c_34 hx2
      have hx7 : x2 = (wdn (M 62) n p) - 7 := by rw [hx2, if_pos hw7]
      refine mi_iconst dX7_readLine_42 ?_
      refine ms_iload_n dX7_readLine_43 rfl ?_
      refine mi_ishl (2 ^ x2.toNat) dX7_readLine_44 (p2_shl (by omega)) ?_
      rw [show (2 : Int) ^ x2.toNat = ((2 : Int) ^ (lj (wdn (M 62) n p)).toNat) by unfold lj; rw [if_neg hw5, if_pos hw7, hx7]]
      exact l_X7_rl45 (S := S) (f := f) (L := L) hR hn hB hG hcs hs hsn hfs hT1 hx1 hx2
    · have hw7 : ¬ (7 ≤ (wdn (M 62) n p) ∧ (wdn (M 62) n p) ≤ 10) := fun z => by rw [hx2, if_pos z] at c_34; omega
      refine mi_bipush dX7_readLine_37 (by decide) ?_
      refine ms_goto (tgt := 45) dX7_readLine_39 (by decide) ?_
      rw [show (32 : Int) = ((2 : Int) ^ (lj (wdn (M 62) n p)).toNat) by unfold lj; rw [if_neg hw5, if_neg hw7]; rfl]
      exact l_X7_rl45 (S := S) (f := f) (L := L) hR hn hB hG hcs hs hsn hfs hT1 hx1 hx2
  · have hw5 : (wdn (M 62) n p) = 5 := (isP_w (k := 5) (by decide)).mp (isB_i c_24)
    refine mi_bipush dX7_readLine_27 (by decide) ?_
    refine ms_goto (tgt := 45) dX7_readLine_29 (by decide) ?_
    rw [show (16 : Int) = ((2 : Int) ^ (lj (wdn (M 62) n p)).toNat) by unfold lj; rw [if_pos hw5]; rfl]
    exact l_X7_rl45 (S := S) (f := f) (L := L) hR hn hB hG hcs hs hsn hfs hT1 hx1 hx2

