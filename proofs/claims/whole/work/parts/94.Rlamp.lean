theorem mr_r0 (N : Nat → Int → Int) (i : Int) : mr N 0 i = N 53 (7 + i) := rfl
theorem mr_r1 (N : Nat → Int → Int) (i : Int) : mr N 1 i = N 54 (6 + i) := rfl
theorem mr_r2 (N : Nat → Int → Int) (i : Int) : mr N 2 i = N 55 (6 + i) := rfl
theorem mr_r3 (N : Nat → Int → Int) (i : Int) : mr N 3 i = N 57 (6 + i) := rfl
theorem mr_r4 (N : Nat → Int → Int) (i : Int) : mr N 4 i = N 56 (18 + i) := rfl
theorem mr_r5 (N : Nat → Int → Int) (i : Int) : mr N 5 i = N 58 (10 + i) := rfl
theorem mr_r6 (N : Nat → Int → Int) (i : Int) : mr N 6 i = N 59 (10 + i) := rfl
theorem mr_r7 (N : Nat → Int → Int) (i : Int) : mr N 7 i = N 60 (10 + i) := rfl
/-- a number behind the last lamp, or behind the last fog -/
theorem mdG.beh {N : Nat → Int → Int} {n p : Int} {T : td_T} (h : mdG N n p T) {r : Nat} {k v : Int} (hr : ((r = 54 ∨ r = 55 ∨ r = 57) ∧ k = 6 + T 0 1) ∨ ((r = 58 ∨ r = 59 ∨ r = 60) ∧ k = 10 + T 0 6)) : mdG (va_up N r (iu (N r) k v)) n p T := by
  have key : ∀ x j, (x ≠ r ∨ j ≠ k) → va_up N r (iu (N r) k v) x j = N x j := fun x j hx => by
    by_cases e : x = r
    · subst e
      rw [up_s, iu_n _ _ (by omega)]
    · rw [up_n _ _ e]
  have hq := h.2.2.1
  refine ⟨?_, by rw [key _ _ (by omega)]; exact h.2.1, ⟨fun k k0 k1 => ?_, fun l l0 l1 => ?_, fun i i0 i1 => ?_, fun g g0 g1 => ?_⟩, h.2.2.2⟩
  · have h1 := h.1
    unfold mdS at h1 ⊢
    rw [up_n (b := 48) _ _ (by omega), up_n (b := 62) _ _ (by omega)]
    exact h1
  · rw [mr_r0, key _ _ (by omega)]; exact hq.1 k k0 k1
  · rw [mr_r1, mr_r2, mr_r3, key _ _ (by omega), key _ _ (by omega), key _ _ (by omega)]; exact hq.2.1 l l0 l1
  · rw [mr_r4, key _ _ (by omega)]; exact hq.2.2.1 i i0 i1
  · rw [mr_r5, mr_r6, mr_r7, key _ _ (by omega), key _ _ (by omega), key _ _ (by omega)]; exact hq.2.2.2 g g0 g1
theorem mr_addL {N M : Nat → Int → Int} {T : td_T} {kd sd rd gr : Int} (hq : tq T (mr M)) (h1 : 0 ≤ T 0 1) (h53 : N 53 = iu (M 53) 8 (T 0 1 + 1)) (h54 : N 54 = iu (M 54) (6 + T 0 1) kd) (h55 : N 55 = iu (M 55) (6 + T 0 1) sd) (h57 : N 57 = iu (M 57) (6 + T 0 1) (-1)) (h56 : N 56 = iu (iu (iu (M 56) (3 * (6 + T 0 1)) rd) (3 * (6 + T 0 1) + 1) gr) (3 * (6 + T 0 1) + 2) (T 0 0 - rd - gr)) (h58 : N 58 = M 58) (h59 : N 59 = M 59) (h60 : N 60 = M 60) : tq (tdL T kd sd rd gr) (mr N) := by
  refine ⟨fun k k0 k1 => ?_, fun l l0 l1 => ?_, fun i i0 i1 => ?_, fun g g0 g1 => ?_⟩
  · show N 53 (7 + k) = iu (T 0) 1 (T 0 1 + 1) k
    rw [h53]
    simp only [iu]
    by_cases e : k = 1
    · rw [if_pos (by omega), if_pos e]
    · rw [if_neg (by omega), if_neg e]
      exact hq.1 k k0 k1
  · have l2 : l < T 0 1 + 1 := l1
    show N 54 (6 + l) = iu (T 1) (T 0 1) kd l ∧ N 55 (6 + l) = iu (T 2) (T 0 1) sd l ∧ N 57 (6 + l) = iu (T 3) (T 0 1) (-1) l
    rw [h54, h55, h57]
    simp only [iu]
    by_cases e : l = T 0 1
    · rw [if_pos (by omega), if_pos e, if_pos (by omega), if_pos e, if_pos (by omega), if_pos e]
      exact ⟨rfl, rfl, rfl⟩
    · rw [if_neg (by omega), if_neg e, if_neg (by omega), if_neg e, if_neg (by omega), if_neg e]
      exact hq.2.1 l l0 (by omega)
  · have l2 : i < 3 * (T 0 1 + 1) := i1
    show N 56 (18 + i) = iu (iu (iu (T 4) (3 * T 0 1) rd) (3 * T 0 1 + 1) gr) (3 * T 0 1 + 2) (T 0 0 - rd - gr) i
    rw [h56]
    simp only [iu]
    repeat' split
    all_goals first | rfl | omega | exact hq.2.2.1 i i0 (by omega)
  · show N 58 (10 + g) = T 5 g ∧ N 59 (10 + g) = T 6 g ∧ N 60 (10 + g) = T 7 g
    rw [h58, h59, h60]
    exact hq.2.2.2 g g0 g1
theorem mdS.fr {M N : Nat → Int → Int} {n p : Int} (h : mdS M n p) (h1 : N 62 = M 62) (h2 : N 48 = M 48) : mdS N n p := by
  unfold mdS
  rw [h1, h2]
  exact h
theorem mfP.put {M N : Nat → Int → Int} (h : mfP M N) {r : Nat} {k v : Int} (hr : (r = 53 ∧ 7 ≤ k) ∨ (r = 54 ∧ 6 ≤ k) ∨ (r = 55 ∧ 6 ≤ k) ∨ (r = 56 ∧ 18 ≤ k) ∨ (r = 57 ∧ 6 ≤ k) ∨ ((r = 58 ∨ r = 59 ∨ r = 60) ∧ 10 ≤ k)) : mfP M (va_up N r (iu (N r) k v)) := by
  have key : ∀ x j, (x ≠ r ∨ j ≠ k) → va_up N r (iu (N r) k v) x j = N x j := fun x j hx => by
    by_cases e : x = r
    · subst e
      rw [up_s, iu_n _ _ (by omega)]
    · rw [up_n _ _ e]
  refine ⟨fun x a b => ?_, fun j hj => ?_, fun j hj => ⟨?_, ?_, ?_⟩, fun j hj => ?_, fun j hj => ⟨?_, ?_, ?_⟩, fun j hj => ?_⟩
  · rw [up_n _ _ (by omega)]; exact h.1 x a b
  · rw [key _ _ (by omega)]; exact h.2.1 j hj
  · rw [key _ _ (by omega)]; exact (h.2.2.1 j hj).1
  · rw [key _ _ (by omega)]; exact (h.2.2.1 j hj).2.1
  · rw [key _ _ (by omega)]; exact (h.2.2.1 j hj).2.2
  · rw [key _ _ (by omega)]; exact h.2.2.2.1 j hj
  · rw [key _ _ (by omega)]; exact (h.2.2.2.2.1 j hj).1
  · rw [key _ _ (by omega)]; exact (h.2.2.2.2.1 j hj).2.1
  · rw [key _ _ (by omega)]; exact (h.2.2.2.2.1 j hj).2.2
  · rw [key _ _ (by omega)]; exact h.2.2.2.2.2 j hj
set_option maxHeartbeats 4000000 in
theorem l_X7_nF88 {S : mx_Sc} {f : Bool} {M : Nat → Int → Int} {L : Nat → Nat → Int64} {Rf : Nat → Nat → Option Nat} (hR : mx_rf Rf) {c q : Int} (hF : mdF M c q)  {kd l : Int} (hl : l = 6 + M 53 8) (hL : 0 ≤ M 53 8 ∧ M 53 8 < 6) {x y : Int} : mx_E S mX7_readNewLamp 88 [some (.ref 48), some (.int (iI kd)), some (.int (iI l)), some (.int (iI x)), some (.int (iI y))] [] (f, mx_SH, M, L, Rf) 0 0 (fun v9 h9 => ∃ N, h9 = (f, mx_SH, N, L, Rf) ∧ v9 = none ∧ mfP M N ∧ mdF N c q) (fun _ _ => False) := by
  have hw0 := hF.1
  have hcc := hF.2.2
  refine ms_aload_n dX7_readNewLamp_88 rfl ?_
  refine ms_getR dX7_readNewLamp_89 (fo_X7_52 rfl) (by first | rfl | assumption) rfl (by first | assumption | exact rf_48_8 hR ) ?_
  refine mi_iconst dX7_readNewLamp_92 ?_
  refine ms_iload_n dX7_readNewLamp_93 rfl ?_
  refine mi_imul dX7_readNewLamp_94 ?_
  refine ms_iload_n dX7_readNewLamp_95 rfl ?_
  refine ms_iast dX7_readNewLamp_96 (by first | rfl | assumption) ?_
  refine ms_aload_n dX7_readNewLamp_97 rfl ?_
  refine ms_getR dX7_readNewLamp_98 (fo_X7_52 rfl) (by first | rfl | assumption) rfl (by first | assumption | exact rf_48_8 hR ) ?_
  refine mi_iconst dX7_readNewLamp_101 ?_
  refine ms_iload_n dX7_readNewLamp_102 rfl ?_
  refine mi_imul dX7_readNewLamp_103 ?_
  refine mi_iconst dX7_readNewLamp_104 ?_
  refine mi_iadd dX7_readNewLamp_105 ?_
  refine ms_iload dX7_readNewLamp_106 rfl ?_
  refine ms_iast dX7_readNewLamp_108 (by first | rfl | assumption) ?_
  refine ms_aload_n dX7_readNewLamp_109 rfl ?_
  refine ms_getR dX7_readNewLamp_110 (fo_X7_52 rfl) (by first | rfl | assumption) rfl (by first | assumption | exact rf_48_8 hR ) ?_
  refine mi_iconst dX7_readNewLamp_113 ?_
  refine ms_iload_n dX7_readNewLamp_114 rfl ?_
  refine mi_imul dX7_readNewLamp_115 ?_
  refine mi_iconst dX7_readNewLamp_116 ?_
  refine mi_iadd dX7_readNewLamp_117 ?_
  refine ms_aload_n dX7_readNewLamp_118 rfl ?_
  refine ms_getR dX7_readNewLamp_119 (fo_X7_43 rfl) (by first | rfl | assumption) rfl (by first | assumption | exact rf_48_5 hR ) ?_
  refine mi_bipush dX7_readNewLamp_122 (by decide) ?_
  refine ms_iald dX7_readNewLamp_124 (by first | rfl | assumption) ?_
  refine ms_iload_n dX7_readNewLamp_125 rfl ?_
  refine mi_isub dX7_readNewLamp_126 ?_
  refine ms_iload dX7_readNewLamp_127 rfl ?_
  refine mi_isub dX7_readNewLamp_129 ?_
  refine ms_iast dX7_readNewLamp_130 (by first | rfl | assumption) ?_
  refine ms_aload_n dX7_readNewLamp_131 rfl ?_
  refine ms_getR dX7_readNewLamp_132 (fo_X7_55 rfl) (by first | rfl | assumption) rfl (by first | assumption | exact rf_48_9 hR ) ?_
  refine ms_iload_n dX7_readNewLamp_135 rfl ?_
  refine mi_iconst dX7_readNewLamp_136 ?_
  refine ms_iast dX7_readNewLamp_137 (by first | rfl | assumption) ?_
  refine ms_aload_n dX7_readNewLamp_138 rfl ?_
  refine ms_getR dX7_readNewLamp_139 (fo_X7_43 rfl) (by first | rfl | assumption) rfl (by first | assumption | exact rf_48_5 hR ) ?_
  refine mi_bipush dX7_readNewLamp_142 (by decide) ?_
  refine ms_dup2 dX7_readNewLamp_144 rfl rfl ?_
  refine ms_iald dX7_readNewLamp_145 (by first | rfl | assumption) ?_
  refine mi_iconst dX7_readNewLamp_146 ?_
  refine mi_iadd dX7_readNewLamp_147 ?_
  refine ms_iast dX7_readNewLamp_148 (by first | rfl | assumption) ?_
  refine ms_retV dX7_readNewLamp_149 rfl ?_ (by simp)
  refine ⟨_, rfl, rfl, (((((mfP.rf (M := M)).put (by omega)).put (by omega)).put (by omega)).put (by omega)).put (by omega), ?_⟩
  unfold mdF
  simp only [up_n _ _ (show (48 : Nat) ≠ 53 by decide), up_n _ _ (show (48 : Nat) ≠ 57 by decide), up_n _ _ (show (48 : Nat) ≠ 56 by decide)]
  exact hF
set_option maxHeartbeats 4000000 in
theorem l_X7_nF86 {S : mx_Sc} {f : Bool} {M : Nat → Int → Int} {L : Nat → Nat → Int64} {Rf : Nat → Nat → Option Nat} (hR : mx_rf Rf) {c q : Int} (hF : mdF M c q)  {kd l : Int} (hl : l = 6 + M 53 8) (hL : 0 ≤ M 53 8 ∧ M 53 8 < 6) {x : Int} : mx_E S mX7_readNewLamp 86 [some (.ref 48), some (.int (iI kd)), some (.int (iI l)), some (.int (iI x)), none] [.int (iI 0)] (f, mx_SH, M, L, Rf) 0 0 (fun v9 h9 => ∃ N, h9 = (f, mx_SH, N, L, Rf) ∧ v9 = none ∧ mfP M N ∧ mdF N c q) (fun _ _ => False) := by
  have hw0 := hF.1
  have hcc := hF.2.2
  refine ms_istore dX7_readNewLamp_86 (by decide) rfl ?_
  dsimp only [List.set, Nat.reduceAdd]
  exact l_X7_nF88 (S := S) (f := f) (L := L) hR hF hl hL
set_option maxHeartbeats 4000000 in
theorem l_X7_nF71 {S : mx_Sc} {f : Bool} {M : Nat → Int → Int} {L : Nat → Nat → Int64} {Rf : Nat → Nat → Option Nat} (hR : mx_rf Rf) {c q : Int} (hF : mdF M c q)  {kd l : Int} (hl : l = 6 + M 53 8) (hL : 0 ≤ M 53 8 ∧ M 53 8 < 6) : mx_E S mX7_readNewLamp 71 [some (.ref 48), some (.int (iI kd)), some (.int (iI l)), none, none] [.int (iI 0)] (f, mx_SH, M, L, Rf) 0 0 (fun v9 h9 => ∃ N, h9 = (f, mx_SH, N, L, Rf) ∧ v9 = none ∧ mfP M N ∧ mdF N c q) (fun _ _ => False) := by
  have hw0 := hF.1
  have hcc := hF.2.2
  refine ms_istore_n dX7_readNewLamp_71 (by decide) rfl ?_
  dsimp only [List.set, Nat.reduceAdd]
  refine ms_aload_n dX7_readNewLamp_72 rfl ?_
  refine mi_iconst dX7_readNewLamp_73 ?_
  refine ms_aload_n dX7_readNewLamp_74 rfl ?_
  refine ms_getR dX7_readNewLamp_75 (fo_X7_43 rfl) (by first | rfl | assumption) rfl (by first | assumption | exact rf_48_5 hR ) ?_
  refine mi_bipush dX7_readNewLamp_78 (by decide) ?_
  refine ms_iald dX7_readNewLamp_80 (by first | rfl | assumption) ?_
  refine ms_iload_n dX7_readNewLamp_81 rfl ?_
  refine mi_isub dX7_readNewLamp_82 ?_
  refine ms_callV2 (ci := 7) (r := (RX7, TX7, 48)) dX7_readNewLamp_83 cv_X7_readNewLamp_X7_readNumber (k_X7_readNumberF hR hF) rfl rfl (by first | rfl | assumption) (Nat.le_of_ble_eq_true rfl) rfl (fun _ _ z => z.elim) (fun v9 h9 hp9 => ?_)
  obtain ⟨rfl, rfl⟩ := hp9
  exact l_X7_nF86 (S := S) (f := f) (L := L) hR hF hl hL
set_option maxHeartbeats 4000000 in
theorem l_X7_nF58 {S : mx_Sc} {f : Bool} {M : Nat → Int → Int} {L : Nat → Nat → Int64} {Rf : Nat → Nat → Option Nat} (hR : mx_rf Rf) {c q : Int} (hF : mdF M c q)  {kd l : Int} (hl : l = 6 + M 53 8) (hL : 0 ≤ M 53 8 ∧ M 53 8 < 6) : mx_E S mX7_readNewLamp 58 [some (.ref 48), some (.int (iI kd)), some (.int (iI l)), none, none] [.int (iI 0), .int (iI l), .ref 55] (f, mx_SH, M, L, Rf) 0 0 (fun v9 h9 => ∃ N, h9 = (f, mx_SH, N, L, Rf) ∧ v9 = none ∧ mfP M N ∧ mdF N c q) (fun _ _ => False) := by
  have hw0 := hF.1
  have hcc := hF.2.2
  refine ms_iast dX7_readNewLamp_58 (by first | rfl | assumption) ?_
  refine ms_conseq (P2 := fun v9 h9 => ∃ N, h9 = (f, mx_SH, N, L, Rf) ∧ v9 = none ∧ mfP (va_up M 55 (iu (M 55) l 0)) N ∧ mdF N c q) (fun v9 h9 hp => ?_) (fun _ _ z => z) ?_
  · obtain ⟨N, y1, y2, y3, y4⟩ := hp
    exact ⟨N, y1, y2, ((mfP.rf (M := M)).put (by omega)).tr y3, y4⟩
  have hF2 : mdF (va_up M 55 (iu (M 55) l 0)) c q := by unfold mdF; rw [up_n _ _ (by decide)]; exact hF
  have hl2 : l = 6 + va_up M 55 (iu (M 55) l 0) 53 8 := by rw [up_n _ _ (by decide)]; exact hl
  have hL2 : 0 ≤ va_up M 55 (iu (M 55) l 0) 53 8 ∧ va_up M 55 (iu (M 55) l 0) 53 8 < 6 := by rw [up_n _ _ (by decide)]; exact hL
  generalize va_up M 55 (iu (M 55) l 0) = M9 at hF2 hl2 hL2 ⊢
  refine ms_aload_n dX7_readNewLamp_59 rfl ?_
  refine mi_iconst dX7_readNewLamp_60 ?_
  refine ms_aload_n dX7_readNewLamp_61 rfl ?_
  refine ms_getR dX7_readNewLamp_62 (fo_X7_43 rfl) (by first | rfl | assumption) rfl (by first | assumption | exact rf_48_5 hR ) ?_
  refine mi_bipush dX7_readNewLamp_65 (by decide) ?_
  refine ms_iald dX7_readNewLamp_67 (by first | rfl | assumption) ?_
  refine ms_callV2 (ci := 7) (r := (RX7, TX7, 48)) dX7_readNewLamp_68 cv_X7_readNewLamp_X7_readNumber (k_X7_readNumberF hR hF2) rfl rfl (by first | rfl | assumption) (Nat.le_of_ble_eq_true rfl) rfl (fun _ _ z => z.elim) (fun v9 h9 hp9 => ?_)
  obtain ⟨rfl, rfl⟩ := hp9
  exact l_X7_nF71 (S := S) (f := f) (L := L) hR hF2 hl2 hL2
set_option maxHeartbeats 4000000 in
set_option maxRecDepth 100000 in
theorem k_X7_readNewLamp {S : mx_Sc} {f : Bool} {M : Nat → Int → Int} {L : Nat → Nat → Int64} {Rf : Nat → Nat → Option Nat} (hR : mx_rf Rf) {n : Int} (hn : 0 ≤ n ∧ n ≤ 500) (hB : ∀ i, 0 ≤ i → i < 500 → 0 ≤ M 62 i ∧ M 62 i ≤ 255) {p : Int} {T : td_T} (hG : mdG M n p T) {kd : Int} (hkd : 0 ≤ kd ∧ kd ≤ 4) : mx_C S mX7_readNewLamp [.ref 48, .int (iI kd)] (f, mx_SH, M, L, Rf) 0 0 (fun v9 h9 => ∃ N, h9 = (f, mx_SH, N, L, Rf) ∧ v9 = none ∧ mfP M N ∧ mdR N n (if 6 ≤ T 0 1 then .inl (2, p) else pKind (M 62) n (nx (M 62) n p) T kd)) (fun _ _ => False) := by
  refine mx_C_of (by decide) (by simp [Value.category]) (Nat.le_of_ble_eq_true rfl) rfl ?_
  show mx_E S mX7_readNewLamp 0 [some (.ref 48), some (.int (iI kd)), none, none, none] [] (f, mx_SH, M, L, Rf) 0 0 _ _
  have hS := hG.1
  have hw0 := hG.2.1
  have h20 := hS.2.1
  have h21 := hS.2.2.1
  have h16 := hS.2.2.2.1
  have h18 := hS.2.2.2.2.1
  have hnum := hS.2.2.2.2.2.1
  have h0 := hS.2.2.2.2.2.2
  have htb := tk_b (M 62) n p
  have ht9 := te_b (g := M 62) h0.2
  have e0 : ∀ k, 0 ≤ k → k < 7 → M 53 (7 + k) = T 0 k := hG.2.2.1.1
  have e00 : M 53 7 = T 0 0 := e0 0 (by decide) (by decide)
  have e01 : M 53 8 = T 0 1 := e0 1 (by decide) (by decide)
  have e06 : M 53 13 = T 0 6 := e0 6 (by decide) (by decide)
  have o0 : 1 ≤ T 0 0 ∧ T 0 0 ≤ 30 := hG.2.2.2.1.1
  have o1 : 0 ≤ T 0 1 ∧ T 0 1 ≤ 6 := hG.2.2.2.1.2.1
  have o6 : 0 ≤ T 0 6 ∧ T 0 6 ≤ 10 := hG.2.2.2.1.2.2.2.2.2.2.1
  have hmt : mtk (tk (M 62) n p) = if tk (M 62) n p = 4 then 0 else tk (M 62) n p + 1 := rfl
  refine ms_aload_n dX7_readNewLamp_0 rfl ?_
  refine ms_getR dX7_readNewLamp_1 (fo_X7_43 rfl) (by first | rfl | assumption) rfl (by first | assumption | exact rf_48_5 hR ) ?_
  refine mi_bipush dX7_readNewLamp_4 (by decide) ?_
  refine ms_iald dX7_readNewLamp_6 (by first | rfl | assumption) ?_
  refine mi_bipush dX7_readNewLamp_7 (by decide) ?_
  refine mi_icmp_ne (tgt := 17) dX7_readNewLamp_9 (by decide) (fun c_9 => ?_) (fun c_9 => ?_)
  · refine ms_aload_n dX7_readNewLamp_17 rfl ?_
    refine ms_getI (z := 22) dX7_readNewLamp_18 (fo_X7_176 rfl) (by first | rfl | assumption) rfl rfl ?_
    refine mi_if_eq (tgt := 25) dX7_readNewLamp_21 (by decide) (fun c_21 => ?_) (fun c_21 => ?_)
    · refine ms_aload_n dX7_readNewLamp_25 rfl ?_
      refine ms_callV0 (ci := 7) (r := (RX7, TX7, 48)) dX7_readNewLamp_26 cv_X7_readNewLamp_X7_stepOn (k_X7_stepOn hR hn hB hS.1 (by omega)) rfl rfl (by first | rfl | assumption) (Nat.le_of_ble_eq_true rfl) rfl (fun _ _ z => z.elim) (fun v9 h9 hp9 => ?_)
      obtain ⟨N0, rfl, rfl, s1, s2⟩ := hp9
      rw [h16, show sk (M 62) n (te (M 62) n p) = nx (M 62) n p from rfl] at s2
      have sG := s1.G hG s2
      have a53 : N0 53 = M 53 := s1.1 53 (by decide)
      have a62 : N0 62 = M 62 := s1.1 62 (by decide)
      have n8 : N0 53 8 = T 0 1 := by rw [a53]; exact e01
      refine mi_bipush dX7_readNewLamp_29 (by decide) ?_
      refine ms_aload_n dX7_readNewLamp_31 rfl ?_
      refine ms_getR dX7_readNewLamp_32 (fo_X7_43 rfl) (by first | rfl | assumption) rfl (by first | assumption | exact rf_48_5 hR ) ?_
      refine mi_bipush dX7_readNewLamp_35 (by decide) ?_
      refine ms_iald dX7_readNewLamp_37 (by first | rfl | assumption) ?_
      refine mi_iadd dX7_readNewLamp_38 ?_
      refine ms_istore_n dX7_readNewLamp_39 (by decide) rfl ?_
      dsimp only [List.set, Nat.reduceAdd]
      refine ms_aload_n dX7_readNewLamp_40 rfl ?_
      refine ms_getR dX7_readNewLamp_41 (fo_X7_46 rfl) (by first | rfl | assumption) rfl (by first | assumption | exact rf_48_6 hR ) ?_
      refine ms_iload_n dX7_readNewLamp_44 rfl ?_
      refine ms_iload_n dX7_readNewLamp_45 rfl ?_
      refine ms_iast dX7_readNewLamp_46 (by first | rfl | assumption) ?_
      have hK0 : mdG (va_up N0 54 (iu (N0 54) (6 + N0 53 8) kd)) n (nx (M 62) n p) T := sG.beh (by omega)
      have mK0 : mfP M (va_up N0 54 (iu (N0 54) (6 + N0 53 8) kd)) := s1.mf.put (by rw [a53]; omega)
      have k53 : va_up N0 54 (iu (N0 54) (6 + N0 53 8) kd) 53 = M 53 := by rw [up_n _ _ (by decide)]; exact a53
      have k62 : va_up N0 54 (iu (N0 54) (6 + N0 53 8) kd) 62 = M 62 := by rw [up_n _ _ (by decide)]; exact a62
      have k54 : va_up N0 54 (iu (N0 54) (6 + N0 53 8) kd) 54 = iu (M 54) (6 + T 0 1) kd := by rw [up_s, a53, e01, s1.1 54 (by decide)]
      have kx : ∀ x, x ≠ 48 → x ≠ 54 → va_up N0 54 (iu (N0 54) (6 + N0 53 8) kd) x = M x := fun x x0 x1 => by rw [up_n _ _ x1]; exact s1.1 x x0
      have e8 : 6 + N0 53 8 = 6 + T 0 1 := by rw [a53, e01]
      generalize va_up N0 54 (iu (N0 54) (6 + N0 53 8) kd) = K0 at hK0 mK0 k53 k62 k54 kx ⊢
      rw [e8]
      refine ms_aload_n dX7_readNewLamp_47 rfl ?_
      refine ms_getR dX7_readNewLamp_48 (fo_X7_49 rfl) (by first | rfl | assumption) rfl (by first | assumption | exact rf_48_7 hR ) ?_
      refine ms_iload_n dX7_readNewLamp_51 rfl ?_
      refine ms_aload_n dX7_readNewLamp_52 rfl ?_
      refine mi_iconst dX7_readNewLamp_53 ?_
      refine mi_iconst dX7_readNewLamp_54 ?_
      refine ms_callV2 (ci := 7) (r := (RX7, TX7, 48)) dX7_readNewLamp_55 cv_X7_readNewLamp_X7_readNumber (k_X7_readNumber (M := K0) hR hn (by rw [k62]; exact hB) hK0 (a := 0) (b := 1) (by decide) (by decide)) rfl rfl (by first | rfl | assumption) (Nat.le_of_ble_eq_true rfl) rfl (fun _ _ z => z.elim) (fun v9 h9 hp9 => ?_)
      obtain ⟨N1, x1, rfl, rfl, h1⟩ := hp9
      have g53 : K0 53 8 = T 0 1 := by rw [k53]; exact e01
      rw [k62] at h1
      rcases h1 with ⟨z1, zF, rfl⟩ | ⟨z1, zs1, zG1, rfl⟩
      · refine ms_conseq (fun v9 h9 hp => ?_) (fun _ _ z => z) (l_X7_nF58 (S := S) (f := f) (L := L) (kd := kd) (l := 6 + T 0 1) hR zF.2.1 (by rw [zF.1 53 (by decide), g53]) (by rw [zF.1 53 (by decide), g53]; omega))
        obtain ⟨N9, y1, y2, y3, y4⟩ := hp
        refine ⟨N9, y1, y2, (mK0.tr zF.mf).tr y3, ?_⟩
        rw [if_neg (by omega)]
        unfold pKind
        rw [if_pos z1]
        exact y4
      have v1 := nC_0 (by decide) z1
      refine ms_iast dX7_readNewLamp_58 (by first | rfl | assumption) ?_
      have hK1 : mdG (va_up N1 55 (iu (N1 55) (6 + T 0 1) (nV (M 62) n (nx (M 62) n p)))) n (nx (M 62) n (nx (M 62) n p)) T := zG1.beh (by omega)
      have mK1 : mfP M (va_up N1 55 (iu (N1 55) (6 + T 0 1) (nV (M 62) n (nx (M 62) n p)))) := (mK0.tr zs1.mf).put (by omega)
      have b55 : va_up N1 55 (iu (N1 55) (6 + T 0 1) (nV (M 62) n (nx (M 62) n p))) 55 = iu (M 55) (6 + T 0 1) (nV (M 62) n (nx (M 62) n p)) := by rw [up_s, zs1.1 55 (by decide), kx 55 (by decide) (by decide)]
      have bx : ∀ x, x ≠ 48 → x ≠ 54 → x ≠ 55 → va_up N1 55 (iu (N1 55) (6 + T 0 1) (nV (M 62) n (nx (M 62) n p))) x = M x := fun x x0 x1 x2 => by rw [up_n _ _ x2, zs1.1 x x0, kx x x0 x1]
      have b54 : va_up N1 55 (iu (N1 55) (6 + T 0 1) (nV (M 62) n (nx (M 62) n p))) 54 = iu (M 54) (6 + T 0 1) kd := by rw [up_n _ _ (by decide), zs1.1 54 (by decide), k54]
      generalize va_up N1 55 (iu (N1 55) (6 + T 0 1) (nV (M 62) n (nx (M 62) n p))) = K1 at hK1 mK1 b55 bx b54 ⊢
      have b53 : K1 53 = M 53 := bx 53 (by decide) (by decide) (by decide)
      have b62 : K1 62 = M 62 := bx 62 (by decide) (by decide) (by decide)
      refine ms_aload_n dX7_readNewLamp_59 rfl ?_
      refine mi_iconst dX7_readNewLamp_60 ?_
      refine ms_aload_n dX7_readNewLamp_61 rfl ?_
      refine ms_getR dX7_readNewLamp_62 (fo_X7_43 rfl) (by first | rfl | assumption) rfl (by first | assumption | exact rf_48_5 hR ) ?_
      refine mi_bipush dX7_readNewLamp_65 (by decide) ?_
      refine ms_iald dX7_readNewLamp_67 (by first | rfl | assumption) ?_
      rw [show K1 53 7 = T 0 0 by rw [b53]; exact e00]
      refine ms_callV2 (ci := 7) (r := (RX7, TX7, 48)) dX7_readNewLamp_68 cv_X7_readNewLamp_X7_readNumber (k_X7_readNumber (M := K1) hR hn (by rw [b62]; exact hB) hK1 (a := 0) (b := T 0 0) (by decide) (by omega)) rfl rfl (by first | rfl | assumption) (Nat.le_of_ble_eq_true rfl) rfl (fun _ _ z => z.elim) (fun v9 h9 hp9 => ?_)
      obtain ⟨N2, x2, rfl, rfl, h2⟩ := hp9
      rw [b62] at h2
      rcases h2 with ⟨z2, zF, rfl⟩ | ⟨z2, zs2, zG2, rfl⟩
      · refine ms_conseq (fun v9 h9 hp => ?_) (fun _ _ z => z) (l_X7_nF71 (S := S) (f := f) (L := L) (kd := kd) (l := 6 + T 0 1) hR zF.2.1 (by rw [zF.1 53 (by decide), b53, e01]) (by rw [zF.1 53 (by decide), b53, e01]; omega))
        obtain ⟨N9, y1, y2, y3, y4⟩ := hp
        refine ⟨N9, y1, y2, (mK1.tr zF.mf).tr y3, ?_⟩
        rw [if_neg (by omega)]
        unfold pKind
        rw [if_neg (by omega), if_pos z2]
        exact y4
      have v2 := nC_0 (by decide) z2
      have w53 : N2 53 7 = T 0 0 := by rw [zs2.1 53 (by decide), b53]; exact e00
      have w62 : N2 62 = M 62 := (zs2.1 62 (by decide)).trans b62
      refine ms_istore_n dX7_readNewLamp_71 (by decide) rfl ?_
      dsimp only [List.set, Nat.reduceAdd]
      refine ms_aload_n dX7_readNewLamp_72 rfl ?_
      refine mi_iconst dX7_readNewLamp_73 ?_
      refine ms_aload_n dX7_readNewLamp_74 rfl ?_
      refine ms_getR dX7_readNewLamp_75 (fo_X7_43 rfl) (by first | rfl | assumption) rfl (by first | assumption | exact rf_48_5 hR ) ?_
      refine mi_bipush dX7_readNewLamp_78 (by decide) ?_
      refine ms_iald dX7_readNewLamp_80 (by first | rfl | assumption) ?_
      refine ms_iload_n dX7_readNewLamp_81 rfl ?_
      refine mi_isub dX7_readNewLamp_82 ?_
      rw [w53]
      refine ms_callV2 (ci := 7) (r := (RX7, TX7, 48)) dX7_readNewLamp_83 cv_X7_readNewLamp_X7_readNumber (k_X7_readNumber (M := N2) hR hn (by rw [w62]; exact hB) zG2 (a := 0) (b := T 0 0 - nV (M 62) n (nx (M 62) n (nx (M 62) n p))) (by decide) (by omega)) rfl rfl (by first | rfl | assumption) (Nat.le_of_ble_eq_true rfl) rfl (fun _ _ z => z.elim) (fun v9 h9 hp9 => ?_)
      obtain ⟨N3, x3, rfl, rfl, h3⟩ := hp9
      rw [w62] at h3
      rcases h3 with ⟨z3, zF, rfl⟩ | ⟨z3, zs3, zG3, rfl⟩
      · refine ms_conseq (fun v9 h9 hp => ?_) (fun _ _ z => z) (l_X7_nF86 (S := S) (f := f) (L := L) (kd := kd) (l := 6 + T 0 1) hR zF.2.1 (by rw [zF.1 53 (by decide), zs2.1 53 (by decide), b53, e01]) (by rw [zF.1 53 (by decide), zs2.1 53 (by decide), b53, e01]; omega))
        obtain ⟨N9, y1, y2, y3, y4⟩ := hp
        refine ⟨N9, y1, y2, (mK1.tr (zs2.mf.tr zF.mf)).tr y3, ?_⟩
        rw [if_neg (by omega)]
        unfold pKind
        rw [if_neg (by omega), if_neg (by omega), if_pos z3]
        exact y4
      have v3 := nC_0 (by decide) z3
      refine ms_istore dX7_readNewLamp_86 (by decide) rfl ?_
      dsimp only [List.set, Nat.reduceAdd]
      refine ms_aload_n dX7_readNewLamp_88 rfl ?_
      refine ms_getR dX7_readNewLamp_89 (fo_X7_52 rfl) (by first | rfl | assumption) rfl (by first | assumption | exact rf_48_8 hR ) ?_
      refine mi_iconst dX7_readNewLamp_92 ?_
      refine ms_iload_n dX7_readNewLamp_93 rfl ?_
      refine mi_imul dX7_readNewLamp_94 ?_
      refine ms_iload_n dX7_readNewLamp_95 rfl ?_
      refine ms_iast dX7_readNewLamp_96 (by first | rfl | assumption) ?_
      refine ms_aload_n dX7_readNewLamp_97 rfl ?_
      refine ms_getR dX7_readNewLamp_98 (fo_X7_52 rfl) (by first | rfl | assumption) rfl (by first | assumption | exact rf_48_8 hR ) ?_
      refine mi_iconst dX7_readNewLamp_101 ?_
      refine ms_iload_n dX7_readNewLamp_102 rfl ?_
      refine mi_imul dX7_readNewLamp_103 ?_
      refine mi_iconst dX7_readNewLamp_104 ?_
      refine mi_iadd dX7_readNewLamp_105 ?_
      refine ms_iload dX7_readNewLamp_106 rfl ?_
      refine ms_iast dX7_readNewLamp_108 (by first | rfl | assumption) ?_
      refine ms_aload_n dX7_readNewLamp_109 rfl ?_
      refine ms_getR dX7_readNewLamp_110 (fo_X7_52 rfl) (by first | rfl | assumption) rfl (by first | assumption | exact rf_48_8 hR ) ?_
      refine mi_iconst dX7_readNewLamp_113 ?_
      refine ms_iload_n dX7_readNewLamp_114 rfl ?_
      refine mi_imul dX7_readNewLamp_115 ?_
      refine mi_iconst dX7_readNewLamp_116 ?_
      refine mi_iadd dX7_readNewLamp_117 ?_
      refine ms_aload_n dX7_readNewLamp_118 rfl ?_
      refine ms_getR dX7_readNewLamp_119 (fo_X7_43 rfl) (by first | rfl | assumption) rfl (by first | assumption | exact rf_48_5 hR ) ?_
      refine mi_bipush dX7_readNewLamp_122 (by decide) ?_
      refine ms_iald dX7_readNewLamp_124 (by first | rfl | assumption) ?_
      refine ms_iload_n dX7_readNewLamp_125 rfl ?_
      refine mi_isub dX7_readNewLamp_126 ?_
      refine ms_iload dX7_readNewLamp_127 rfl ?_
      refine mi_isub dX7_readNewLamp_129 ?_
      refine ms_iast dX7_readNewLamp_130 (by first | rfl | assumption) ?_
      refine ms_aload_n dX7_readNewLamp_131 rfl ?_
      refine ms_getR dX7_readNewLamp_132 (fo_X7_55 rfl) (by first | rfl | assumption) rfl (by first | assumption | exact rf_48_9 hR ) ?_
      refine ms_iload_n dX7_readNewLamp_135 rfl ?_
      refine mi_iconst dX7_readNewLamp_136 ?_
      refine ms_iast dX7_readNewLamp_137 (by first | rfl | assumption) ?_
      refine ms_aload_n dX7_readNewLamp_138 rfl ?_
      refine ms_getR dX7_readNewLamp_139 (fo_X7_43 rfl) (by first | rfl | assumption) rfl (by first | assumption | exact rf_48_5 hR ) ?_
      refine mi_bipush dX7_readNewLamp_142 (by decide) ?_
      refine ms_dup2 dX7_readNewLamp_144 rfl rfl ?_
      refine ms_iald dX7_readNewLamp_145 (by first | rfl | assumption) ?_
      refine mi_iconst dX7_readNewLamp_146 ?_
      refine mi_iadd dX7_readNewLamp_147 ?_
      refine ms_iast dX7_readNewLamp_148 (by first | rfl | assumption) ?_
      refine ms_retV dX7_readNewLamp_149 rfl ?_ (by simp)
      refine ⟨_, rfl, rfl, (((((mK1.tr (zs2.mf.tr zs3.mf)).put (by omega)).put (by omega)).put (by omega)).put (by omega)).put (by omega), ?_⟩
      rw [if_neg (by omega)]
      unfold pKind
      rw [if_neg (by omega), if_neg (by omega), if_neg (by omega)]
      have c53 : N3 53 = M 53 := by rw [zs3.1 53 (by decide), zs2.1 53 (by decide)]; exact b53
      refine ⟨zG3.1.fr ?_ ?_, ?_, mr_addL hG.2.2.1 o1.1 ?_ ?_ ?_ ?_ ?_ ?_ ?_ ?_, tdL_ok hG.2.2.2 (by omega) hkd (by omega) (by omega) (by omega)⟩
      · simp [va_up]
      · simp [va_up]
      · simp [va_up]; exact zG3.2.1
      · simp [va_up]; rw [c53, e01]
      · simp [va_up]; rw [zs3.1 54 (by decide), zs2.1 54 (by decide), b54]
      · simp [va_up]; rw [zs3.1 55 (by decide), zs2.1 55 (by decide), b55]
      · simp [va_up]; rw [zs3.1 57 (by decide), zs2.1 57 (by decide), bx 57 (by decide) (by decide) (by decide)]
      · simp [va_up]; rw [zs3.1 56 (by decide), zs2.1 56 (by decide), bx 56 (by decide) (by decide) (by decide), c53, e00]
      · simp [va_up]; rw [zs3.1 58 (by decide), zs2.1 58 (by decide), bx 58 (by decide) (by decide) (by decide)]
      · simp [va_up]; rw [zs3.1 59 (by decide), zs2.1 59 (by decide), bx 59 (by decide) (by decide) (by decide)]
      · simp [va_up]; rw [zs3.1 60 (by decide), zs2.1 60 (by decide), bx 60 (by decide) (by decide) (by decide)]
    · exact absurd hw0 c_21
  · refine ms_aload_n dX7_readNewLamp_12 rfl ?_
    refine mi_iconst dX7_readNewLamp_13 ?_
    refine ms_callV1 (ci := 7) (r := (RX7, TX7, 48)) dX7_readNewLamp_14 cv_X7_readNewLamp_X7_wrong (k_X7_wrong (e := 2) hR (by omega)) rfl rfl (by first | rfl | assumption) (Nat.le_of_ble_eq_true rfl) rfl (fun _ _ z => z.elim) (fun v9 h9 hp9 => ?_)
    obtain ⟨rfl, rfl⟩ := hp9
    rw [if_pos hw0]
    have hFF := hG.ff (c := 2) (by decide)
    have hv9 := hFF.2.1.1
    refine ms_aload_n dX7_readNewLamp_17 rfl ?_
    refine ms_getI (z := 22) dX7_readNewLamp_18 (fo_X7_176 rfl) (by first | rfl | assumption) rfl rfl ?_
    refine mi_if_eq (tgt := 25) dX7_readNewLamp_21 (by decide) (fun c_21 => ?_) (fun c_21 => ?_)
    · exact absurd c_21 (by omega)
    · refine ms_retV dX7_readNewLamp_24 rfl ⟨_, rfl, rfl, hFF.mf, by rw [if_pos (by omega)]; exact hFF.2.1⟩ (by simp)

