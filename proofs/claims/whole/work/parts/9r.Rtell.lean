/-- the row behind the drops of the mothers' row w -/
def gvM (v : Int → Int) (c : Nat → Int) (w : Int) : Nat → (Int → Int)
  | 0 => v
  | j + 1 => mvU (gvM v c w j) (c j) (c9 w j)
def vmR (t : sp_T) (lk : Int → Int) (n : Int) (v : Int → Int) (c : Nat → Int) (m : Nat) (w : Int) (j : Nat) : Int := wdV true lk (sp_run t lk false false n (t.1 5 - n).toNat (gvM v c w m)) (c j)
theorem mvU_q {v u : Int → Int} (h : qv v u) {l ch : Int} (hl : 0 ≤ l ∧ l < 6) (hc : 0 ≤ ch ∧ ch < 9) : qv (mvU v l ch) (mvU u l ch) := by
  unfold mvU
  split
  · exact h
  · exact qv_give h hl (by omega) (by omega)
theorem gvM_q {v u : Int → Int} (h : qv v u) {c : Nat → Int} {w : Int} {m : Nat} (hc : ∀ j, j < m → 0 ≤ c j ∧ c j < 6) : ∀ j, j ≤ m → qv (gvM v c w j) (gvM u c w j)
  | 0, _ => h
  | j + 1, hj => mvU_q (gvM_q h hc j (by omega)) (hc j (by omega)) (c9_b w j)
/-- a lamp that has had no drop yet -/
theorem gvM_o {v : Int → Int} {c : Nat → Int} {w : Int} {l i : Int} (hi : 0 ≤ i ∧ i < 3) : ∀ j : Nat, (∀ k, k < j → c k ≠ l) → gvM v c w j (3 * l + i) = v (3 * l + i)
  | 0, _ => rfl
  | j + 1, h => by
    have ih := gvM_o (v := v) (w := w) hi j (fun k hk => h k (by omega))
    have hne := h j (by omega)
    have hb := c9_b w j
    simp only [gvM]
    unfold mvU
    split
    · exact ih
    · unfold sp_give
      rw [iu_n _ _ (by omega), iu_n _ _ (by omega)]
      exact ih
theorem cgB_o {v u : Int → Int} {l ch : Int} (hc : 0 ≤ ch ∧ ch < 9) (h : ∀ i, 0 ≤ i → i < 3 → v (3 * l + i) = u (3 * l + i)) : cgB v l ch = cgB u l ch := by
  unfold cgB
  by_cases e : ch = 0
  · simp [e]
  · rw [h ((ch - 1) / 3) (by omega) (by omega)]
theorem gvM_ok {t : sp_T} (hT : sp_tok t) {v : Int → Int} (hv : sp_vok t v) {c : Nat → Int} {w : Int} {m : Nat} (hc : ∀ j, j < m → 0 ≤ c j ∧ c j < t.1 1) (hd : ∀ i j, i < j → j < m → c i ≠ c j) (hr : irP v c m w) : ∀ j, j ≤ m → sp_vok t (gvM v c w j)
  | 0, _ => hv
  | j + 1, hj => by
    refine mvU_ok hT (gvM_ok hT hv hc hd hr j (by omega)) (hc j (by omega)) (c9_b w j) ?_
    rw [cgB_o (c9_b w j) (fun i i0 i1 => gvM_o ⟨i0, i1⟩ j (fun k hk => hd k j hk (by omega)))]
    exact hr j (by omega)
theorem gvM_w {v : Int → Int} (hv : wdI v) {c : Nat → Int} {w : Int} {m : Nat} (hc : ∀ j, j < m → 0 ≤ c j ∧ c j < 6) : ∀ j, j ≤ m → wdI (gvM v c w j)
  | 0, _ => hv
  | j + 1, hj => by
    have hb := c9_b w j
    simp only [gvM]
    unfold mvU
    split
    · exact gvM_w hv hc j (by omega)
    · exact (gvM_w hv hc j (by omega)).give (hc j (by omega)) (by omega) (by omega)
set_option maxHeartbeats 4000000 in
set_option maxRecDepth 100000 in
theorem l_X7_tr1 {S : mx_Sc} {f : Bool} {M : Nat → Int → Int} {L : Nat → Nat → Int64} {Rf : Nat → Nat → Option Nat} (hR : mx_rf Rf) (hT : sp_tok (sp_tR M)) (hv : sp_vok (sp_tR M) (M 63)) (hlk : sp_lok (sp_tR M) (M 57)) {n : Int} (hn : 0 ≤ n ∧ n ≤ 99) (hnn : M 48 29 = n) (hne : n ≤ M 53 5) (hwI : wdI (M 63)) {m : Nat} {c : Nat → Int} (hm3 : m ≤ 3) (hmm : M 48 38 = (m : Int)) (hch : ∀ j : Nat, j < m → M 73 ((m : Int) - 1 - (j : Int)) = c j ∧ 0 ≤ c j ∧ c j < M 53 1) (hdd : ∀ i j : Nat, i < j → j < m → c i ≠ c j) {w : Int} (hw : 0 ≤ w ∧ w < 9 ^ m) (hir : irP (M 63) c m w) {P : Option Value → mx_H → Prop} {PX : String → mx_H → Prop} : ∀ (kk : Nat) (j : Nat) (N : Nat → Int → Int), j + kk = m → trP M N → qv (N 64) (gvM (M 63) c w j) → (∀ (N : Nat → Int → Int) (z2 z3 : Int), trP M N → qv (N 64) (gvM (M 63) c w m) → mx_E S mX7_tellRow 61 [some (.ref 48), some (.int (iI w)), some (.int (iI z2)), some (.int (iI z3))] [] (f, mx_SH, N, L, Rf) 0 0 P PX) → mx_E S mX7_tellRow 20 [some (.ref 48), some (.int (iI w)), some (.int (iI (w / 9 ^ j))), some (.int (iI ((m : Int) - 1 - (j : Int))))] [] (f, mx_SH, N, L, Rf) 0 0 P PX := by
  intro kk
  induction kk with
  | zero => 
    intro j N g1 q1 q2 hK
    have ej : j = m := by omega
    subst ej
    refine ms_iload_n dX7_tellRow_20 rfl ?_
    refine mi_if_lt (tgt := 61) dX7_tellRow_21 (by decide) (fun c_21 => ?_) (fun c_21 => ?_)
    · exact hK N _ _ q1 q2
    · exact absurd c_21 (by omega)
  | succ kk ih => 
    intro j N g1 q1 q2 hK
    have hT0 : 1 ≤ M 53 0 ∧ M 53 0 ≤ 30 := hT.1
    have hT1 : 0 ≤ M 53 1 ∧ M 53 1 ≤ 6 := hT.2.1
    have hT5 : 1 ≤ M 53 5 ∧ M 53 5 ≤ 99 := hT.2.2.2.2.2.1
    have hT6 : 0 ≤ M 53 6 ∧ M 53 6 ≤ 10 := hT.2.2.2.2.2.2.1
    have eT := q1.T
    have x73 : N 73 = M 73 := q1.x (by decide)
    have x48 : N 48 = M 48 := q1.x (by decide)
    have h9 := p9_3 hm3
    have hdb := dv_b hw.1 j
    have hcj := hch j (by omega)
    have hc9 := c9_b w j
    have ec9 : w / 9 ^ j % 9 = c9 w j := rfl
    refine ms_iload_n dX7_tellRow_20 rfl ?_
    refine mi_if_lt (tgt := 61) dX7_tellRow_21 (by decide) (fun c_21 => ?_) (fun c_21 => ?_)
    · exact absurd c_21 (by omega)
    · refine ms_iload_n dX7_tellRow_24 rfl ?_
      refine mi_bipush dX7_tellRow_25 (by decide) ?_
      refine mi_irem dX7_tellRow_27 ?_
      refine mi_if_le (tgt := 50) dX7_tellRow_28 (by decide) (fun c_28 => ?_) (fun c_28 => ?_)
      · refine ms_iload_n dX7_tellRow_50 rfl ?_
        refine mi_bipush dX7_tellRow_51 (by decide) ?_
        refine mi_idiv dX7_tellRow_53 ?_
        refine ms_istore_n dX7_tellRow_54 (by decide) rfl ?_
        dsimp only [List.set, Nat.reduceAdd]
        refine mi_iinc dX7_tellRow_55 rfl (by decide) rfl ?_
        dsimp only [List.set, Nat.reduceAdd]
        refine ms_goto (tgt := 20) dX7_tellRow_58 (by decide) ?_
        have i9 := ih (j + 1) N (by omega) q1 (by simp only [gvM]; unfold mvU; rw [if_pos (by omega)]; exact q2) hK
        rw [← c9_s hw.1, show (m : Int) - 1 - ((j + 1 : Nat) : Int) = (m : Int) - 1 - (j : Int) + -1 by omega] at i9
        exact i9
      · refine ms_aload_n dX7_tellRow_31 rfl ?_
        refine ms_getR dX7_tellRow_32 (fo_X7_80 rfl) (by first | rfl | assumption) rfl (by first | assumption | exact rf_48_26 hR ) ?_
        refine ms_aload_n dX7_tellRow_35 rfl ?_
        refine ms_getR dX7_tellRow_36 (fo_X7_107 rfl) (by first | rfl | assumption) rfl (by first | assumption | exact rf_48_36 hR ) ?_
        refine ms_iload_n dX7_tellRow_39 rfl ?_
        refine ms_iald dX7_tellRow_40 (by first | rfl | assumption) ?_
        refine ms_iload_n dX7_tellRow_41 rfl ?_
        refine mi_bipush dX7_tellRow_42 (by decide) ?_
        refine mi_irem dX7_tellRow_44 ?_
        refine mi_iconst dX7_tellRow_45 ?_
        refine mi_isub dX7_tellRow_46 ?_
        rw [x73, hcj.1]
        refine ms_callS3 dX7_tellRow_47 cv_X7_tellRow_X7_give (k_X7_give (M := N) (r := 64) (by decide) rfl (l := c j) (d := w / 9 ^ j % 9 - 1) (by omega) (by omega)) (Nat.le_of_ble_eq_true rfl) rfl (fun _ _ z => z.elim) (fun v9 h9 hp9 => ?_)
        obtain ⟨rfl, rfl⟩ := hp9
        have hq2 : qv (sp_give (N 64) (c j) ((w / 9 ^ j % 9 - 1) / 3) ((w / 9 ^ j % 9 - 1) % 3)) (gvM (M 63) c w (j + 1)) := by
          simp only [gvM]
          unfold mvU
          rw [if_neg (by omega)]
          exact qv_give q2 (by omega) (by omega) (by omega)
        have hvg := hq2.vok hT (gvM_ok hT hv (fun j hj => (hch j hj).2) hdd hir (j + 1) (by omega))
        refine ms_iload_n dX7_tellRow_50 rfl ?_
        refine mi_bipush dX7_tellRow_51 (by decide) ?_
        refine mi_idiv dX7_tellRow_53 ?_
        refine ms_istore_n dX7_tellRow_54 (by decide) rfl ?_
        dsimp only [List.set, Nat.reduceAdd]
        refine mi_iinc dX7_tellRow_55 rfl (by decide) rfl ?_
        dsimp only [List.set, Nat.reduceAdd]
        refine ms_goto (tgt := 20) dX7_tellRow_58 (by decide) ?_
        have i9 := ih (j + 1) _ (by omega) (q1.trans (trP.be hvg)) (by rw [up_s]; exact hq2) hK
        rw [← c9_s hw.1, show (m : Int) - 1 - ((j + 1 : Nat) : Int) = (m : Int) - 1 - (j : Int) + -1 by omega] at i9
        exact i9

set_option maxHeartbeats 4000000 in
set_option maxRecDepth 100000 in
theorem l_X7_tr2 {S : mx_Sc} {f : Bool} {M : Nat → Int → Int} {L : Nat → Nat → Int64} {Rf : Nat → Nat → Option Nat} (hR : mx_rf Rf) (hT : sp_tok (sp_tR M)) (hv : sp_vok (sp_tR M) (M 63)) (hlk : sp_lok (sp_tR M) (M 57)) {P : Option Value → mx_H → Prop} {PX : String → mx_H → Prop} {m : Nat} {c : Nat → Int} (hm3 : m ≤ 3) (hmm : M 48 38 = (m : Int)) (hch : ∀ j : Nat, j < m → M 73 ((m : Int) - 1 - (j : Int)) = c j ∧ 0 ≤ c j ∧ c j < M 53 1) {w : Int} (hw : 0 ≤ w ∧ w < 9 ^ m) {V : Nat → Int} (hv64 : sp_vok (sp_tR M) (M 64)) (hw64 : wdI (M 64)) (hV : ∀ j : Nat, j < m → wdV true (M 57) (M 64) (c j) = V j) {z2 : Int} : ∀ (kk : Nat) (i : Nat) (N : Nat → Int → Int), i + kk = m → (∀ x, x ≠ 74 → N x = M x) → (∀ y, N 74 y = if 3 * w ≤ y ∧ y < 3 * w + i then V ((m : Int) - 1 - (y - 3 * w)).toNat else M 74 y) → (∀ (N : Nat → Int → Int), (∀ x, x ≠ 74 → N x = M x) → (∀ y, N 74 y = if 3 * w ≤ y ∧ y < 3 * w + m then V ((m : Int) - 1 - (y - 3 * w)).toNat else M 74 y) → P none (f, mx_SH, N, L, Rf)) → mx_E S mX7_tellRow 67 [some (.ref 48), some (.int (iI w)), some (.int (iI z2)), some (.int (iI (i : Int)))] [] (f, mx_SH, N, L, Rf) 0 0 P PX := by
  intro kk
  induction kk with
  | zero => 
    intro i N g1 q1 q2 hK
    have ei : i = m := by omega
    subst ei
    have e38 : N 48 38 = (i : Int) := by rw [q1 48 (by decide)]; exact hmm
    refine ms_iload_n dX7_tellRow_67 rfl ?_
    refine ms_aload_n dX7_tellRow_68 rfl ?_
    refine ms_getI (z := 38) dX7_tellRow_69 (fo_X7_329 rfl) (by first | rfl | assumption) rfl rfl ?_
    refine mi_icmp_ge (tgt := 101) dX7_tellRow_72 (by decide) (fun c_72 => ?_) (fun c_72 => ?_)
    · refine ms_retV dX7_tellRow_101 rfl (hK N q1 q2) (by simp)
    · exact absurd c_72 (by omega)
  | succ kk ih => 
    intro i N g1 q1 q2 hK
    have hT0 : 1 ≤ M 53 0 ∧ M 53 0 ≤ 30 := hT.1
    have hT1 : 0 ≤ M 53 1 ∧ M 53 1 ≤ 6 := hT.2.1
    have hT5 : 1 ≤ M 53 5 ∧ M 53 5 ≤ 99 := hT.2.2.2.2.2.1
    have hT6 : 0 ≤ M 53 6 ∧ M 53 6 ≤ 10 := hT.2.2.2.2.2.2.1
    have e38 : N 48 38 = (m : Int) := by rw [q1 48 (by decide)]; exact hmm
    have h9 := p9_3 hm3
    have hci := hch (m - 1 - i) (by omega)
    rw [show (m : Int) - 1 - ((m - 1 - i : Nat) : Int) = (i : Int) by omega] at hci
    have eT : sp_tR N = sp_tR M := by simp only [sp_tR, q1 53 (by decide), q1 54 (by decide), q1 55 (by decide), q1 58 (by decide), q1 59 (by decide), q1 60 (by decide)]
    refine ms_iload_n dX7_tellRow_67 rfl ?_
    refine ms_aload_n dX7_tellRow_68 rfl ?_
    refine ms_getI (z := 38) dX7_tellRow_69 (fo_X7_329 rfl) (by first | rfl | assumption) rfl rfl ?_
    refine mi_icmp_ge (tgt := 101) dX7_tellRow_72 (by decide) (fun c_72 => ?_) (fun c_72 => ?_)
    · exact absurd c_72 (by omega)
    · refine ms_aload_n dX7_tellRow_75 rfl ?_
      refine ms_getR dX7_tellRow_76 (fo_X7_110 rfl) (by first | rfl | assumption) rfl (by first | assumption | exact rf_48_37 hR ) ?_
      refine mi_iconst dX7_tellRow_79 ?_
      refine ms_iload_n dX7_tellRow_80 rfl ?_
      refine mi_imul dX7_tellRow_81 ?_
      refine ms_iload_n dX7_tellRow_82 rfl ?_
      refine mi_iadd dX7_tellRow_83 ?_
      refine ms_aload_n dX7_tellRow_84 rfl ?_
      refine ms_aload_n dX7_tellRow_85 rfl ?_
      refine ms_getR dX7_tellRow_86 (fo_X7_107 rfl) (by first | rfl | assumption) rfl (by first | assumption | exact rf_48_36 hR ) ?_
      refine ms_iload_n dX7_tellRow_89 rfl ?_
      refine ms_iald dX7_tellRow_90 (by first | rfl | assumption) ?_
      rw [q1 73 (by decide), hci.1]
      refine ms_callV1 (ci := 7) (r := (RX7, TX7, 48)) dX7_tellRow_91 cv_X7_tellRow_X7_weds (k_X7_weds (M := N) hR (by rw [eT]; exact hT) (by rw [eT, q1 57 (by decide)]; exact hlk) (by rw [eT, q1 64 (by decide)]; exact hv64) (l := c (m - 1 - i)) (by rw [q1 53 (by decide)]; exact hci.2)) rfl rfl (by first | rfl | assumption) (Nat.le_of_ble_eq_true rfl) rfl (fun _ _ z => z.elim) (fun v9 h9 hp9 => ?_)
      obtain ⟨rfl, rfl⟩ := hp9
      rw [q1 57 (by decide), q1 64 (by decide), hw64.w (by omega), hV (m - 1 - i) (by omega)]
      refine ms_iast dX7_tellRow_94 (by first | rfl | assumption) ?_
      refine mi_iinc dX7_tellRow_95 rfl (by decide) rfl ?_
      dsimp only [List.set, Nat.reduceAdd]
      refine ms_goto (tgt := 67) dX7_tellRow_98 (by decide) ?_
      refine ih (i + 1) _ (by omega) (fun x hx => by rw [up_n _ _ hx]; exact q1 x hx) (fun y => ?_) hK
      rw [up_s]
      by_cases e : y = 3 * w + i
      · rw [e, iu_s, if_pos (by omega)]
        congr 1
        omega
      · rw [iu_n _ _ e, q2 y]
        by_cases h : 3 * w ≤ y ∧ y < 3 * w + i
        · rw [if_pos h, if_pos (by omega)]
        · rw [if_neg h, if_neg (by omega)]

set_option maxHeartbeats 4000000 in
set_option maxRecDepth 100000 in
theorem k_X7_tellRow {S : mx_Sc} {f : Bool} {M : Nat → Int → Int} {L : Nat → Nat → Int64} {Rf : Nat → Nat → Option Nat} (hR : mx_rf Rf) (hT : sp_tok (sp_tR M)) (hv : sp_vok (sp_tR M) (M 63)) (hlk : sp_lok (sp_tR M) (M 57)) {n : Int} (hn : 0 ≤ n ∧ n ≤ 99) (hnn : M 48 29 = n) (hne : n ≤ M 53 5) (hwI : wdI (M 63)) {m : Nat} {c : Nat → Int} (hm3 : m ≤ 3) (hmm : M 48 38 = (m : Int)) (hch : ∀ j : Nat, j < m → M 73 ((m : Int) - 1 - (j : Int)) = c j ∧ 0 ≤ c j ∧ c j < M 53 1) (hdd : ∀ i j : Nat, i < j → j < m → c i ≠ c j) {w : Int} (hw : 0 ≤ w ∧ w < 9 ^ m) (hir : irP (M 63) c m w) : mx_C S mX7_tellRow [.ref 48, .int (iI w)] (f, mx_SH, M, L, Rf) 0 0 (fun v9 h9 => ∃ N, h9 = (f, mx_SH, N, L, Rf) ∧ v9 = none ∧ (∀ x, x ≠ 64 → x ≠ 65 → x ≠ 67 → x ≠ 74 → N x = M x) ∧ nk N ∧ ∀ y, N 74 y = if 3 * w ≤ y ∧ y < 3 * w + m then vmR (sp_tR M) (M 57) n (M 63) c m w ((m : Int) - 1 - (y - 3 * w)).toNat else M 74 y) (fun _ _ => False) := by
  refine mx_C_of (by decide) (by simp [Value.category]) (Nat.le_of_ble_eq_true rfl) rfl ?_
  show mx_E S mX7_tellRow 0 [some (.ref 48), some (.int (iI w)), none, none] [] (f, mx_SH, M, L, Rf) 0 0 _ _
  have hT0 : 1 ≤ M 53 0 ∧ M 53 0 ≤ 30 := hT.1
  have hT1 : 0 ≤ M 53 1 ∧ M 53 1 ≤ 6 := hT.2.1
  have hT5 : 1 ≤ M 53 5 ∧ M 53 5 ≤ 99 := hT.2.2.2.2.2.1
  have hT6 : 0 ≤ M 53 6 ∧ M 53 6 ≤ 10 := hT.2.2.2.2.2.2.1
  have h9 := p9_3 hm3
  have hc6 : ∀ j, j < m → 0 ≤ c j ∧ c j < 6 := fun j hj => by have := (hch j hj).2; omega
  refine ms_aload_n dX7_tellRow_0 rfl ?_
  refine ms_getR dX7_tellRow_1 (fo_X7_80 rfl) (by first | rfl | assumption) rfl (by first | assumption | exact rf_48_26 hR ) ?_
  refine ms_aload_n dX7_tellRow_4 rfl ?_
  refine ms_getR dX7_tellRow_5 (fo_X7_77 rfl) (by first | rfl | assumption) rfl (by first | assumption | exact rf_48_25 hR ) ?_
  refine ms_callS2 dX7_tellRow_8 cv_X7_tellRow_X7_be (k_X7_be (a := 64) (b := 63) (by decide) (by decide) rfl rfl (by decide) (by decide) (by decide)) (Nat.le_of_ble_eq_true rfl) rfl (fun _ _ z => z.elim) (fun v9 h9 hp9 => ?_)
  obtain ⟨rfl, rfl⟩ := hp9
  have hq0 : qv (ic (M 63) (M 64) 0 0 (30 : Nat)) (M 63) := qv_ic
  have htr0 := trP.be (M := M) (hq0.vok hT hv)
  have u48 : va_up M 64 (ic (M 63) (M 64) 0 0 (30 : Nat)) 48 = M 48 := up_n _ _ (by decide)
  refine ms_iload_n dX7_tellRow_11 rfl ?_
  refine ms_istore_n dX7_tellRow_12 (by decide) rfl ?_
  dsimp only [List.set, Nat.reduceAdd]
  refine ms_aload_n dX7_tellRow_13 rfl ?_
  refine ms_getI (z := 38) dX7_tellRow_14 (fo_X7_329 rfl) (by first | rfl | assumption) rfl rfl ?_
  refine mi_iconst dX7_tellRow_17 ?_
  refine mi_isub dX7_tellRow_18 ?_
  refine ms_istore_n dX7_tellRow_19 (by decide) rfl ?_
  dsimp only [List.set, Nat.reduceAdd]
  rw [u48, hmm]
  have i9 := l_X7_tr1 (S := S) (f := f) (L := L) hR hT hv hlk hn hnn hne hwI hm3 hmm hch hdd hw hir (P := (fun v9 h9 => ∃ N, h9 = (f, mx_SH, N, L, Rf) ∧ v9 = none ∧ (∀ x, x ≠ 64 → x ≠ 65 → x ≠ 67 → x ≠ 74 → N x = M x) ∧ nk N ∧ ∀ y, N 74 y = if 3 * w ≤ y ∧ y < 3 * w + m then vmR (sp_tR M) (M 57) n (M 63) c m w ((m : Int) - 1 - (y - 3 * w)).toNat else M 74 y)) (PX := fun _ _ => False) m 0 _ (by omega) htr0 (by rw [up_s]; exact hq0) (fun N z2 z3 y1 y2 => ?_)
  · rw [show w / 9 ^ 0 = w by rw [Int.pow_zero, Int.ediv_one], show (m : Int) - 1 - ((0 : Nat) : Int) = (m : Int) - 1 by omega] at i9
    exact i9
  · have hvg := gvM_ok hT hv (fun j hj => (hch j hj).2) hdd hir m (Nat.le_refl _)
    have eT := y1.T
    have x57 : N 57 = M 57 := y1.x (by decide)
    have x53 : N 53 = M 53 := y1.x (by decide)
    have x48 : N 48 = M 48 := y1.x (by decide)
    have x73 : N 73 = M 73 := y1.x (by decide)
    have x63 : N 63 = M 63 := y1.x (by decide)
    refine ms_aload_n dX7_tellRow_61 rfl ?_
    refine ms_callV0 (ci := 7) (r := (RX7, TX7, 48)) dX7_tellRow_62 cv_X7_tellRow_X7_goOn (k_X7_goOn (M := N) hR (by rw [eT]; exact hT) (by rw [eT, x57]; exact hlk) (n := n) hn (by rw [x48]; exact hnn) (by rw [x53]; exact hne) (by rw [eT]; exact y2.vok hT hvg)) rfl rfl (by first | rfl | assumption) (Nat.le_of_ble_eq_true rfl) rfl (fun _ _ z => z.elim) (fun v9 h9 hp9 => ?_)
    obtain ⟨N4, rfl, rfl, p1, p64⟩ := hp9
    rw [eT, x57, x53] at p64
    have hq4 : qv (N4 64) (sp_run (sp_tR M) (M 57) false false n (M 53 5 - n).toNat (gvM (M 63) c w m)) := by rw [p64]; exact y2.run hT hlk false false n _
    have hv4 : sp_vok (sp_tR M) (N4 64) := hq4.vok hT (run_vok hT hlk false false hn.1 hvg _ (by omega))
    have hw4 : wdI (N4 64) := fun a a0 a1 => by rw [hq4 _ (by omega) (by omega), hq4 _ (by omega) (by omega)]; exact wdI.run hT (gvM_w hwI hc6 m (Nat.le_refl _)) false false hn.1 _ a a0 a1
    have t1 := y1.trans p1
    have eT4 := t1.T
    refine mi_iconst dX7_tellRow_65 ?_
    refine ms_istore_n dX7_tellRow_66 (by decide) rfl ?_
    dsimp only [List.set, Nat.reduceAdd]
    refine l_X7_tr2 (S := S) (f := f) (L := L) (M := N4) (z2 := z2) (V := fun j => vmR (sp_tR M) (M 57) n (M 63) c m w j) (m := m) (c := c) (w := w) hR (by rw [eT4]; exact hT) (by rw [eT4, t1.x (x := 63) (by decide)]; exact hv) (by rw [eT4, t1.x (x := 57) (by decide)]; exact hlk) hm3 (by rw [t1.x (x := 48) (by decide)]; exact hmm) (by rw [t1.x (x := 73) (by decide), t1.x (x := 53) (by decide)]; exact hch) hw (by rw [eT4]; exact hv4) hw4 (fun j hj => ?_) m 0 N4 (by omega) (fun _ _ => rfl) (fun y => by rw [if_neg (by omega)]) (fun N5 w1 w2 => ?_)
    · rw [t1.x (x := 57) (by decide)]
      unfold vmR
      exact hq4.wv (hc6 j hj)
    · refine ⟨N5, rfl, rfl, fun x a b d e => by rw [w1 x e]; exact t1.1 x a b d, fun a a0 a1 => ?_, fun y => ?_⟩
      · rw [w1 64 (by decide)]; exact (hv4.2 a a0 a1).2
      · rw [w2 y, t1.x (x := 74) (by decide)]

