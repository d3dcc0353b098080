/-- who is married has a night of it -/
def wdI (v : Int → Int) : Prop := ∀ l, 0 ≤ l → l < 6 → (v (18 + l) = -1 ↔ v (24 + l) = -1)
theorem wdI.marry {t : sp_T} (hT : sp_tok t) {v : Int → Int} (h : wdI v) {a b n : Int} (ha : 0 ≤ a ∧ a < t.1 1) (hb : 0 ≤ b ∧ b < t.1 1) (hn : 0 ≤ n) : wdI (sp_marry v a b n) := by
  have h1 := hT.2.1
  intro l l0 l1
  have h9 := h l l0 l1
  unfold sp_marry
  simp only [iu]
  rw [if_neg (show ¬ (18 + l = 24 + b) by omega), if_neg (show ¬ (18 + l = 24 + a) by omega), if_neg (show ¬ (24 + l = 18 + b) by omega), if_neg (show ¬ (24 + l = 18 + a) by omega)]
  by_cases eb : l = b
  · rw [if_pos (by omega), if_pos (by omega)]
    omega
  · rw [if_neg (show ¬ (18 + l = 18 + b) by omega), if_neg (show ¬ (24 + l = 24 + b) by omega)]
    by_cases ea : l = a
    · rw [if_pos (by omega), if_pos (by omega)]
      omega
    · rw [if_neg (show ¬ (18 + l = 18 + a) by omega), if_neg (show ¬ (24 + l = 24 + a) by omega)]
      exact h9
theorem itN_p {α : Type} {f : Int → α → α} {R : α → Prop} : ∀ (k : Nat), (∀ (i : Nat) (a : α), i < k → R a → R (f i a)) → ∀ a, R a → R (itN f k a)
  | 0, _, _, h => h
  | k + 1, hs, a, h => hs k _ (by omega) (itN_p k (fun i a hi hr => hs i a (by omega) hr) a h)
theorem wdI.wed {t : sp_T} (hT : sp_tok t) {v : Int → Int} (h : wdI v) {n : Int} (hn : 0 ≤ n) : wdI (sp_wed t n v) := by
  have h1 := hT.2.1
  unfold sp_wed
  refine itN_p (R := wdI) _ (fun i x hi hr => ?_) _ h
  unfold sp_wedA
  refine itN_p (R := wdI) _ (fun j x hj hr => ?_) _ hr
  unfold sp_in
  split
  · exact hr
  · exact hr.marry hT (by omega) (by omega) hn
theorem wdI.mv {t : sp_T} (hT : sp_tok t) {v lk : Int → Int} (h : wdI v) (hf ng : Bool) (n : Int) : wdI (sp_mv t lk hf ng n v) := by
  have h1 := hT.2.1
  intro l l0 l1
  unfold sp_mv
  rw [if_neg (by omega), if_neg (by omega)]
  exact h l l0 l1
theorem wdI.run {t : sp_T} (hT : sp_tok t) {v lk : Int → Int} (h : wdI v) (hf ng : Bool) {n : Int} (hn : 0 ≤ n) : ∀ k : Nat, wdI (sp_run t lk hf ng n k v)
  | 0 => h
  | k + 1 => by
    simp only [sp_run]
    unfold sp_night
    exact ((wdI.run hT h hf ng hn k).mv hT hf ng (n + k)).wed hT (by omega)
theorem wdI.give {v : Int → Int} (h : wdI v) {l i j : Int} (hl : 0 ≤ l ∧ l < 6) (hi : 0 ≤ i ∧ i < 3) (hj : 0 ≤ j ∧ j < 3) : wdI (sp_give v l i j) := by
  intro k k0 k1
  unfold sp_give
  rw [iu_n _ _ (by omega), iu_n _ _ (by omega), iu_n _ _ (by omega), iu_n _ _ (by omega)]
  exact h k k0 k1
theorem wdI.w {v lk : Int → Int} (h : wdI v) {l : Int} (hl : 0 ≤ l ∧ l < 6) : (if lk l ≠ -1 ∧ v (18 + l) = lk l then v (24 + l) else 1000) = wdV true lk v l := by
  have h9 := h l hl.1 hl.2
  unfold wdV wdF
  rw [if_pos rfl]
  split
  · rename_i z
    rw [if_neg (fun q => z.1 (z.2.symm.trans (h9.mpr q)))]
  · rw [if_pos rfl]
theorem qv_give {v u : Int → Int} (h : qv v u) {l i j : Int} (hl : 0 ≤ l ∧ l < 6) (hi : 0 ≤ i ∧ i < 3) (hj : 0 ≤ j ∧ j < 3) : qv (sp_give v l i j) (sp_give u l i j) := by
  intro k k0 k1
  unfold sp_give
  simp only [iu]
  rw [h (3 * l + i) (by omega) (by omega), h (3 * l + j) (by omega) (by omega), h k k0 k1]
theorem qv.wv {v u lk : Int → Int} (h : qv v u) {l : Int} (hl : 0 ≤ l ∧ l < 6) : wdV true lk v l = wdV true lk u l := by
  unfold wdV wdF
  rw [h (18 + l) (by omega) (by omega), h (24 + l) (by omega) (by omega)]
/-- by choice c of one mother -/
def mvU (v : Int → Int) (l c : Int) : Int → Int := if c = 0 then v else sp_give v l ((c - 1) / 3) ((c - 1) % 3)
def mvM (t : sp_T) (lk : Int → Int) (n : Int) (v : Int → Int) (l c : Int) : Int := if cgB v l c = true then wdV true lk (sp_run t lk false false n (t.1 5 - n).toNat (mvU v l c)) l else 1001
def mmS (g : Int → Int) : Nat → Int × Int
  | 0 => (-1, 1000)
  | c + 1 => if g c < (mmS g c).2 then ((c : Int) - 1, g c) else mmS g c
theorem mvU_ok {t : sp_T} (hT : sp_tok t) {v : Int → Int} (hv : sp_vok t v) {l c : Int} (hl : 0 ≤ l ∧ l < t.1 1) (hc : 0 ≤ c ∧ c < 9) (hg : cgB v l c = true) : sp_vok t (mvU v l c) := by
  unfold mvU
  split
  · exact hv
  · rename_i z
    have h9 := (of_decide_eq_true hg).resolve_left z
    exact give_ok hT hv hl (i := (c - 1) / 3) (j := (c - 1) % 3) (by omega) (by omega) h9.1 (by omega)
theorem wv_b {t : sp_T} (hT : sp_tok t) {lk : Int → Int} {u : Int → Int} (hu : sp_vok t u) (hw : wdI u) {l : Int} (hl : 0 ≤ l ∧ l < 6) : 0 ≤ wdV true lk u l ∧ wdV true lk u l ≤ 1200 := by
  have h9 := (hu.2 l hl.1 hl.2).2
  have h8 := hw l hl.1 hl.2
  unfold wdV wdF
  rw [if_pos rfl]
  by_cases z : lk l ≠ -1 ∧ u (18 + l) = lk l
  · rw [if_pos z]
    split <;> omega
  · rw [if_neg z, if_pos rfl]
    omega
theorem mmS_b {g : Int → Int} : ∀ c : Nat, (∀ i : Nat, i < c → 0 ≤ g i ∧ g i ≤ 1200) → (0 ≤ (mmS g c).2 ∧ (mmS g c).2 ≤ 1000) ∧ (-1 ≤ (mmS g c).1 ∧ (mmS g c).1 ≤ c)
  | 0, _ => by simp only [mmS]; omega
  | c + 1, h => by
    have ih := mmS_b c (fun i hi => h i (by omega))
    have h9 := h c (by omega)
    simp only [mmS]
    split
    · constructor <;> constructor <;> simp only <;> omega
    · omega
set_option maxHeartbeats 4000000 in
set_option maxRecDepth 100000 in
theorem l_X7_mo {S : mx_Sc} {f : Bool} {M : Nat → Int → Int} {L : Nat → Nat → Int64} {Rf : Nat → Nat → Option Nat} (hR : mx_rf Rf) (hT : sp_tok (sp_tR M)) (hv : sp_vok (sp_tR M) (M 63)) (hlk : sp_lok (sp_tR M) (M 57)) {n : Int} (hn : 0 ≤ n ∧ n ≤ 99) (hnn : M 48 29 = n) (hne : n ≤ M 53 5) (hw : wdI (M 63)) {l k : Int} (hl : 0 ≤ l ∧ l < M 53 1) (hk : 0 ≤ k ∧ k < 2) (hno : sp_out (M 63) l = false) : ∀ (kk : Nat) (c : Nat) (N : Nat → Int → Int), c + kk = 9 → trP M N → mx_E S mX7_mother 38 [some (.ref 48), some (.int (iI l)), some (.int (iI k)), some (.int (iI (mmS (mvM (sp_tR M) (M 57) n (M 63) l) c).1)), some (.int (iI (mmS (mvM (sp_tR M) (M 57) n (M 63) l) c).2)), some (.int (iI (c : Int)))] [] (f, mx_SH, N, L, Rf) 0 0 (fun v9 h9 => ∃ N, h9 = (f, mx_SH, N, L, Rf) ∧ trP M N ∧ v9 = some (.int (iI (if k = 0 then (mmS (mvM (sp_tR M) (M 57) n (M 63) l) 9).1 else if (mmS (mvM (sp_tR M) (M 57) n (M 63) l) 9).2 = 1000 then -1 else (mmS (mvM (sp_tR M) (M 57) n (M 63) l) 9).2)))) (fun _ _ => False) := by
  intro kk
  induction kk with
  | zero => 
    intro c N g1 q1
    have hT0 : 1 ≤ M 53 0 ∧ M 53 0 ≤ 30 := hT.1
    have hT1 : 0 ≤ M 53 1 ∧ M 53 1 ≤ 6 := hT.2.1
    have hT5 : 1 ≤ M 53 5 ∧ M 53 5 ≤ 99 := hT.2.2.2.2.2.1
    have hT6 : 0 ≤ M 53 6 ∧ M 53 6 ≤ 10 := hT.2.2.2.2.2.2.1
    have eT := q1.T
    have x53 : N 53 = M 53 := q1.x (by decide)
    have x57 : N 57 = M 57 := q1.x (by decide)
    have x63 : N 63 = M 63 := q1.x (by decide)
    have x48 : N 48 = M 48 := q1.x (by decide)
    have hgb : ∀ i : Nat, i < 9 → 0 ≤ (mvM (sp_tR M) (M 57) n (M 63) l) i ∧ (mvM (sp_tR M) (M 57) n (M 63) l) i ≤ 1200 := fun i hi => by
      unfold mvM
      split
      · rename_i z
        have hvu := mvU_ok hT hv hl (c := (i : Int)) (by omega) z
        refine wv_b hT (run_vok hT hlk false false hn.1 hvu _ (by simp only; omega)) (wdI.run hT ?_ false false hn.1 _) (by omega)
        unfold mvU
        split
        · exact hw
        · exact hw.give (by omega) (by omega) (by omega)
      · omega
    have hmb := mmS_b (g := (mvM (sp_tR M) (M 57) n (M 63) l)) c (fun i hi => hgb i (by omega))
    have ec : c = 9 := by omega
    subst ec
    refine ms_iload dX7_mother_38 rfl ?_
    refine mi_bipush dX7_mother_40 (by decide) ?_
    refine mi_icmp_ge (tgt := 132) dX7_mother_42 (by decide) (fun c_42 => ?_) (fun c_42 => ?_)
    · refine ms_iload_n dX7_mother_132 rfl ?_
      refine mi_if_ne (tgt := 140) dX7_mother_133 (by decide) (fun c_133 => ?_) (fun c_133 => ?_)
      · refine ms_iload dX7_mother_140 rfl ?_
        refine mi_sipush dX7_mother_142 (by decide) ?_
        refine mi_icmp_ne (tgt := 152) dX7_mother_145 (by decide) (fun c_145 => ?_) (fun c_145 => ?_)
        · refine ms_iload dX7_mother_152 rfl ?_
          refine ms_ret dX7_mother_154 rfl ⟨N, rfl, q1, by first | (rw [if_pos (by omega)]; done) | (rw [if_neg (by omega), if_pos (by omega)]; done) | (rw [if_neg (by omega), if_neg (by omega)]; done)⟩ (by simp)
        · refine mi_iconst dX7_mother_148 ?_
          refine ms_goto (tgt := 154) dX7_mother_149 (by decide) ?_
          refine ms_ret dX7_mother_154 rfl ⟨N, rfl, q1, by first | (rw [if_pos (by omega)]; done) | (rw [if_neg (by omega), if_pos (by omega)]; done) | (rw [if_neg (by omega), if_neg (by omega)]; done)⟩ (by simp)
      · refine ms_iload_n dX7_mother_136 rfl ?_
        refine ms_goto (tgt := 154) dX7_mother_137 (by decide) ?_
        refine ms_ret dX7_mother_154 rfl ⟨N, rfl, q1, by first | (rw [if_pos (by omega)]; done) | (rw [if_neg (by omega), if_pos (by omega)]; done) | (rw [if_neg (by omega), if_neg (by omega)]; done)⟩ (by simp)
    · exact absurd c_42 (by omega)
  | succ kk ih => 
    intro c N g1 q1
    have hT0 : 1 ≤ M 53 0 ∧ M 53 0 ≤ 30 := hT.1
    have hT1 : 0 ≤ M 53 1 ∧ M 53 1 ≤ 6 := hT.2.1
    have hT5 : 1 ≤ M 53 5 ∧ M 53 5 ≤ 99 := hT.2.2.2.2.2.1
    have hT6 : 0 ≤ M 53 6 ∧ M 53 6 ≤ 10 := hT.2.2.2.2.2.2.1
    have eT := q1.T
    have x53 : N 53 = M 53 := q1.x (by decide)
    have x57 : N 57 = M 57 := q1.x (by decide)
    have x63 : N 63 = M 63 := q1.x (by decide)
    have x48 : N 48 = M 48 := q1.x (by decide)
    have hgb : ∀ i : Nat, i < 9 → 0 ≤ (mvM (sp_tR M) (M 57) n (M 63) l) i ∧ (mvM (sp_tR M) (M 57) n (M 63) l) i ≤ 1200 := fun i hi => by
      unfold mvM
      split
      · rename_i z
        have hvu := mvU_ok hT hv hl (c := (i : Int)) (by omega) z
        refine wv_b hT (run_vok hT hlk false false hn.1 hvu _ (by simp only; omega)) (wdI.run hT ?_ false false hn.1 _) (by omega)
        unfold mvU
        split
        · exact hw
        · exact hw.give (by omega) (by omega) (by omega)
      · omega
    have hmb := mmS_b (g := (mvM (sp_tR M) (M 57) n (M 63) l)) c (fun i hi => hgb i (by omega))
    refine ms_iload dX7_mother_38 rfl ?_
    refine mi_bipush dX7_mother_40 (by decide) ?_
    refine mi_icmp_ge (tgt := 132) dX7_mother_42 (by decide) (fun c_42 => ?_) (fun c_42 => ?_)
    · exact absurd c_42 (by omega)
    · refine ms_aload_n dX7_mother_45 rfl ?_
      refine ms_getR dX7_mother_46 (fo_X7_77 rfl) (by first | rfl | assumption) rfl (by first | assumption | exact rf_48_25 hR ) ?_
      refine ms_iload_n dX7_mother_49 rfl ?_
      refine ms_callS2 dX7_mother_50 cv_X7_mother_X7_isOut (k_X7_isOut (M := N) (r := 63) (by decide) rfl (l := l) (by omega) (by rw [x63]; exact (hv.2 l (by omega) (by omega)).1)) (Nat.le_of_ble_eq_true rfl) rfl (fun _ _ z => z.elim) (fun v9 h9 hp9 => ?_)
      obtain ⟨rfl, rfl⟩ := hp9
      rw [x63, hno]
      refine mi_if_neB (tgt := 132) dX7_mother_53 (by decide) (fun c_53 => ?_) (fun c_53 => ?_)
      · exact absurd c_53 (by decide)
      · refine ms_aload_n dX7_mother_56 rfl ?_
        refine ms_iload_n dX7_mother_57 rfl ?_
        refine ms_iload dX7_mother_58 rfl ?_
        refine ms_callV2 (ci := 7) (r := (RX7, TX7, 48)) dX7_mother_60 cv_X7_mother_X7_canGive (k_X7_canGive (M := N) hR (by rw [eT]; exact hT) (by rw [eT, x63]; exact hv) (l := l) (c := (c : Int)) (by rw [x53]; exact hl) (by omega)) rfl rfl (by first | rfl | assumption) (Nat.le_of_ble_eq_true rfl) rfl (fun _ _ z => z.elim) (fun v9 h9 hp9 => ?_)
        obtain ⟨rfl, rfl⟩ := hp9
        rw [x63]
        refine mi_if_neB (tgt := 69) dX7_mother_63 (by decide) (fun c_63 => ?_) (fun c_63 => ?_)
        · refine ms_aload_n dX7_mother_69 rfl ?_
          refine ms_getR dX7_mother_70 (fo_X7_80 rfl) (by first | rfl | assumption) rfl (by first | assumption | exact rf_48_26 hR ) ?_
          refine ms_aload_n dX7_mother_73 rfl ?_
          refine ms_getR dX7_mother_74 (fo_X7_77 rfl) (by first | rfl | assumption) rfl (by first | assumption | exact rf_48_25 hR ) ?_
          refine ms_callS2 dX7_mother_77 cv_X7_mother_X7_be (k_X7_be (a := 64) (b := 63) (by decide) (by decide) rfl rfl (by decide) (by decide) (by decide)) (Nat.le_of_ble_eq_true rfl) rfl (fun _ _ z => z.elim) (fun v9 h9 hp9 => ?_)
          obtain ⟨rfl, rfl⟩ := hp9
          refine ms_iload dX7_mother_80 rfl ?_
          refine mi_if_le (tgt := 97) dX7_mother_82 (by decide) (fun c_82 => ?_) (fun c_82 => ?_)
          · have hqu : qv (ic (N 63) (N 64) 0 0 (30 : Nat)) (mvU (M 63) l c) := by
              unfold mvU
              rw [if_pos (by omega), ← x63]
              exact qv_ic
            generalize ic (N 63) (N 64) 0 0 (30 : Nat) = U at hqu ⊢
            have hvu := mvU_ok hT hv hl (c := (c : Int)) (by omega) c_63
            have hwu : wdI (mvU (M 63) l c) := by
              unfold mvU
              split
              · exact hw
              · exact hw.give (by omega) (by omega) (by omega)
            have hT0' : sp_tR (va_up N 64 U) = sp_tR M := by rw [(trP.be (hqu.vok hT hvu)).T]; exact eT
            refine ms_aload_n dX7_mother_97 rfl ?_
            refine ms_callV0 (ci := 7) (r := (RX7, TX7, 48)) dX7_mother_98 cv_X7_mother_X7_goOn (k_X7_goOn (M := va_up N 64 U) hR (by rw [hT0']; exact hT) (by rw [hT0', up_n _ _ (by decide), x57]; exact hlk) (n := n) hn (by rw [up_n _ _ (by decide), x48]; exact hnn) (by rw [up_n _ _ (by decide), x53]; exact hne) (by rw [hT0', up_s]; exact hqu.vok hT hvu)) rfl rfl (by first | rfl | assumption) (Nat.le_of_ble_eq_true rfl) rfl (fun _ _ z => z.elim) (fun v9 h9 hp9 => ?_)
            obtain ⟨N4, rfl, rfl, p1, p64⟩ := hp9
            rw [hT0', up_n (b := 57) _ _ (by decide), up_n (b := 53) _ _ (by decide), up_s, x57, x53] at p64
            have p1 : trP N N4 := (trP.be (hqu.vok hT hvu)).trans p1
            have hgo : mvM (sp_tR M) (M 57) n (M 63) l (c : Int) = wdV true (M 57) (N4 64) l := by
              unfold mvM
              rw [if_pos c_63, p64]
              simp only
              exact ((hqu.run hT hlk false false n _).wv (by omega)).symm
            have hwI : wdI (N4 64) := by
              rw [p64]
              exact wdI.run hT (fun a a0 a1 => by rw [hqu _ (by omega) (by omega), hqu _ (by omega) (by omega)]; exact hwu a a0 a1) false false hn.1 _
            have hv4 : sp_vok (sp_tR M) (N4 64) := by rw [p64]; exact run_vok hT hlk false false hn.1 (hqu.vok hT hvu) _ (by omega)
            have eT4 := (q1.trans p1).T
            have y57 : N4 57 = M 57 := (q1.trans p1).x (by decide)
            have y53 : N4 53 = M 53 := (q1.trans p1).x (by decide)
            refine ms_aload_n dX7_mother_101 rfl ?_
            refine ms_iload_n dX7_mother_102 rfl ?_
            refine ms_callV1 (ci := 7) (r := (RX7, TX7, 48)) dX7_mother_103 cv_X7_mother_X7_weds (k_X7_weds (M := N4) hR (by rw [eT4]; exact hT) (by rw [eT4, y57]; exact hlk) (by rw [eT4]; exact hv4) (l := l) (by rw [y53]; exact hl)) rfl rfl (by first | rfl | assumption) (Nat.le_of_ble_eq_true rfl) rfl (fun _ _ z => z.elim) (fun v9 h9 hp9 => ?_)
            obtain ⟨rfl, rfl⟩ := hp9
            rw [y57, hwI.w (by omega), ← hgo]
            have hg9 := hgb c (by omega)
            refine ms_iload dX7_mother_106 rfl ?_
            refine mi_icmp_lt (tgt := 114) dX7_mother_108 (by decide) (fun c_108 => ?_) (fun c_108 => ?_)
            · refine ms_aload_n dX7_mother_114 rfl ?_
              refine ms_iload_n dX7_mother_115 rfl ?_
              refine ms_callV1 (ci := 7) (r := (RX7, TX7, 48)) dX7_mother_116 cv_X7_mother_X7_weds (k_X7_weds (M := N4) hR (by rw [eT4]; exact hT) (by rw [eT4, y57]; exact hlk) (by rw [eT4]; exact hv4) (l := l) (by rw [y53]; exact hl)) rfl rfl (by first | rfl | assumption) (Nat.le_of_ble_eq_true rfl) rfl (fun _ _ z => z.elim) (fun v9 h9 hp9 => ?_)
              obtain ⟨rfl, rfl⟩ := hp9
              rw [y57, hwI.w (by omega), ← hgo]
              have hg9 := hgb c (by omega)
              refine ms_istore dX7_mother_119 (by decide) rfl ?_
              dsimp only [List.set, Nat.reduceAdd]
              refine ms_iload dX7_mother_121 rfl ?_
              refine mi_iconst dX7_mother_123 ?_
              refine mi_isub dX7_mother_124 ?_
              refine ms_istore_n dX7_mother_125 (by decide) rfl ?_
              dsimp only [List.set, Nat.reduceAdd]
              refine mi_iinc dX7_mother_126 rfl (by decide) rfl ?_
              dsimp only [List.set, Nat.reduceAdd]
              refine ms_goto (tgt := 38) dX7_mother_129 (by decide) ?_
              have i9 := ih (c + 1) N4 (by omega) (q1.trans p1)
              simp only [mmS] at i9
              rw [if_pos (show (mvM (sp_tR M) (M 57) n (M 63) l) (c : Int) < (mmS (mvM (sp_tR M) (M 57) n (M 63) l) c).2 by omega)] at i9
              exact i9
            · refine ms_goto (tgt := 126) dX7_mother_111 (by decide) ?_
              refine mi_iinc dX7_mother_126 rfl (by decide) rfl ?_
              dsimp only [List.set, Nat.reduceAdd]
              refine ms_goto (tgt := 38) dX7_mother_129 (by decide) ?_
              have i9 := ih (c + 1) N4 (by omega) (q1.trans p1)
              simp only [mmS] at i9
              rw [if_neg (by omega)] at i9
              exact i9
          · have hcg := (of_decide_eq_true c_63).resolve_left (by omega)
            refine ms_aload_n dX7_mother_85 rfl ?_
            refine ms_getR dX7_mother_86 (fo_X7_80 rfl) (by first | rfl | assumption) rfl (by first | assumption | exact rf_48_26 hR ) ?_
            refine ms_iload_n dX7_mother_89 rfl ?_
            refine ms_iload dX7_mother_90 rfl ?_
            refine mi_iconst dX7_mother_92 ?_
            refine mi_isub dX7_mother_93 ?_
            refine ms_callS3 dX7_mother_94 cv_X7_mother_X7_give (k_X7_give (M := va_up N 64 (ic (N 63) (N 64) 0 0 (30 : Nat))) (r := 64) (by decide) rfl (l := l) (d := (c : Int) - 1) (by omega) (by omega)) (Nat.le_of_ble_eq_true rfl) rfl (fun _ _ z => z.elim) (fun v9 h9 hp9 => ?_)
            obtain ⟨rfl, rfl⟩ := hp9
            rw [up_s, bx_uu]
            have hqu : qv (sp_give (ic (N 63) (N 64) 0 0 (30 : Nat)) l (((c : Int) - 1) / 3) (((c : Int) - 1) % 3)) (mvU (M 63) l c) := by
              unfold mvU
              rw [if_neg (by omega), ← x63]
              exact qv_give qv_ic (by omega) (by omega) (by omega)
            generalize sp_give (ic (N 63) (N 64) 0 0 (30 : Nat)) l (((c : Int) - 1) / 3) (((c : Int) - 1) % 3) = U at hqu ⊢
            have hvu := mvU_ok hT hv hl (c := (c : Int)) (by omega) c_63
            have hwu : wdI (mvU (M 63) l c) := by
              unfold mvU
              split
              · exact hw
              · exact hw.give (by omega) (by omega) (by omega)
            have hT0' : sp_tR (va_up N 64 U) = sp_tR M := by rw [(trP.be (hqu.vok hT hvu)).T]; exact eT
            refine ms_aload_n dX7_mother_97 rfl ?_
            refine ms_callV0 (ci := 7) (r := (RX7, TX7, 48)) dX7_mother_98 cv_X7_mother_X7_goOn (k_X7_goOn (M := va_up N 64 U) hR (by rw [hT0']; exact hT) (by rw [hT0', up_n _ _ (by decide), x57]; exact hlk) (n := n) hn (by rw [up_n _ _ (by decide), x48]; exact hnn) (by rw [up_n _ _ (by decide), x53]; exact hne) (by rw [hT0', up_s]; exact hqu.vok hT hvu)) rfl rfl (by first | rfl | assumption) (Nat.le_of_ble_eq_true rfl) rfl (fun _ _ z => z.elim) (fun v9 h9 hp9 => ?_)
            obtain ⟨N4, rfl, rfl, p1, p64⟩ := hp9
            rw [hT0', up_n (b := 57) _ _ (by decide), up_n (b := 53) _ _ (by decide), up_s, x57, x53] at p64
            have p1 : trP N N4 := (trP.be (hqu.vok hT hvu)).trans p1
            have hgo : mvM (sp_tR M) (M 57) n (M 63) l (c : Int) = wdV true (M 57) (N4 64) l := by
              unfold mvM
              rw [if_pos c_63, p64]
              simp only
              exact ((hqu.run hT hlk false false n _).wv (by omega)).symm
            have hwI : wdI (N4 64) := by
              rw [p64]
              exact wdI.run hT (fun a a0 a1 => by rw [hqu _ (by omega) (by omega), hqu _ (by omega) (by omega)]; exact hwu a a0 a1) false false hn.1 _
            have hv4 : sp_vok (sp_tR M) (N4 64) := by rw [p64]; exact run_vok hT hlk false false hn.1 (hqu.vok hT hvu) _ (by omega)
            have eT4 := (q1.trans p1).T
            have y57 : N4 57 = M 57 := (q1.trans p1).x (by decide)
            have y53 : N4 53 = M 53 := (q1.trans p1).x (by decide)
            refine ms_aload_n dX7_mother_101 rfl ?_
            refine ms_iload_n dX7_mother_102 rfl ?_
            refine ms_callV1 (ci := 7) (r := (RX7, TX7, 48)) dX7_mother_103 cv_X7_mother_X7_weds (k_X7_weds (M := N4) hR (by rw [eT4]; exact hT) (by rw [eT4, y57]; exact hlk) (by rw [eT4]; exact hv4) (l := l) (by rw [y53]; exact hl)) rfl rfl (by first | rfl | assumption) (Nat.le_of_ble_eq_true rfl) rfl (fun _ _ z => z.elim) (fun v9 h9 hp9 => ?_)
            obtain ⟨rfl, rfl⟩ := hp9
            rw [y57, hwI.w (by omega), ← hgo]
            have hg9 := hgb c (by omega)
            refine ms_iload dX7_mother_106 rfl ?_
            refine mi_icmp_lt (tgt := 114) dX7_mother_108 (by decide) (fun c_108 => ?_) (fun c_108 => ?_)
            · refine ms_aload_n dX7_mother_114 rfl ?_
              refine ms_iload_n dX7_mother_115 rfl ?_
              refine ms_callV1 (ci := 7) (r := (RX7, TX7, 48)) dX7_mother_116 cv_X7_mother_X7_weds (k_X7_weds (M := N4) hR (by rw [eT4]; exact hT) (by rw [eT4, y57]; exact hlk) (by rw [eT4]; exact hv4) (l := l) (by rw [y53]; exact hl)) rfl rfl (by first | rfl | assumption) (Nat.le_of_ble_eq_true rfl) rfl (fun _ _ z => z.elim) (fun v9 h9 hp9 => ?_)
              obtain ⟨rfl, rfl⟩ := hp9
              rw [y57, hwI.w (by omega), ← hgo]
              have hg9 := hgb c (by omega)
              refine ms_istore dX7_mother_119 (by decide) rfl ?_
              dsimp only [List.set, Nat.reduceAdd]
              refine ms_iload dX7_mother_121 rfl ?_
              refine mi_iconst dX7_mother_123 ?_
              refine mi_isub dX7_mother_124 ?_
              refine ms_istore_n dX7_mother_125 (by decide) rfl ?_
              dsimp only [List.set, Nat.reduceAdd]
              refine mi_iinc dX7_mother_126 rfl (by decide) rfl ?_
              dsimp only [List.set, Nat.reduceAdd]
              refine ms_goto (tgt := 38) dX7_mother_129 (by decide) ?_
              have i9 := ih (c + 1) N4 (by omega) (q1.trans p1)
              simp only [mmS] at i9
              rw [if_pos (show (mvM (sp_tR M) (M 57) n (M 63) l) (c : Int) < (mmS (mvM (sp_tR M) (M 57) n (M 63) l) c).2 by omega)] at i9
              exact i9
            · refine ms_goto (tgt := 126) dX7_mother_111 (by decide) ?_
              refine mi_iinc dX7_mother_126 rfl (by decide) rfl ?_
              dsimp only [List.set, Nat.reduceAdd]
              refine ms_goto (tgt := 38) dX7_mother_129 (by decide) ?_
              have i9 := ih (c + 1) N4 (by omega) (q1.trans p1)
              simp only [mmS] at i9
              rw [if_neg (by omega)] at i9
              exact i9
        · refine ms_goto (tgt := 126) dX7_mother_66 (by decide) ?_
          refine mi_iinc dX7_mother_126 rfl (by decide) rfl ?_
          dsimp only [List.set, Nat.reduceAdd]
          refine ms_goto (tgt := 38) dX7_mother_129 (by decide) ?_
          have i9 := ih (c + 1) N (by omega) q1
          simp only [mmS] at i9
          rw [if_neg (by rw [show mvM (sp_tR M) (M 57) n (M 63) l (c : Int) = 1001 by unfold mvM; rw [c_63, if_neg (by decide)]]; omega)] at i9
          exact i9

set_option maxHeartbeats 4000000 in
set_option maxRecDepth 100000 in
theorem k_X7_mother {S : mx_Sc} {f : Bool} {M : Nat → Int → Int} {L : Nat → Nat → Int64} {Rf : Nat → Nat → Option Nat} (hR : mx_rf Rf) (hT : sp_tok (sp_tR M)) (hv : sp_vok (sp_tR M) (M 63)) (hlk : sp_lok (sp_tR M) (M 57)) {n : Int} (hn : 0 ≤ n ∧ n ≤ 99) (hnn : M 48 29 = n) (hne : n ≤ M 53 5) (hw : wdI (M 63)) {l : Int} (hl32 : -2147483648 ≤ l ∧ l ≤ 2147483647) {k : Int} (hk32 : -2147483648 ≤ k ∧ k ≤ 2147483647) (hl : 0 ≤ l ∧ l < M 53 1) (hk : 0 ≤ k ∧ k < 2) : mx_C S mX7_mother [.ref 48, .int (iI l), .int (iI k)] (f, mx_SH, M, L, Rf) 0 0 (fun v9 h9 => ∃ N, h9 = (f, mx_SH, N, L, Rf) ∧ ctP M N 0 ∧ v9 = some (.int (iI (if sp_out (M 63) l = true then -1 else if k = 0 then (mmS (mvM (sp_tR M) (M 57) n (M 63) l) 9).1 else if (mmS (mvM (sp_tR M) (M 57) n (M 63) l) 9).2 = 1000 then -1 else (mmS (mvM (sp_tR M) (M 57) n (M 63) l) 9).2)))) (fun _ _ => False) := by
  refine mx_C_of (by decide) (by simp [Value.category]) (Nat.le_of_ble_eq_true rfl) rfl ?_
  show mx_E S mX7_mother 0 [some (.ref 48), some (.int (iI l)), some (.int (iI k)), none, none, none] [] (f, mx_SH, M, L, Rf) 0 0 _ _
  have hT0 : 1 ≤ M 53 0 ∧ M 53 0 ≤ 30 := hT.1
  have hT1 : 0 ≤ M 53 1 ∧ M 53 1 ≤ 6 := hT.2.1
  have hT5 : 1 ≤ M 53 5 ∧ M 53 5 ≤ 99 := hT.2.2.2.2.2.1
  have hT6 : 0 ≤ M 53 6 ∧ M 53 6 ≤ 10 := hT.2.2.2.2.2.2.1
  refine ms_aload_n dX7_mother_0 rfl ?_
  refine mi_iconst dX7_mother_1 ?_
  refine ms_putI (z := 4) dX7_mother_2 (fo_X7_131 rfl) (by first | rfl | assumption) rfl rfl rfl ?_
  refine mx_gen (fun N => cdP M N 0) cdP.mk' (fun N hN => ?_)
  have e53 : N 53 = M 53 := hN.1 53 (by decide)
  have e63 : N 63 = M 63 := hN.1 63 (by decide)
  have eTR : sp_tR N = sp_tR M := by simp only [sp_tR, hN.1 53 (by decide), hN.1 54 (by decide), hN.1 55 (by decide), hN.1 58 (by decide), hN.1 59 (by decide), hN.1 60 (by decide)]
  have e29 : N 48 29 = n := (hN.2.2 29 (by decide)).trans hnn
  have e57 : N 57 = M 57 := hN.1 57 (by decide)
  refine ms_aload_n dX7_mother_5 rfl ?_
  refine ms_iload_n dX7_mother_6 rfl ?_
  refine ms_callV1 (ci := 7) (r := (RX7, TX7, 48)) dX7_mother_7 cv_X7_mother_X7_isLamp (k_X7_isLamp (M := N) hR (by rw [e53]; exact hT1) hl32) rfl rfl (by first | rfl | assumption) (Nat.le_of_ble_eq_true rfl) rfl (fun _ _ z => z.elim) (fun v9 h9 hp9 => ?_)
  obtain ⟨rfl, rfl⟩ := hp9
  rw [e53]
  refine mi_if_eqB (tgt := 22) dX7_mother_10 (by decide) (fun c_10 => ?_) (fun c_10 => ?_)
  · exact absurd (of_decide_eq_false c_10) (by omega)
  · refine ms_iload_n dX7_mother_13 rfl ?_
    refine mi_if_lt (tgt := 22) dX7_mother_14 (by decide) (fun c_14 => ?_) (fun c_14 => ?_)
    · exact absurd c_14 (by omega)
    · refine ms_iload_n dX7_mother_17 rfl ?_
      refine mi_iconst dX7_mother_18 ?_
      refine mi_icmp_le (tgt := 28) dX7_mother_19 (by decide) (fun c_19 => ?_) (fun c_19 => ?_)
      · refine mi_iconst dX7_mother_28 ?_
        refine ms_istore_n dX7_mother_29 (by decide) rfl ?_
        dsimp only [List.set, Nat.reduceAdd]
        refine mi_sipush dX7_mother_30 (by decide) ?_
        refine ms_istore dX7_mother_33 (by decide) rfl ?_
        dsimp only [List.set, Nat.reduceAdd]
        refine mi_iconst dX7_mother_35 ?_
        refine ms_istore dX7_mother_36 (by decide) rfl ?_
        dsimp only [List.set, Nat.reduceAdd]
        by_cases hno : sp_out (M 63) l = true
        · refine ms_iload dX7_mother_38 rfl ?_
          refine mi_bipush dX7_mother_40 (by decide) ?_
          refine mi_icmp_ge (tgt := 132) dX7_mother_42 (by decide) (fun c_42 => ?_) (fun c_42 => ?_)
          · exact absurd c_42 (by omega)
          · refine ms_aload_n dX7_mother_45 rfl ?_
            refine ms_getR dX7_mother_46 (fo_X7_77 rfl) (by first | rfl | assumption) rfl (by first | assumption | exact rf_48_25 hR ) ?_
            refine ms_iload_n dX7_mother_49 rfl ?_
            refine ms_callS2 dX7_mother_50 cv_X7_mother_X7_isOut (k_X7_isOut (M := N) (r := 63) (by decide) rfl (l := l) (by omega) (by rw [e63]; exact (hv.2 l (by omega) (by omega)).1)) (Nat.le_of_ble_eq_true rfl) rfl (fun _ _ z => z.elim) (fun v9 h9 hp9 => ?_)
            obtain ⟨rfl, rfl⟩ := hp9
            rw [e63, hno]
            refine mi_if_neB (tgt := 132) dX7_mother_53 (by decide) (fun c_53 => ?_) (fun c_53 => ?_)
            · refine ms_iload_n dX7_mother_132 rfl ?_
              refine mi_if_ne (tgt := 140) dX7_mother_133 (by decide) (fun c_133 => ?_) (fun c_133 => ?_)
              · refine ms_iload dX7_mother_140 rfl ?_
                refine mi_sipush dX7_mother_142 (by decide) ?_
                refine mi_icmp_ne (tgt := 152) dX7_mother_145 (by decide) (fun c_145 => ?_) (fun c_145 => ?_)
                · exact absurd rfl c_145
                · refine mi_iconst dX7_mother_148 ?_
                  refine ms_goto (tgt := 154) dX7_mother_149 (by decide) ?_
                  refine ms_ret dX7_mother_154 rfl ⟨N, rfl, hN.tr trP.rf, by rw [if_pos rfl]⟩ (by simp)
              · refine ms_iload_n dX7_mother_136 rfl ?_
                refine ms_goto (tgt := 154) dX7_mother_137 (by decide) ?_
                refine ms_ret dX7_mother_154 rfl ⟨N, rfl, hN.tr trP.rf, by rw [if_pos rfl]⟩ (by simp)
            · exact absurd c_53 (by decide)
        · have hno2 : sp_out (M 63) l = false := by cases e : sp_out (M 63) l; rfl; exact absurd e hno
          refine ms_conseq (fun v9 h9 hp => ?_) (fun _ _ z => z) (l_X7_mo (S := S) (f := f) (L := L) (M := N) (n := n) (l := l) (k := k) hR (by rw [eTR]; exact hT) (by rw [eTR, e63]; exact hv) (by rw [eTR, e57]; exact hlk) hn e29 (by rw [e53]; exact hne) (by rw [e63]; exact hw) (by rw [e53]; exact hl) hk (by rw [e63]; exact hno2) 9 0 N (by omega) trP.rf)
          obtain ⟨N2, y1, y2, y3⟩ := hp
          rw [eTR, e57, e63] at y3
          exact ⟨N2, y1, hN.tr y2, by rw [if_neg hno]; exact y3⟩
      · exact absurd c_19 (by omega)

set_option maxHeartbeats 4000000 in
set_option maxRecDepth 100000 in
theorem k_X7_mother_x {S : mx_Sc} {f : Bool} {M : Nat → Int → Int} {L : Nat → Nat → Int64} {Rf : Nat → Nat → Option Nat} (hR : mx_rf Rf) (hT : sp_tok (sp_tR M)) {l : Int} (hl32 : -2147483648 ≤ l ∧ l ≤ 2147483647) {k : Int} (hk32 : -2147483648 ≤ k ∧ k ≤ 2147483647) (hc : ¬ ((0 ≤ l ∧ l < M 53 1) ∧ (0 ≤ k ∧ k < 2))) : mx_C S mX7_mother [.ref 48, .int (iI l), .int (iI k)] (f, mx_SH, M, L, Rf) 0 0 (fun v9 h9 => ∃ N, h9 = (f, mx_SH, N, L, Rf) ∧ cdP M N 1 ∧ v9 = some (.int (iI (0)))) (fun _ _ => False) := by
  refine mx_C_of (by decide) (by simp [Value.category]) (Nat.le_of_ble_eq_true rfl) rfl ?_
  show mx_E S mX7_mother 0 [some (.ref 48), some (.int (iI l)), some (.int (iI k)), none, none, none] [] (f, mx_SH, M, L, Rf) 0 0 _ _
  have hT0 : 1 ≤ M 53 0 ∧ M 53 0 ≤ 30 := hT.1
  have hT1 : 0 ≤ M 53 1 ∧ M 53 1 ≤ 6 := hT.2.1
  have hT5 : 1 ≤ M 53 5 ∧ M 53 5 ≤ 99 := hT.2.2.2.2.2.1
  have hT6 : 0 ≤ M 53 6 ∧ M 53 6 ≤ 10 := hT.2.2.2.2.2.2.1
  refine ms_aload_n dX7_mother_0 rfl ?_
  refine mi_iconst dX7_mother_1 ?_
  refine ms_putI (z := 4) dX7_mother_2 (fo_X7_131 rfl) (by first | rfl | assumption) rfl rfl rfl ?_
  refine mx_gen (fun N => cdP M N 0) cdP.mk' (fun N hN => ?_)
  have e53 : N 53 = M 53 := hN.1 53 (by decide)
  have e63 : N 63 = M 63 := hN.1 63 (by decide)
  have eTR : sp_tR N = sp_tR M := by simp only [sp_tR, hN.1 53 (by decide), hN.1 54 (by decide), hN.1 55 (by decide), hN.1 58 (by decide), hN.1 59 (by decide), hN.1 60 (by decide)]
  refine ms_aload_n dX7_mother_5 rfl ?_
  refine ms_iload_n dX7_mother_6 rfl ?_
  refine ms_callV1 (ci := 7) (r := (RX7, TX7, 48)) dX7_mother_7 cv_X7_mother_X7_isLamp (k_X7_isLamp (M := N) hR (by rw [e53]; exact hT1) hl32) rfl rfl (by first | rfl | assumption) (Nat.le_of_ble_eq_true rfl) rfl (fun _ _ z => z.elim) (fun v9 h9 hp9 => ?_)
  obtain ⟨rfl, rfl⟩ := hp9
  rw [e53]
  refine mi_if_eqB (tgt := 22) dX7_mother_10 (by decide) (fun c_10 => ?_) (fun c_10 => ?_)
  · refine ms_aload_n dX7_mother_22 rfl ?_
    refine mi_iconst dX7_mother_23 ?_
    refine ms_callV1 (ci := 7) (r := (RX7, TX7, 48)) dX7_mother_24 cv_X7_mother_X7_fail (k_X7_fail (M := N) hR) rfl rfl (by first | rfl | assumption) (Nat.le_of_ble_eq_true rfl) rfl (fun _ _ z => z.elim) (fun v9 h9 hp9 => ?_)
    obtain ⟨rfl, rfl⟩ := hp9
    refine ms_ret dX7_mother_27 rfl ⟨_, rfl, hN.set, rfl⟩ (by simp)
  · refine ms_iload_n dX7_mother_13 rfl ?_
    refine mi_if_lt (tgt := 22) dX7_mother_14 (by decide) (fun c_14 => ?_) (fun c_14 => ?_)
    · refine ms_aload_n dX7_mother_22 rfl ?_
      refine mi_iconst dX7_mother_23 ?_
      refine ms_callV1 (ci := 7) (r := (RX7, TX7, 48)) dX7_mother_24 cv_X7_mother_X7_fail (k_X7_fail (M := N) hR) rfl rfl (by first | rfl | assumption) (Nat.le_of_ble_eq_true rfl) rfl (fun _ _ z => z.elim) (fun v9 h9 hp9 => ?_)
      obtain ⟨rfl, rfl⟩ := hp9
      refine ms_ret dX7_mother_27 rfl ⟨_, rfl, hN.set, rfl⟩ (by simp)
    · refine ms_iload_n dX7_mother_17 rfl ?_
      refine mi_iconst dX7_mother_18 ?_
      refine mi_icmp_le (tgt := 28) dX7_mother_19 (by decide) (fun c_19 => ?_) (fun c_19 => ?_)
      · exact absurd ⟨of_decide_eq_true c_10, by omega⟩ hc
      · refine ms_aload_n dX7_mother_22 rfl ?_
        refine mi_iconst dX7_mother_23 ?_
        refine ms_callV1 (ci := 7) (r := (RX7, TX7, 48)) dX7_mother_24 cv_X7_mother_X7_fail (k_X7_fail (M := N) hR) rfl rfl (by first | rfl | assumption) (Nat.le_of_ble_eq_true rfl) rfl (fun _ _ z => z.elim) (fun v9 h9 hp9 => ?_)
        obtain ⟨rfl, rfl⟩ := hp9
        refine ms_ret dX7_mother_27 rfl ⟨_, rfl, hN.set, rfl⟩ (by simp)

