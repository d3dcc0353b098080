/-- the same for all lamps that there are -/
def qw (t : sp_T) (v u : Int → Int) : Prop := (∀ i, 0 ≤ i → i < 3 * t.1 1 → v i = u i) ∧ ∀ i, 18 ≤ i → i < 30 → v i = u i
theorem qw.qo {t : sp_T} (hT : sp_tok t) {v u : Int → Int} (h : qw t v u) : qo t v u := ⟨h.1, fun l l0 l1 => by have := hT.2.1; unfold sp_out; rw [h.2 (18 + l) (by omega) (by omega)]⟩
theorem qv.qw {t : sp_T} (hT : sp_tok t) {v u : Int → Int} (h : qv v u) : qw t v u := ⟨fun i i0 i1 => h i i0 (by have := hT.2.1; omega), fun i i0 i1 => h i (by omega) i1⟩
theorem qw_iu {t : sp_T} {v u : Int → Int} (h : qw t v u) (k x : Int) : qw t (iu v k x) (iu u k x) := by
  refine ⟨fun i i0 i1 => ?_, fun i i0 i1 => ?_⟩
  · simp only [iu]
    split
    · rfl
    · exact h.1 i i0 i1
  · simp only [iu]
    split
    · rfl
    · exact h.2 i i0 i1
theorem qw_inn {t : sp_T} (hT : sp_tok t) {v u : Int → Int} (h : qw t v u) {n a b : Int} (ha : 0 ≤ a ∧ a < t.1 1) (hb : 0 ≤ b ∧ b < t.1 1) : qw t (sp_in t n a b v) (sp_in t n a b u) := by
  have hq := h.qo hT
  unfold sp_in
  rw [hq.out ha, hq.out hb, hq.far ha hb]
  split
  · exact h
  · unfold sp_marry
    exact qw_iu (qw_iu (qw_iu (qw_iu h _ _) _ _) _ _) _ _
theorem qw_wed {t : sp_T} (hT : sp_tok t) {v u : Int → Int} (h : qw t v u) (n : Int) : qw t (sp_wed t n v) (sp_wed t n u) := by
  have h1 := hT.2.1
  unfold sp_wed
  refine itN_c (R := qw t) _ (fun i x y hi hr => ?_) _ _ h
  unfold sp_wedA
  exact itN_c (R := qw t) _ (fun j x y hj hr => qw_inn hT hr (by omega) (by omega)) _ _ hr
theorem qw_mv {t : sp_T} (hT : sp_tok t) {v u : Int → Int} (h : qw t v u) {lk : Int → Int} (hlk : sp_lok t lk) (hf ng : Bool) (n : Int) : qw t (sp_mv t lk hf ng n v) (sp_mv t lk hf ng n u) := by
  have h1 := hT.2.1
  have hq := h.qo hT
  refine ⟨fun i i0 i1 => ?_, fun i i0 i1 => ?_⟩
  · unfold sp_mv
    rw [hq.out (a := i / 3) (by omega)]
    split
    · exact (hq.move hT (by omega) (hlk _ (by omega) (by omega)) hf ng).at (by omega) (by omega)
    · exact h.1 i i0 i1
  · unfold sp_mv
    rw [if_neg (by omega), if_neg (by omega)]
    exact h.2 i i0 i1
theorem qw_run {t : sp_T} (hT : sp_tok t) {lk : Int → Int} (hlk : sp_lok t lk) (hf ng : Bool) (n : Int) {v u : Int → Int} (h : qw t v u) : ∀ k : Nat, qw t (sp_run t lk hf ng n k v) (sp_run t lk hf ng n k u)
  | 0 => h
  | k + 1 => by
    simp only [sp_run]
    unfold sp_night
    exact qw_wed hT (qw_mv hT (qw_run hT hlk hf ng n h k) hlk hf ng (n + k)) (n + k)
set_option maxHeartbeats 4000000 in
set_option maxRecDepth 100000 in
theorem l_X7_nrI {S : mx_Sc} {f : Bool} {M : Nat → Int → Int} {L : Nat → Nat → Int64} {Rf : Nat → Nat → Option Nat} (hR : mx_rf Rf) (hT : sp_tok (sp_tR M)) (hv : sp_vok (sp_tR M) (M 63)) {p : Int} (hp : 0 ≤ p ∧ p ≤ 30) {P : Option Value → mx_H → Prop} {PX : String → mx_H → Prop} {x c0 : Int} (hx : 0 ≤ x ∧ x < M 53 1) : ∀ (kk : Nat) (j : Nat), (j : Int) ≥ x + 1 → (j : Int) + kk = M 53 1 → (∀ z4 : Int, mx_E S mX7_near 102 [some (.ref 48), some (.int (iI p)), some (.int (iI (c0 + nrI (sp_tR M) (M 63) p x (M 53 1).toNat))), some (.int (iI x)), some (.int (iI z4))] [] (f, mx_SH, M, L, Rf) 0 0 P PX) → mx_E S mX7_near 40 [some (.ref 48), some (.int (iI p)), some (.int (iI (c0 + nrI (sp_tR M) (M 63) p x j))), some (.int (iI x)), some (.int (iI (j : Int)))] [] (f, mx_SH, M, L, Rf) 0 0 P PX := by
  intro kk
  induction kk with
  | zero => 
    intro j g0 g1 hK
    have hT0 : 1 ≤ M 53 0 ∧ M 53 0 ≤ 30 := hT.1
    have hT1 : 0 ≤ M 53 1 ∧ M 53 1 ≤ 6 := hT.2.1
    have hT5 : 1 ≤ M 53 5 ∧ M 53 5 ≤ 99 := hT.2.2.2.2.2.1
    have hT6 : 0 ≤ M 53 6 ∧ M 53 6 ≤ 10 := hT.2.2.2.2.2.2.1
    refine ms_iload dX7_near_40 rfl ?_
    refine ms_aload_n dX7_near_42 rfl ?_
    refine ms_getR dX7_near_43 (fo_X7_43 rfl) (by first | rfl | assumption) rfl (by first | assumption | exact rf_48_5 hR ) ?_
    refine mi_iconst dX7_near_46 ?_
    refine ms_iald dX7_near_47 (by first | rfl | assumption) ?_
    refine mi_icmp_ge (tgt := 102) dX7_near_48 (by decide) (fun c_48 => ?_) (fun c_48 => ?_)
    · rw [show j = (M 53 1).toNat by omega]
      exact hK _
    · exact absurd c_48 (by omega)
  | succ kk ih => 
    intro j g0 g1 hK
    have hT0 : 1 ≤ M 53 0 ∧ M 53 0 ≤ 30 := hT.1
    have hT1 : 0 ≤ M 53 1 ∧ M 53 1 ≤ 6 := hT.2.1
    have hT5 : 1 ≤ M 53 5 ∧ M 53 5 ≤ 99 := hT.2.2.2.2.2.1
    have hT6 : 0 ≤ M 53 6 ∧ M 53 6 ≤ 10 := hT.2.2.2.2.2.2.1
    have hfar := sp_far_le (t := sp_tR M) hv (a := x) (b := (j : Int)) hx ⟨by omega, by show (j : Int) < M 53 1; omega⟩
    simp only at hfar
    refine ms_iload dX7_near_40 rfl ?_
    refine ms_aload_n dX7_near_42 rfl ?_
    refine ms_getR dX7_near_43 (fo_X7_43 rfl) (by first | rfl | assumption) rfl (by first | assumption | exact rf_48_5 hR ) ?_
    refine mi_iconst dX7_near_46 ?_
    refine ms_iald dX7_near_47 (by first | rfl | assumption) ?_
    refine mi_icmp_ge (tgt := 102) dX7_near_48 (by decide) (fun c_48 => ?_) (fun c_48 => ?_)
    · exact absurd c_48 (by omega)
    · refine ms_iload_n dX7_near_51 rfl ?_
      refine ms_aload_n dX7_near_52 rfl ?_
      refine ms_getR dX7_near_53 (fo_X7_77 rfl) (by first | rfl | assumption) rfl (by first | assumption | exact rf_48_25 hR ) ?_
      refine ms_iload_n dX7_near_56 rfl ?_
      refine ms_callS2 dX7_near_57 cv_X7_near_X7_isOut (k_X7_isOut (r := 63) (by decide) rfl (l := x) (by omega) (hv.2 x (by omega) (by omega)).1) (Nat.le_of_ble_eq_true rfl) rfl (fun _ _ z => z.elim) (fun v9 h9 hp9 => ?_)
      obtain ⟨rfl, rfl⟩ := hp9
      refine mi_if_neB (tgt := 93) dX7_near_60 (by decide) (fun c_60 => ?_) (fun c_60 => ?_)
      · refine mi_iconst dX7_near_93 ?_
        refine mi_iadd dX7_near_94 ?_
        refine ms_istore_n dX7_near_95 (by decide) rfl ?_
        dsimp only [List.set, Nat.reduceAdd]
        refine mi_iinc dX7_near_96 rfl (by decide) rfl ?_
        dsimp only [List.set, Nat.reduceAdd]
        refine ms_goto (tgt := 40) dX7_near_99 (by decide) ?_
        have i9 := ih (j + 1) (by omega) (by omega) hK
        rw [show nrI (sp_tR M) (M 63) p x (j + 1) = nrI (sp_tR M) (M 63) p x j from by simp only [nrI]; rw [if_neg (by rintro ⟨_, z, _⟩; rw [c_60] at z; cases z), Int.add_zero]] at i9
        rw [Int.add_zero]
        exact i9
      · refine ms_aload_n dX7_near_63 rfl ?_
        refine ms_getR dX7_near_64 (fo_X7_77 rfl) (by first | rfl | assumption) rfl (by first | assumption | exact rf_48_25 hR ) ?_
        refine ms_iload dX7_near_67 rfl ?_
        refine ms_callS2 dX7_near_69 cv_X7_near_X7_isOut (k_X7_isOut (r := 63) (by decide) rfl (l := (j : Int)) (by omega) (hv.2 (j : Int) (by omega) (by omega)).1) (Nat.le_of_ble_eq_true rfl) rfl (fun _ _ z => z.elim) (fun v9 h9 hp9 => ?_)
        obtain ⟨rfl, rfl⟩ := hp9
        refine mi_if_neB (tgt := 93) dX7_near_72 (by decide) (fun c_72 => ?_) (fun c_72 => ?_)
        · refine mi_iconst dX7_near_93 ?_
          refine mi_iadd dX7_near_94 ?_
          refine ms_istore_n dX7_near_95 (by decide) rfl ?_
          dsimp only [List.set, Nat.reduceAdd]
          refine mi_iinc dX7_near_96 rfl (by decide) rfl ?_
          dsimp only [List.set, Nat.reduceAdd]
          refine ms_goto (tgt := 40) dX7_near_99 (by decide) ?_
          have i9 := ih (j + 1) (by omega) (by omega) hK
          rw [show nrI (sp_tR M) (M 63) p x (j + 1) = nrI (sp_tR M) (M 63) p x j from by simp only [nrI]; rw [if_neg (by rintro ⟨_, _, z, _⟩; rw [c_72] at z; cases z), Int.add_zero]] at i9
          rw [Int.add_zero]
          exact i9
        · refine ms_aload_n dX7_near_75 rfl ?_
          refine ms_getR dX7_near_76 (fo_X7_77 rfl) (by first | rfl | assumption) rfl (by first | assumption | exact rf_48_25 hR ) ?_
          refine ms_iload_n dX7_near_79 rfl ?_
          refine ms_iload dX7_near_80 rfl ?_
          refine ms_callS3 dX7_near_82 cv_X7_near_X7_farOf (k_X7_farOf (r := 63) (by decide) rfl hT hv (a := x) (b := (j : Int)) hx ⟨by omega, by show (j : Int) < M 53 1; omega⟩) (Nat.le_of_ble_eq_true rfl) rfl (fun _ _ z => z.elim) (fun v9 h9 hp9 => ?_)
          obtain ⟨rfl, rfl⟩ := hp9
          refine ms_iload_n dX7_near_85 rfl ?_
          refine mi_icmp_gt (tgt := 93) dX7_near_86 (by decide) (fun c_86 => ?_) (fun c_86 => ?_)
          · refine mi_iconst dX7_near_93 ?_
            refine mi_iadd dX7_near_94 ?_
            refine ms_istore_n dX7_near_95 (by decide) rfl ?_
            dsimp only [List.set, Nat.reduceAdd]
            refine mi_iinc dX7_near_96 rfl (by decide) rfl ?_
            dsimp only [List.set, Nat.reduceAdd]
            refine ms_goto (tgt := 40) dX7_near_99 (by decide) ?_
            have i9 := ih (j + 1) (by omega) (by omega) hK
            rw [show nrI (sp_tR M) (M 63) p x (j + 1) = nrI (sp_tR M) (M 63) p x j from by simp only [nrI]; rw [if_neg (by rintro ⟨_, _, _, z⟩; omega), Int.add_zero]] at i9
            rw [Int.add_zero]
            exact i9
          · refine mi_iconst dX7_near_89 ?_
            refine ms_goto (tgt := 94) dX7_near_90 (by decide) ?_
            refine mi_iadd dX7_near_94 ?_
            refine ms_istore_n dX7_near_95 (by decide) rfl ?_
            dsimp only [List.set, Nat.reduceAdd]
            refine mi_iinc dX7_near_96 rfl (by decide) rfl ?_
            dsimp only [List.set, Nat.reduceAdd]
            refine ms_goto (tgt := 40) dX7_near_99 (by decide) ?_
            have i9 := ih (j + 1) (by omega) (by omega) hK
            rw [show c0 + nrI (sp_tR M) (M 63) p x (j + 1) = c0 + nrI (sp_tR M) (M 63) p x j + 1 from by simp only [nrI]; rw [if_pos ⟨by omega, c_60, c_72, by omega⟩, Int.add_assoc]] at i9
            exact i9

set_option maxHeartbeats 4000000 in
set_option maxRecDepth 100000 in
theorem l_X7_nrO {S : mx_Sc} {f : Bool} {M : Nat → Int → Int} {L : Nat → Nat → Int64} {Rf : Nat → Nat → Option Nat} (hR : mx_rf Rf) (hT : sp_tok (sp_tR M)) (hv : sp_vok (sp_tR M) (M 63)) {p : Int} (hp : 0 ≤ p ∧ p ≤ 30) : ∀ (kk : Nat) (i : Nat) (o4 : Option Value), (i : Int) + kk = M 53 1 → mx_E S mX7_near 25 [some (.ref 48), some (.int (iI p)), some (.int (iI (nrO (sp_tR M) (M 63) p i))), some (.int (iI (i : Int))), o4] [] (f, mx_SH, M, L, Rf) 0 0 (fun v9 h9 => h9 = (f, mx_SH, M, L, Rf) ∧ v9 = some (.int (iI (nrO (sp_tR M) (M 63) p (M 53 1).toNat)))) (fun _ _ => False) := by
  intro kk
  induction kk with
  | zero => 
    intro i o4 g1
    have hT0 : 1 ≤ M 53 0 ∧ M 53 0 ≤ 30 := hT.1
    have hT1 : 0 ≤ M 53 1 ∧ M 53 1 ≤ 6 := hT.2.1
    have hT5 : 1 ≤ M 53 5 ∧ M 53 5 ≤ 99 := hT.2.2.2.2.2.1
    have hT6 : 0 ≤ M 53 6 ∧ M 53 6 ≤ 10 := hT.2.2.2.2.2.2.1
    refine ms_iload_n dX7_near_25 rfl ?_
    refine ms_aload_n dX7_near_26 rfl ?_
    refine ms_getR dX7_near_27 (fo_X7_43 rfl) (by first | rfl | assumption) rfl (by first | assumption | exact rf_48_5 hR ) ?_
    refine mi_iconst dX7_near_30 ?_
    refine ms_iald dX7_near_31 (by first | rfl | assumption) ?_
    refine mi_icmp_ge (tgt := 108) dX7_near_32 (by decide) (fun c_32 => ?_) (fun c_32 => ?_)
    · refine ms_iload_n dX7_near_108 rfl ?_
      refine ms_ret dX7_near_109 rfl ⟨rfl, by rw [show (M 53 1).toNat = i by omega]⟩ (by simp)
    · exact absurd c_32 (by omega)
  | succ kk ih => 
    intro i o4 g1
    have hT0 : 1 ≤ M 53 0 ∧ M 53 0 ≤ 30 := hT.1
    have hT1 : 0 ≤ M 53 1 ∧ M 53 1 ≤ 6 := hT.2.1
    have hT5 : 1 ≤ M 53 5 ∧ M 53 5 ≤ 99 := hT.2.2.2.2.2.1
    have hT6 : 0 ≤ M 53 6 ∧ M 53 6 ≤ 10 := hT.2.2.2.2.2.2.1
    refine ms_iload_n dX7_near_25 rfl ?_
    refine ms_aload_n dX7_near_26 rfl ?_
    refine ms_getR dX7_near_27 (fo_X7_43 rfl) (by first | rfl | assumption) rfl (by first | assumption | exact rf_48_5 hR ) ?_
    refine mi_iconst dX7_near_30 ?_
    refine ms_iald dX7_near_31 (by first | rfl | assumption) ?_
    refine mi_icmp_ge (tgt := 108) dX7_near_32 (by decide) (fun c_32 => ?_) (fun c_32 => ?_)
    · exact absurd c_32 (by omega)
    · refine ms_iload_n dX7_near_35 rfl ?_
      refine mi_iconst dX7_near_36 ?_
      refine mi_iadd dX7_near_37 ?_
      refine ms_istore dX7_near_38 (by decide) rfl ?_
      dsimp only [List.set, Nat.reduceAdd]
      have i9 := l_X7_nrI (S := S) (f := f) (L := L) (P := (fun v9 h9 => h9 = (f, mx_SH, M, L, Rf) ∧ v9 = some (.int (iI (nrO (sp_tR M) (M 63) p (M 53 1).toNat))))) (PX := fun _ _ => False) hR hT hv hp (x := (i : Int)) (c0 := nrO (sp_tR M) (M 63) p i) ⟨by omega, by omega⟩ kk (i + 1) (by omega) (by omega)
      rw [nrI_0 (i + 1) (by omega), Int.add_zero] at i9
      refine i9 (fun z4 => ?_)
      refine mi_iinc dX7_near_102 rfl (by decide) rfl ?_
      dsimp only [List.set, Nat.reduceAdd]
      refine ms_goto (tgt := 25) dX7_near_105 (by decide) ?_
      exact ih (i + 1) _ (by omega)

set_option maxHeartbeats 4000000 in
set_option maxRecDepth 100000 in
theorem k_X7_near {S : mx_Sc} {f : Bool} {M : Nat → Int → Int} {L : Nat → Nat → Int64} {Rf : Nat → Nat → Option Nat} (hR : mx_rf Rf) (hT : sp_tok (sp_tR M)) (hv : sp_vok (sp_tR M) (M 63)) {k : Int} (hk32 : -2147483648 ≤ k ∧ k ≤ 2147483647) (hc : 0 ≤ k ∧ k ≤ 30) : mx_C S mX7_near [.ref 48, .int (iI k)] (f, mx_SH, M, L, Rf) 0 0 (fun v9 h9 => ∃ N, h9 = (f, mx_SH, N, L, Rf) ∧ cdP M N 0 ∧ v9 = some (.int (iI (nrO (sp_tR M) (M 63) k (M 53 1).toNat)))) (fun _ _ => False) := by
  refine mx_C_of (by decide) (by simp [Value.category]) (Nat.le_of_ble_eq_true rfl) rfl ?_
  show mx_E S mX7_near 0 [some (.ref 48), some (.int (iI k)), none, none, none] [] (f, mx_SH, M, L, Rf) 0 0 _ _
  have hT0 : 1 ≤ M 53 0 ∧ M 53 0 ≤ 30 := hT.1
  have hT1 : 0 ≤ M 53 1 ∧ M 53 1 ≤ 6 := hT.2.1
  have hT5 : 1 ≤ M 53 5 ∧ M 53 5 ≤ 99 := hT.2.2.2.2.2.1
  have hT6 : 0 ≤ M 53 6 ∧ M 53 6 ≤ 10 := hT.2.2.2.2.2.2.1
  refine ms_aload_n dX7_near_0 rfl ?_
  refine mi_iconst dX7_near_1 ?_
  refine ms_putI (z := 4) dX7_near_2 (fo_X7_131 rfl) (by first | rfl | assumption) rfl rfl rfl ?_
  refine mx_gen (fun N => cdP M N 0) cdP.mk' (fun N hN => ?_)
  have e53 : N 53 = M 53 := hN.1 53 (by decide)
  have e63 : N 63 = M 63 := hN.1 63 (by decide)
  have eTR : sp_tR N = sp_tR M := by simp only [sp_tR, hN.1 53 (by decide), hN.1 54 (by decide), hN.1 55 (by decide), hN.1 58 (by decide), hN.1 59 (by decide), hN.1 60 (by decide)]
  refine ms_iload_n dX7_near_5 rfl ?_
  refine mi_iconst dX7_near_6 ?_
  refine mi_bipush dX7_near_7 (by decide) ?_
  refine ms_callS3 dX7_near_9 cv_X7_near_X7_isIn (k_X7_isIn (f := f) (M := N) (L := L) (Rf := Rf) hk32 (a := 0) (b := 30) (by decide) (by decide)) (Nat.le_of_ble_eq_true rfl) rfl (fun _ _ z => z.elim) (fun v9 h9 hp9 => ?_)
  obtain ⟨rfl, rfl⟩ := hp9
  refine mi_if_neB (tgt := 21) dX7_near_12 (by decide) (fun c_12 => ?_) (fun c_12 => ?_)
  · refine mi_iconst dX7_near_21 ?_
    refine ms_istore_n dX7_near_22 (by decide) rfl ?_
    dsimp only [List.set, Nat.reduceAdd]
    refine mi_iconst dX7_near_23 ?_
    refine ms_istore_n dX7_near_24 (by decide) rfl ?_
    dsimp only [List.set, Nat.reduceAdd]
    refine ms_conseq (fun v9 h9 hp => ?_) (fun _ _ z => z) (l_X7_nrO (S := S) (f := f) (L := L) (M := N) (p := k) hR (by rw [eTR]; exact hT) (by rw [eTR, e63]; exact hv) hc (M 53 1).toNat 0 none (by rw [e53]; omega))
    obtain ⟨y1, y2⟩ := hp
    rw [eTR, e63, e53] at y2
    exact ⟨N, y1, hN, y2⟩
  · exact absurd (of_decide_eq_false c_12) (by omega)

set_option maxHeartbeats 4000000 in
set_option maxRecDepth 100000 in
theorem k_X7_near_x {S : mx_Sc} {f : Bool} {M : Nat → Int → Int} {L : Nat → Nat → Int64} {Rf : Nat → Nat → Option Nat} (hR : mx_rf Rf) {k : Int} (hk32 : -2147483648 ≤ k ∧ k ≤ 2147483647) (hc : ¬ (0 ≤ k ∧ k ≤ 30)) : mx_C S mX7_near [.ref 48, .int (iI k)] (f, mx_SH, M, L, Rf) 0 0 (fun v9 h9 => ∃ N, h9 = (f, mx_SH, N, L, Rf) ∧ cdP M N 1 ∧ v9 = some (.int (iI (0)))) (fun _ _ => False) := by
  refine mx_C_of (by decide) (by simp [Value.category]) (Nat.le_of_ble_eq_true rfl) rfl ?_
  show mx_E S mX7_near 0 [some (.ref 48), some (.int (iI k)), none, none, none] [] (f, mx_SH, M, L, Rf) 0 0 _ _
  refine ms_aload_n dX7_near_0 rfl ?_
  refine mi_iconst dX7_near_1 ?_
  refine ms_putI (z := 4) dX7_near_2 (fo_X7_131 rfl) (by first | rfl | assumption) rfl rfl rfl ?_
  refine mx_gen (fun N => cdP M N 0) cdP.mk' (fun N hN => ?_)
  have e53 : N 53 = M 53 := hN.1 53 (by decide)
  have e63 : N 63 = M 63 := hN.1 63 (by decide)
  have eTR : sp_tR N = sp_tR M := by simp only [sp_tR, hN.1 53 (by decide), hN.1 54 (by decide), hN.1 55 (by decide), hN.1 58 (by decide), hN.1 59 (by decide), hN.1 60 (by decide)]
  refine ms_iload_n dX7_near_5 rfl ?_
  refine mi_iconst dX7_near_6 ?_
  refine mi_bipush dX7_near_7 (by decide) ?_
  refine ms_callS3 dX7_near_9 cv_X7_near_X7_isIn (k_X7_isIn (f := f) (M := N) (L := L) (Rf := Rf) hk32 (a := 0) (b := 30) (by decide) (by decide)) (Nat.le_of_ble_eq_true rfl) rfl (fun _ _ z => z.elim) (fun v9 h9 hp9 => ?_)
  obtain ⟨rfl, rfl⟩ := hp9
  refine mi_if_neB (tgt := 21) dX7_near_12 (by decide) (fun c_12 => ?_) (fun c_12 => ?_)
  · exact absurd (of_decide_eq_true c_12) hc
  · refine ms_aload_n dX7_near_15 rfl ?_
    refine mi_iconst dX7_near_16 ?_
    refine ms_callV1 (ci := 7) (r := (RX7, TX7, 48)) dX7_near_17 cv_X7_near_X7_fail (k_X7_fail (M := N) hR) rfl rfl (by first | rfl | assumption) (Nat.le_of_ble_eq_true rfl) rfl (fun _ _ z => z.elim) (fun v9 h9 hp9 => ?_)
    obtain ⟨rfl, rfl⟩ := hp9
    refine ms_ret dX7_near_20 rfl ⟨_, rfl, hN.set, rfl⟩ (by simp)

theorem nth_iff {t : sp_T} {l j : Int} (hj : 0 ≤ j) : ∀ k : Nat, (sp_nth t l j k ≠ -1 ↔ j < sp_ac t l k)
  | 0 => by simp only [sp_nth, sp_ac]; omega
  | k + 1 => by
    have ih := nth_iff (t := t) (l := l) hj k
    simp only [sp_nth, sp_ac]
    by_cases e : sp_nth t l j k ≠ -1
    · rw [if_pos e]
      have := ih.mp e
      split <;> omega
    · rw [if_neg e]
      have h2 : ¬ j < sp_ac t l k := fun z => e (ih.mpr z)
      by_cases e2 : t.2.2.1 k = t.2.2.1 l
      · rw [if_neg (by omega), if_pos e2]
        omega
      · rw [if_neg e2]
        by_cases e3 : sp_ac t l k = j
        · rw [if_pos ⟨e2, e3⟩]
          omega
        · rw [if_neg (by omega)]
          omega
theorem sd_sar (s : Int) : (iI s >>> (iI 16 &&& 31)) &&& iI 32767 = iI (sp_sd s) := by
  unfold sp_sd
  rw [iI_ti]
  apply Int32.toBitVec_inj.mp
  show (iI s).toBitVec.sshiftRight 16 &&& 32767#32 = ((iI s).toBitVec >>> 16) &&& 32767#32
  apply BitVec.eq_of_getLsbD_eq
  intro i hi
  rw [BitVec.getLsbD_and, BitVec.getLsbD_and]
  by_cases e : i < 15
  · rw [BitVec.getLsbD_sshiftRight, BitVec.getLsbD_ushiftRight, if_pos (by omega), decide_eq_false (by omega)]
    rfl
  · have h9 : (32767#32).getLsbD i = false := (by decide : ∀ i : Fin 32, ¬ i.val < 15 → (32767#32).getLsbD i.val = false) ⟨i, hi⟩ e
    rw [h9, Bool.and_false, Bool.and_false]
set_option maxHeartbeats 4000000 in
set_option maxRecDepth 100000 in
theorem l_X7_ot {S : mx_Sc} {f : Bool} {M : Nat → Int → Int} {L : Nat → Nat → Int64} {Rf : Nat → Nat → Option Nat} (hR : mx_rf Rf) (hT : sp_tok (sp_tR M)) {l j : Int} (hl : 0 ≤ l ∧ l < M 53 1) (hj : 0 ≤ j ∧ j < 40000) : ∀ (kk : Nat) (b : Nat), (b : Int) + kk = M 53 1 → sp_nth (sp_tR M) l j b = -1 → mx_E S mX7_other 5 [some (.ref 48), some (.int (iI l)), some (.int (iI j)), some (.int (iI (j - sp_ac (sp_tR M) l b))), some (.int (iI (b : Int)))] [] (f, mx_SH, M, L, Rf) 0 0 (fun v9 h9 => h9 = (f, mx_SH, M, L, Rf) ∧ v9 = some (.int (iI (sp_nth (sp_tR M) l j (M 53 1).toNat)))) (fun _ _ => False) := by
  intro kk
  induction kk with
  | zero => 
    intro b g1 q1
    have hT0 : 1 ≤ M 53 0 ∧ M 53 0 ≤ 30 := hT.1
    have hT1 : 0 ≤ M 53 1 ∧ M 53 1 ≤ 6 := hT.2.1
    have hT5 : 1 ≤ M 53 5 ∧ M 53 5 ≤ 99 := hT.2.2.2.2.2.1
    have hT6 : 0 ≤ M 53 6 ∧ M 53 6 ≤ 10 := hT.2.2.2.2.2.2.1
    refine ms_iload dX7_other_5 rfl ?_
    refine ms_aload_n dX7_other_7 rfl ?_
    refine ms_getR dX7_other_8 (fo_X7_43 rfl) (by first | rfl | assumption) rfl (by first | assumption | exact rf_48_5 hR ) ?_
    refine mi_iconst dX7_other_11 ?_
    refine ms_iald dX7_other_12 (by first | rfl | assumption) ?_
    refine mi_icmp_ge (tgt := 51) dX7_other_13 (by decide) (fun c_13 => ?_) (fun c_13 => ?_)
    · refine mi_iconst dX7_other_51 ?_
      refine ms_ret dX7_other_52 rfl ⟨rfl, by rw [show (M 53 1).toNat = b by omega, q1]⟩ (by simp)
    · exact absurd c_13 (by omega)
  | succ kk ih => 
    intro b g1 q1
    have hT0 : 1 ≤ M 53 0 ∧ M 53 0 ≤ 30 := hT.1
    have hT1 : 0 ≤ M 53 1 ∧ M 53 1 ≤ 6 := hT.2.1
    have hT5 : 1 ≤ M 53 5 ∧ M 53 5 ≤ 99 := hT.2.2.2.2.2.1
    have hT6 : 0 ≤ M 53 6 ∧ M 53 6 ≤ 10 := hT.2.2.2.2.2.2.1
    have hsl := (hT.2.2.2.2.2.2.2.1 l hl.1 hl.2).2
    have hsb := (hT.2.2.2.2.2.2.2.1 (b : Int) (by omega) (by show (b : Int) < M 53 1; omega)).2
    simp only at hsl hsb
    have hac := sp_ac_le (sp_tR M) l b
    refine ms_iload dX7_other_5 rfl ?_
    refine ms_aload_n dX7_other_7 rfl ?_
    refine ms_getR dX7_other_8 (fo_X7_43 rfl) (by first | rfl | assumption) rfl (by first | assumption | exact rf_48_5 hR ) ?_
    refine mi_iconst dX7_other_11 ?_
    refine ms_iald dX7_other_12 (by first | rfl | assumption) ?_
    refine mi_icmp_ge (tgt := 51) dX7_other_13 (by decide) (fun c_13 => ?_) (fun c_13 => ?_)
    · exact absurd c_13 (by omega)
    · refine ms_aload_n dX7_other_16 rfl ?_
      refine ms_getR dX7_other_17 (fo_X7_49 rfl) (by first | rfl | assumption) rfl (by first | assumption | exact rf_48_7 hR ) ?_
      refine ms_iload dX7_other_20 rfl ?_
      refine ms_iald dX7_other_22 (by first | rfl | assumption) ?_
      refine ms_aload_n dX7_other_23 rfl ?_
      refine ms_getR dX7_other_24 (fo_X7_49 rfl) (by first | rfl | assumption) rfl (by first | assumption | exact rf_48_7 hR ) ?_
      refine ms_iload_n dX7_other_27 rfl ?_
      refine ms_iald dX7_other_28 (by first | rfl | assumption) ?_
      refine mi_icmp_ne (tgt := 35) dX7_other_29 (by decide) (fun c_29 => ?_) (fun c_29 => ?_)
      · refine ms_iload_n dX7_other_35 rfl ?_
        refine mi_if_ne (tgt := 42) dX7_other_36 (by decide) (fun c_36 => ?_) (fun c_36 => ?_)
        · refine mi_iinc dX7_other_42 rfl (by decide) rfl ?_
          dsimp only [List.set, Nat.reduceAdd]
          refine mi_iinc dX7_other_45 rfl (by decide) rfl ?_
          dsimp only [List.set, Nat.reduceAdd]
          refine ms_goto (tgt := 5) dX7_other_48 (by decide) ?_
          have i9 := ih (b + 1) (by omega) (by simp only [sp_nth]; rw [if_neg (by omega), if_neg (by omega)])
          rw [show j - sp_ac (sp_tR M) l (b + 1) = j - sp_ac (sp_tR M) l b + -1 from by simp only [sp_ac]; rw [if_neg c_29]; omega] at i9
          exact i9
        · refine ms_iload dX7_other_39 rfl ?_
          refine ms_ret dX7_other_41 rfl ⟨rfl, by rw [show (M 53 1).toNat = b + 1 + kk by omega, nth_stop (by simp only [sp_nth]; rw [if_neg (by omega), if_pos ⟨c_29, by omega⟩]; omega)]; simp only [sp_nth]; rw [if_neg (by omega), if_pos ⟨c_29, by omega⟩]⟩ (by simp)
      · refine ms_goto (tgt := 45) dX7_other_32 (by decide) ?_
        refine mi_iinc dX7_other_45 rfl (by decide) rfl ?_
        dsimp only [List.set, Nat.reduceAdd]
        refine ms_goto (tgt := 5) dX7_other_48 (by decide) ?_
        have i9 := ih (b + 1) (by omega) (by simp only [sp_nth]; rw [if_neg (by omega), if_neg (by omega)])
        rw [show sp_ac (sp_tR M) l (b + 1) = sp_ac (sp_tR M) l b from by simp only [sp_ac]; rw [if_pos c_29, Int.add_zero]] at i9
        exact i9

set_option maxHeartbeats 4000000 in
set_option maxRecDepth 100000 in
theorem k_X7_other {S : mx_Sc} {f : Bool} {M : Nat → Int → Int} {L : Nat → Nat → Int64} {Rf : Nat → Nat → Option Nat} (hR : mx_rf Rf) (hT : sp_tok (sp_tR M)) {l j : Int} (hl : 0 ≤ l ∧ l < M 53 1) (hj : 0 ≤ j ∧ j < 40000) : mx_C S mX7_other [.ref 48, .int (iI l), .int (iI j)] (f, mx_SH, M, L, Rf) 0 0 (fun v9 h9 => h9 = (f, mx_SH, M, L, Rf) ∧ v9 = some (.int (iI (sp_nth (sp_tR M) l j (M 53 1).toNat)))) (fun _ _ => False) := by
  refine mx_C_of (by decide) (by simp [Value.category]) (Nat.le_of_ble_eq_true rfl) rfl ?_
  show mx_E S mX7_other 0 [some (.ref 48), some (.int (iI l)), some (.int (iI j)), none, none] [] (f, mx_SH, M, L, Rf) 0 0 _ _
  have hT0 : 1 ≤ M 53 0 ∧ M 53 0 ≤ 30 := hT.1
  have hT1 : 0 ≤ M 53 1 ∧ M 53 1 ≤ 6 := hT.2.1
  have hT5 : 1 ≤ M 53 5 ∧ M 53 5 ≤ 99 := hT.2.2.2.2.2.1
  have hT6 : 0 ≤ M 53 6 ∧ M 53 6 ≤ 10 := hT.2.2.2.2.2.2.1
  refine ms_iload_n dX7_other_0 rfl ?_
  refine ms_istore_n dX7_other_1 (by decide) rfl ?_
  dsimp only [List.set, Nat.reduceAdd]
  refine mi_iconst dX7_other_2 ?_
  refine ms_istore dX7_other_3 (by decide) rfl ?_
  dsimp only [List.set, Nat.reduceAdd]
  have i9 := l_X7_ot (S := S) (f := f) (L := L) hR hT hl hj (M 53 1).toNat 0 (by omega) rfl
  rw [show j - sp_ac (sp_tR M) l 0 = j from Int.sub_zero _] at i9
  exact i9

