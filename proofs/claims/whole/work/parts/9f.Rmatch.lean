/-- the trial has gone on; the code may be new -/
def nk (N : Nat → Int → Int) : Prop := ∀ l, 0 ≤ l → l < 6 → -1 ≤ N 64 (24 + l) ∧ N 64 (24 + l) ≤ 1200
theorem sp_vok.nk {t : sp_T} {N : Nat → Int → Int} (h : sp_vok t (N 64)) : nk N := fun l l0 l1 => (h.2 l l0 l1).2
def trP (M N : Nat → Int → Int) : Prop := (∀ x, x ≠ 64 → x ≠ 65 → x ≠ 67 → N x = M x) ∧ (nk M → nk N)
theorem trP.T {M N : Nat → Int → Int} (h : trP M N) : sp_tR N = sp_tR M := by simp only [sp_tR, h.1 53 (by decide) (by decide) (by decide), h.1 54 (by decide) (by decide) (by decide), h.1 55 (by decide) (by decide) (by decide), h.1 58 (by decide) (by decide) (by decide), h.1 59 (by decide) (by decide) (by decide), h.1 60 (by decide) (by decide) (by decide)]
theorem trP.x {M N : Nat → Int → Int} (h : trP M N) {x : Nat} (hx : x ≠ 64 ∧ x ≠ 65 ∧ x ≠ 67) : N x = M x := h.1 x hx.1 hx.2.1 hx.2.2
theorem trP.trans {M N O : Nat → Int → Int} (h1 : trP M N) (h2 : trP N O) : trP M O := ⟨fun x b c d => (h2.1 x b c d).trans (h1.1 x b c d), fun z => h2.2 (h1.2 z)⟩
theorem trP.rf {M : Nat → Int → Int} : trP M M := ⟨fun _ _ _ _ => rfl, id⟩
theorem trP.be {M : Nat → Int → Int} {g : Int → Int} {t : sp_T} (hg : sp_vok t g) : trP M (va_up M 64 g) := ⟨fun x x0 _ _ => up_n _ _ x0, fun _ l l0 l1 => by rw [up_s]; exact (hg.2 l l0 l1).2⟩
/-- the trial has gone on, and the code is c -/
def ctP (M N : Nat → Int → Int) (c : Int) : Prop := (∀ x, x ≠ 48 → x ≠ 64 → x ≠ 65 → x ≠ 67 → N x = M x) ∧ N 48 4 = c ∧ (∀ k, k ≠ 4 → N 48 k = M 48 k) ∧ (nk M → nk N)
theorem cdP.tr {M N O : Nat → Int → Int} {c : Int} (h : cdP M N c) (h2 : trP N O) : ctP M O c := ⟨fun x x0 x1 x2 x3 => (h2.1 x x1 x2 x3).trans (h.1 x x0), by rw [h2.1 48 (by decide) (by decide) (by decide)]; exact h.2.1, fun k hk => by rw [h2.1 48 (by decide) (by decide) (by decide)]; exact h.2.2 k hk, fun z => h2.2 (fun l l0 l1 => by rw [h.1 64 (by decide)]; exact z l l0 l1)⟩
theorem qv_ic {g h : Int → Int} : qv (ic g h 0 0 30) g := fun i i0 i1 => by
  unfold ic
  rw [if_pos (by omega)]
  congr 1
  omega
theorem qv.sym {v u : Int → Int} (h : qv v u) : qv u v := fun i a b => (h i a b).symm
set_option maxHeartbeats 4000000 in
set_option maxRecDepth 100000 in
theorem l_X7_goOn {S : mx_Sc} {f : Bool} {M : Nat → Int → Int} {L : Nat → Nat → Int64} {Rf : Nat → Nat → Option Nat} (hR : mx_rf Rf) (hT : sp_tok (sp_tR M)) (hlk : sp_lok (sp_tR M) (M 57)) {n : Int} (hn : 0 ≤ n ∧ n ≤ 99) (hnn : M 48 29 = n) {v : Int → Int} (hv0 : sp_vok (sp_tR M) v) {P : Option Value → mx_H → Prop} {PX : String → mx_H → Prop} : ∀ (kk : Nat) (j : Nat) (N : Nat → Int → Int), n + j + kk = M 53 5 → trP M N → N 64 = sp_run (sp_tR M) (M 57) false false n j v → (∀ (N : Nat → Int → Int) (z : Int), trP M N → N 64 = sp_run (sp_tR M) (M 57) false false n (M 53 5 - n).toNat v → mx_E S mX7_goOn 36 [some (.ref 48), some (.int (iI z))] [] (f, mx_SH, N, L, Rf) 0 0 P PX) → mx_E S mX7_goOn 5 [some (.ref 48), some (.int (iI (n + j)))] [] (f, mx_SH, N, L, Rf) 0 0 P PX := by
  intro kk
  induction kk with
  | zero => 
    intro j N g1 q1 q2 hK
    have hT0 : 1 ≤ M 53 0 ∧ M 53 0 ≤ 30 := hT.1
    have hT1 : 0 ≤ M 53 1 ∧ M 53 1 ≤ 6 := hT.2.1
    have hT5 : 1 ≤ M 53 5 ∧ M 53 5 ≤ 99 := hT.2.2.2.2.2.1
    have hT6 : 0 ≤ M 53 6 ∧ M 53 6 ≤ 10 := hT.2.2.2.2.2.2.1
    have hTr := q1.T
    have h57 : N 57 = M 57 := q1.x (by decide)
    have h53 : N 53 = M 53 := q1.x (by decide)
    have hvr : sp_vok (sp_tR M) (N 64) := by rw [q2]; exact run_vok hT hlk false false hn.1 hv0 j (by omega)
    refine ms_iload_n dX7_goOn_5 rfl ?_
    refine ms_aload_n dX7_goOn_6 rfl ?_
    refine ms_getR dX7_goOn_7 (fo_X7_43 rfl) (by first | rfl | assumption) rfl (by first | assumption | exact rf_48_5 hR ) ?_
    refine mi_iconst dX7_goOn_10 ?_
    refine ms_iald dX7_goOn_11 (by first | rfl | assumption) ?_
    rw [h53]
    refine mi_icmp_ge (tgt := 36) dX7_goOn_12 (by decide) (fun c_12 => ?_) (fun c_12 => ?_)
    · exact hK N _ q1 (by rw [q2, show (M 53 5 - n).toNat = j by omega])
    · exact absurd c_12 (by omega)
  | succ kk ih => 
    intro j N g1 q1 q2 hK
    have hT0 : 1 ≤ M 53 0 ∧ M 53 0 ≤ 30 := hT.1
    have hT1 : 0 ≤ M 53 1 ∧ M 53 1 ≤ 6 := hT.2.1
    have hT5 : 1 ≤ M 53 5 ∧ M 53 5 ≤ 99 := hT.2.2.2.2.2.1
    have hT6 : 0 ≤ M 53 6 ∧ M 53 6 ≤ 10 := hT.2.2.2.2.2.2.1
    have hTr := q1.T
    have h57 : N 57 = M 57 := q1.x (by decide)
    have h53 : N 53 = M 53 := q1.x (by decide)
    have hvr : sp_vok (sp_tR M) (N 64) := by rw [q2]; exact run_vok hT hlk false false hn.1 hv0 j (by omega)
    refine ms_iload_n dX7_goOn_5 rfl ?_
    refine ms_aload_n dX7_goOn_6 rfl ?_
    refine ms_getR dX7_goOn_7 (fo_X7_43 rfl) (by first | rfl | assumption) rfl (by first | assumption | exact rf_48_5 hR ) ?_
    refine mi_iconst dX7_goOn_10 ?_
    refine ms_iald dX7_goOn_11 (by first | rfl | assumption) ?_
    rw [h53]
    refine mi_icmp_ge (tgt := 36) dX7_goOn_12 (by decide) (fun c_12 => ?_) (fun c_12 => ?_)
    · exact absurd c_12 (by omega)
    · refine ms_aload_n dX7_goOn_15 rfl ?_
      refine ms_aload_n dX7_goOn_16 rfl ?_
      refine ms_getR dX7_goOn_17 (fo_X7_80 rfl) (by first | rfl | assumption) rfl (by first | assumption | exact rf_48_26 hR ) ?_
      refine ms_iload_n dX7_goOn_20 rfl ?_
      refine ms_aload_n dX7_goOn_21 rfl ?_
      refine ms_getR dX7_goOn_22 (fo_X7_55 rfl) (by first | rfl | assumption) rfl (by first | assumption | exact rf_48_9 hR ) ?_
      refine mi_iconst dX7_goOn_25 ?_
      refine ms_callV4 (ci := 7) (r := (RX7, TX7, 48)) dX7_goOn_26 cv_X7_goOn_X7_goNight (k_X7_goNight (M := N) hR (by rw [hTr]; exact hT) (r := 64) (by decide) rfl (wr := 57) (by decide) rfl (by decide) (hf := false) (ng := false) (n := n + j) (by omega) (by decide) (by decide) (by decide) (by decide) (by rw [hTr]; exact hvr) (by rw [hTr, h57]; exact hlk)) rfl rfl (by first | rfl | assumption) (Nat.le_of_ble_eq_true rfl) rfl (fun _ _ z => z.elim) (fun v9 h9 hp9 => ?_)
      obtain ⟨N3, m3, rfl, rfl, u1, u2, u3, u4, u5, u6⟩ := hp9
      rw [hTr, h57] at u2
      rw [hTr] at u3
      refine ms_pop dX7_goOn_29 rfl ?_
      refine mi_iinc dX7_goOn_30 rfl (by decide) rfl ?_
      dsimp only [List.set, Nat.reduceAdd]
      refine ms_goto (tgt := 5) dX7_goOn_33 (by decide) ?_
      have i9 := ih (j + 1) N3 (by omega) ⟨fun x x1 x2 x3 => by rw [u1 x x1 x2 x3]; exact q1.1 x x1 x2 x3, fun _ => u3.nk⟩ (by rw [u2, q2]; rfl) hK
      rw [show n + ((j + 1 : Nat) : Int) = n + j + 1 by omega] at i9
      exact i9

set_option maxHeartbeats 4000000 in
set_option maxRecDepth 100000 in
theorem k_X7_goOn {S : mx_Sc} {f : Bool} {M : Nat → Int → Int} {L : Nat → Nat → Int64} {Rf : Nat → Nat → Option Nat} (hR : mx_rf Rf) (hT : sp_tok (sp_tR M)) (hlk : sp_lok (sp_tR M) (M 57)) {n : Int} (hn : 0 ≤ n ∧ n ≤ 99) (hnn : M 48 29 = n) (hne : n ≤ M 53 5) (hv0 : sp_vok (sp_tR M) (M 64)) : mx_C S mX7_goOn [.ref 48] (f, mx_SH, M, L, Rf) 0 0 (fun v9 h9 => ∃ N, h9 = (f, mx_SH, N, L, Rf) ∧ v9 = none ∧ trP M N ∧ N 64 = sp_run (sp_tR M) (M 57) false false n (M 53 5 - n).toNat (M 64)) (fun _ _ => False) := by
  refine mx_C_of (by decide) (by simp [Value.category]) (Nat.le_of_ble_eq_true rfl) rfl ?_
  show mx_E S mX7_goOn 0 [some (.ref 48), none] [] (f, mx_SH, M, L, Rf) 0 0 _ _
  have hT0 : 1 ≤ M 53 0 ∧ M 53 0 ≤ 30 := hT.1
  have hT1 : 0 ≤ M 53 1 ∧ M 53 1 ≤ 6 := hT.2.1
  have hT5 : 1 ≤ M 53 5 ∧ M 53 5 ≤ 99 := hT.2.2.2.2.2.1
  have hT6 : 0 ≤ M 53 6 ∧ M 53 6 ≤ 10 := hT.2.2.2.2.2.2.1
  refine ms_aload_n dX7_goOn_0 rfl ?_
  refine ms_getI (z := 29) dX7_goOn_1 (fo_X7_248 rfl) (by first | rfl | assumption) rfl rfl ?_
  refine ms_istore_n dX7_goOn_4 (by decide) rfl ?_
  dsimp only [List.set, Nat.reduceAdd]
  rw [hnn]
  have i9 := l_X7_goOn (S := S) (f := f) (L := L) (P := (fun v9 h9 => ∃ N, h9 = (f, mx_SH, N, L, Rf) ∧ v9 = none ∧ trP M N ∧ N 64 = sp_run (sp_tR M) (M 57) false false n (M 53 5 - n).toNat (M 64))) (PX := fun _ _ => False) (v := M 64) hR hT hlk hn hnn hv0 (M 53 5 - n).toNat 0 M (by omega) trP.rf rfl (fun N z y1 y2 => ?_)
  · rw [show n + ((0 : Nat) : Int) = n by omega] at i9
    exact i9
  · refine ms_retV dX7_goOn_36 rfl ⟨N, rfl, rfl, y1, y2⟩ (by simp)

set_option maxHeartbeats 4000000 in
set_option maxRecDepth 100000 in
theorem l_X7_mt {S : mx_Sc} {f : Bool} {M : Nat → Int → Int} {L : Nat → Nat → Int64} {Rf : Nat → Nat → Option Nat} (hR : mx_rf Rf) (hT : sp_tok (sp_tR M)) (hlk : sp_lok (sp_tR M) (M 57)) {n : Int} (hn : 0 ≤ n ∧ n ≤ 99) (hnn : M 48 29 = n) {v : Int → Int} (hv0 : sp_vok (sp_tR M) v) {P : Option Value → mx_H → Prop} {PX : String → mx_H → Prop} {hf ng : Bool} : ∀ (kk : Nat) (j : Nat) (N : Nat → Int → Int), n + j + kk = M 53 5 → trP M N → N 64 = sp_run (sp_tR M) (M 57) hf ng n j v → (∀ (N : Nat → Int → Int) (z : Int), trP M N → N 64 = sp_run (sp_tR M) (M 57) hf ng n (M 53 5 - n).toNat v → mx_E S mX7_matches 67 [some (.ref 48), some (.int (iI (bI hf + 2 * bI ng))), some (.int (iI z))] [] (f, mx_SH, N, L, Rf) 0 0 P PX) → mx_E S mX7_matches 36 [some (.ref 48), some (.int (iI (bI hf + 2 * bI ng))), some (.int (iI (n + j)))] [] (f, mx_SH, N, L, Rf) 0 0 P PX := by
  intro kk
  induction kk with
  | zero => 
    intro j N g1 q1 q2 hK
    have hT0 : 1 ≤ M 53 0 ∧ M 53 0 ≤ 30 := hT.1
    have hT1 : 0 ≤ M 53 1 ∧ M 53 1 ≤ 6 := hT.2.1
    have hT5 : 1 ≤ M 53 5 ∧ M 53 5 ≤ 99 := hT.2.2.2.2.2.1
    have hT6 : 0 ≤ M 53 6 ∧ M 53 6 ≤ 10 := hT.2.2.2.2.2.2.1
    have hTr := q1.T
    have h57 : N 57 = M 57 := q1.x (by decide)
    have h53 : N 53 = M 53 := q1.x (by decide)
    have hvr : sp_vok (sp_tR M) (N 64) := by rw [q2]; exact run_vok hT hlk hf ng hn.1 hv0 j (by omega)
    refine ms_iload_n dX7_matches_36 rfl ?_
    refine ms_aload_n dX7_matches_37 rfl ?_
    refine ms_getR dX7_matches_38 (fo_X7_43 rfl) (by first | rfl | assumption) rfl (by first | assumption | exact rf_48_5 hR ) ?_
    refine mi_iconst dX7_matches_41 ?_
    refine ms_iald dX7_matches_42 (by first | rfl | assumption) ?_
    rw [h53]
    refine mi_icmp_ge (tgt := 67) dX7_matches_43 (by decide) (fun c_43 => ?_) (fun c_43 => ?_)
    · exact hK N _ q1 (by rw [q2, show (M 53 5 - n).toNat = j by omega])
    · exact absurd c_43 (by omega)
  | succ kk ih => 
    intro j N g1 q1 q2 hK
    have hT0 : 1 ≤ M 53 0 ∧ M 53 0 ≤ 30 := hT.1
    have hT1 : 0 ≤ M 53 1 ∧ M 53 1 ≤ 6 := hT.2.1
    have hT5 : 1 ≤ M 53 5 ∧ M 53 5 ≤ 99 := hT.2.2.2.2.2.1
    have hT6 : 0 ≤ M 53 6 ∧ M 53 6 ≤ 10 := hT.2.2.2.2.2.2.1
    have hTr := q1.T
    have h57 : N 57 = M 57 := q1.x (by decide)
    have h53 : N 53 = M 53 := q1.x (by decide)
    have hvr : sp_vok (sp_tR M) (N 64) := by rw [q2]; exact run_vok hT hlk hf ng hn.1 hv0 j (by omega)
    refine ms_iload_n dX7_matches_36 rfl ?_
    refine ms_aload_n dX7_matches_37 rfl ?_
    refine ms_getR dX7_matches_38 (fo_X7_43 rfl) (by first | rfl | assumption) rfl (by first | assumption | exact rf_48_5 hR ) ?_
    refine mi_iconst dX7_matches_41 ?_
    refine ms_iald dX7_matches_42 (by first | rfl | assumption) ?_
    rw [h53]
    refine mi_icmp_ge (tgt := 67) dX7_matches_43 (by decide) (fun c_43 => ?_) (fun c_43 => ?_)
    · exact absurd c_43 (by omega)
    · refine ms_aload_n dX7_matches_46 rfl ?_
      refine ms_aload_n dX7_matches_47 rfl ?_
      refine ms_getR dX7_matches_48 (fo_X7_80 rfl) (by first | rfl | assumption) rfl (by first | assumption | exact rf_48_26 hR ) ?_
      refine ms_iload_n dX7_matches_51 rfl ?_
      refine ms_aload_n dX7_matches_52 rfl ?_
      refine ms_getR dX7_matches_53 (fo_X7_55 rfl) (by first | rfl | assumption) rfl (by first | assumption | exact rf_48_9 hR ) ?_
      refine ms_iload_n dX7_matches_56 rfl ?_
      refine ms_callV4 (ci := 7) (r := (RX7, TX7, 48)) dX7_matches_57 cv_X7_matches_X7_goNight (k_X7_goNight (M := N) hR (by rw [hTr]; exact hT) (r := 64) (by decide) rfl (wr := 57) (by decide) rfl (by decide) (hf := hf) (ng := ng) (n := n + j) (by omega) (by decide) (by decide) (by decide) (by decide) (by rw [hTr]; exact hvr) (by rw [hTr, h57]; exact hlk)) rfl rfl (by first | rfl | assumption) (Nat.le_of_ble_eq_true rfl) rfl (fun _ _ z => z.elim) (fun v9 h9 hp9 => ?_)
      obtain ⟨N3, m3, rfl, rfl, u1, u2, u3, u4, u5, u6⟩ := hp9
      rw [hTr, h57] at u2
      rw [hTr] at u3
      refine ms_pop dX7_matches_60 rfl ?_
      refine mi_iinc dX7_matches_61 rfl (by decide) rfl ?_
      dsimp only [List.set, Nat.reduceAdd]
      refine ms_goto (tgt := 36) dX7_matches_64 (by decide) ?_
      have i9 := ih (j + 1) N3 (by omega) ⟨fun x x1 x2 x3 => by rw [u1 x x1 x2 x3]; exact q1.1 x x1 x2 x3, fun _ => u3.nk⟩ (by rw [u2, q2]; rfl) hK
      rw [show n + ((j + 1 : Nat) : Int) = n + j + 1 by omega] at i9
      exact i9

set_option maxHeartbeats 4000000 in
set_option maxRecDepth 100000 in
theorem k_X7_matches {S : mx_Sc} {f : Bool} {M : Nat → Int → Int} {L : Nat → Nat → Int64} {Rf : Nat → Nat → Option Nat} (hR : mx_rf Rf) (hT : sp_tok (sp_tR M)) (hv : sp_vok (sp_tR M) (M 63)) (hlk : sp_lok (sp_tR M) (M 57)) {n : Int} (hn : 0 ≤ n ∧ n ≤ 99) (hnn : M 48 29 = n) (hne : n ≤ M 53 5) {hf ng : Bool} : mx_C S mX7_matches [.ref 48, .int (iI (bI hf + 2 * bI ng))] (f, mx_SH, M, L, Rf) 0 0 (fun v9 h9 => ∃ N, h9 = (f, mx_SH, N, L, Rf) ∧ ctP M N 0 ∧ ∃ u, qv u (M 63) ∧ v9 = some (.int (iI (sp_cnt (sp_tR M) (sp_run (sp_tR M) (M 57) hf ng n (M 53 5 - n).toNat u) / 2)))) (fun _ _ => False) := by
  refine mx_C_of (by decide) (by simp [Value.category]) (Nat.le_of_ble_eq_true rfl) rfl ?_
  show mx_E S mX7_matches 0 [some (.ref 48), some (.int (iI (bI hf + 2 * bI ng))), none] [] (f, mx_SH, M, L, Rf) 0 0 _ _
  have hT0 : 1 ≤ M 53 0 ∧ M 53 0 ≤ 30 := hT.1
  have hT1 : 0 ≤ M 53 1 ∧ M 53 1 ≤ 6 := hT.2.1
  have hT5 : 1 ≤ M 53 5 ∧ M 53 5 ≤ 99 := hT.2.2.2.2.2.1
  have hT6 : 0 ≤ M 53 6 ∧ M 53 6 ≤ 10 := hT.2.2.2.2.2.2.1
  have hbh := bI_01 hf
  have hbg := bI_01 ng
  refine ms_aload_n dX7_matches_0 rfl ?_
  refine mi_iconst dX7_matches_1 ?_
  refine ms_putI (z := 4) dX7_matches_2 (fo_X7_131 rfl) (by first | rfl | assumption) rfl rfl rfl ?_
  refine mx_gen (fun N => cdP M N 0) cdP.mk' (fun N hN => ?_)
  have e53 : N 53 = M 53 := hN.1 53 (by decide)
  have e63 : N 63 = M 63 := hN.1 63 (by decide)
  have eTR : sp_tR N = sp_tR M := by simp only [sp_tR, hN.1 53 (by decide), hN.1 54 (by decide), hN.1 55 (by decide), hN.1 58 (by decide), hN.1 59 (by decide), hN.1 60 (by decide)]
  have e29 : N 48 29 = n := (hN.2.2 29 (by decide)).trans hnn
  refine ms_iload_n dX7_matches_5 rfl ?_
  refine mi_iconst dX7_matches_6 ?_
  refine mi_iconst dX7_matches_7 ?_
  refine ms_callS3 dX7_matches_8 cv_X7_matches_X7_isIn (k_X7_isIn (f := f) (M := N) (L := L) (Rf := Rf) (v := bI hf + 2 * bI ng) (a := 0) (b := 3) (by omega) (by decide) (by decide)) (Nat.le_of_ble_eq_true rfl) rfl (fun _ _ z => z.elim) (fun v9 h9 hp9 => ?_)
  obtain ⟨rfl, rfl⟩ := hp9
  refine mi_if_neB (tgt := 20) dX7_matches_11 (by decide) (fun c_11 => ?_) (fun c_11 => ?_)
  · refine ms_aload_n dX7_matches_20 rfl ?_
    refine ms_getR dX7_matches_21 (fo_X7_80 rfl) (by first | rfl | assumption) rfl (by first | assumption | exact rf_48_26 hR ) ?_
    refine ms_aload_n dX7_matches_24 rfl ?_
    refine ms_getR dX7_matches_25 (fo_X7_77 rfl) (by first | rfl | assumption) rfl (by first | assumption | exact rf_48_25 hR ) ?_
    refine ms_callS2 dX7_matches_28 cv_X7_matches_X7_be (k_X7_be (a := 64) (b := 63) (by decide) (by decide) rfl rfl (by decide) (by decide) (by decide)) (Nat.le_of_ble_eq_true rfl) rfl (fun _ _ z => z.elim) (fun v9 h9 hp9 => ?_)
    obtain ⟨rfl, rfl⟩ := hp9
    have hq : qv (ic (N 63) (N 64) 0 0 30) (M 63) := by rw [← e63]; exact qv_ic
    refine ms_aload_n dX7_matches_31 rfl ?_
    refine ms_getI (z := 29) dX7_matches_32 (fo_X7_248 rfl) (by first | rfl | assumption) rfl rfl ?_
    refine ms_istore_n dX7_matches_35 (by decide) rfl ?_
    dsimp only [List.set, Nat.reduceAdd]
    rw [up_n (b := 48) _ _ (by decide), e29]
    have hTr0 : trP N (va_up N 64 (ic (N 63) (N 64) 0 0 (30 : Nat))) := trP.be (hq.vok hT hv)
    have hT0' : sp_tR (va_up N 64 (ic (N 63) (N 64) 0 0 (30 : Nat))) = sp_tR M := by rw [hTr0.T]; exact eTR
    have x57 : va_up N 64 (ic (N 63) (N 64) 0 0 (30 : Nat)) 57 = M 57 := by rw [up_n _ _ (by decide)]; exact hN.1 57 (by decide)
    have x53 : va_up N 64 (ic (N 63) (N 64) 0 0 (30 : Nat)) 53 = M 53 := by rw [up_n _ _ (by decide)]; exact e53
    have i9 := l_X7_mt (S := S) (f := f) (L := L) (M := va_up N 64 (ic (N 63) (N 64) 0 0 (30 : Nat))) (hf := hf) (ng := ng) (n := n) (v := ic (N 63) (N 64) 0 0 30) (P := fun v9 h9 => ∃ N, h9 = (f, mx_SH, N, L, Rf) ∧ ctP M N 0 ∧ ∃ u, qv u (M 63) ∧ v9 = some (.int (iI (sp_cnt (sp_tR M) (sp_run (sp_tR M) (M 57) hf ng n (M 53 5 - n).toNat u) / 2)))) (PX := fun _ _ => False) hR (by rw [hT0']; exact hT) (by rw [hT0', x57]; exact hlk) hn (by rw [up_n _ _ (by decide)]; exact e29) (by rw [hT0']; exact hq.vok hT hv) (M 53 5 - n).toNat 0 _ (by rw [x53]; omega) trP.rf (by rw [up_s]; rfl) (fun N2 z y1 y2 => ?_)
    · rw [show n + ((0 : Nat) : Int) = n by omega] at i9
      exact i9
    · rw [hT0', x57, x53] at y2
      have hT2 : sp_tR N2 = sp_tR M := by rw [y1.T]; exact hT0'
      refine ms_aload_n dX7_matches_67 rfl ?_
      refine ms_aload_n dX7_matches_68 rfl ?_
      refine ms_getR dX7_matches_69 (fo_X7_80 rfl) (by first | rfl | assumption) rfl (by first | assumption | exact rf_48_26 hR ) ?_
      refine ms_callV1 (ci := 7) (r := (RX7, TX7, 48)) dX7_matches_72 cv_X7_matches_X7_couples (k_X7_couples (M := N2) hR (by rw [hT2]; exact hT) (r := 64) (by decide) rfl (by rw [hT2, y2]; exact run_vok hT hlk hf ng hn.1 (hq.vok hT hv) _ (by omega))) rfl rfl (by first | rfl | assumption) (Nat.le_of_ble_eq_true rfl) rfl (fun _ _ z => z.elim) (fun v9 h9 hp9 => ?_)
      obtain ⟨rfl, rfl⟩ := hp9
      rw [hT2, y2]
      refine ms_ret dX7_matches_75 rfl ⟨N2, rfl, hN.tr (hTr0.trans y1), _, hq, rfl⟩ (by simp)
  · exact absurd (of_decide_eq_false c_11) (by omega)

set_option maxHeartbeats 4000000 in
set_option maxRecDepth 100000 in
theorem k_X7_matches_x {S : mx_Sc} {f : Bool} {M : Nat → Int → Int} {L : Nat → Nat → Int64} {Rf : Nat → Nat → Option Nat} (hR : mx_rf Rf) {k : Int} (hk32 : -2147483648 ≤ k ∧ k ≤ 2147483647) (hc : ¬ (0 ≤ k ∧ k ≤ 3)) : mx_C S mX7_matches [.ref 48, .int (iI k)] (f, mx_SH, M, L, Rf) 0 0 (fun v9 h9 => ∃ N, h9 = (f, mx_SH, N, L, Rf) ∧ cdP M N 1 ∧ v9 = some (.int (iI (0)))) (fun _ _ => False) := by
  refine mx_C_of (by decide) (by simp [Value.category]) (Nat.le_of_ble_eq_true rfl) rfl ?_
  show mx_E S mX7_matches 0 [some (.ref 48), some (.int (iI k)), none] [] (f, mx_SH, M, L, Rf) 0 0 _ _
  refine ms_aload_n dX7_matches_0 rfl ?_
  refine mi_iconst dX7_matches_1 ?_
  refine ms_putI (z := 4) dX7_matches_2 (fo_X7_131 rfl) (by first | rfl | assumption) rfl rfl rfl ?_
  refine mx_gen (fun N => cdP M N 0) cdP.mk' (fun N hN => ?_)
  have e53 : N 53 = M 53 := hN.1 53 (by decide)
  have e63 : N 63 = M 63 := hN.1 63 (by decide)
  have eTR : sp_tR N = sp_tR M := by simp only [sp_tR, hN.1 53 (by decide), hN.1 54 (by decide), hN.1 55 (by decide), hN.1 58 (by decide), hN.1 59 (by decide), hN.1 60 (by decide)]
  refine ms_iload_n dX7_matches_5 rfl ?_
  refine mi_iconst dX7_matches_6 ?_
  refine mi_iconst dX7_matches_7 ?_
  refine ms_callS3 dX7_matches_8 cv_X7_matches_X7_isIn (k_X7_isIn (f := f) (M := N) (L := L) (Rf := Rf) hk32 (a := 0) (b := 3) (by decide) (by decide)) (Nat.le_of_ble_eq_true rfl) rfl (fun _ _ z => z.elim) (fun v9 h9 hp9 => ?_)
  obtain ⟨rfl, rfl⟩ := hp9
  refine mi_if_neB (tgt := 20) dX7_matches_11 (by decide) (fun c_11 => ?_) (fun c_11 => ?_)
  · exact absurd (of_decide_eq_true c_11) hc
  · refine ms_aload_n dX7_matches_14 rfl ?_
    refine mi_iconst dX7_matches_15 ?_
    refine ms_callV1 (ci := 7) (r := (RX7, TX7, 48)) dX7_matches_16 cv_X7_matches_X7_fail (k_X7_fail (M := N) hR) rfl rfl (by first | rfl | assumption) (Nat.le_of_ble_eq_true rfl) rfl (fun _ _ z => z.elim) (fun v9 h9 hp9 => ?_)
    obtain ⟨rfl, rfl⟩ := hp9
    refine ms_ret dX7_matches_19 rfl ⟨_, rfl, hN.set, rfl⟩ (by simp)

set_option maxHeartbeats 4000000 in
set_option maxRecDepth 100000 in
theorem k_X7_weds {S : mx_Sc} {f : Bool} {M : Nat → Int → Int} {L : Nat → Nat → Int64} {Rf : Nat → Nat → Option Nat} (hR : mx_rf Rf) (hT : sp_tok (sp_tR M)) (hlk : sp_lok (sp_tR M) (M 57)) (hv0 : sp_vok (sp_tR M) (M 64)) {l : Int} (hl : 0 ≤ l ∧ l < M 53 1) : mx_C S mX7_weds [.ref 48, .int (iI l)] (f, mx_SH, M, L, Rf) 0 0 (fun v9 h9 => h9 = (f, mx_SH, M, L, Rf) ∧ v9 = some (.int (iI (if M 57 l ≠ -1 ∧ M 64 (18 + l) = M 57 l then M 64 (24 + l) else 1000)))) (fun _ _ => False) := by
  refine mx_C_of (by decide) (by simp [Value.category]) (Nat.le_of_ble_eq_true rfl) rfl ?_
  show mx_E S mX7_weds 0 [some (.ref 48), some (.int (iI l))] [] (f, mx_SH, M, L, Rf) 0 0 _ _
  have hT0 : 1 ≤ M 53 0 ∧ M 53 0 ≤ 30 := hT.1
  have hT1 : 0 ≤ M 53 1 ∧ M 53 1 ≤ 6 := hT.2.1
  have hT5 : 1 ≤ M 53 5 ∧ M 53 5 ≤ 99 := hT.2.2.2.2.2.1
  have hT6 : 0 ≤ M 53 6 ∧ M 53 6 ≤ 10 := hT.2.2.2.2.2.2.1
  have h1 := hlk l hl.1 hl.2
  simp only at h1
  have h2 := hv0.2 l hl.1 (by omega)
  refine ms_aload_n dX7_weds_0 rfl ?_
  refine ms_getR dX7_weds_1 (fo_X7_55 rfl) (by first | rfl | assumption) rfl (by first | assumption | exact rf_48_9 hR ) ?_
  refine ms_iload_n dX7_weds_4 rfl ?_
  refine ms_iald dX7_weds_5 (by first | rfl | assumption) ?_
  refine mi_iconst dX7_weds_6 ?_
  refine mi_icmp_eq (tgt := 40) dX7_weds_7 (by decide) (fun c_7 => ?_) (fun c_7 => ?_)
  · refine mi_sipush dX7_weds_40 (by decide) ?_
    refine ms_ret dX7_weds_43 rfl ⟨rfl, by first | (rw [if_pos ⟨by assumption, by assumption⟩]; done) | (rw [if_neg (fun z => z.1 (by assumption))]; done) | (rw [if_neg (fun z => absurd z.2 (by assumption))]; done)⟩ (by simp)
  · refine ms_aload_n dX7_weds_10 rfl ?_
    refine ms_getR dX7_weds_11 (fo_X7_80 rfl) (by first | rfl | assumption) rfl (by first | assumption | exact rf_48_26 hR ) ?_
    refine mi_bipush dX7_weds_14 (by decide) ?_
    refine ms_iload_n dX7_weds_16 rfl ?_
    refine mi_iadd dX7_weds_17 ?_
    refine ms_iald dX7_weds_18 (by first | rfl | assumption) ?_
    refine ms_aload_n dX7_weds_19 rfl ?_
    refine ms_getR dX7_weds_20 (fo_X7_55 rfl) (by first | rfl | assumption) rfl (by first | assumption | exact rf_48_9 hR ) ?_
    refine ms_iload_n dX7_weds_23 rfl ?_
    refine ms_iald dX7_weds_24 (by first | rfl | assumption) ?_
    refine mi_icmp_ne (tgt := 40) dX7_weds_25 (by decide) (fun c_25 => ?_) (fun c_25 => ?_)
    · refine mi_sipush dX7_weds_40 (by decide) ?_
      refine ms_ret dX7_weds_43 rfl ⟨rfl, by first | (rw [if_pos ⟨by assumption, by assumption⟩]; done) | (rw [if_neg (fun z => z.1 (by assumption))]; done) | (rw [if_neg (fun z => absurd z.2 (by assumption))]; done)⟩ (by simp)
    · refine ms_aload_n dX7_weds_28 rfl ?_
      refine ms_getR dX7_weds_29 (fo_X7_80 rfl) (by first | rfl | assumption) rfl (by first | assumption | exact rf_48_26 hR ) ?_
      refine mi_bipush dX7_weds_32 (by decide) ?_
      refine ms_iload_n dX7_weds_34 rfl ?_
      refine mi_iadd dX7_weds_35 ?_
      refine ms_iald dX7_weds_36 (by first | rfl | assumption) ?_
      refine ms_goto (tgt := 43) dX7_weds_37 (by decide) ?_
      refine ms_ret dX7_weds_43 rfl ⟨rfl, by first | (rw [if_pos ⟨by assumption, by assumption⟩]; done) | (rw [if_neg (fun z => z.1 (by assumption))]; done) | (rw [if_neg (fun z => absurd z.2 (by assumption))]; done)⟩ (by simp)

def cgB (v : Int → Int) (l c : Int) : Bool := decide (c = 0 ∨ ((c - 1) / 3 ≠ (c - 1) % 3 ∧ 0 < v (3 * l + (c - 1) / 3)))
set_option maxHeartbeats 4000000 in
set_option maxRecDepth 100000 in
theorem k_X7_canGive {S : mx_Sc} {f : Bool} {M : Nat → Int → Int} {L : Nat → Nat → Int64} {Rf : Nat → Nat → Option Nat} (hR : mx_rf Rf) (hT : sp_tok (sp_tR M)) (hv : sp_vok (sp_tR M) (M 63)) {l c : Int} (hl : 0 ≤ l ∧ l < M 53 1) (hc : 0 ≤ c ∧ c < 9) : mx_C S mX7_canGive [.ref 48, .int (iI l), .int (iI c)] (f, mx_SH, M, L, Rf) 0 0 (fun v9 h9 => h9 = (f, mx_SH, M, L, Rf) ∧ v9 = some (.int (iI (bI (cgB (M 63) l c))))) (fun _ _ => False) := by
  refine mx_C_of (by decide) (by simp [Value.category]) (Nat.le_of_ble_eq_true rfl) rfl ?_
  show mx_E S mX7_canGive 0 [some (.ref 48), some (.int (iI l)), some (.int (iI c)), none] [] (f, mx_SH, M, L, Rf) 0 0 _ _
  have hT0 : 1 ≤ M 53 0 ∧ M 53 0 ≤ 30 := hT.1
  have hT1 : 0 ≤ M 53 1 ∧ M 53 1 ≤ 6 := hT.2.1
  have hT5 : 1 ≤ M 53 5 ∧ M 53 5 ≤ 99 := hT.2.2.2.2.2.1
  have hT6 : 0 ≤ M 53 6 ∧ M 53 6 ≤ 10 := hT.2.2.2.2.2.2.1
  have hvb := hv.1 l hl.1 hl.2
  simp only at hvb
  have hz : ∀ i, 0 ≤ i → i < 3 → 0 ≤ M 63 (3 * l + i) ∧ M 63 (3 * l + i) ≤ 30 := fun i i0 i1 => by
    rcases (show i = 0 ∨ i = 1 ∨ i = 2 by omega) with rfl | rfl | rfl
    · rw [Int.add_zero]; omega
    · omega
    · omega
  refine ms_iload_n dX7_canGive_0 rfl ?_
  refine mi_iconst dX7_canGive_1 ?_
  refine mi_isub dX7_canGive_2 ?_
  refine ms_istore_n dX7_canGive_3 (by decide) rfl ?_
  dsimp only [List.set, Nat.reduceAdd]
  refine ms_iload_n dX7_canGive_4 rfl ?_
  refine mi_if_eq (tgt := 32) dX7_canGive_5 (by decide) (fun c_5 => ?_) (fun c_5 => ?_)
  · refine mi_iconst dX7_canGive_32 ?_
    refine ms_goto (tgt := 37) dX7_canGive_33 (by decide) ?_
    refine ms_retZ dX7_canGive_37 rfl (by first | exact Or.inl rfl | exact Or.inr rfl) ⟨rfl, by unfold cgB; rw [decide_eq_true (Or.inl c_5)]; rfl⟩ (by simp)
  · refine ms_iload_n dX7_canGive_8 rfl ?_
    refine mi_iconst dX7_canGive_9 ?_
    refine mi_idiv dX7_canGive_10 ?_
    refine ms_iload_n dX7_canGive_11 rfl ?_
    refine mi_iconst dX7_canGive_12 ?_
    refine mi_irem dX7_canGive_13 ?_
    refine mi_icmp_eq (tgt := 36) dX7_canGive_14 (by decide) (fun c_14 => ?_) (fun c_14 => ?_)
    · refine mi_iconst dX7_canGive_36 ?_
      refine ms_retZ dX7_canGive_37 rfl (by first | exact Or.inl rfl | exact Or.inr rfl) ⟨rfl, by unfold cgB; rw [decide_eq_false (by omega)]; rfl⟩ (by simp)
    · have hz2 := hz ((c - 1) / 3) (by omega) (by omega)
      refine ms_aload_n dX7_canGive_17 rfl ?_
      refine ms_getR dX7_canGive_18 (fo_X7_77 rfl) (by first | rfl | assumption) rfl (by first | assumption | exact rf_48_25 hR ) ?_
      refine mi_iconst dX7_canGive_21 ?_
      refine ms_iload_n dX7_canGive_22 rfl ?_
      refine mi_imul dX7_canGive_23 ?_
      refine ms_iload_n dX7_canGive_24 rfl ?_
      refine mi_iconst dX7_canGive_25 ?_
      refine mi_idiv dX7_canGive_26 ?_
      refine mi_iadd dX7_canGive_27 ?_
      refine ms_iald dX7_canGive_28 (by first | rfl | assumption) ?_
      refine mi_if_le (tgt := 36) dX7_canGive_29 (by decide) (fun c_29 => ?_) (fun c_29 => ?_)
      · refine mi_iconst dX7_canGive_36 ?_
        refine ms_retZ dX7_canGive_37 rfl (by first | exact Or.inl rfl | exact Or.inr rfl) ⟨rfl, by unfold cgB; rw [decide_eq_false (by omega)]; rfl⟩ (by simp)
      · refine mi_iconst dX7_canGive_32 ?_
        refine ms_goto (tgt := 37) dX7_canGive_33 (by decide) ?_
        refine ms_retZ dX7_canGive_37 rfl (by first | exact Or.inl rfl | exact Or.inr rfl) ⟨rfl, by unfold cgB; rw [decide_eq_true (Or.inr ⟨c_14, by omega⟩)]; rfl⟩ (by simp)

