theorem bl_at {lm : Int} {j : Nat} (h : j < (bl lm).length) : ob lm ((bl lm).getD j 0) = 1 ∧ 0 ≤ (bl lm).getD j 0 ∧ (bl lm).getD j 0 < 6 := by
  have h1 : (bl lm).getD j 0 ∈ bl lm := by
    rw [List.getD_eq_getElem?_getD, List.getElem?_eq_getElem h]
    exact List.getElem_mem h
  generalize (bl lm).getD j 0 = x at h1
  unfold bl blp at h1
  rw [List.mem_filter] at h1
  refine ⟨of_decide_eq_true h1.2, ?_⟩
  have h2 := h1.1
  simp at h2
  omega
set_option maxHeartbeats 4000000 in
set_option maxRecDepth 100000 in
theorem k_X0_hear {S : mx_Sc} {f : Bool} {M : Nat → Int → Int} {L : Nat → Nat → Int64} {Rf : Nat → Nat → Option Nat} (hR : mx_rf Rf) {t : Nat} (ht : t = 29 ∨ t = 37) (hT : sp_tok (sp_tC M t)) (hwt : Rf 46 1 = some t) (hwl : Rf 46 2 = some (t + 3)) (hlk : sp_lok (sp_tC M t) (M (t + 3))) (hng : M 46 4 = bI false) (hst : M 46 3 = M t 2) {v : Int → Int} (hsc : scR (sp_tC M t) M 3 v) (hv : sp_vok (sp_tC M t) v) {n : Int} (hn : 0 ≤ n ∧ n ≤ 99) (hnn : M 3 3 = n) (hne : n ≤ M t 5) {lm : Int} (hlm : 0 ≤ lm ∧ lm < 64) (hm : (bl lm).length ≤ 3) (hbk : ∀ k, 0 ≤ k → k < 6 → ob lm k = 1 → k < M t 1) : mx_C S mX0_hear [.ref 25, .ref 46, .ref 3, .ref 18, .int (iI lm)] (f, mx_SH, M, L, Rf) 0 0 (fun v9 h9 => ∃ N, h9 = (f, mx_SH, N, L, Rf) ∧ v9 = none ∧ (∀ x, x ≠ 25 → x ≠ 26 → x ≠ 27 → x ≠ 28 → x ≠ 18 → x ≠ 19 → x ≠ 20 → x ≠ 21 → x ≠ 47 → N x = M x) ∧ N 25 3 = ((bl lm).length : Int) ∧ N 25 4 = 7 ^ (bl lm).length ∧ (∀ j : Nat, j < (bl lm).length → N 26 (j : Int) = (bl lm).getD j 0 ∧ N 27 (j : Int) = 7 ^ j) ∧ ∀ (w j : Nat), (w : Int) < 7 ^ (bl lm).length → j < (bl lm).length → N 28 ((w : Int) * 3 + (j : Int)) = vlR (sp_tC M t) (M (t + 3)) n v (fun j => (bl lm).getD j 0) (bl lm).length w j) (fun _ _ => False) := by
  refine mx_C_of (by decide) (by simp [Value.category]) (Nat.le_of_ble_eq_true rfl) rfl ?_
  show mx_E S mX0_hear 0 [some (.ref 25), some (.ref 46), some (.ref 3), some (.ref 18), some (.int (iI lm)), none, none, none, none] [] (f, mx_SH, M, L, Rf) 0 0 _ _
  refine ms_aload_n dX0_hear_0 rfl ?_
  refine ms_iload dX0_hear_1 rfl ?_
  refine ms_callV1 (ci := 0) (r := (RX0, TX0, 5)) dX0_hear_3 cv_X0_hear_X0_seat (k_X0_seat hR hlm hm) rfl rfl (by first | rfl | assumption) (Nat.le_of_ble_eq_true rfl) rfl (fun _ _ z => z.elim) (fun v9 h9 hp9 => ?_)
  obtain ⟨N, rfl, rfl, q1, q2, q3, q4⟩ := hp9
  have eT : sp_tC N t = sp_tC M t := tC_fr (fun y _ _ => q1 y (by omega) (by omega) (by omega))
  have eN : ∀ k, N t k = M t k := fun k => by rw [q1 t (by omega) (by omega) (by omega)]
  have e46 : N 46 = M 46 := q1 46 (by decide) (by decide) (by decide)
  have elk : N (t + 3) = M (t + 3) := q1 (t + 3) (by omega) (by omega) (by omega)
  have h7 := p7_3 hm
  refine mi_iconst dX0_hear_6 ?_
  refine ms_istore dX0_hear_7 (by decide) rfl ?_
  dsimp only [List.set, Nat.reduceAdd]
  refine ms_conseq (fun v9 h9 hp => ?_) (fun _ _ z => z) (l_X0_hO (S := S) (f := f) (L := L) (M := N) (v := v) (n := n) (m := (bl lm).length) (c := (fun j => (bl lm).getD j 0)) (lm := lm) hR ht (by rw [eT]; exact hT) hwt hwl (by rw [eT, elk]; exact hlk) (by rw [e46]; exact hng) (by rw [e46, eN]; exact hst) (by rw [eT]; exact hsc.fr (q1 _ (by decide) (by decide) (by decide)) (q1 _ (by decide) (by decide) (by decide)) (q1 _ (by decide) (by decide) (by decide)) (q1 _ (by decide) (by decide) (by decide))) (by rw [eT]; exact hv) hn (by rw [q1 3 (by decide) (by decide) (by decide)]; exact hnn) (by rw [eN]; exact hne) hm q2 q3 hlm (fun j hj => ⟨⟨(q4 j hj).1, (q4 j hj).2, (bl_at hj).2.1, by rw [eN]; exact hbk _ (bl_at hj).2.1 (bl_at hj).2.2 (bl_at hj).1⟩, (bl_at hj).1⟩) ((7 : Int) ^ (bl lm).length).toNat 0 N none none none (by omega) (fun _ _ _ _ _ _ _ => rfl) (fun w2 j h1 => by omega))
  obtain ⟨N5, y1, y2, y3, y4⟩ := hp
  rw [eT, elk] at y4
  exact ⟨N5, y1, y2, fun x x0 x1 x2 x3 x4 x5 x6 x7 x8 => by rw [y3 x x3 x4 x5 x6 x7 x8, q1 x x0 x1 x2], by rw [y3 25 (by decide) (by decide) (by decide) (by decide) (by decide) (by decide)]; exact q2, by rw [y3 25 (by decide) (by decide) (by decide) (by decide) (by decide) (by decide)]; exact q3, fun j hj => by rw [y3 26 (by decide) (by decide) (by decide) (by decide) (by decide) (by decide), y3 27 (by decide) (by decide) (by decide) (by decide) (by decide) (by decide)]; exact q4 j hj, y4⟩

