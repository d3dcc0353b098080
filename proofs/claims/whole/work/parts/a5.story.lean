/-- one row for another, that has the same lamps and mates -/
theorem scR.q {t : sp_T} (hT : sp_tok t) {M : Nat → Int → Int} {a : Nat} {v u : Int → Int} (h : scR t M a v) (q : qw t v u) : scR t M a u := by
  have h1 := hT.2.1
  obtain ⟨a1, a2, a3, a4, a5⟩ := h
  have ho : ∀ l, 0 ≤ l → l < 6 → sp_out v l = sp_out u l := fun l l0 l1 => by unfold sp_out; rw [q.2 (18 + l) (by omega) (by omega)]
  refine ⟨fun i i0 i1 => (a1 i i0 i1).trans (q.1 i i0 i1), fun l l0 l1 => ?_, a3, fun l l0 l1 => by rw [← ho l l0 l1]; exact a4 l l0 l1, by rw [a5, cnt_cg (fun l l0 l1 => ho l l0 (by omega))]⟩
  rw [← q.2 (18 + l) (by omega) (by omega), ← q.2 (24 + l) (by omega) (by omega)]
  exact a2 l l0 l1
theorem stP.fr {tC tR : sp_T} {M N : Nat → Int → Int} {a : Nat} {D W R v D2 W2 O R2 : Int → Int} {n it : Int} (h : stP tC tR M a D W R v D2 W2 O R2 n it) (h0 : N a = M a) (h1 : N (a + 1) = M (a + 1)) (h2 : N (a + 2) = M (a + 2)) (h3 : N (a + 3) = M (a + 3)) : stP tC tR N a D W R v D2 W2 O R2 n (it + 1) := by
  obtain ⟨⟨a1, a2, a3⟩, ⟨b1, b2, b3, b4⟩, c, d, e, f⟩ := h.it
  exact ⟨⟨a1.fr h0 h1 h2 h3, by rw [h0]; exact a2, a3⟩, ⟨b1, b2, by rw [h1]; exact b3, b4⟩, c, d, e, f⟩
/-- a copy of a story -/
theorem stP.copy {tC tR : sp_T} (hT : sp_tok tR) (hE : eqS tC tR) {M N : Nat → Int → Int} {a a' : Nat} {D W R v D2 W2 O R2 D' W' R' v' D2' W2' O' R2' : Int → Int} {n it : Int} (h : stP tC tR M a D W R v D2 W2 O R2 n it) (hs : scE M N a a') (hD : ∀ i, 0 ≤ i → i < 1782 → D' i = D i) (hW : ∀ i, 0 ≤ i → i < 1800 → W' i = W i) (hRr : ∀ i, 0 ≤ i → i < 3 → R' i = R i) (hv : ∀ i, 0 ≤ i → i < 30 → v' i = v i) (hD2 : ∀ i, 0 ≤ i → i < 1800 → D2' i = D2 i ∧ W2' i = W2 i) (hO : ∀ i, 0 ≤ i → i < 100 → O' i = O i) (hR2 : ∀ i, 0 ≤ i → i < 3 → R2' i = R2 i) : stP tC tR N a' D' W' R' v' D2' W2' O' R2' n (it + 1) := by
  have hTC := hE.tok hT
  have h1 := hT.2.1
  have h5 := hT.2.2.2.2.2.1
  obtain ⟨⟨a1, a2, a3, a4, a5⟩, ⟨b1, b2, b3, b4⟩, ⟨c1, c2⟩, ⟨d1, d2, d3, d4⟩, ⟨e1, e2⟩, f1⟩ := h.it
  obtain ⟨s1, s2, s3, s4, s5⟩ := hs
  have e1' : tC.1 1 = tR.1 1 := hE.1 1 (by decide) (by decide)
  have ho : ∀ l, 0 ≤ l → l < 6 → sp_out v' l = sp_out v l := fun l l0 l1 => by unfold sp_out; rw [hv (18 + l) (by omega) (by omega)]
  have hp : ∀ j l, 0 ≤ l → l < 6 → sp_out (sp_part v' j) l = sp_out (sp_part v j) l := fun j l l0 l1 => by rw [part_out v' j ⟨l0, l1⟩, part_out v j ⟨l0, l1⟩, ho l l0 l1, hv (24 + l) (by omega) (by omega)]
  have hq : qv v v' := fun i i0 i1 => (hv i i0 i1).symm
  have hsc : scR tC N a' v := by
    obtain ⟨q1, q2, q3, q4, q5⟩ := a1
    exact ⟨fun i i0 i1 => by rw [s1 i i0 (by omega)]; exact q1 i i0 i1, fun l l0 l1 => by rw [(s2 l l0 l1).1, (s2 l l0 l1).2]; exact q2 l l0 l1, by rw [s4]; exact q3, by rw [s4]; exact q4, by rw [s5]; exact q5⟩
  refine ⟨⟨hsc.q hTC (hq.qw hTC), by rw [s3]; exact a2, a3, ?_, fun l l0 l1 => ?_⟩, ⟨fun l l0 l1 => ?_, fun l l0 l1 => ?_, fun i i0 i1 => ?_, fun i i0 i1 => ?_⟩, ⟨fun j j0 j1 i i0 i1 => ?_, fun j j0 j1 i i0 i1 => ?_⟩, ⟨fun j j0 j1 => ?_, fun j j0 j1 l l0 l1 => ?_, fun j j0 j1 l l0 l1 => ?_, fun j j0 j1 l l0 l1 hx q q0 q1 => ?_⟩, ⟨fun i i0 i1 => ?_, fun i i0 i1 => ?_⟩, fun i i0 i1 => ?_⟩
  · refine ⟨fun l l0 l1 => ?_, fun l l0 l1 => ?_⟩
    · rw [hv _ (by omega) (by omega), hv _ (by omega) (by omega), hv _ (by omega) (by omega)]; exact a4.1 l l0 l1
    · rw [hv _ (by omega) (by omega), hv _ (by omega) (by omega)]; exact a4.2 l l0 l1
  · rw [hv _ (by omega) (by omega), hv _ (by omega) (by omega)]; exact a5 l l0 l1
  · rw [ho l (by omega) l1]; exact b1 l l0 l1
  · rw [hv _ (by omega) (by omega)]; exact b2 l l0 l1
  · rw [s1 i i0 i1]; exact b3 i i0 i1
  · rw [hv _ i0 (by omega)]; exact b4 i i0 i1
  · rw [hD _ (by omega) (by omega), (hD2 _ (by omega) (by omega)).1]; exact c1 j j0 j1 i i0 i1
  · rw [hW _ (by omega) (by omega), (hD2 _ (by omega) (by omega)).2]; exact c2 j j0 j1 i i0 i1
  · have := d1 j j0 j1
    rw [hO j j0 (by omega)]
    exact ⟨this.1, fun l l0 l1 => by rw [hp j l l0 l1]; exact this.2 l l0 l1⟩
  · show 0 ≤ D2' _ ∧ 0 ≤ D2' _ ∧ 0 ≤ D2' _ ∧ D2' _ + D2' _ + D2' _ = _
    rw [(hD2 _ (by omega) (by omega)).1, (hD2 _ (by omega) (by omega)).1, (hD2 _ (by omega) (by omega)).1]; exact d2 j j0 j1 l l0 l1
  · show 0 ≤ W2' _ ∧ 0 ≤ W2' _ ∧ 0 ≤ W2' _ ∧ W2' _ + W2' _ + W2' _ = _
    rw [(hD2 _ (by omega) (by omega)).2, (hD2 _ (by omega) (by omega)).2, (hD2 _ (by omega) (by omega)).2]; exact d3 j j0 j1 l l0 l1
  · rw [(hD2 _ (by omega) (by omega)).1, (hD2 _ (by omega) (by omega)).2]
    exact d4 j j0 j1 l l0 l1 (by rw [← hp j l l0 (by omega)]; exact hx) q q0 q1
  · rw [hW i i0 i1]; exact e1 i i0 i1
  · rw [(hD2 i i0 i1).2]; exact e2 i i0 i1
  · rw [hRr i i0 i1, hR2 i i0 i1]; exact f1 i i0 i1
/-- another row of oils -/
theorem stP.row {tC tR : sp_T} (hT : sp_tok tR) (hE : eqS tC tR) {M N : Nat → Int → Int} {a : Nat} {D W R v D2 W2 O R2 v' : Int → Int} {n it : Int} (h : stP tC tR M a D W R v D2 W2 O R2 n it) (hs : scR tC N a v') (h3 : N a 3 = M a 3) (hv : sp_vok tR v') (hm : ∀ i, 18 ≤ i → i < 30 → v' i = v i) (hj : ∀ i, 3 * tR.1 1 ≤ i → i < 18 → v' i = v i) (hJ : ∀ i, 3 * tR.1 1 ≤ i → i < 18 → N (a + 1) i = M (a + 1) i) : stP tC tR N a D W R v' D2 W2 O R2 n (it + 1) := by
  have hTC := hE.tok hT
  have h1 := hT.2.1
  obtain ⟨⟨a1, a2, a3, a4, a5⟩, ⟨b1, b2, b3, b4⟩, c, ⟨d1, d2, d3, d4⟩, e, f⟩ := h.it
  have e1' : tC.1 1 = tR.1 1 := hE.1 1 (by decide) (by decide)
  have ho : ∀ l, 0 ≤ l → l < 6 → sp_out v' l = sp_out v l := fun l l0 l1 => by unfold sp_out; rw [hm (18 + l) (by omega) (by omega)]
  have hp : ∀ j l, 0 ≤ l → l < 6 → sp_out (sp_part v' j) l = sp_out (sp_part v j) l := fun j l l0 l1 => by rw [part_out v' j ⟨l0, l1⟩, part_out v j ⟨l0, l1⟩, ho l l0 l1, hm (24 + l) (by omega) (by omega)]
  refine ⟨⟨hs, h3.trans a2, a3, hv, fun l l0 l1 => ?_⟩, ⟨fun l l0 l1 => ?_, fun l l0 l1 => ?_, fun i i0 i1 => ?_, fun i i0 i1 => ?_⟩, c, ⟨fun j j0 j1 => ⟨(d1 j j0 j1).1, fun l l0 l1 => ?_⟩, d2, d3, fun j j0 j1 l l0 l1 hx => ?_⟩, e, f⟩
  · rw [hm _ (by omega) (by omega), hm _ (by omega) (by omega)]; exact a5 l l0 l1
  · rw [ho l (by omega) l1]; exact b1 l l0 l1
  · rw [hm _ (by omega) (by omega)]; exact b2 l l0 l1
  · by_cases z : i < 3 * tR.1 1
    · rw [hs.1 i i0 (by omega)]; exact vok_b hT hv i0 z
    · rw [hJ i (by omega) i1]; exact b3 i i0 i1
  · by_cases z : i < 3 * tR.1 1
    · have := vok_b hT hv i0 z; omega
    · rw [hj i (by omega) i1]; exact b4 i i0 i1
  · rw [hp j l l0 l1]; exact (d1 j j0 j1).2 l l0 l1
  · exact d4 j j0 j1 l l0 l1 (by rw [← hp j l l0 (by omega)]; exact hx)
/-- some nights taken back -/
theorem stP.back {tC tR : sp_T} (hT : sp_tok tR) (hE : eqS tC tR) {M N : Nat → Int → Int} {a : Nat} {D W R v D2 W2 O R2 v' : Int → Int} {n m it : Int} (h : stP tC tR M a D W R v D2 W2 O R2 n it) (hm : 0 ≤ m ∧ m ≤ n) (hs : scR tC N a (sp_oil W (sp_part v m) (m * 18))) (h3 : N a 3 = m) (hJ : ∀ i, 0 ≤ i → i < 18 → N (a + 1) i = W (m * 18 + i)) (hv' : ∀ i, 0 ≤ i → i < 30 → v' i = sp_oil W2 (sp_part v m) (m * 18) i) : stP tC tR N a D W R v' D2 W2 O R2 m (it + 1) := by
  have hTC := hE.tok hT
  have h1 := hT.2.1
  have h5 := hT.2.2.2.2.2.1
  obtain ⟨⟨a1, a2, a3, a4, a5⟩, ⟨b1, b2, b3, b4⟩, ⟨c1, c2⟩, ⟨d1, d2, d3, d4⟩, ⟨e1, e2⟩, f⟩ := h.it
  have e1' : tC.1 1 = tR.1 1 := hE.1 1 (by decide) (by decide)
  have hu : ∀ i, 0 ≤ i → i < 18 → v' i = W2 (m * 18 + i) := fun i i0 i1 => by rw [hv' i i0 (by omega)]; unfold sp_oil; rw [if_pos ⟨i0, i1⟩]
  have hM : ∀ l, 0 ≤ l → l < 6 → v' (18 + l) = if m ≤ v (24 + l) then -1 else v (18 + l) := fun l l0 l1 => by rw [hv' _ (by omega) (by omega)]; unfold sp_oil; rw [if_neg (by omega), part_m v m ⟨l0, l1⟩]
  have hN : ∀ l, 0 ≤ l → l < 6 → v' (24 + l) = if m ≤ v (24 + l) then -1 else v (24 + l) := fun l l0 l1 => by rw [hv' _ (by omega) (by omega)]; unfold sp_oil; rw [if_neg (by omega), part_n v m ⟨l0, l1⟩]
  have hq : qw tC (sp_oil W (sp_part v m) (m * 18)) v' := ⟨fun i i0 i1 => by rw [hu i i0 (by omega)]; unfold sp_oil; rw [if_pos (by omega)]; exact c2 m hm.1 hm.2 i i0 (by omega), fun i i0 i1 => by rw [hv' i (by omega) i1]; unfold sp_oil; rw [if_neg (by omega), if_neg (by omega)]⟩
  have ho : ∀ l, 0 ≤ l → l < 6 → sp_out v' l = (sp_out v l && decide (v (24 + l) < m)) := fun l l0 l1 => by
    rw [← part_out v m ⟨l0, l1⟩]
    unfold sp_out
    rw [hM l l0 l1, part_m v m ⟨l0, l1⟩]
  have hp : ∀ j, j < m → ∀ l, 0 ≤ l → l < 6 → sp_out (sp_part v' j) l = sp_out (sp_part v j) l := fun j hj l l0 l1 => by
    rw [part_out v' j ⟨l0, l1⟩, part_out v j ⟨l0, l1⟩, ho l l0 l1, hN l l0 l1]
    by_cases z : m ≤ v (24 + l)
    · rw [decide_eq_false (show ¬ (v (24 + l) < m) by omega), decide_eq_false (show ¬ (v (24 + l) < j) by omega), Bool.and_false, Bool.false_and]
    · rw [if_neg z, decide_eq_true (show v (24 + l) < m by omega), Bool.and_true]
  refine ⟨⟨hs.q hTC hq, h3, ⟨hm.1, by omega⟩, ?_, fun l l0 l1 => ?_⟩, ⟨fun l l0 l1 => ?_, fun l l0 l1 => ?_, fun i i0 i1 => ?_, fun i i0 i1 => ?_⟩, ⟨fun j j0 j1 => c1 j j0 (by omega), fun j j0 j1 => c2 j j0 (by omega)⟩, ⟨fun j j0 j1 => ⟨(d1 j j0 (by omega)).1, fun l l0 l1 => ?_⟩, fun j j0 j1 => d2 j j0 (by omega), fun j j0 j1 => d3 j j0 (by omega), fun j j0 j1 l l0 l1 hx => ?_⟩, ⟨e1, e2⟩, f⟩
  · refine ⟨fun l l0 l1 => ?_, fun l l0 l1 => ?_⟩
    · rw [hu _ (by omega) (by omega), hu _ (by omega) (by omega), hu _ (by omega) (by omega)]
      exact d3 m hm.1 hm.2 l l0 l1
    · have h9 := a4.2 l l0 l1
      rw [hM l l0 l1, hN l l0 l1]
      by_cases z : m ≤ v (24 + l)
      · rw [if_pos z, if_pos z]; omega
      · rw [if_neg z, if_neg z]; exact h9
  · have h9 := a5 l l0 l1
    rw [hM l l0 l1, hN l l0 l1]
    by_cases z : m ≤ v (24 + l)
    · rw [if_pos z, if_pos z]
    · rw [if_neg z, if_neg z]; exact h9
  · rw [ho l (by omega) l1, b1 l l0 l1]; rfl
  · rw [hN l l0 l1]
    split <;> omega
  · rw [hJ i i0 i1]; exact e1 _ (by omega) (by omega)
  · rw [hu i i0 i1]; exact e2 _ (by omega) (by omega)
  · rw [hp j j1 l l0 l1]; exact (d1 j j0 (by omega)).2 l l0 l1
  · exact d4 j j0 (by omega) l l0 l1 (by rw [← hp j j1 l l0 (by omega)]; exact hx)
/-- who marries in a night has that night -/
theorem wed_new {t : sp_T} (hT : sp_tok t) {v : Int → Int} {n l : Int} (hl : 0 ≤ l ∧ l < 6) (h : sp_out v l = false) : sp_out (sp_wed t n v) l = true → sp_wed t n v (24 + l) = n := by
  have h1 := hT.2.1
  unfold sp_wed
  refine itN_p (R := fun w : Int → Int => sp_out w l = true → w (24 + l) = n) _ (fun i x hi hr => ?_) _ (fun z => by rw [h] at z; cases z)
  unfold sp_wedA
  refine itN_p (R := fun w : Int → Int => sp_out w l = true → w (24 + l) = n) _ (fun j x hj hr => ?_) _ hr
  unfold sp_in
  split
  · exact hr
  · intro hx
    by_cases eb : l = j
    · unfold sp_marry
      rw [eb, iu_s]
    · by_cases ea : l = i
      · unfold sp_marry
        rw [iu_n _ _ (by omega), ea, iu_s]
      · have e : sp_marry x i j n (18 + l) = x (18 + l) := by
          unfold sp_marry
          rw [iu_n _ _ (by omega), iu_n _ _ (by omega), iu_n _ _ (by omega), iu_n _ _ (by omega)]
        have h9 : sp_out x l = true := by
          unfold sp_out at hx ⊢
          rw [e] at hx
          exact hx
        unfold sp_marry
        rw [iu_n _ _ (by omega), iu_n _ _ (by omega), iu_n _ _ (by omega), iu_n _ _ (by omega)]
        exact hr h9
theorem mv_hi {t : sp_T} (hT : sp_tok t) {v lk : Int → Int} {hf ng : Bool} {n i : Int} (hi : 18 ≤ i) : sp_mv t lk hf ng n v i = v i := by
  have h1 := hT.2.1
  unfold sp_mv
  rw [if_neg (by omega)]
theorem mv_ot {t : sp_T} (hT : sp_tok t) {v lk : Int → Int} {hf ng : Bool} {n l : Int} (hl : 0 ≤ l) : sp_out (sp_mv t lk hf ng n v) l = sp_out v l := by
  unfold sp_out
  rw [mv_hi hT (by omega)]
theorem run_new {t : sp_T} (hT : sp_tok t) {v lk : Int → Int} {hf ng : Bool} {n l : Int} (hl : 0 ≤ l ∧ l < 6) {m : Nat} (h : sp_out (sp_run t lk hf ng n m v) l = false) : ∀ d : Nat, sp_out (sp_run t lk hf ng n (m + d) v) l = true → n + m ≤ sp_run t lk hf ng n (m + d) v (24 + l)
  | 0, hx => by rw [Nat.add_zero, h] at hx; cases hx
  | d + 1, hx => by
    by_cases z : sp_out (sp_run t lk hf ng n (m + d) v) l = true
    · have ih := run_new hT hl h d z
      have h9 := run_kp hT (lk := lk) (hf := hf) (ng := ng) n hl (v := v) (m + d) z 1
      rw [show m + (d + 1) = m + d + 1 by omega, h9.2]
      exact ih
    · rw [show m + (d + 1) = (m + d) + 1 by omega] at hx ⊢
      simp only [sp_run] at hx ⊢
      unfold sp_night at hx ⊢
      rw [wed_new hT hl (by rw [mv_ot hT hl.1]; cases q : sp_out (sp_run t lk hf ng n (m + d) v) l with | true => exact absurd q z | false => rfl) hx]
      omega
/-- the parted row shows who was out at a dusk -/
theorem run_part {t : sp_T} (hT : sp_tok t) {v lk : Int → Int} {hf ng : Bool} {n l : Int} (hn : ∀ l, 0 ≤ l → l < 6 → v (24 + l) < n) (hl : 0 ≤ l ∧ l < 6) (m d : Nat) : sp_out (sp_part (sp_run t lk hf ng n (m + d) v) (n + m)) l = sp_out (sp_run t lk hf ng n m v) l := by
  rw [part_out _ _ hl]
  cases hx : sp_out (sp_run t lk hf ng n m v) l with
  | true =>
    have h9 := run_kp hT (lk := lk) (hf := hf) (ng := ng) n hl (v := v) m hx d
    have h8 := run_ltn hT hn hf ng (lk := lk) m l hl.1 hl.2
    have ho : sp_out (sp_run t lk hf ng n (m + d) v) l = true := by unfold sp_out at hx ⊢; rw [h9.1]; exact hx
    rw [ho, h9.2, decide_eq_true h8]; rfl
  | false =>
    cases ho : sp_out (sp_run t lk hf ng n (m + d) v) l with
    | false => rfl
    | true =>
      have h9 := run_new hT hl hx d ho
      rw [decide_eq_false (by omega)]; rfl
theorem run_part0 {t : sp_T} (hT : sp_tok t) {v lk : Int → Int} {hf ng : Bool} {n l j : Int} (hj : j < n) (hl : 0 ≤ l ∧ l < 6) (d : Nat) : sp_out (sp_part (sp_run t lk hf ng n d v) j) l = sp_out (sp_part v j) l := by
  rw [part_out _ _ hl, part_out _ _ hl]
  cases hx : sp_out v l with
  | true =>
    have h9 := run_kp hT (lk := lk) (hf := hf) (ng := ng) n hl (v := v) 0 hx d
    rw [Nat.zero_add] at h9
    have ho : sp_out (sp_run t lk hf ng n d v) l = true := by unfold sp_out at hx ⊢; rw [h9.1]; exact hx
    have h8 : sp_run t lk hf ng n d v (24 + l) = v (24 + l) := h9.2
    rw [ho, h8]
  | false =>
    cases ho : sp_out (sp_run t lk hf ng n d v) l with
    | false => rfl
    | true =>
      have h9 := run_new hT (lk := lk) (hf := hf) (ng := ng) (n := n) (v := v) hl (m := 0) hx d (by rw [Nat.zero_add]; exact ho)
      rw [Nat.zero_add] at h9
      rw [decide_eq_false (by omega)]; rfl
theorem run_hi {t : sp_T} (hT : sp_tok t) {v lk : Int → Int} {hf ng : Bool} {n l : Int} (hl : t.1 1 ≤ l ∧ l < 6) : ∀ k : Nat, sp_run t lk hf ng n k v (18 + l) = v (18 + l)
  | 0 => rfl
  | k + 1 => by
    have h1 := hT.2.1
    simp only [sp_run]
    unfold sp_night sp_wed
    refine itN_p (R := fun w : Int → Int => w (18 + l) = v (18 + l)) _ (fun i x hi hr => ?_) _ (by rw [mv_hi hT (by omega)]; exact run_hi hT hl k)
    unfold sp_wedA
    refine itN_p (R := fun w : Int → Int => w (18 + l) = v (18 + l)) _ (fun j x hj hr => ?_) _ hr
    unfold sp_in
    split
    · exact hr
    · unfold sp_marry
      rw [iu_n _ _ (by omega), iu_n _ _ (by omega), iu_n _ _ (by omega), iu_n _ _ (by omega)]
      exact hr
theorem out_oil {t : sp_T} (hT : sp_tok t) {v lk : Int → Int} {hf ng : Bool} {n l q : Int} (hl : 0 ≤ l ∧ l < 6) (hq : 0 ≤ q ∧ q < 3) (hx : sp_out v l = true) : sp_night t lk hf ng n v (3 * l + q) = v (3 * l + q) := by
  unfold sp_night
  rw [wed_oil hT (by omega)]
  unfold sp_mv
  rw [if_neg]
  rw [show (3 * l + q) / 3 = l by omega, hx]
  intro z
  exact absurd z.2.2 (by decide)
