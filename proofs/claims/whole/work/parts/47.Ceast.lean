theorem rf_up {Rf : Nat → Nat → Option Nat} (h : mx_rf Rf) {a k : Nat} (hk : ∀ q ∈ mx_RT, ¬ (q.1 = a ∧ q.2.1 = k)) (b : Option Nat) : mx_rf (va_up Rf a (va_up (Rf a) k b)) := by
  intro q hq
  have h1 := hk q hq
  have h2 := h q hq
  by_cases e : q.1 = a
  · have e2 : q.2.1 ≠ k := fun z => h1 ⟨e, z⟩
    rw [e, up_s, up_n _ _ e2, ← e]
    exact h2
  · rw [up_n _ _ e]
    exact h2
/-- the bits of one that the other lacks -/
def odf (a b : Int) : Int := ((a.toNat &&& (63 - b.toNat) : Nat) : Int)
theorem oxm0 : ∀ o : Fin 64, iI (o.val : Int) ^^^ iI (-1) = iI (-1 - (o.val : Int)) := by decide +kernel
theorem oxm {o : Int} (h : 0 ≤ o ∧ o < 64) : iI o ^^^ iI (-1) = iI (-1 - o) := fin_of (n := 64) (P := fun o => iI o ^^^ iI (-1) = iI (-1 - o)) oxm0 h.1 h.2
theorem odf0 : ∀ a b : Fin 64, iI (a.val : Int) &&& iI (-1 - (b.val : Int)) = iI (odf (a.val : Int) (b.val : Int)) ∧ odf (a.val : Int) (b.val : Int) < 64 := by decide +kernel
theorem odf_e {a b : Int} (ha : 0 ≤ a ∧ a < 64) (hb : 0 ≤ b ∧ b < 64) : iI a &&& iI (-1 - b) = iI (odf a b) ∧ odf a b < 64 := fin_of (n := 64) (P := fun a => iI a &&& iI (-1 - b) = iI (odf a b) ∧ odf a b < 64) (fun i => fin_of (n := 64) (P := fun b => iI (i.val : Int) &&& iI (-1 - b) = iI (odf (i.val : Int) b) ∧ odf (i.val : Int) b < 64) (fun j => odf0 i j) hb.1 hb.2) ha.1 ha.2
theorem odf_b0 : ∀ a b : Fin 64, odf (a.val : Int) (b.val : Int) = 0 → ∀ l : Fin 6, ob (a.val : Int) (l.val : Int) = 1 → ob (b.val : Int) (l.val : Int) = 1 := by decide +kernel
theorem odf_b {a b l : Int} (ha : 0 ≤ a ∧ a < 64) (hb : 0 ≤ b ∧ b < 64) (hl : 0 ≤ l ∧ l < 6) (h : odf a b = 0) (h1 : ob a l = 1) : ob b l = 1 := fin_of (n := 64) (P := fun a => odf a b = 0 → ob a l = 1 → ob b l = 1) (fun i => fin_of (n := 64) (P := fun b => odf (i.val : Int) b = 0 → ob (i.val : Int) l = 1 → ob b l = 1) (fun j => fin_of (n := 6) (P := fun l => odf (i.val : Int) (j.val : Int) = 0 → ob (i.val : Int) l = 1 → ob (j.val : Int) l = 1) (fun k h3 h4 => odf_b0 i j h3 k h4) hl.1 hl.2) hb.1 hb.2) ha.1 ha.2 h h1
/-- who is out stays as he is -/
def kp (v w : Int → Int) (l : Int) : Prop := w (18 + l) = v (18 + l) ∧ w (24 + l) = v (24 + l)
theorem in_kp {t : sp_T} {n a b l : Int} (ha : 0 ≤ a ∧ a < 6) (hb : 0 ≤ b ∧ b < 6) (hl : 0 ≤ l ∧ l < 6) {v w : Int → Int} (ho : sp_out v l = true) (h : kp v w l) : kp v (sp_in t n a b w) l := by
  unfold sp_in
  split
  · exact h
  · rename_i hc
    have ow : sp_out w l = true := by
      unfold sp_out at ho ⊢
      rw [h.1]
      exact ho
    have e1 : a ≠ l := fun z => hc (Or.inr (Or.inl (by rw [z]; exact ow)))
    have e2 : b ≠ l := fun z => hc (Or.inr (Or.inr (Or.inl (by rw [z]; exact ow))))
    unfold kp sp_marry
    rw [iu_n _ _ (by omega), iu_n _ _ (by omega), iu_n _ _ (by omega), iu_n _ _ (by omega), iu_n _ _ (by omega), iu_n _ _ (by omega), iu_n _ _ (by omega), iu_n _ _ (by omega)]
    exact h
theorem wed_kp {t : sp_T} (hT : sp_tok t) (n : Int) {l : Int} (hl : 0 ≤ l ∧ l < 6) {v w : Int → Int} (ho : sp_out v l = true) (h : kp v w l) : kp v (sp_wed t n w) l := by
  have h6 := hT.2.1
  have kA : ∀ a : Int, 0 ≤ a → a < t.1 1 → ∀ k : Nat, (k : Int) ≤ t.1 1 → ∀ w, kp v w l → kp v (itN (fun b v => sp_in t n a b v) k w) l := by
    intro a a0 a1 k
    induction k with
    | zero => intro _ w h; exact h
    | succ k ih =>
      intro hk w h
      exact in_kp ⟨a0, by omega⟩ ⟨by omega, by omega⟩ hl ho (ih (by omega) w h)
  have kO : ∀ k : Nat, (k : Int) ≤ t.1 1 → kp v (itN (fun a v => sp_wedA t n a v) k w) l := by
    intro k
    induction k with
    | zero => intro _; exact h
    | succ k ih =>
      intro hk
      exact kA k (by omega) (by omega) _ (by omega) _ (ih (by omega))
  exact kO _ (by omega)
theorem night_kp {t : sp_T} (hT : sp_tok t) {lk : Int → Int} {hf ng : Bool} (n : Int) {l : Int} (hl : 0 ≤ l ∧ l < 6) {v w : Int → Int} (ho : sp_out v l = true) (h : kp v w l) : kp v (sp_night t lk hf ng n w) l := by
  have h6 := hT.2.1
  refine wed_kp hT n hl ho ?_
  unfold kp sp_mv
  rw [if_neg (by omega), if_neg (by omega)]
  exact h
theorem run_kp {t : sp_T} (hT : sp_tok t) {lk : Int → Int} {hf ng : Bool} (n : Int) {l : Int} (hl : 0 ≤ l ∧ l < 6) {v : Int → Int} (k : Nat) (ho : sp_out (sp_run t lk hf ng n k v) l = true) : ∀ m : Nat, kp (sp_run t lk hf ng n k v) (sp_run t lk hf ng n (k + m) v) l
  | 0 => ⟨rfl, rfl⟩
  | m + 1 => night_kp hT _ hl ho (run_kp hT n hl k ho m)
/-- behind the last fog only odd and even count -/
theorem hid_no {t : sp_T} {n a b : Int} (h : ∀ f, 0 ≤ f → f < t.1 6 → t.2.2.2.1 f < n) : sp_hid t n a b = false := by
  unfold sp_hid
  refine anyN_false fun f f0 f1 => decide_eq_false ?_
  rintro ⟨z, _⟩
  have := h f f0 (by omega)
  omega
theorem best_par {t : sp_T} {n m l : Int} {v : Int → Int} (h : ∀ a b, sp_hid t n a b = sp_hid t m a b) : ∀ k : Nat, sp_best t v n l k = sp_best t v m l k
  | 0 => rfl
  | k + 1 => by
    simp only [sp_best]
    rw [best_par h k, h]
theorem mv_par {t : sp_T} {lk : Int → Int} {hf ng : Bool} {n m : Int} {v : Int → Int} (hn : ∀ f, 0 ≤ f → f < t.1 6 → t.2.2.2.1 f < n) (hm : ∀ f, 0 ≤ f → f < t.1 6 → t.2.2.2.1 f < m) (hp : n % 2 = m % 2) : sp_mv t lk hf ng n v = sp_mv t lk hf ng m v := by
  have hh : ∀ a b, sp_hid t n a b = sp_hid t m a b := fun a b => by rw [hid_no hn, hid_no hm]
  have e1 : ∀ l, sp_stays t v n l = sp_stays t v m l := fun l => by
    unfold sp_stays
    rw [hp]
  have e2 : ∀ l w, sp_to t v n l w = sp_to t v m l w := fun l w => by
    unfold sp_to
    rw [hh, best_par hh]
  funext i
  unfold sp_mv sp_move
  rw [e1, e2]
/-- two nights, an even and an odd one, without change stand for all that follow -/
def st2 (t : sp_T) (lk : Int → Int) (hf ng : Bool) (z : Int) (s n : Int) (v : Int → Int) : Prop := (1 ≤ s → nw t v ∧ z < n - 1 ∧ sp_mv t lk hf ng (n - 1) v = v) ∧ (2 ≤ s → z < n - 2 ∧ sp_mv t lk hf ng (n - 2) v = v)
theorem st2_all {t : sp_T} (hT : sp_tok t) {lk : Int → Int} {hf ng : Bool} {z n : Int} {v : Int → Int} (hz : ∀ f, 0 ≤ f → f < t.1 6 → t.2.2.2.1 f ≤ z) (h : st2 t lk hf ng z 2 n v) {m : Int} (hm : n ≤ m) : sp_night t lk hf ng m v = v := by
  obtain ⟨h1, h2, h3⟩ := h.1 (by omega)
  obtain ⟨h4, h5⟩ := h.2 (by omega)
  have e : sp_mv t lk hf ng m v = v := by
    by_cases q : m % 2 = (n - 1) % 2
    · rw [mv_par (m := n - 1) (fun f f0 f1 => by have := hz f f0 f1; omega) (fun f f0 f1 => by have := hz f f0 f1; omega) q]
      exact h3
    · rw [mv_par (m := n - 2) (fun f f0 f1 => by have := hz f f0 f1; omega) (fun f f0 f1 => by have := hz f f0 f1; omega) (by omega)]
      exact h5
  unfold sp_night
  rw [e]
  exact nw_wed hT m h1
theorem st2_run {t : sp_T} (hT : sp_tok t) {lk : Int → Int} {hf ng : Bool} {z n0 : Int} {v : Int → Int} (hz : ∀ f, 0 ≤ f → f < t.1 6 → t.2.2.2.1 f ≤ z) {k : Nat} (h : st2 t lk hf ng z 2 (n0 + k) (sp_run t lk hf ng n0 k v)) : ∀ m : Nat, sp_run t lk hf ng n0 (k + m) v = sp_run t lk hf ng n0 k v
  | 0 => rfl
  | m + 1 => by
    show sp_night t lk hf ng (n0 + ((k + m : Nat) : Int)) (sp_run t lk hf ng n0 (k + m) v) = _
    rw [st2_run hT hz h m]
    exact st2_all hT hz h (by omega)

set_option maxHeartbeats 4000000 in
set_option maxRecDepth 100000 in
theorem l_X4_flf {S : mx_Sc} {f : Bool} {M : Nat → Int → Int} {L : Nat → Nat → Int64} {Rf : Nat → Nat → Option Nat} (hR : mx_rf Rf) {t : Nat} (ht : t = 29 ∨ t = 37) (hT : sp_tok (sp_tC M t)) : ∀ (kk : Nat) (z i : Int), 0 ≤ i → i + kk = M t 6 → -1 ≤ z → z ≤ 99 → (∀ k, 0 ≤ k → k < i → M (t + 5) k ≤ z) → mx_E S mX4_findLastFog 4 [some (.ref t), some (.int (iI z)), some (.int (iI i))] [] (f, mx_SH, M, L, Rf) 0 0 (fun v9 h9 => h9 = (f, mx_SH, M, L, Rf) ∧ ∃ z, v9 = some (.int (iI z)) ∧ -1 ≤ z ∧ z ≤ 99 ∧ ∀ i, 0 ≤ i → i < M t 6 → M (t + 5) i ≤ z) (fun _ _ => False) := by
  intro kk
  induction kk with
  | zero => 
    intro z i g0 g1 hz0 hz1 hq
    have ht9 : t < 900 := by omega
    have hs_t := tc_s ht
    have hs_t1 := tc_s1 ht
    have hr_t1 := tc_r1 hR ht
    have hs_t2 := tc_s2 ht
    have hr_t2 := tc_r2 hR ht
    have hs_t3 := tc_s3 ht
    have hr_t3 := tc_r3 hR ht
    have hs_t4 := tc_s4 ht
    have hr_t4 := tc_r4 hR ht
    have hs_t5 := tc_s5 ht
    have hr_t5 := tc_r5 hR ht
    have hs_t6 := tc_s6 ht
    have hr_t6 := tc_r6 hR ht
    have hs_t7 := tc_s7 ht
    have hr_t7 := tc_r7 hR ht
    have hT0 : 1 ≤ M t 0 ∧ M t 0 ≤ 30 := hT.1
    have hT1 : 0 ≤ M t 1 ∧ M t 1 ≤ 6 := hT.2.1
    have hT2 : 1 ≤ M t 2 ∧ M t 2 ≤ 9 := hT.2.2.1
    have hT3 : 0 ≤ M t 3 ∧ M t 3 ≤ 9 := hT.2.2.2.1
    have hT4 : 0 ≤ M t 4 ∧ M t 4 ≤ 9 := hT.2.2.2.2.1
    have hT5 : 1 ≤ M t 5 ∧ M t 5 ≤ 99 := hT.2.2.2.2.2.1
    have hT6 : 0 ≤ M t 6 ∧ M t 6 ≤ 10 := hT.2.2.2.2.2.2.1
    have hTn : ((M t 1).toNat : Int) = M t 1 := Int.toNat_of_nonneg hT1.1
    have hTn6 : ((M t 6).toNat : Int) = M t 6 := Int.toNat_of_nonneg hT6.1
    refine ms_iload_n dX4_findLastFog_4 rfl ?_
    refine ms_aload_n dX4_findLastFog_5 rfl ?_
    refine ms_getI (z := 6) dX4_findLastFog_6 (fo_X4_55 rfl) (by first | rfl | assumption) rfl rfl ?_
    refine mi_icmp_ge (tgt := 29) dX4_findLastFog_9 (by decide) (fun c_9 => ?_) (fun c_9 => ?_)
    · refine ms_iload_n dX4_findLastFog_29 rfl ?_
      refine ms_ret dX4_findLastFog_30 rfl ⟨rfl, z, rfl, hz0, hz1, fun k k0 k1 => hq k k0 (by omega)⟩ (by simp)
    · exact absurd c_9 (by omega)
  | succ kk ih => 
    intro z i g0 g1 hz0 hz1 hq
    have ht9 : t < 900 := by omega
    have hs_t := tc_s ht
    have hs_t1 := tc_s1 ht
    have hr_t1 := tc_r1 hR ht
    have hs_t2 := tc_s2 ht
    have hr_t2 := tc_r2 hR ht
    have hs_t3 := tc_s3 ht
    have hr_t3 := tc_r3 hR ht
    have hs_t4 := tc_s4 ht
    have hr_t4 := tc_r4 hR ht
    have hs_t5 := tc_s5 ht
    have hr_t5 := tc_r5 hR ht
    have hs_t6 := tc_s6 ht
    have hr_t6 := tc_r6 hR ht
    have hs_t7 := tc_s7 ht
    have hr_t7 := tc_r7 hR ht
    have hT0 : 1 ≤ M t 0 ∧ M t 0 ≤ 30 := hT.1
    have hT1 : 0 ≤ M t 1 ∧ M t 1 ≤ 6 := hT.2.1
    have hT2 : 1 ≤ M t 2 ∧ M t 2 ≤ 9 := hT.2.2.1
    have hT3 : 0 ≤ M t 3 ∧ M t 3 ≤ 9 := hT.2.2.2.1
    have hT4 : 0 ≤ M t 4 ∧ M t 4 ≤ 9 := hT.2.2.2.2.1
    have hT5 : 1 ≤ M t 5 ∧ M t 5 ≤ 99 := hT.2.2.2.2.2.1
    have hT6 : 0 ≤ M t 6 ∧ M t 6 ≤ 10 := hT.2.2.2.2.2.2.1
    have hTn : ((M t 1).toNat : Int) = M t 1 := Int.toNat_of_nonneg hT1.1
    have hTn6 : ((M t 6).toNat : Int) = M t 6 := Int.toNat_of_nonneg hT6.1
    have hf := (hT.2.2.2.2.2.2.2.2 i g0 (by show i < M t 6; omega)).1
    simp only at hf
    refine ms_iload_n dX4_findLastFog_4 rfl ?_
    refine ms_aload_n dX4_findLastFog_5 rfl ?_
    refine ms_getI (z := 6) dX4_findLastFog_6 (fo_X4_55 rfl) (by first | rfl | assumption) rfl rfl ?_
    refine mi_icmp_ge (tgt := 29) dX4_findLastFog_9 (by decide) (fun c_9 => ?_) (fun c_9 => ?_)
    · exact absurd c_9 (by omega)
    · refine ms_iload_n dX4_findLastFog_12 rfl ?_
      refine ms_aload_n dX4_findLastFog_13 rfl ?_
      refine ms_getR dX4_findLastFog_14 (fo_X4_24 rfl) (by first | rfl | assumption) rfl (by first | assumption | exact rf_29_11 hR | exact rf_37_11 hR ) ?_
      refine ms_iload_n dX4_findLastFog_17 rfl ?_
      refine ms_iald dX4_findLastFog_18 (by first | rfl | assumption) ?_
      refine mi_mmax dX4_findLastFog_19 ma_X4_findLastFog_max (Nat.le_of_ble_eq_true rfl) ?_
      refine ms_istore_n dX4_findLastFog_22 (by decide) rfl ?_
      dsimp only [List.set, Nat.reduceAdd]
      refine mi_iinc dX4_findLastFog_23 rfl (by decide) rfl ?_
      dsimp only [List.set, Nat.reduceAdd]
      refine ms_goto (tgt := 4) dX4_findLastFog_26 (by decide) ?_
      refine ih _ (i + 1) (by omega) (by omega) (by split <;> omega) (by split <;> omega) (fun k k0 k1 => ?_)
      by_cases hk : k = i
      · subst hk
        split <;> omega
      · have := hq k k0 (by omega)
        split <;> omega

set_option maxHeartbeats 4000000 in
set_option maxRecDepth 100000 in
theorem k_X4_findLastFog {S : mx_Sc} {f : Bool} {M : Nat → Int → Int} {L : Nat → Nat → Int64} {Rf : Nat → Nat → Option Nat} (hR : mx_rf Rf) {t : Nat} (ht : t = 29 ∨ t = 37) (hT : sp_tok (sp_tC M t)) : mx_C S mX4_findLastFog [.ref t] (f, mx_SH, M, L, Rf) 0 0 (fun v9 h9 => h9 = (f, mx_SH, M, L, Rf) ∧ ∃ z, v9 = some (.int (iI z)) ∧ -1 ≤ z ∧ z ≤ 99 ∧ ∀ i, 0 ≤ i → i < M t 6 → M (t + 5) i ≤ z) (fun _ _ => False) := by
  refine mx_C_of (by decide) (by simp [Value.category]) (Nat.le_of_ble_eq_true rfl) rfl ?_
  show mx_E S mX4_findLastFog 0 [some (.ref t), none, none] [] (f, mx_SH, M, L, Rf) 0 0 _ _
  have ht9 : t < 900 := by omega
  have hs_t := tc_s ht
  have hs_t1 := tc_s1 ht
  have hr_t1 := tc_r1 hR ht
  have hs_t2 := tc_s2 ht
  have hr_t2 := tc_r2 hR ht
  have hs_t3 := tc_s3 ht
  have hr_t3 := tc_r3 hR ht
  have hs_t4 := tc_s4 ht
  have hr_t4 := tc_r4 hR ht
  have hs_t5 := tc_s5 ht
  have hr_t5 := tc_r5 hR ht
  have hs_t6 := tc_s6 ht
  have hr_t6 := tc_r6 hR ht
  have hs_t7 := tc_s7 ht
  have hr_t7 := tc_r7 hR ht
  have hT0 : 1 ≤ M t 0 ∧ M t 0 ≤ 30 := hT.1
  have hT1 : 0 ≤ M t 1 ∧ M t 1 ≤ 6 := hT.2.1
  have hT2 : 1 ≤ M t 2 ∧ M t 2 ≤ 9 := hT.2.2.1
  have hT3 : 0 ≤ M t 3 ∧ M t 3 ≤ 9 := hT.2.2.2.1
  have hT4 : 0 ≤ M t 4 ∧ M t 4 ≤ 9 := hT.2.2.2.2.1
  have hT5 : 1 ≤ M t 5 ∧ M t 5 ≤ 99 := hT.2.2.2.2.2.1
  have hT6 : 0 ≤ M t 6 ∧ M t 6 ≤ 10 := hT.2.2.2.2.2.2.1
  have hTn : ((M t 1).toNat : Int) = M t 1 := Int.toNat_of_nonneg hT1.1
  have hTn6 : ((M t 6).toNat : Int) = M t 6 := Int.toNat_of_nonneg hT6.1
  refine mi_iconst dX4_findLastFog_0 ?_
  refine ms_istore_n dX4_findLastFog_1 (by decide) rfl ?_
  dsimp only [List.set, Nat.reduceAdd]
  refine mi_iconst dX4_findLastFog_2 ?_
  refine ms_istore_n dX4_findLastFog_3 (by decide) rfl ?_
  dsimp only [List.set, Nat.reduceAdd]
  exact l_X4_flf hR ht hT (M t 6).toNat (-1) 0 (by omega) (by omega) (by omega) (by omega) (fun k k0 k1 => by omega)

set_option maxHeartbeats 4000000 in
set_option maxRecDepth 100000 in
theorem l_X5_gteL {S : mx_Sc} {f : Bool} {M : Nat → Int → Int} {L : Nat → Nat → Int64} {Rf : Nat → Nat → Option Nat} (hR : mx_rf Rf) {t : Nat} (ht : t = 29 ∨ t = 37) (hT : sp_tok (sp_tC M t)) {a : Nat} (ha : a = 3 ∨ a = 11 ∨ a = 18) (hwt : Rf 46 1 = some t) {wr : Nat} (hwr : wr = t + 3 ∨ wr = 23) (hwl : Rf 46 2 = some wr) (hlk : sp_lok (sp_tC M t) (M wr)) {v : Int → Int} (hsc : scR (sp_tC M t) M a v) (hv : sp_vok (sp_tC M t) v) {n : Int} (hn : 0 ≤ n ∧ n ≤ 1200) (hnn : M a 3 = n) {hf ng : Bool} (hng : M 46 4 = bI ng) (hst : M 46 3 = (if hf = true then (M t 2 + 1) / 2 else M t 2)) {lm : Int} (hlm : 0 ≤ lm ∧ lm < 64) {z : Int} (hz : -1 ≤ z ∧ z ≤ 99) (hz1 : ∀ i, 0 ≤ i → i < M t 6 → M (t + 5) i ≤ z) : ∀ (kk : Nat) (k : Nat) (N : Nat → Int → Int) (s : Int) (o6 : Option Value), n + k + kk = M t 5 → 0 ≤ s → s ≤ 2 → (∀ x, x ≠ 47 → x ≠ a → x ≠ a + 1 → x ≠ a + 2 → x ≠ a + 3 → N x = M x) → (∀ i, 3 * M t 1 ≤ i → N (a + 1) i = M (a + 1) i) → N a 3 = n + k → scR (sp_tC M t) N a (sp_run (sp_tC M t) (M wr) hf ng n k v) → sp_vok (sp_tC M t) (sp_run (sp_tC M t) (M wr) hf ng n k v) → st2 (sp_tC M t) (M wr) hf ng z s (n + k) (sp_run (sp_tC M t) (M wr) hf ng n k v) → mx_E S mX5_goToEaster 17 [some (.ref 46), some (.ref a), some (.int (iI lm)), some (.int (iI z)), some (.int (iI s)), some (.int (iI (n + k))), o6] [] (f, mx_SH, N, L, Rf) 0 0 (fun v9 h9 => ∃ N w, h9 = (f, mx_SH, N, L, Rf) ∧ v9 = none ∧ (∀ x, x ≠ 47 → x ≠ a → x ≠ a + 1 → x ≠ a + 2 → x ≠ a + 3 → N x = M x) ∧ (∀ i, 3 * M t 1 ≤ i → N (a + 1) i = M (a + 1) i) ∧ scR (sp_tC M t) N a w ∧ sp_vok (sp_tC M t) w ∧ ∀ l, 0 ≤ l → l < 6 → ob lm l = 1 → kp w (sp_run (sp_tC M t) (M wr) hf ng n (M t 5 - n).toNat v) l) (fun _ _ => False) := by
  intro kk
  induction kk with
  | zero => 
    intro k N s o6 g1 hs0 hs1 q1 q2 q3 hsc2 hv2 hst2
    have ht9 : t < 900 := by omega
    have hs_t := tc_s ht
    have hs_t1 := tc_s1 ht
    have hr_t1 := tc_r1 hR ht
    have hs_t2 := tc_s2 ht
    have hr_t2 := tc_r2 hR ht
    have hs_t3 := tc_s3 ht
    have hr_t3 := tc_r3 hR ht
    have hs_t4 := tc_s4 ht
    have hr_t4 := tc_r4 hR ht
    have hs_t5 := tc_s5 ht
    have hr_t5 := tc_r5 hR ht
    have hs_t6 := tc_s6 ht
    have hr_t6 := tc_r6 hR ht
    have hs_t7 := tc_s7 ht
    have hr_t7 := tc_r7 hR ht
    have ha9 : a < 900 := by omega
    have hs_a := sc_s ha
    have hs_a1 := sc_s1 ha
    have hr_a1 := sc_r1 hR ha
    have hs_a2 := sc_s2 ha
    have hr_a2 := sc_r2 hR ha
    have hs_a3 := sc_s3 ha
    have hr_a3 := sc_r3 hR ha
    have hT0 : 1 ≤ M t 0 ∧ M t 0 ≤ 30 := hT.1
    have hT1 : 0 ≤ M t 1 ∧ M t 1 ≤ 6 := hT.2.1
    have hT2 : 1 ≤ M t 2 ∧ M t 2 ≤ 9 := hT.2.2.1
    have hT3 : 0 ≤ M t 3 ∧ M t 3 ≤ 9 := hT.2.2.2.1
    have hT4 : 0 ≤ M t 4 ∧ M t 4 ≤ 9 := hT.2.2.2.2.1
    have hT5 : 1 ≤ M t 5 ∧ M t 5 ≤ 99 := hT.2.2.2.2.2.1
    have hT6 : 0 ≤ M t 6 ∧ M t 6 ≤ 10 := hT.2.2.2.2.2.2.1
    have hTn : ((M t 1).toNat : Int) = M t 1 := Int.toNat_of_nonneg hT1.1
    have hTn6 : ((M t 6).toNat : Int) = M t 6 := Int.toNat_of_nonneg hT6.1
    have hs_w : mx_SH[wr]? = some (0, 6) := by rcases hwr with rfl | rfl; exact tc_s3 ht; rfl
    have hw9 : wr < 900 := by omega
    have eT : sp_tC N t = sp_tC M t := tC_fr (fun y _ _ => q1 y (by omega) (by omega) (by omega) (by omega) (by omega))
    have eN : ∀ k, N t k = M t k := fun k => by rw [q1 t (by omega) (by omega) (by omega) (by omega) (by omega)]
    have eN5 := eN 5
    have e46 : N 46 = M 46 := q1 46 (by omega) (by omega) (by omega) (by omega) (by omega)
    have ewr : N wr = M wr := q1 wr (by omega) (by omega) (by omega) (by omega) (by omega)
    have hob := hsc2.2.2.1
    have hod := odf_e hlm hob
    have hodp : 0 ≤ odf lm (N a 4) := Int.natCast_nonneg _
    refine ms_iload dX5_goToEaster_17 rfl ?_
    refine ms_aload_n dX5_goToEaster_19 rfl ?_
    refine ms_getR dX5_goToEaster_20 (fo_X5_15 rfl) (by first | rfl | assumption) rfl (by first | assumption ) ?_
    refine ms_getI (z := 5) dX5_goToEaster_23 (fo_X5_43 rfl) (by first | rfl | assumption) rfl rfl ?_
    refine mi_icmp_ge (tgt := 81) dX5_goToEaster_26 (by decide) (fun c_26 => ?_) (fun c_26 => ?_)
    · exact ms_retV dX5_goToEaster_81 rfl ⟨N, _, rfl, rfl, q1, q2, hsc2, hv2, fun l l0 l1 _ => by rw [show (M t 5 - n).toNat = k by omega]; exact ⟨rfl, rfl⟩⟩ (by simp)
    · exact absurd c_26 (by omega)
  | succ kk ih => 
    intro k N s o6 g1 hs0 hs1 q1 q2 q3 hsc2 hv2 hst2
    have ht9 : t < 900 := by omega
    have hs_t := tc_s ht
    have hs_t1 := tc_s1 ht
    have hr_t1 := tc_r1 hR ht
    have hs_t2 := tc_s2 ht
    have hr_t2 := tc_r2 hR ht
    have hs_t3 := tc_s3 ht
    have hr_t3 := tc_r3 hR ht
    have hs_t4 := tc_s4 ht
    have hr_t4 := tc_r4 hR ht
    have hs_t5 := tc_s5 ht
    have hr_t5 := tc_r5 hR ht
    have hs_t6 := tc_s6 ht
    have hr_t6 := tc_r6 hR ht
    have hs_t7 := tc_s7 ht
    have hr_t7 := tc_r7 hR ht
    have ha9 : a < 900 := by omega
    have hs_a := sc_s ha
    have hs_a1 := sc_s1 ha
    have hr_a1 := sc_r1 hR ha
    have hs_a2 := sc_s2 ha
    have hr_a2 := sc_r2 hR ha
    have hs_a3 := sc_s3 ha
    have hr_a3 := sc_r3 hR ha
    have hT0 : 1 ≤ M t 0 ∧ M t 0 ≤ 30 := hT.1
    have hT1 : 0 ≤ M t 1 ∧ M t 1 ≤ 6 := hT.2.1
    have hT2 : 1 ≤ M t 2 ∧ M t 2 ≤ 9 := hT.2.2.1
    have hT3 : 0 ≤ M t 3 ∧ M t 3 ≤ 9 := hT.2.2.2.1
    have hT4 : 0 ≤ M t 4 ∧ M t 4 ≤ 9 := hT.2.2.2.2.1
    have hT5 : 1 ≤ M t 5 ∧ M t 5 ≤ 99 := hT.2.2.2.2.2.1
    have hT6 : 0 ≤ M t 6 ∧ M t 6 ≤ 10 := hT.2.2.2.2.2.2.1
    have hTn : ((M t 1).toNat : Int) = M t 1 := Int.toNat_of_nonneg hT1.1
    have hTn6 : ((M t 6).toNat : Int) = M t 6 := Int.toNat_of_nonneg hT6.1
    have hs_w : mx_SH[wr]? = some (0, 6) := by rcases hwr with rfl | rfl; exact tc_s3 ht; rfl
    have hw9 : wr < 900 := by omega
    have eT : sp_tC N t = sp_tC M t := tC_fr (fun y _ _ => q1 y (by omega) (by omega) (by omega) (by omega) (by omega))
    have eN : ∀ k, N t k = M t k := fun k => by rw [q1 t (by omega) (by omega) (by omega) (by omega) (by omega)]
    have eN5 := eN 5
    have e46 : N 46 = M 46 := q1 46 (by omega) (by omega) (by omega) (by omega) (by omega)
    have ewr : N wr = M wr := q1 wr (by omega) (by omega) (by omega) (by omega) (by omega)
    have hob := hsc2.2.2.1
    have hod := odf_e hlm hob
    have hodp : 0 ≤ odf lm (N a 4) := Int.natCast_nonneg _
    refine ms_iload dX5_goToEaster_17 rfl ?_
    refine ms_aload_n dX5_goToEaster_19 rfl ?_
    refine ms_getR dX5_goToEaster_20 (fo_X5_15 rfl) (by first | rfl | assumption) rfl (by first | assumption ) ?_
    refine ms_getI (z := 5) dX5_goToEaster_23 (fo_X5_43 rfl) (by first | rfl | assumption) rfl rfl ?_
    refine mi_icmp_ge (tgt := 81) dX5_goToEaster_26 (by decide) (fun c_26 => ?_) (fun c_26 => ?_)
    · exact absurd c_26 (by omega)
    · refine ms_iload_n dX5_goToEaster_29 rfl ?_
      refine ms_aload_n dX5_goToEaster_30 rfl ?_
      refine ms_getI (z := 4) dX5_goToEaster_31 (fo_X5_46 rfl) (by first | rfl | assumption) rfl rfl ?_
      refine mi_iconst dX5_goToEaster_34 ?_
      refine mi_ixor (-1 - N a 4) dX5_goToEaster_35 (oxm hob) ?_
      refine mi_iand (odf lm (N a 4)) dX5_goToEaster_36 hod.1 ?_
      refine mi_if_eq (tgt := 46) dX5_goToEaster_37 (by decide) (fun c_37 => ?_) (fun c_37 => ?_)
      · exact ms_retV dX5_goToEaster_46 rfl ⟨N, _, rfl, rfl, q1, q2, hsc2, hv2, fun l l0 l1 h1 => by rw [show (M t 5 - n).toNat = k + (kk + 1) by omega]; exact run_kp hT n ⟨l0, l1⟩ k (by have h2 := odf_b hlm hob ⟨l0, l1⟩ c_37 h1; rw [hsc2.2.2.2.1 l l0 l1] at h2; exact bI_1.mp h2) (kk + 1)⟩ (by simp)
      · refine ms_iload dX5_goToEaster_40 rfl ?_
        refine mi_iconst dX5_goToEaster_42 ?_
        refine mi_icmp_ne (tgt := 47) dX5_goToEaster_43 (by decide) (fun c_43 => ?_) (fun c_43 => ?_)
        · refine ms_aload_n dX5_goToEaster_47 rfl ?_
          refine ms_aload_n dX5_goToEaster_48 rfl ?_
          refine ms_callV1 (ci := 5) (r := (RX5, TX5, 5)) dX5_goToEaster_49 cv_X5_goToEaster_X5_passNight (k_X5_passNight (M := N) (v := sp_run (sp_tC M t) (M wr) hf ng n k v) (n := n + k) (hf := hf) (ng := ng) hR ht (by rw [eT]; exact hT) ha hwt hwr hwl (by rw [eT, ewr]; exact hlk) (by rw [eT]; exact hsc2) (by rw [eT]; exact hv2) (by omega) q3 (by rw [e46]; exact hng) (by rw [e46, eN]; exact hst)) rfl rfl (by first | rfl | assumption) (Nat.le_of_ble_eq_true rfl) rfl (fun _ _ z => z.elim) (fun v9 h9 hp9 => ?_)
          obtain ⟨N2, c, rfl, rfl, y1, y2, y3, y4, y5, y6⟩ := hp9
          refine ms_istore dX5_goToEaster_52 (by decide) rfl ?_
          dsimp only [List.set, Nat.reduceAdd]
          refine ms_iload dX5_goToEaster_54 rfl ?_
          refine mi_if_neB (tgt := 65) dX5_goToEaster_56 (by decide) (fun c_56 => ?_) (fun c_56 => ?_)
          · refine mi_iconst dX5_goToEaster_65 ?_
            refine ms_goto (tgt := 73) dX5_goToEaster_66 (by decide) ?_
            refine ms_istore dX5_goToEaster_73 (by decide) rfl ?_
            dsimp only [List.set, Nat.reduceAdd]
            refine mi_iinc dX5_goToEaster_75 rfl (by decide) rfl ?_
            dsimp only [List.set, Nat.reduceAdd]
            refine ms_goto (tgt := 17) dX5_goToEaster_78 (by decide) ?_
            have i9 := ih (k + 1) N2 0 (some (.int (iI (bI c)))) (by omega) (by omega) (by omega) (fun x x1 x2 x3 x4 x5 => by rw [y1 x x1 x2 x3 x4 x5, q1 x x1 x2 x3 x4 x5]) (fun i hi => by rw [y3 i (by rw [eN]; exact hi), q2 i hi]) (by rw [y2]; omega) (by rw [eT, ewr] at y4; exact y4) (by rw [eT, ewr] at y5; exact y5) (⟨fun z9 => by omega, fun z9 => by omega⟩)
            rw [show n + ((k + 1 : Nat) : Int) = n + k + 1 by omega] at i9
            exact i9
          · refine ms_iload dX5_goToEaster_59 rfl ?_
            refine ms_iload_n dX5_goToEaster_61 rfl ?_
            refine mi_icmp_gt (tgt := 69) dX5_goToEaster_62 (by decide) (fun c_62 => ?_) (fun c_62 => ?_)
            · refine ms_iload dX5_goToEaster_69 rfl ?_
              refine mi_iconst dX5_goToEaster_71 ?_
              refine mi_iadd dX5_goToEaster_72 ?_
              refine ms_istore dX5_goToEaster_73 (by decide) rfl ?_
              dsimp only [List.set, Nat.reduceAdd]
              refine mi_iinc dX5_goToEaster_75 rfl (by decide) rfl ?_
              dsimp only [List.set, Nat.reduceAdd]
              refine ms_goto (tgt := 17) dX5_goToEaster_78 (by decide) ?_
              have y7 := y6 c_56
              rw [eT, ewr] at y7
              have er : sp_run (sp_tC M t) (M wr) hf ng n (k + 1) v = sp_run (sp_tC M t) (M wr) hf ng n k v := by
                show sp_wed (sp_tC M t) (n + k) (sp_mv (sp_tC M t) (M wr) hf ng (n + k) (sp_run (sp_tC M t) (M wr) hf ng n k v)) = _
                rw [y7.1]
                exact nw_wed hT _ y7.2
              have i9 := ih (k + 1) N2 (s + 1) (some (.int (iI (bI c)))) (by omega) (by omega) (by omega) (fun x x1 x2 x3 x4 x5 => by rw [y1 x x1 x2 x3 x4 x5, q1 x x1 x2 x3 x4 x5]) (fun i hi => by rw [y3 i (by rw [eN]; exact hi), q2 i hi]) (by rw [y2]; omega) (by rw [eT, ewr] at y4; exact y4) (by rw [eT, ewr] at y5; exact y5) (by rw [er, show n + ((k + 1 : Nat) : Int) = n + k + 1 by omega]; exact ⟨fun _ => ⟨y7.2, by omega, by rw [show n + (k : Int) + 1 - 1 = n + k by omega]; exact y7.1⟩, fun z9 => by have h8 := hst2.1 (by omega); exact ⟨by omega, by rw [show n + (k : Int) + 1 - 2 = n + k - 1 by omega]; exact h8.2.2⟩⟩)
              rw [show n + ((k + 1 : Nat) : Int) = n + k + 1 by omega] at i9
              exact i9
            · refine mi_iconst dX5_goToEaster_65 ?_
              refine ms_goto (tgt := 73) dX5_goToEaster_66 (by decide) ?_
              refine ms_istore dX5_goToEaster_73 (by decide) rfl ?_
              dsimp only [List.set, Nat.reduceAdd]
              refine mi_iinc dX5_goToEaster_75 rfl (by decide) rfl ?_
              dsimp only [List.set, Nat.reduceAdd]
              refine ms_goto (tgt := 17) dX5_goToEaster_78 (by decide) ?_
              have i9 := ih (k + 1) N2 0 (some (.int (iI (bI c)))) (by omega) (by omega) (by omega) (fun x x1 x2 x3 x4 x5 => by rw [y1 x x1 x2 x3 x4 x5, q1 x x1 x2 x3 x4 x5]) (fun i hi => by rw [y3 i (by rw [eN]; exact hi), q2 i hi]) (by rw [y2]; omega) (by rw [eT, ewr] at y4; exact y4) (by rw [eT, ewr] at y5; exact y5) (⟨fun z9 => by omega, fun z9 => by omega⟩)
              rw [show n + ((k + 1 : Nat) : Int) = n + k + 1 by omega] at i9
              exact i9
        · have es : s = 2 := by omega
          subst es
          exact ms_retV dX5_goToEaster_46 rfl ⟨N, _, rfl, rfl, q1, q2, hsc2, hv2, fun l l0 l1 h1 => by rw [show (M t 5 - n).toNat = k + (kk + 1) by omega, st2_run hT hz1 hst2]; exact ⟨rfl, rfl⟩⟩ (by simp)

set_option maxHeartbeats 4000000 in
set_option maxRecDepth 100000 in
theorem k_X5_goToEaster {S : mx_Sc} {f : Bool} {M : Nat → Int → Int} {L : Nat → Nat → Int64} {Rf : Nat → Nat → Option Nat} (hR : mx_rf Rf) {t : Nat} (ht : t = 29 ∨ t = 37) (hT : sp_tok (sp_tC M t)) {a : Nat} (ha : a = 3 ∨ a = 11 ∨ a = 18) (hwt : Rf 46 1 = some t) {wr : Nat} (hwr : wr = t + 3 ∨ wr = 23) (hwl : Rf 46 2 = some wr) (hlk : sp_lok (sp_tC M t) (M wr)) {v : Int → Int} (hsc : scR (sp_tC M t) M a v) (hv : sp_vok (sp_tC M t) v) {n : Int} (hn : 0 ≤ n ∧ n ≤ 1200) (hnn : M a 3 = n) {hf ng : Bool} (hng : M 46 4 = bI ng) (hst : M 46 3 = (if hf = true then (M t 2 + 1) / 2 else M t 2)) {lm : Int} (hlm : 0 ≤ lm ∧ lm < 64) (hne : n ≤ M t 5) : mx_C S mX5_goToEaster [.ref 46, .ref a, .int (iI lm)] (f, mx_SH, M, L, Rf) 0 0 (fun v9 h9 => ∃ N w, h9 = (f, mx_SH, N, L, Rf) ∧ v9 = none ∧ (∀ x, x ≠ 47 → x ≠ a → x ≠ a + 1 → x ≠ a + 2 → x ≠ a + 3 → N x = M x) ∧ (∀ i, 3 * M t 1 ≤ i → N (a + 1) i = M (a + 1) i) ∧ scR (sp_tC M t) N a w ∧ sp_vok (sp_tC M t) w ∧ ∀ l, 0 ≤ l → l < 6 → ob lm l = 1 → kp w (sp_run (sp_tC M t) (M wr) hf ng n (M t 5 - n).toNat v) l) (fun _ _ => False) := by
  refine mx_C_of (by decide) (by simp [Value.category]) (Nat.le_of_ble_eq_true rfl) rfl ?_
  show mx_E S mX5_goToEaster 0 [some (.ref 46), some (.ref a), some (.int (iI lm)), none, none, none, none] [] (f, mx_SH, M, L, Rf) 0 0 _ _
  have ht9 : t < 900 := by omega
  have hs_t := tc_s ht
  have hs_t1 := tc_s1 ht
  have hr_t1 := tc_r1 hR ht
  have hs_t2 := tc_s2 ht
  have hr_t2 := tc_r2 hR ht
  have hs_t3 := tc_s3 ht
  have hr_t3 := tc_r3 hR ht
  have hs_t4 := tc_s4 ht
  have hr_t4 := tc_r4 hR ht
  have hs_t5 := tc_s5 ht
  have hr_t5 := tc_r5 hR ht
  have hs_t6 := tc_s6 ht
  have hr_t6 := tc_r6 hR ht
  have hs_t7 := tc_s7 ht
  have hr_t7 := tc_r7 hR ht
  have ha9 : a < 900 := by omega
  have hs_a := sc_s ha
  have hs_a1 := sc_s1 ha
  have hr_a1 := sc_r1 hR ha
  have hs_a2 := sc_s2 ha
  have hr_a2 := sc_r2 hR ha
  have hs_a3 := sc_s3 ha
  have hr_a3 := sc_r3 hR ha
  have hT0 : 1 ≤ M t 0 ∧ M t 0 ≤ 30 := hT.1
  have hT1 : 0 ≤ M t 1 ∧ M t 1 ≤ 6 := hT.2.1
  have hT2 : 1 ≤ M t 2 ∧ M t 2 ≤ 9 := hT.2.2.1
  have hT3 : 0 ≤ M t 3 ∧ M t 3 ≤ 9 := hT.2.2.2.1
  have hT4 : 0 ≤ M t 4 ∧ M t 4 ≤ 9 := hT.2.2.2.2.1
  have hT5 : 1 ≤ M t 5 ∧ M t 5 ≤ 99 := hT.2.2.2.2.2.1
  have hT6 : 0 ≤ M t 6 ∧ M t 6 ≤ 10 := hT.2.2.2.2.2.2.1
  have hTn : ((M t 1).toNat : Int) = M t 1 := Int.toNat_of_nonneg hT1.1
  have hTn6 : ((M t 6).toNat : Int) = M t 6 := Int.toNat_of_nonneg hT6.1
  have hs_w : mx_SH[wr]? = some (0, 6) := by rcases hwr with rfl | rfl; exact tc_s3 ht; rfl
  have hw9 : wr < 900 := by omega
  refine ms_aload_n dX5_goToEaster_0 rfl ?_
  refine ms_getR dX5_goToEaster_1 (fo_X5_15 rfl) (by first | rfl | assumption) rfl (by first | assumption ) ?_
  refine ms_callV0 (ci := 4) (r := (RX4, TX4, 14)) dX5_goToEaster_4 cv_X5_goToEaster_X4_findLastFog (k_X4_findLastFog hR ht hT) rfl rfl (by first | rfl | assumption) (Nat.le_of_ble_eq_true rfl) rfl (fun _ _ z => z.elim) (fun v9 h9 hp9 => ?_)
  obtain ⟨rfl, z, rfl, hz0, hz1, hzq⟩ := hp9
  refine ms_istore_n dX5_goToEaster_7 (by decide) rfl ?_
  dsimp only [List.set, Nat.reduceAdd]
  refine mi_iconst dX5_goToEaster_8 ?_
  refine ms_istore dX5_goToEaster_9 (by decide) rfl ?_
  dsimp only [List.set, Nat.reduceAdd]
  refine ms_aload_n dX5_goToEaster_11 rfl ?_
  refine ms_getI (z := 3) dX5_goToEaster_12 (fo_X5_38 rfl) (by first | rfl | assumption) rfl rfl ?_
  refine ms_istore dX5_goToEaster_15 (by decide) rfl ?_
  dsimp only [List.set, Nat.reduceAdd]
  have i9 := l_X5_gteL (S := S) (f := f) (L := L) hR ht hT ha hwt hwr hwl hlk hsc hv hn hnn hng hst hlm ⟨hz0, hz1⟩ hzq (M t 5 - n).toNat 0 M 0 none (by omega) (by omega) (by omega) (fun _ _ _ _ _ _ => rfl) (fun _ _ => rfl) (by omega) hsc hv ⟨fun z9 => by omega, fun z9 => by omega⟩
  rw [show n + ((0 : Nat) : Int) = M a 3 by omega] at i9
  exact i9

