/-- the reference's rows of what is being told -/
def mr (N : Nat → Int → Int) : td_T := fun j i => if j = 0 then N 53 (7 + i) else if j = 1 then N 54 (6 + i) else if j = 2 then N 55 (6 + i) else if j = 3 then N 57 (6 + i) else if j = 4 then N 56 (18 + i) else if j = 5 then N 58 (10 + i) else if j = 6 then N 59 (10 + i) else N 60 (10 + i)
def mdG (N : Nat → Int → Int) (n p : Int) (T : td_T) : Prop := mdS N n p ∧ N 48 22 = 0 ∧ tq T (mr N) ∧ td_ok T
def mdF (N : Nat → Int → Int) (c q : Int) : Prop := N 48 22 = c ∧ N 48 23 = q ∧ (1 ≤ c ∧ c ≤ 5)
/-- what the reading leaves as it was -/
def mfP (M N : Nat → Int → Int) : Prop := (∀ x, x ≠ 48 → (x < 53 ∨ 60 < x) → N x = M x) ∧ (∀ k, k < 7 → N 53 k = M 53 k) ∧ (∀ k, k < 6 → N 54 k = M 54 k ∧ N 55 k = M 55 k ∧ N 57 k = M 57 k) ∧ (∀ k, k < 18 → N 56 k = M 56 k) ∧ (∀ k, k < 10 → N 58 k = M 58 k ∧ N 59 k = M 59 k ∧ N 60 k = M 60 k) ∧ ∀ k, (k < 16 ∨ k = 17 ∨ 23 < k) → N 48 k = M 48 k
theorem mfP.rf {M : Nat → Int → Int} : mfP M M := ⟨fun _ _ _ => rfl, fun _ _ => rfl, fun _ _ => ⟨rfl, rfl, rfl⟩, fun _ _ => rfl, fun _ _ => ⟨rfl, rfl, rfl⟩, fun _ _ => rfl⟩
theorem mfP.tr {M N O : Nat → Int → Int} (h1 : mfP M N) (h2 : mfP N O) : mfP M O := ⟨fun x a b => (h2.1 x a b).trans (h1.1 x a b), fun k hk => (h2.2.1 k hk).trans (h1.2.1 k hk), fun k hk => ⟨(h2.2.2.1 k hk).1.trans (h1.2.2.1 k hk).1, (h2.2.2.1 k hk).2.1.trans (h1.2.2.1 k hk).2.1, (h2.2.2.1 k hk).2.2.trans (h1.2.2.1 k hk).2.2⟩, fun k hk => (h2.2.2.2.1 k hk).trans (h1.2.2.2.1 k hk), fun k hk => ⟨(h2.2.2.2.2.1 k hk).1.trans (h1.2.2.2.2.1 k hk).1, (h2.2.2.2.2.1 k hk).2.1.trans (h1.2.2.2.2.1 k hk).2.1, (h2.2.2.2.2.1 k hk).2.2.trans (h1.2.2.2.2.1 k hk).2.2⟩, fun k hk => (h2.2.2.2.2.2 k hk).trans (h1.2.2.2.2.2 k hk)⟩
/-- only the object's own numbers -/
theorem mfP.o48 {M N : Nat → Int → Int} (h1 : ∀ x, x ≠ 48 → N x = M x) (h2 : ∀ k, (k < 16 ∨ k = 17 ∨ 23 < k) → N 48 k = M 48 k) : mfP M N := ⟨fun x a _ => h1 x a, fun k _ => by rw [h1 53 (by decide)], fun k _ => by rw [h1 54 (by decide), h1 55 (by decide), h1 57 (by decide)]; exact ⟨rfl, rfl, rfl⟩, fun k _ => by rw [h1 56 (by decide)], fun k _ => by rw [h1 58 (by decide), h1 59 (by decide), h1 60 (by decide)]; exact ⟨rfl, rfl, rfl⟩, h2⟩
theorem sfP.mf {M N : Nat → Int → Int} (h : sfP M N) : mfP M N := mfP.o48 h.1 (fun k hk => h.2 k (by omega))
theorem mr_48 {M N : Nat → Int → Int} (h : ∀ x, x ≠ 48 → N x = M x) : mr N = mr M := by
  funext j i
  unfold mr
  rw [h 53 (by decide), h 54 (by decide), h 55 (by decide), h 56 (by decide), h 57 (by decide), h 58 (by decide), h 59 (by decide), h 60 (by decide)]
theorem sfP.G {M N : Nat → Int → Int} {n p q : Int} {T : td_T} (hG : mdG M n p T) (h : sfP M N) (h2 : mdS N n q) : mdG N n q T := ⟨h2, (h.2 22 (by omega)).trans hG.2.1, by rw [mr_48 h.1]; exact hG.2.2.1, hG.2.2.2⟩
theorem mdG.F {M : Nat → Int → Int} {n p c : Int} {T : td_T} (hG : mdG M n p T) (hc : 1 ≤ c ∧ c ≤ 5) : mdF (va_up M 48 (iu (iu (M 48) 22 c) 23 (M 48 20))) c p ∧ mfP M (va_up M 48 (iu (iu (M 48) 22 c) 23 (M 48 20))) := by
  refine ⟨⟨by rw [up_s, iu_n _ _ (by decide), iu_s], by rw [up_s, iu_s]; exact hG.1.2.1, hc⟩, mfP.o48 (fun x hx => up_n _ _ hx) (fun k hk => by rw [up_s, iu_n _ _ (by omega), iu_n _ _ (by omega)])⟩
set_option maxHeartbeats 4000000 in
set_option maxRecDepth 100000 in
theorem k_X7_wrong {S : mx_Sc} {f : Bool} {M : Nat → Int → Int} {L : Nat → Nat → Int64} {Rf : Nat → Nat → Option Nat} (hR : mx_rf Rf) {e : Int} (hw : 0 ≤ M 48 22 ∧ M 48 22 ≤ 5) : mx_C S mX7_wrong [.ref 48, .int (iI e)] (f, mx_SH, M, L, Rf) 0 0 (fun v9 h9 => h9 = (f, mx_SH, (if M 48 22 = 0 then va_up M 48 (iu (iu (M 48) 22 e) 23 (M 48 20)) else M), L, Rf) ∧ v9 = none) (fun _ _ => False) := by
  refine mx_C_of (by decide) (by simp [Value.category]) (Nat.le_of_ble_eq_true rfl) rfl ?_
  show mx_E S mX7_wrong 0 [some (.ref 48), some (.int (iI e))] [] (f, mx_SH, M, L, Rf) 0 0 _ _
  refine ms_aload_n dX7_wrong_0 rfl ?_
  refine ms_getI (z := 22) dX7_wrong_1 (fo_X7_176 rfl) (by first | rfl | assumption) rfl rfl ?_
  refine mi_if_eq (tgt := 8) dX7_wrong_4 (by decide) (fun c_4 => ?_) (fun c_4 => ?_)
  · refine ms_aload_n dX7_wrong_8 rfl ?_
    refine ms_iload_n dX7_wrong_9 rfl ?_
    refine ms_putI (z := 22) dX7_wrong_10 (fo_X7_176 rfl) (by first | rfl | assumption) rfl rfl rfl ?_
    refine ms_aload_n dX7_wrong_13 rfl ?_
    refine ms_aload_n dX7_wrong_14 rfl ?_
    refine ms_getI (z := 20) dX7_wrong_15 (fo_X7_151 rfl) (by first | rfl | assumption) rfl rfl ?_
    refine ms_putI (z := 23) dX7_wrong_18 (fo_X7_179 rfl) (by first | rfl | assumption) rfl rfl rfl ?_
    refine ms_retV dX7_wrong_21 rfl ⟨by rw [if_pos c_4, bx_uu, up_s, iu_n _ _ (by decide)], rfl⟩ (by simp)
  · refine ms_retV dX7_wrong_7 rfl ⟨by rw [if_neg c_4], rfl⟩ (by simp)

def isP (g : Int → Int) (n p : Int) (i : Nat) : Prop := tk g n p = 0 ∧ spS g p (te g n p) i
noncomputable def isB (g : Int → Int) (n p : Int) (i : Nat) : Bool := @decide (isP g n p i) (Classical.propDecidable _)
theorem isB_t {g : Int → Int} {n p : Int} {i : Nat} (h : isP g n p i) : isB g n p i = true := @decide_eq_true _ (Classical.propDecidable _) h
theorem isB_f {g : Int → Int} {n p : Int} {i : Nat} (h : ¬ isP g n p i) : isB g n p i = false := @decide_eq_false _ (Classical.propDecidable _) h
theorem isB_i {g : Int → Int} {n p : Int} {i : Nat} (h : isB g n p i = true) : isP g n p i := @of_decide_eq_true _ (Classical.propDecidable _) h
theorem isB_n {g : Int → Int} {n p : Int} {i : Nat} (h : isB g n p i = false) : ¬ isP g n p i := @of_decide_eq_false _ (Classical.propDecidable _) h
set_option maxHeartbeats 4000000 in
set_option maxRecDepth 100000 in
theorem l_X7_is {S : mx_Sc} {f : Bool} {M : Nat → Int → Int} {L : Nat → Nat → Int64} {Rf : Nat → Nat → Option Nat} (hR : mx_rf Rf) {n : Int} (hn : 0 ≤ n ∧ n ≤ 500) (hB : ∀ i, 0 ≤ i → i < 500 → 0 ≤ M 62 i ∧ M 62 i ≤ 255) {p : Int} {T : td_T} (hG : mdG M n p T) {i : Nat} (hi : i < 13) (hk0 : tk (M 62) n p = 0) (hln : ((mx_sl.getD i 0 : Nat) : Int) = te (M 62) n p - p) : ∀ (kk : Nat) (k : Int), 0 ≤ k → k + kk = (mx_sl.getD i 0 : Nat) → (∀ j : Int, 0 ≤ j → j < k → M 62 (p + j) = sbz i j) → mx_E S mX7_is 39 [some (.ref 48), some (.ref (1001 + i)), some (.int (iI 1)), some (.int (iI k))] [] (f, mx_SH, M, L, Rf) 0 0 (fun v9 h9 => h9 = (f, mx_SH, M, L, Rf) ∧ v9 = some (.int (iI (bI (isB (M 62) n p i))))) (fun _ _ => False) := by
  intro kk
  induction kk with
  | zero => 
    intro k g0 g1 q1
    have hS := hG.1
    have hw0 := hG.2.1
    have h20 := hS.2.1
    have h21 := hS.2.2.1
    have h16 := hS.2.2.2.1
    have h18 := hS.2.2.2.2.1
    have hnum := hS.2.2.2.2.2.1
    have h0 := hS.2.2.2.2.2.2
    have htb := tk_b (M 62) n p
    have ht9 := te_b (g := M 62) h0.2
    have e0 : ∀ k, 0 ≤ k → k < 7 → M 53 (7 + k) = T 0 k := hG.2.2.1.1
    have e00 : M 53 7 = T 0 0 := e0 0 (by decide) (by decide)
    have e01 : M 53 8 = T 0 1 := e0 1 (by decide) (by decide)
    have e06 : M 53 13 = T 0 6 := e0 6 (by decide) (by decide)
    have o0 : 1 ≤ T 0 0 ∧ T 0 0 ≤ 30 := hG.2.2.2.1.1
    have o1 : 0 ≤ T 0 1 ∧ T 0 1 ≤ 6 := hG.2.2.2.1.2.1
    have o6 : 0 ≤ T 0 6 ∧ T 0 6 ≤ 10 := hG.2.2.2.1.2.2.2.2.2.2.1
    have hmt : mtk (tk (M 62) n p) = if tk (M 62) n p = 4 then 0 else tk (M 62) n p + 1 := rfl
    have hsl := (sl_e hi).2
    refine ms_iload_n dX7_is_39 rfl ?_
    refine mi_if_eq (tgt := 82) dX7_is_40 (by decide) (fun c_40 => ?_) (fun c_40 => ?_)
    · exact absurd c_40 (by omega)
    · refine ms_iload_n dX7_is_43 rfl ?_
      refine ms_aload_n dX7_is_44 rfl ?_
      refine ms_callQ (i := i) (n := 0) (As := []) hi dX7_is_45 cv_X7_is_J0_length_8abf5 rfl (k_strlen hi) rfl rfl (Nat.le_of_ble_eq_true rfl) rfl (fun v9 h9 hp9 => ?_)
      obtain ⟨rfl, rfl⟩ := hp9
      refine mi_icmp_ge (tgt := 82) dX7_is_48 (by decide) (fun c_48 => ?_) (fun c_48 => ?_)
      · refine ms_iload_n dX7_is_82 rfl ?_
        refine ms_retZ dX7_is_83 rfl (by first | exact Or.inl rfl | exact Or.inr rfl) ⟨rfl, by rw [isB_t ⟨hk0, by omega, fun j j0 j1 => q1 j j0 (by omega)⟩]; rfl⟩ (by simp)
      · exact absurd c_48 (by omega)
  | succ kk ih => 
    intro k g0 g1 q1
    have hS := hG.1
    have hw0 := hG.2.1
    have h20 := hS.2.1
    have h21 := hS.2.2.1
    have h16 := hS.2.2.2.1
    have h18 := hS.2.2.2.2.1
    have hnum := hS.2.2.2.2.2.1
    have h0 := hS.2.2.2.2.2.2
    have htb := tk_b (M 62) n p
    have ht9 := te_b (g := M 62) h0.2
    have e0 : ∀ k, 0 ≤ k → k < 7 → M 53 (7 + k) = T 0 k := hG.2.2.1.1
    have e00 : M 53 7 = T 0 0 := e0 0 (by decide) (by decide)
    have e01 : M 53 8 = T 0 1 := e0 1 (by decide) (by decide)
    have e06 : M 53 13 = T 0 6 := e0 6 (by decide) (by decide)
    have o0 : 1 ≤ T 0 0 ∧ T 0 0 ≤ 30 := hG.2.2.2.1.1
    have o1 : 0 ≤ T 0 1 ∧ T 0 1 ≤ 6 := hG.2.2.2.1.2.1
    have o6 : 0 ≤ T 0 6 ∧ T 0 6 ≤ 10 := hG.2.2.2.1.2.2.2.2.2.2.1
    have hmt : mtk (tk (M 62) n p) = if tk (M 62) n p = 4 then 0 else tk (M 62) n p + 1 := rfl
    have hsl := (sl_e hi).2
    have hb := hB (p + k) (by omega) (by omega)
    have hsb := (sbz_e hi (j := k) g0 (by omega)).2.2.1
    refine ms_iload_n dX7_is_39 rfl ?_
    refine mi_if_eq (tgt := 82) dX7_is_40 (by decide) (fun c_40 => ?_) (fun c_40 => ?_)
    · exact absurd c_40 (by omega)
    · refine ms_iload_n dX7_is_43 rfl ?_
      refine ms_aload_n dX7_is_44 rfl ?_
      refine ms_callQ (i := i) (n := 0) (As := []) hi dX7_is_45 cv_X7_is_J0_length_8abf5 rfl (k_strlen hi) rfl rfl (Nat.le_of_ble_eq_true rfl) rfl (fun v9 h9 hp9 => ?_)
      obtain ⟨rfl, rfl⟩ := hp9
      refine mi_icmp_ge (tgt := 82) dX7_is_48 (by decide) (fun c_48 => ?_) (fun c_48 => ?_)
      · exact absurd c_48 (by omega)
      · refine ms_aload_n dX7_is_51 rfl ?_
        refine ms_iload_n dX7_is_52 rfl ?_
        refine ms_callQ (i := i) (n := 1) (As := [.int (iI k)]) hi dX7_is_53 cv_X7_is_J0_charAt_5068e rfl (k_charAt hi (j := k) ⟨by omega, by omega⟩) rfl rfl (Nat.le_of_ble_eq_true rfl) rfl (fun v9 h9 hp9 => ?_)
        obtain ⟨rfl, rfl⟩ := hp9
        refine ms_aload_n dX7_is_56 rfl ?_
        refine ms_getR dX7_is_57 (fo_X7_70 rfl) (by first | rfl | assumption) rfl (by first | assumption | exact rf_48_14 hR ) ?_
        refine ms_aload_n dX7_is_60 rfl ?_
        refine ms_getI (z := 20) dX7_is_61 (fo_X7_151 rfl) (by first | rfl | assumption) rfl rfl ?_
        refine ms_iload_n dX7_is_64 rfl ?_
        refine mi_iadd dX7_is_65 ?_
        rw [h20]
        refine ms_iald dX7_is_66 (by first | rfl | assumption) ?_
        refine mi_icmp_ne (tgt := 74) dX7_is_67 (by decide) (fun c_67 => ?_) (fun c_67 => ?_)
        · refine mi_iconst dX7_is_74 ?_
          refine ms_istore_n dX7_is_75 (by decide) rfl ?_
          dsimp only [List.set, Nat.reduceAdd]
          refine mi_iinc dX7_is_76 rfl (by decide) rfl ?_
          dsimp only [List.set, Nat.reduceAdd]
          refine ms_goto (tgt := 39) dX7_is_79 (by decide) ?_
          refine ms_iload_n dX7_is_39 rfl ?_
          refine mi_if_eq (tgt := 82) dX7_is_40 (by decide) (fun c_40 => ?_) (fun c_40 => ?_)
          · refine ms_iload_n dX7_is_82 rfl ?_
            refine ms_retZ dX7_is_83 rfl (by first | exact Or.inl rfl | exact Or.inr rfl) ⟨rfl, by rw [isB_f (fun z => c_67 (z.2.2 k g0 (by omega)).symm)]; rfl⟩ (by simp)
          · exact absurd rfl c_40
        · refine mi_iconst dX7_is_70 ?_
          refine ms_goto (tgt := 75) dX7_is_71 (by decide) ?_
          refine ms_istore_n dX7_is_75 (by decide) rfl ?_
          dsimp only [List.set, Nat.reduceAdd]
          refine mi_iinc dX7_is_76 rfl (by decide) rfl ?_
          dsimp only [List.set, Nat.reduceAdd]
          refine ms_goto (tgt := 39) dX7_is_79 (by decide) ?_
          exact ih (k + 1) (by omega) (by omega) (fun j j0 j1 => by by_cases e : j = k; (rw [e]; exact c_67.symm); exact q1 j j0 (by omega))

set_option maxHeartbeats 4000000 in
set_option maxRecDepth 100000 in
theorem k_X7_is {S : mx_Sc} {f : Bool} {M : Nat → Int → Int} {L : Nat → Nat → Int64} {Rf : Nat → Nat → Option Nat} (hR : mx_rf Rf) {n : Int} (hn : 0 ≤ n ∧ n ≤ 500) (hB : ∀ i, 0 ≤ i → i < 500 → 0 ≤ M 62 i ∧ M 62 i ≤ 255) {p : Int} {T : td_T} (hG : mdG M n p T) {i : Nat} (hi : i < 13) : mx_C S mX7_is [.ref 48, .ref (1001 + i)] (f, mx_SH, M, L, Rf) 0 0 (fun v9 h9 => h9 = (f, mx_SH, M, L, Rf) ∧ v9 = some (.int (iI (bI (isB (M 62) n p i))))) (fun _ _ => False) := by
  refine mx_C_of (by decide) (by simp [Value.category]) (Nat.le_of_ble_eq_true rfl) rfl ?_
  show mx_E S mX7_is 0 [some (.ref 48), some (.ref (1001 + i)), none, none] [] (f, mx_SH, M, L, Rf) 0 0 _ _
  have hS := hG.1
  have hw0 := hG.2.1
  have h20 := hS.2.1
  have h21 := hS.2.2.1
  have h16 := hS.2.2.2.1
  have h18 := hS.2.2.2.2.1
  have hnum := hS.2.2.2.2.2.1
  have h0 := hS.2.2.2.2.2.2
  have htb := tk_b (M 62) n p
  have ht9 := te_b (g := M 62) h0.2
  have e0 : ∀ k, 0 ≤ k → k < 7 → M 53 (7 + k) = T 0 k := hG.2.2.1.1
  have e00 : M 53 7 = T 0 0 := e0 0 (by decide) (by decide)
  have e01 : M 53 8 = T 0 1 := e0 1 (by decide) (by decide)
  have e06 : M 53 13 = T 0 6 := e0 6 (by decide) (by decide)
  have o0 : 1 ≤ T 0 0 ∧ T 0 0 ≤ 30 := hG.2.2.2.1.1
  have o1 : 0 ≤ T 0 1 ∧ T 0 1 ≤ 6 := hG.2.2.2.1.2.1
  have o6 : 0 ≤ T 0 6 ∧ T 0 6 ≤ 10 := hG.2.2.2.1.2.2.2.2.2.2.1
  have hmt : mtk (tk (M 62) n p) = if tk (M 62) n p = 4 then 0 else tk (M 62) n p + 1 := rfl
  have hsl := (sl_e hi).2
  refine ms_aload_n dX7_is_0 rfl ?_
  refine ms_getI (z := 22) dX7_is_1 (fo_X7_176 rfl) (by first | rfl | assumption) rfl rfl ?_
  refine mi_if_ne (tgt := 35) dX7_is_4 (by decide) (fun c_4 => ?_) (fun c_4 => ?_)
  · exact absurd hw0 c_4
  · refine ms_aload_n dX7_is_7 rfl ?_
    refine ms_getI (z := 18) dX7_is_8 (fo_X7_154 rfl) (by first | rfl | assumption) rfl rfl ?_
    refine mi_iconst dX7_is_11 ?_
    refine mi_icmp_ne (tgt := 35) dX7_is_12 (by decide) (fun c_12 => ?_) (fun c_12 => ?_)
    · refine mi_iconst dX7_is_35 ?_
      refine ms_istore_n dX7_is_36 (by decide) rfl ?_
      dsimp only [List.set, Nat.reduceAdd]
      refine mi_iconst dX7_is_37 ?_
      refine ms_istore_n dX7_is_38 (by decide) rfl ?_
      dsimp only [List.set, Nat.reduceAdd]
      refine ms_iload_n dX7_is_39 rfl ?_
      refine mi_if_eq (tgt := 82) dX7_is_40 (by decide) (fun c_40 => ?_) (fun c_40 => ?_)
      · refine ms_iload_n dX7_is_82 rfl ?_
        refine ms_retZ dX7_is_83 rfl (by first | exact Or.inl rfl | exact Or.inr rfl) ⟨rfl, by rw [isB_f (fun z => by have := z.1; omega)]; rfl⟩ (by simp)
      · exact absurd rfl c_40
    · have hk0 : tk (M 62) n p = 0 := by rw [h18, hmt] at c_12; split at c_12 <;> omega
      refine ms_aload_n dX7_is_15 rfl ?_
      refine ms_callQ (i := i) (n := 0) (As := []) hi dX7_is_16 cv_X7_is_J0_length_8abf5 rfl (k_strlen hi) rfl rfl (Nat.le_of_ble_eq_true rfl) rfl (fun v9 h9 hp9 => ?_)
      obtain ⟨rfl, rfl⟩ := hp9
      refine ms_aload_n dX7_is_19 rfl ?_
      refine ms_getI (z := 21) dX7_is_20 (fo_X7_173 rfl) (by first | rfl | assumption) rfl rfl ?_
      refine ms_aload_n dX7_is_23 rfl ?_
      refine ms_getI (z := 20) dX7_is_24 (fo_X7_151 rfl) (by first | rfl | assumption) rfl rfl ?_
      refine mi_isub dX7_is_27 ?_
      refine mi_icmp_ne (tgt := 35) dX7_is_28 (by decide) (fun c_28 => ?_) (fun c_28 => ?_)
      · refine mi_iconst dX7_is_35 ?_
        refine ms_istore_n dX7_is_36 (by decide) rfl ?_
        dsimp only [List.set, Nat.reduceAdd]
        refine mi_iconst dX7_is_37 ?_
        refine ms_istore_n dX7_is_38 (by decide) rfl ?_
        dsimp only [List.set, Nat.reduceAdd]
        refine ms_iload_n dX7_is_39 rfl ?_
        refine mi_if_eq (tgt := 82) dX7_is_40 (by decide) (fun c_40 => ?_) (fun c_40 => ?_)
        · refine ms_iload_n dX7_is_82 rfl ?_
          refine ms_retZ dX7_is_83 rfl (by first | exact Or.inl rfl | exact Or.inr rfl) ⟨rfl, by rw [isB_f (fun z => by have := z.2.1; omega)]; rfl⟩ (by simp)
        · exact absurd rfl c_40
      · refine mi_iconst dX7_is_31 ?_
        refine ms_goto (tgt := 36) dX7_is_32 (by decide) ?_
        refine ms_istore_n dX7_is_36 (by decide) rfl ?_
        dsimp only [List.set, Nat.reduceAdd]
        refine mi_iconst dX7_is_37 ?_
        refine ms_istore_n dX7_is_38 (by decide) rfl ?_
        dsimp only [List.set, Nat.reduceAdd]
        exact l_X7_is (S := S) (f := f) (L := L) hR hn hB hG hi hk0 (by omega) (mx_sl.getD i 0) 0 (by omega) (by omega) (fun j j0 j1 => by omega)

set_option maxHeartbeats 4000000 in
set_option maxRecDepth 100000 in
theorem l_X7_which {S : mx_Sc} {f : Bool} {M : Nat → Int → Int} {L : Nat → Nat → Int64} {Rf : Nat → Nat → Option Nat} (hR : mx_rf Rf) {n : Int} (hn : 0 ≤ n ∧ n ≤ 500) (hB : ∀ i, 0 ≤ i → i < 500 → 0 ≤ M 62 i ∧ M 62 i ≤ 255) {p : Int} {T : td_T} (hG : mdG M n p T) {a b m : Nat} (ha : a < 900) (hs : mx_SH[a]? = some (2, m)) (hbm : b + m ≤ 13) (hrf : ∀ k : Nat, k < m → Rf a k = some (1001 + (b + k))) : ∀ (kk : Nat) (k : Nat), k + kk = m → (∀ j : Nat, j < k → ¬ isP (M 62) n p (b + j)) → mx_E S mX7_which 2 [some (.ref 48), some (.ref a), some (.int (iI (k : Int)))] [] (f, mx_SH, M, L, Rf) 0 0 (fun v9 h9 => h9 = (f, mx_SH, M, L, Rf) ∧ ∃ x, v9 = some (.int (iI x)) ∧ ((x = -1 ∧ ∀ k : Nat, k < m → ¬ isP (M 62) n p (b + k)) ∨ (0 ≤ x ∧ x < m ∧ isP (M 62) n p (b + x.toNat)))) (fun _ _ => False) := by
  intro kk
  induction kk with
  | zero => 
    intro k g1 q1
    refine ms_iload_n dX7_which_2 rfl ?_
    refine ms_aload_n dX7_which_3 rfl ?_
    refine ms_alen dX7_which_4 (by first | rfl | assumption) (by decide) rfl ?_
    refine mi_icmp_ge (tgt := 26) dX7_which_5 (by decide) (fun c_5 => ?_) (fun c_5 => ?_)
    · refine mi_iconst dX7_which_26 ?_
      refine ms_ret dX7_which_27 rfl ⟨rfl, _, rfl, Or.inl ⟨rfl, fun j hj => q1 j (by omega)⟩⟩ (by simp)
    · exact absurd c_5 (by omega)
  | succ kk ih => 
    intro k g1 q1
    refine ms_iload_n dX7_which_2 rfl ?_
    refine ms_aload_n dX7_which_3 rfl ?_
    refine ms_alen dX7_which_4 (by first | rfl | assumption) (by decide) rfl ?_
    refine mi_icmp_ge (tgt := 26) dX7_which_5 (by decide) (fun c_5 => ?_) (fun c_5 => ?_)
    · exact absurd c_5 (by omega)
    · refine ms_aload_n dX7_which_8 rfl ?_
      refine ms_aload_n dX7_which_9 rfl ?_
      refine ms_iload_n dX7_which_10 rfl ?_
      refine ms_aald dX7_which_11 hs (hrf k (by omega)) ?_
      refine ms_callV1 (ci := 7) (r := (RX7, TX7, 48)) dX7_which_12 cv_X7_which_X7_is (k_X7_is hR hn hB hG (i := b + k) (by omega)) rfl rfl (by first | rfl | assumption) (Nat.le_of_ble_eq_true rfl) rfl (fun _ _ z => z.elim) (fun v9 h9 hp9 => ?_)
      obtain ⟨rfl, rfl⟩ := hp9
      refine mi_if_eqB (tgt := 20) dX7_which_15 (by decide) (fun c_15 => ?_) (fun c_15 => ?_)
      · refine mi_iinc dX7_which_20 rfl (by decide) rfl ?_
        dsimp only [List.set, Nat.reduceAdd]
        refine ms_goto (tgt := 2) dX7_which_23 (by decide) ?_
        exact ih (k + 1) (by omega) (fun j hj => by by_cases e : j = k; (rw [e]; exact isB_n c_15); exact q1 j (by omega))
      · refine ms_iload_n dX7_which_18 rfl ?_
        refine ms_ret dX7_which_19 rfl ⟨rfl, _, rfl, Or.inr ⟨by omega, by omega, by rw [Int.toNat_natCast]; exact isB_i c_15⟩⟩ (by simp)

set_option maxHeartbeats 4000000 in
set_option maxRecDepth 100000 in
theorem k_X7_which {S : mx_Sc} {f : Bool} {M : Nat → Int → Int} {L : Nat → Nat → Int64} {Rf : Nat → Nat → Option Nat} (hR : mx_rf Rf) {n : Int} (hn : 0 ≤ n ∧ n ≤ 500) (hB : ∀ i, 0 ≤ i → i < 500 → 0 ≤ M 62 i ∧ M 62 i ≤ 255) {p : Int} {T : td_T} (hG : mdG M n p T) {a b m : Nat} (ha : a < 900) (hs : mx_SH[a]? = some (2, m)) (hbm : b + m ≤ 13) (hrf : ∀ k : Nat, k < m → Rf a k = some (1001 + (b + k))) : mx_C S mX7_which [.ref 48, .ref a] (f, mx_SH, M, L, Rf) 0 0 (fun v9 h9 => h9 = (f, mx_SH, M, L, Rf) ∧ ∃ x, v9 = some (.int (iI x)) ∧ ((x = -1 ∧ ∀ k : Nat, k < m → ¬ isP (M 62) n p (b + k)) ∨ (0 ≤ x ∧ x < m ∧ isP (M 62) n p (b + x.toNat)))) (fun _ _ => False) := by
  refine mx_C_of (by decide) (by simp [Value.category]) (Nat.le_of_ble_eq_true rfl) rfl ?_
  show mx_E S mX7_which 0 [some (.ref 48), some (.ref a), none] [] (f, mx_SH, M, L, Rf) 0 0 _ _
  refine mi_iconst dX7_which_0 ?_
  refine ms_istore_n dX7_which_1 (by decide) rfl ?_
  dsimp only [List.set, Nat.reduceAdd]
  exact l_X7_which (S := S) (f := f) (L := L) hR hn hB hG ha hs hbm hrf m 0 (by omega) (fun j hj => by omega)

