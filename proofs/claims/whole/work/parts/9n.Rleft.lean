def lbF (t : sp_T) (v : Int → Int) (n l : Int) (G : Int → Int) (r j : Int) : Int := if ob r j = 1 ∧ (sp_out v l = true ∨ mvB t v n l (if j = 6 then -1 else j) G = true) then 1 else 0
def lbS (t : sp_T) (v : Int → Int) (n l : Int) (G : Int → Int) (r : Int) : Nat → Int
  | 0 => 0
  | k + 1 => lbS t v n l G r k + lbF t v n l G r k
theorem lbF_b (t : sp_T) (v : Int → Int) (n l : Int) (G : Int → Int) (r j : Int) : 0 ≤ lbF t v n l G r j ∧ lbF t v n l G r j ≤ 1 := by
  unfold lbF
  split <;> omega
theorem lbS_b (t : sp_T) (v : Int → Int) (n l : Int) (G : Int → Int) (r : Int) : ∀ k : Nat, 0 ≤ lbS t v n l G r k ∧ lbS t v n l G r k ≤ k
  | 0 => ⟨Int.le_refl _, Int.le_refl _⟩
  | k + 1 => by
    have h := lbS_b t v n l G r k
    have h2 := lbF_b t v n l G r k
    simp only [lbS]
    omega
def lbK (t : sp_T) (v : Int → Int) (n l : Int) (G : Int → Int) (r K k : Int) : Int := if k ≤ K then lbS t v n l G r k.toNat else lbS t v n l G r K.toNat + lbF t v n l G r 6
theorem lbK_s {t : sp_T} {v : Int → Int} {n l : Int} {G : Int → Int} {r K k : Int} (h : 0 ≤ k ∧ k ≤ K) : lbK t v n l G r K (k + 1) = lbK t v n l G r K k + lbF t v n l G r (tn K k) := by
  unfold lbK tn
  rw [if_pos h.2]
  by_cases e : k = K
  · subst e
    rw [if_neg (by omega), if_pos rfl]
  · rw [if_pos (by omega), if_neg e, show (k + 1).toNat = k.toNat + 1 by omega]
    simp only [lbS]
    rw [show ((k.toNat : Nat) : Int) = k by omega]
theorem wed_oil {t : sp_T} (hT : sp_tok t) {n : Int} {v : Int → Int} {i : Int} (hi : i < 18) : sp_wed t n v i = v i := by
  have h1 := hT.2.1
  unfold sp_wed
  refine itN_p (R := fun (x : Int → Int) => x i = v i) _ (fun a x ha hx => ?_) _ rfl
  unfold sp_wedA
  refine itN_p (R := fun (x : Int → Int) => x i = v i) _ (fun b x hb hx => ?_) _ hx
  unfold sp_in
  split
  · exact hx
  · unfold sp_marry
    rw [iu_n _ _ (by omega), iu_n _ _ (by omega), iu_n _ _ (by omega), iu_n _ _ (by omega)]
    exact hx
theorem lb_tl {t : sp_T} (hT : sp_tok t) {lk : Int → Int} (hlk : sp_lok t lk) {v A B : Int → Int} {n l r : Int} {k : Nat} (hl : 0 ≤ l ∧ l < t.1 1) (hA : qv A (sp_run t lk false false n k v)) (hB : qv B (sp_run t lk false false n (k + 1) v)) (hr : ∀ j, 0 ≤ j → j < 6 → t.1 1 ≤ j → ob r j = 0) : lbK t A (n + k) l (fun q => B (3 * l + q)) r (t.1 1) (t.1 1 + 1) = tl_c t lk v n l r k := by
  have h1 := hT.2.1
  have key : ∀ j, 0 ≤ j → j < 7 → lbF t A (n + k) l (fun q => B (3 * l + q)) r j = if sp_ft t (sp_run t lk false false n k v) (n + k) l (tl_g t lk (sp_run t lk false false n k v) (n + k) l) j = true then ob r j else 0 := by
    intro j j0 j1
    unfold lbF
    rcases ob_01 r j with e | e
    · rw [e, if_neg (by omega)]
      split <;> rfl
    · have hjv : j = 6 ∨ j < t.1 1 := by
        refine Classical.byContradiction fun z => ?_
        have := hr j j0 (by omega) (by omega)
        omega
      rw [e]
      congr 1
      refine propext ⟨fun z => ?_, fun z => ⟨rfl, ?_⟩⟩
      · unfold sp_ft sp_mo tl_g
        rw [hA.out (a := l) (by omega)] at z
        by_cases eo : sp_out (sp_run t lk false false n k v) l = true
        · rw [if_pos eo, if_pos eo]
          exact decide_eq_true ⟨rfl, rfl, rfl⟩
        · rw [if_neg eo, if_neg eo]
          have z2 := of_decide_eq_true (z.2.resolve_left eo)
          have hm := hA.move hT (n := n + k) (l := l) (w := if j = 6 then -1 else j) hl (by split <;> omega) false false
          have hg : ∀ q, 0 ≤ q → q < 3 → B (3 * l + q) = sp_move t (sp_run t lk false false n k v) (n + k) l (lk l) false false q := fun q q0 q1 => by
            rw [hB _ (by omega) (by omega)]
            simp only [sp_run]
            unfold sp_night
            rw [wed_oil hT (by omega)]
            unfold sp_mv
            have e0 : sp_out (sp_run t lk false false n k v) l = false := by cases h : sp_out (sp_run t lk false false n k v) l; rfl; exact absurd h eo
            rw [show (3 * l + q) / 3 = l by omega, show (3 * l + q) % 3 = q by omega, if_pos ⟨by omega, by omega, e0⟩]
          refine decide_eq_true ⟨?_, ?_, ?_⟩
          · rw [← hm.1, z2.1]; exact hg 0 (by omega) (by omega)
          · rw [← hm.2.1, z2.2.1]; exact hg 1 (by omega) (by omega)
          · rw [← hm.2.2, z2.2.2]; exact hg 2 (by omega) (by omega)
      · rw [hA.out (a := l) (by omega)]
        by_cases eo : sp_out (sp_run t lk false false n k v) l = true
        · exact Or.inl eo
        · refine Or.inr (decide_eq_true ?_)
          unfold sp_ft sp_mo tl_g at z
          rw [if_neg eo, if_neg eo] at z
          have z2 := of_decide_eq_true z
          have hm := hA.move hT (n := n + k) (l := l) (w := if j = 6 then -1 else j) hl (by split <;> omega) false false
          have hg : ∀ q, 0 ≤ q → q < 3 → B (3 * l + q) = sp_move t (sp_run t lk false false n k v) (n + k) l (lk l) false false q := fun q q0 q1 => by
            rw [hB _ (by omega) (by omega)]
            simp only [sp_run]
            unfold sp_night
            rw [wed_oil hT (by omega)]
            unfold sp_mv
            have e0 : sp_out (sp_run t lk false false n k v) l = false := by cases h : sp_out (sp_run t lk false false n k v) l; rfl; exact absurd h eo
            rw [show (3 * l + q) / 3 = l by omega, show (3 * l + q) % 3 = q by omega, if_pos ⟨by omega, by omega, e0⟩]
          exact ⟨by rw [hm.1, z2.1]; exact (hg 0 (by omega) (by omega)).symm, by rw [hm.2.1, z2.2.1]; exact (hg 1 (by omega) (by omega)).symm, by rw [hm.2.2, z2.2.2]; exact (hg 2 (by omega) (by omega)).symm⟩
  have z0 : ∀ j, 0 ≤ j → j < 6 → t.1 1 ≤ j → (if sp_ft t (sp_run t lk false false n k v) (n + k) l (tl_g t lk (sp_run t lk false false n k v) (n + k) l) j = true then ob r j else 0) = 0 := fun j a b c => by
    rw [hr j a b c]
    split <;> rfl
  have hs : ∀ m : Nat, m ≤ 6 → lbS t A (n + k) l (fun q => B (3 * l + q)) r m = itN (fun j c => c + (if sp_ft t (sp_run t lk false false n k v) (n + k) l (tl_g t lk (sp_run t lk false false n k v) (n + k) l) j = true then ob r j else 0)) m 0 := by
    intro m
    induction m with
    | zero => intro _; rfl
    | succ m ih =>
      intro hm
      simp only [lbS, itN]
      rw [ih (by omega), key m (by omega) (by omega)]
  unfold lbK
  rw [if_neg (by omega), hs _ (by omega), key 6 (by omega) (by omega)]
  unfold tl_c
  have hk : (t.1 1).toNat = 0 ∨ (t.1 1).toNat = 1 ∨ (t.1 1).toNat = 2 ∨ (t.1 1).toNat = 3 ∨ (t.1 1).toNat = 4 ∨ (t.1 1).toNat = 5 ∨ (t.1 1).toNat = 6 := by omega
  have f5 := z0 5 (by omega) (by omega)
  have f4 := z0 4 (by omega) (by omega)
  have f3 := z0 3 (by omega) (by omega)
  have f2 := z0 2 (by omega) (by omega)
  have f1 := z0 1 (by omega) (by omega)
  have f0 := z0 0 (by omega) (by omega)
  rcases hk with e | e | e | e | e | e | e <;> rw [e] <;> simp only [itN]
  · rw [f0 (by omega), f1 (by omega), f2 (by omega), f3 (by omega), f4 (by omega), f5 (by omega)]; omega
  · rw [f1 (by omega), f2 (by omega), f3 (by omega), f4 (by omega), f5 (by omega)]; simp
  · rw [f2 (by omega), f3 (by omega), f4 (by omega), f5 (by omega)]; simp
  · rw [f3 (by omega), f4 (by omega), f5 (by omega)]; simp
  · rw [f4 (by omega), f5 (by omega)]; simp
  · rw [f5 (by omega)]; simp
  · simp
set_option maxHeartbeats 4000000 in
set_option maxRecDepth 100000 in
theorem l_X7_lb {S : mx_Sc} {f : Bool} {M : Nat → Int → Int} {L : Nat → Nat → Int64} {Rf : Nat → Nat → Option Nat} (hR : mx_rf Rf) (hT : sp_tok (sp_tR M)) {n l r : Int} (hn : 0 ≤ n ∧ n ≤ 99) (hl : 0 ≤ l ∧ l < M 53 1) (hr : 0 ≤ r ∧ r < 128) (hv : sp_vok (sp_tR M) (M 75)) (hb : ∀ q, 0 ≤ q → q < 3 → -1000 ≤ M 64 (3 * l + q) ∧ M 64 (3 * l + q) ≤ 1000) : ∀ (kk : Nat) (k : Int) (N : Nat → Int → Int) (o6 : Option Value), 0 ≤ k → k + kk = M 53 1 + 1 → (∀ x, x ≠ 67 → N x = M x) → mx_E S mX7_leftBy 6 [some (.ref 48), some (.int (iI n)), some (.int (iI l)), some (.int (iI r)), some (.int (iI (lbK (sp_tR M) (M 75) n l (fun q => M 64 (3 * l + q)) r (M 53 1) k))), some (.int (iI k)), o6] [] (f, mx_SH, N, L, Rf) 0 0 (fun v9 h9 => ∃ N, h9 = (f, mx_SH, N, L, Rf) ∧ (∀ x, x ≠ 67 → N x = M x) ∧ v9 = some (.int (iI (lbK (sp_tR M) (M 75) n l (fun q => M 64 (3 * l + q)) r (M 53 1) (M 53 1 + 1))))) (fun _ _ => False) := by
  intro kk
  induction kk with
  | zero => 
    intro k N o6 k0 g1 q1
    have hT0 : 1 ≤ M 53 0 ∧ M 53 0 ≤ 30 := hT.1
    have hT1 : 0 ≤ M 53 1 ∧ M 53 1 ≤ 6 := hT.2.1
    have hT5 : 1 ≤ M 53 5 ∧ M 53 5 ≤ 99 := hT.2.2.2.2.2.1
    have hT6 : 0 ≤ M 53 6 ∧ M 53 6 ≤ 10 := hT.2.2.2.2.2.2.1
    have eT : sp_tR N = sp_tR M := by simp only [sp_tR, q1 53 (by decide), q1 54 (by decide), q1 55 (by decide), q1 58 (by decide), q1 59 (by decide), q1 60 (by decide)]
    have x53 : N 53 = M 53 := q1 53 (by decide)
    have x75 : N 75 = M 75 := q1 75 (by decide)
    have x64 : N 64 = M 64 := q1 64 (by decide)
    refine ms_iload dX7_leftBy_6 rfl ?_
    refine ms_aload_n dX7_leftBy_8 rfl ?_
    refine ms_getR dX7_leftBy_9 (fo_X7_43 rfl) (by first | rfl | assumption) rfl (by first | assumption | exact rf_48_5 hR ) ?_
    refine mi_iconst dX7_leftBy_12 ?_
    refine ms_iald dX7_leftBy_13 (by first | rfl | assumption) ?_
    rw [x53]
    refine mi_icmp_gt (tgt := 109) dX7_leftBy_14 (by decide) (fun c_14 => ?_) (fun c_14 => ?_)
    · refine ms_iload dX7_leftBy_109 rfl ?_
      refine ms_ret dX7_leftBy_111 rfl ⟨N, rfl, q1, by rw [show k = M 53 1 + 1 by omega]⟩ (by simp)
    · exact absurd c_14 (by omega)
  | succ kk ih => 
    intro k N o6 k0 g1 q1
    have hT0 : 1 ≤ M 53 0 ∧ M 53 0 ≤ 30 := hT.1
    have hT1 : 0 ≤ M 53 1 ∧ M 53 1 ≤ 6 := hT.2.1
    have hT5 : 1 ≤ M 53 5 ∧ M 53 5 ≤ 99 := hT.2.2.2.2.2.1
    have hT6 : 0 ≤ M 53 6 ∧ M 53 6 ≤ 10 := hT.2.2.2.2.2.2.1
    have eT : sp_tR N = sp_tR M := by simp only [sp_tR, q1 53 (by decide), q1 54 (by decide), q1 55 (by decide), q1 58 (by decide), q1 59 (by decide), q1 60 (by decide)]
    have x53 : N 53 = M 53 := q1 53 (by decide)
    have x75 : N 75 = M 75 := q1 75 (by decide)
    have x64 : N 64 = M 64 := q1 64 (by decide)
    refine ms_iload dX7_leftBy_6 rfl ?_
    refine ms_aload_n dX7_leftBy_8 rfl ?_
    refine ms_getR dX7_leftBy_9 (fo_X7_43 rfl) (by first | rfl | assumption) rfl (by first | assumption | exact rf_48_5 hR ) ?_
    refine mi_iconst dX7_leftBy_12 ?_
    refine ms_iald dX7_leftBy_13 (by first | rfl | assumption) ?_
    rw [x53]
    refine mi_icmp_gt (tgt := 109) dX7_leftBy_14 (by decide) (fun c_14 => ?_) (fun c_14 => ?_)
    · exact absurd c_14 (by omega)
    · refine ms_iload_n dX7_leftBy_17 rfl ?_
      refine ms_iload dX7_leftBy_18 rfl ?_
      refine ms_aload_n dX7_leftBy_20 rfl ?_
      refine ms_getR dX7_leftBy_21 (fo_X7_43 rfl) (by first | rfl | assumption) rfl (by first | assumption | exact rf_48_5 hR ) ?_
      refine mi_iconst dX7_leftBy_24 ?_
      refine ms_iald dX7_leftBy_25 (by first | rfl | assumption) ?_
      rw [x53]
      refine mi_icmp_ne (tgt := 34) dX7_leftBy_26 (by decide) (fun c_26 => ?_) (fun c_26 => ?_)
      · refine mi_iconst dX7_leftBy_34 ?_
        refine ms_iload dX7_leftBy_35 rfl ?_
        refine mi_ishl (2 ^ k.toNat) dX7_leftBy_37 (p2_shl (by omega)) ?_
        have htn : tn (M 53 1) k = k := by unfold tn; rw [if_neg (by omega)]
        have ho := oo7_e (r := r) (b := k) hr (by omega)
        have hp7 := p2_7 (b := k) (by omega)
        refine mi_iand (if ob r (k) = 1 then 2 ^ (k : Int).toNat else 0) dX7_leftBy_38 (ho.2.2.2) ?_
        have hbb : 0 ≤ (if ob r (k) = 1 then (2 : Int) ^ (k : Int).toNat else 0) ∧ (if ob r (k) = 1 then (2 : Int) ^ (k : Int).toNat else 0) ≤ 64 := by split <;> omega
        refine mi_if_eq (tgt := 46) dX7_leftBy_39 (by decide) (fun c_39 => ?_) (fun c_39 => ?_)
        · refine mi_iconst dX7_leftBy_46 ?_
          refine ms_istore dX7_leftBy_47 (by decide) rfl ?_
          dsimp only [List.set, Nat.reduceAdd]
          refine ms_iload dX7_leftBy_49 rfl ?_
          refine mi_if_eq (tgt := 103) dX7_leftBy_51 (by decide) (fun c_51 => ?_) (fun c_51 => ?_)
          · refine mi_iinc dX7_leftBy_103 rfl (by decide) rfl ?_
            dsimp only [List.set, Nat.reduceAdd]
            refine ms_goto (tgt := 6) dX7_leftBy_106 (by decide) ?_
            have i9 := ih (k + 1) N (some (.int (iI 0))) (by omega) (by omega) q1
            rw [lbK_s (by omega), htn] at i9
            rw [show lbF (sp_tR M) (M 75) n l (fun q => M 64 (3 * l + q)) r (k) = 0 from by unfold lbF; rw [if_neg (by intro z; rw [if_pos z.1] at c_39; omega)]] at i9
            rw [Int.add_zero] at i9
            exact i9
          · exact absurd rfl c_51
        · have hob : ob r (k) = 1 := by refine Classical.byContradiction fun z => ?_; rw [if_neg z] at c_39; exact c_39 rfl
          refine mi_iconst dX7_leftBy_42 ?_
          refine ms_goto (tgt := 47) dX7_leftBy_43 (by decide) ?_
          refine ms_istore dX7_leftBy_47 (by decide) rfl ?_
          dsimp only [List.set, Nat.reduceAdd]
          refine ms_iload dX7_leftBy_49 rfl ?_
          refine mi_if_eq (tgt := 103) dX7_leftBy_51 (by decide) (fun c_51 => ?_) (fun c_51 => ?_)
          · exact absurd c_51 (by omega)
          · refine ms_aload_n dX7_leftBy_54 rfl ?_
            refine ms_getR dX7_leftBy_55 (fo_X7_113 rfl) (by first | rfl | assumption) rfl (by first | assumption | exact rf_48_39 hR ) ?_
            refine ms_iload_n dX7_leftBy_58 rfl ?_
            refine ms_callS2 dX7_leftBy_59 cv_X7_leftBy_X7_isOut (k_X7_isOut (M := N) (r := 75) (by decide) rfl (l := l) (by omega) (by rw [x75]; exact (hv.2 l (by omega) (by omega)).1)) (Nat.le_of_ble_eq_true rfl) rfl (fun _ _ z => z.elim) (fun v9 h9 hp9 => ?_)
            obtain ⟨rfl, rfl⟩ := hp9
            rw [x75]
            refine mi_if_neB (tgt := 100) dX7_leftBy_62 (by decide) (fun c_62 => ?_) (fun c_62 => ?_)
            · refine mi_iinc dX7_leftBy_100 rfl (by decide) rfl ?_
              dsimp only [List.set, Nat.reduceAdd]
              refine mi_iinc dX7_leftBy_103 rfl (by decide) rfl ?_
              dsimp only [List.set, Nat.reduceAdd]
              refine ms_goto (tgt := 6) dX7_leftBy_106 (by decide) ?_
              have i9 := ih (k + 1) N (some (.int (iI 1))) (by omega) (by omega) q1
              rw [lbK_s (by omega), htn] at i9
              rw [show lbF (sp_tR M) (M 75) n l (fun q => M 64 (3 * l + q)) r (k) = 1 from by unfold lbF; rw [if_pos ⟨hob, Or.inl c_62⟩]] at i9
              exact i9
            · refine ms_aload_n dX7_leftBy_65 rfl ?_
              refine ms_aload_n dX7_leftBy_66 rfl ?_
              refine ms_getR dX7_leftBy_67 (fo_X7_113 rfl) (by first | rfl | assumption) rfl (by first | assumption | exact rf_48_39 hR ) ?_
              refine ms_iload_n dX7_leftBy_70 rfl ?_
              refine ms_iload_n dX7_leftBy_71 rfl ?_
              refine ms_iload dX7_leftBy_72 rfl ?_
              refine ms_aload_n dX7_leftBy_74 rfl ?_
              refine ms_getR dX7_leftBy_75 (fo_X7_43 rfl) (by first | rfl | assumption) rfl (by first | assumption | exact rf_48_5 hR ) ?_
              refine mi_iconst dX7_leftBy_78 ?_
              refine ms_iald dX7_leftBy_79 (by first | rfl | assumption) ?_
              rw [x53]
              refine mi_icmp_ne (tgt := 87) dX7_leftBy_80 (by decide) (fun c_80 => ?_) (fun c_80 => ?_)
              · refine ms_iload dX7_leftBy_87 rfl ?_
                refine ms_aload_n dX7_leftBy_89 rfl ?_
                refine ms_getR dX7_leftBy_90 (fo_X7_80 rfl) (by first | rfl | assumption) rfl (by first | assumption | exact rf_48_26 hR ) ?_
                refine mi_iconst dX7_leftBy_93 ?_
                refine ms_callV6 (ci := 7) (r := (RX7, TX7, 48)) dX7_leftBy_94 cv_X7_leftBy_X7_movesTo (k_X7_movesTo (M := N) hR (by rw [eT]; exact hT) (r := 75) (rr := 64) (nr := 30) (Or.inr rfl) (by decide) rfl (by decide) (by decide) (n := n) (l := l) (w := k) (fr := 0) (by omega) (by rw [x53]; exact hl) (by rw [x53]; omega) (by rw [eT, x75]; exact hv) (by decide) (fun q q0 q1 => by rw [x64, Int.zero_add]; exact hb q q0 q1)) rfl rfl (by first | rfl | assumption) (Nat.le_of_ble_eq_true rfl) rfl (fun _ _ z => z.elim) (fun v9 h9 hp9 => ?_)
                obtain ⟨g, rfl, rfl⟩ := hp9
                rw [eT, x75, x64, show (fun q => M 64 (0 + 3 * l + q)) = (fun q => M 64 (3 * l + q)) from funext fun q => by rw [Int.zero_add]]
                have q1' : ∀ x, x ≠ 67 → va_up N 67 g x = M x := fun x hx => by rw [up_n _ _ hx]; exact q1 x hx
                refine mi_if_eqB (tgt := 103) dX7_leftBy_97 (by decide) (fun c_97 => ?_) (fun c_97 => ?_)
                · refine mi_iinc dX7_leftBy_103 rfl (by decide) rfl ?_
                  dsimp only [List.set, Nat.reduceAdd]
                  refine ms_goto (tgt := 6) dX7_leftBy_106 (by decide) ?_
                  have i9 := ih (k + 1) _ (some (.int (iI 1))) (by omega) (by omega) q1'
                  rw [lbK_s (by omega), htn] at i9
                  rw [show lbF (sp_tR M) (M 75) n l (fun q => M 64 (3 * l + q)) r (k) = 0 from by unfold lbF; rw [if_neg (by rintro ⟨_, z⟩; rw [c_62, show (if (k : Int) = 6 then (-1 : Int) else k) = k by rw [if_neg (by omega)], c_97] at z; exact absurd z (by decide))]] at i9
                  rw [Int.add_zero] at i9
                  exact i9
                · refine mi_iinc dX7_leftBy_100 rfl (by decide) rfl ?_
                  dsimp only [List.set, Nat.reduceAdd]
                  refine mi_iinc dX7_leftBy_103 rfl (by decide) rfl ?_
                  dsimp only [List.set, Nat.reduceAdd]
                  refine ms_goto (tgt := 6) dX7_leftBy_106 (by decide) ?_
                  have i9 := ih (k + 1) _ (some (.int (iI 1))) (by omega) (by omega) q1'
                  rw [lbK_s (by omega), htn] at i9
                  rw [show lbF (sp_tR M) (M 75) n l (fun q => M 64 (3 * l + q)) r (k) = 1 from by unfold lbF; rw [if_pos ⟨hob, Or.inr (by rw [show (if (k : Int) = 6 then (-1 : Int) else k) = k by rw [if_neg (by omega)]]; exact c_97)⟩]] at i9
                  exact i9
              · exact absurd c_80 (by omega)
      · refine mi_bipush dX7_leftBy_29 (by decide) ?_
        refine ms_goto (tgt := 38) dX7_leftBy_31 (by decide) ?_
        rw [show (64 : Int) = 2 ^ (6 : Int).toNat from rfl]
        have htn : tn (M 53 1) k = 6 := by unfold tn; rw [if_pos (by omega)]
        have ho := oo7_e (r := r) (b := 6) hr (by omega)
        have hp7 := p2_7 (b := 6) (by omega)
        refine mi_iand (if ob r (6) = 1 then 2 ^ (6 : Int).toNat else 0) dX7_leftBy_38 (ho.2.2.2) ?_
        have hbb : 0 ≤ (if ob r (6) = 1 then (2 : Int) ^ (6 : Int).toNat else 0) ∧ (if ob r (6) = 1 then (2 : Int) ^ (6 : Int).toNat else 0) ≤ 64 := by split <;> omega
        refine mi_if_eq (tgt := 46) dX7_leftBy_39 (by decide) (fun c_39 => ?_) (fun c_39 => ?_)
        · refine mi_iconst dX7_leftBy_46 ?_
          refine ms_istore dX7_leftBy_47 (by decide) rfl ?_
          dsimp only [List.set, Nat.reduceAdd]
          refine ms_iload dX7_leftBy_49 rfl ?_
          refine mi_if_eq (tgt := 103) dX7_leftBy_51 (by decide) (fun c_51 => ?_) (fun c_51 => ?_)
          · refine mi_iinc dX7_leftBy_103 rfl (by decide) rfl ?_
            dsimp only [List.set, Nat.reduceAdd]
            refine ms_goto (tgt := 6) dX7_leftBy_106 (by decide) ?_
            have i9 := ih (k + 1) N (some (.int (iI 0))) (by omega) (by omega) q1
            rw [lbK_s (by omega), htn] at i9
            rw [show lbF (sp_tR M) (M 75) n l (fun q => M 64 (3 * l + q)) r (6) = 0 from by unfold lbF; rw [if_neg (by intro z; rw [if_pos z.1] at c_39; omega)]] at i9
            rw [Int.add_zero] at i9
            exact i9
          · exact absurd rfl c_51
        · have hob : ob r (6) = 1 := by refine Classical.byContradiction fun z => ?_; rw [if_neg z] at c_39; exact c_39 rfl
          refine mi_iconst dX7_leftBy_42 ?_
          refine ms_goto (tgt := 47) dX7_leftBy_43 (by decide) ?_
          refine ms_istore dX7_leftBy_47 (by decide) rfl ?_
          dsimp only [List.set, Nat.reduceAdd]
          refine ms_iload dX7_leftBy_49 rfl ?_
          refine mi_if_eq (tgt := 103) dX7_leftBy_51 (by decide) (fun c_51 => ?_) (fun c_51 => ?_)
          · exact absurd c_51 (by omega)
          · refine ms_aload_n dX7_leftBy_54 rfl ?_
            refine ms_getR dX7_leftBy_55 (fo_X7_113 rfl) (by first | rfl | assumption) rfl (by first | assumption | exact rf_48_39 hR ) ?_
            refine ms_iload_n dX7_leftBy_58 rfl ?_
            refine ms_callS2 dX7_leftBy_59 cv_X7_leftBy_X7_isOut (k_X7_isOut (M := N) (r := 75) (by decide) rfl (l := l) (by omega) (by rw [x75]; exact (hv.2 l (by omega) (by omega)).1)) (Nat.le_of_ble_eq_true rfl) rfl (fun _ _ z => z.elim) (fun v9 h9 hp9 => ?_)
            obtain ⟨rfl, rfl⟩ := hp9
            rw [x75]
            refine mi_if_neB (tgt := 100) dX7_leftBy_62 (by decide) (fun c_62 => ?_) (fun c_62 => ?_)
            · refine mi_iinc dX7_leftBy_100 rfl (by decide) rfl ?_
              dsimp only [List.set, Nat.reduceAdd]
              refine mi_iinc dX7_leftBy_103 rfl (by decide) rfl ?_
              dsimp only [List.set, Nat.reduceAdd]
              refine ms_goto (tgt := 6) dX7_leftBy_106 (by decide) ?_
              have i9 := ih (k + 1) N (some (.int (iI 1))) (by omega) (by omega) q1
              rw [lbK_s (by omega), htn] at i9
              rw [show lbF (sp_tR M) (M 75) n l (fun q => M 64 (3 * l + q)) r (6) = 1 from by unfold lbF; rw [if_pos ⟨hob, Or.inl c_62⟩]] at i9
              exact i9
            · refine ms_aload_n dX7_leftBy_65 rfl ?_
              refine ms_aload_n dX7_leftBy_66 rfl ?_
              refine ms_getR dX7_leftBy_67 (fo_X7_113 rfl) (by first | rfl | assumption) rfl (by first | assumption | exact rf_48_39 hR ) ?_
              refine ms_iload_n dX7_leftBy_70 rfl ?_
              refine ms_iload_n dX7_leftBy_71 rfl ?_
              refine ms_iload dX7_leftBy_72 rfl ?_
              refine ms_aload_n dX7_leftBy_74 rfl ?_
              refine ms_getR dX7_leftBy_75 (fo_X7_43 rfl) (by first | rfl | assumption) rfl (by first | assumption | exact rf_48_5 hR ) ?_
              refine mi_iconst dX7_leftBy_78 ?_
              refine ms_iald dX7_leftBy_79 (by first | rfl | assumption) ?_
              rw [x53]
              refine mi_icmp_ne (tgt := 87) dX7_leftBy_80 (by decide) (fun c_80 => ?_) (fun c_80 => ?_)
              · exact absurd (by omega : k = M 53 1) c_80
              · refine mi_iconst dX7_leftBy_83 ?_
                refine ms_goto (tgt := 89) dX7_leftBy_84 (by decide) ?_
                refine ms_aload_n dX7_leftBy_89 rfl ?_
                refine ms_getR dX7_leftBy_90 (fo_X7_80 rfl) (by first | rfl | assumption) rfl (by first | assumption | exact rf_48_26 hR ) ?_
                refine mi_iconst dX7_leftBy_93 ?_
                refine ms_callV6 (ci := 7) (r := (RX7, TX7, 48)) dX7_leftBy_94 cv_X7_leftBy_X7_movesTo (k_X7_movesTo (M := N) hR (by rw [eT]; exact hT) (r := 75) (rr := 64) (nr := 30) (Or.inr rfl) (by decide) rfl (by decide) (by decide) (n := n) (l := l) (w := -1) (fr := 0) (by omega) (by rw [x53]; exact hl) (by rw [x53]; omega) (by rw [eT, x75]; exact hv) (by decide) (fun q q0 q1 => by rw [x64, Int.zero_add]; exact hb q q0 q1)) rfl rfl (by first | rfl | assumption) (Nat.le_of_ble_eq_true rfl) rfl (fun _ _ z => z.elim) (fun v9 h9 hp9 => ?_)
                obtain ⟨g, rfl, rfl⟩ := hp9
                rw [eT, x75, x64, show (fun q => M 64 (0 + 3 * l + q)) = (fun q => M 64 (3 * l + q)) from funext fun q => by rw [Int.zero_add]]
                have q1' : ∀ x, x ≠ 67 → va_up N 67 g x = M x := fun x hx => by rw [up_n _ _ hx]; exact q1 x hx
                refine mi_if_eqB (tgt := 103) dX7_leftBy_97 (by decide) (fun c_97 => ?_) (fun c_97 => ?_)
                · refine mi_iinc dX7_leftBy_103 rfl (by decide) rfl ?_
                  dsimp only [List.set, Nat.reduceAdd]
                  refine ms_goto (tgt := 6) dX7_leftBy_106 (by decide) ?_
                  have i9 := ih (k + 1) _ (some (.int (iI 1))) (by omega) (by omega) q1'
                  rw [lbK_s (by omega), htn] at i9
                  rw [show lbF (sp_tR M) (M 75) n l (fun q => M 64 (3 * l + q)) r (6) = 0 from by unfold lbF; rw [if_neg (by rintro ⟨_, z⟩; rw [c_62, show (if (6 : Int) = 6 then (-1 : Int) else 6) = -1 by rfl, c_97] at z; exact absurd z (by decide))]] at i9
                  rw [Int.add_zero] at i9
                  exact i9
                · refine mi_iinc dX7_leftBy_100 rfl (by decide) rfl ?_
                  dsimp only [List.set, Nat.reduceAdd]
                  refine mi_iinc dX7_leftBy_103 rfl (by decide) rfl ?_
                  dsimp only [List.set, Nat.reduceAdd]
                  refine ms_goto (tgt := 6) dX7_leftBy_106 (by decide) ?_
                  have i9 := ih (k + 1) _ (some (.int (iI 1))) (by omega) (by omega) q1'
                  rw [lbK_s (by omega), htn] at i9
                  rw [show lbF (sp_tR M) (M 75) n l (fun q => M 64 (3 * l + q)) r (6) = 1 from by unfold lbF; rw [if_pos ⟨hob, Or.inr (by rw [show (if (6 : Int) = 6 then (-1 : Int) else 6) = -1 by rfl]; exact c_97)⟩]] at i9
                  exact i9

set_option maxHeartbeats 4000000 in
set_option maxRecDepth 100000 in
theorem k_X7_leftBy {S : mx_Sc} {f : Bool} {M : Nat → Int → Int} {L : Nat → Nat → Int64} {Rf : Nat → Nat → Option Nat} (hR : mx_rf Rf) (hT : sp_tok (sp_tR M)) {n l r : Int} (hn : 0 ≤ n ∧ n ≤ 99) (hl : 0 ≤ l ∧ l < M 53 1) (hr : 0 ≤ r ∧ r < 128) (hv : sp_vok (sp_tR M) (M 75)) (hb : ∀ q, 0 ≤ q → q < 3 → -1000 ≤ M 64 (3 * l + q) ∧ M 64 (3 * l + q) ≤ 1000) : mx_C S mX7_leftBy [.ref 48, .int (iI n), .int (iI l), .int (iI r)] (f, mx_SH, M, L, Rf) 0 0 (fun v9 h9 => ∃ N, h9 = (f, mx_SH, N, L, Rf) ∧ (∀ x, x ≠ 67 → N x = M x) ∧ v9 = some (.int (iI (lbK (sp_tR M) (M 75) n l (fun q => M 64 (3 * l + q)) r (M 53 1) (M 53 1 + 1))))) (fun _ _ => False) := by
  refine mx_C_of (by decide) (by simp [Value.category]) (Nat.le_of_ble_eq_true rfl) rfl ?_
  show mx_E S mX7_leftBy 0 [some (.ref 48), some (.int (iI n)), some (.int (iI l)), some (.int (iI r)), none, none, none] [] (f, mx_SH, M, L, Rf) 0 0 _ _
  have hT0 : 1 ≤ M 53 0 ∧ M 53 0 ≤ 30 := hT.1
  have hT1 : 0 ≤ M 53 1 ∧ M 53 1 ≤ 6 := hT.2.1
  have hT5 : 1 ≤ M 53 5 ∧ M 53 5 ≤ 99 := hT.2.2.2.2.2.1
  have hT6 : 0 ≤ M 53 6 ∧ M 53 6 ≤ 10 := hT.2.2.2.2.2.2.1
  refine mi_iconst dX7_leftBy_0 ?_
  refine ms_istore dX7_leftBy_1 (by decide) rfl ?_
  dsimp only [List.set, Nat.reduceAdd]
  refine mi_iconst dX7_leftBy_3 ?_
  refine ms_istore dX7_leftBy_4 (by decide) rfl ?_
  dsimp only [List.set, Nat.reduceAdd]
  have i9 := l_X7_lb (S := S) (f := f) (L := L) hR hT hn hl hr hv hb ((M 53 1).toNat + 1) 0 M none (by omega) (by omega) (fun _ _ => rfl)
  rw [show lbK (sp_tR M) (M 75) n l (fun q => M 64 (3 * l + q)) r (M 53 1) 0 = 0 from by unfold lbK; rw [if_pos (by omega)]; rfl] at i9
  exact i9

