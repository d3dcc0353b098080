/-- the night in which a lamp marries whom it likes; 1000: never -/
def wdF (lk u : Int → Int) (l : Int) : Int := if lk l ≠ -1 ∧ u (18 + l) = lk l then u (24 + l) else -1
def wdV (b : Bool) (lk u : Int → Int) (l : Int) : Int := if b = true then (if wdF lk u l = -1 then 1000 else wdF lk u l) else 1001
set_option maxHeartbeats 4000000 in
set_option maxRecDepth 100000 in
theorem l_X0_hI {S : mx_Sc} {f : Bool} {M : Nat → Int → Int} {L : Nat → Nat → Int64} {Rf : Nat → Nat → Option Nat} (hR : mx_rf Rf) {t : Nat} (ht : t = 29 ∨ t = 37) (hT : sp_tok (sp_tC M t)) (hwl : Rf 46 2 = some (t + 3)) (hlk : sp_lok (sp_tC M t) (M (t + 3))) {P : Option Value → mx_H → Prop} {PX : String → mx_H → Prop} {m : Nat} (hm3 : m ≤ 3) {c : Nat → Int} (hm : M 25 3 = (m : Int)) (hch : ∀ j : Nat, j < m → M 26 (j : Int) = c j ∧ 0 ≤ c j ∧ c j < M t 1) {w lm : Int} (hw : 0 ≤ w ∧ w < 343) {b : Bool} {u : Int → Int} (hfw : b = true → scR (sp_tC M t) M 18 u ∧ sp_vok (sp_tC M t) u) : ∀ (kk : Nat) (i : Nat) (N : Nat → Int → Int) (o8 : Option Value), i + kk = m → (∀ x, x ≠ 28 → N x = M x) → ((∀ j : Nat, j < i → N 28 (w * 3 + (j : Int)) = wdV b (M (t + 3)) u (c j)) ∧ (∀ y, (y < w * 3 ∨ w * 3 + (i : Int) ≤ y) → N 28 y = M 28 y)) → (∀ (N : Nat → Int → Int) (z7 : Int) (o8 : Option Value), (∀ x, x ≠ 28 → N x = M x) → ((∀ j : Nat, j < m → N 28 (w * 3 + (j : Int)) = wdV b (M (t + 3)) u (c j)) ∧ (∀ y, (y < w * 3 ∨ w * 3 + (m : Int) ≤ y) → N 28 y = M 28 y)) → mx_E S mX0_hear 113 [some (.ref 25), some (.ref 46), some (.ref 3), some (.ref 18), some (.int (iI lm)), some (.int (iI w)), some (.int (iI (bI b))), some (.int (iI z7)), o8] [] (f, mx_SH, N, L, Rf) 0 0 P PX) → mx_E S mX0_hear 47 [some (.ref 25), some (.ref 46), some (.ref 3), some (.ref 18), some (.int (iI lm)), some (.int (iI w)), some (.int (iI (bI b))), some (.int (iI (i : Int))), o8] [] (f, mx_SH, N, L, Rf) 0 0 P PX := by
  intro kk
  induction kk with
  | zero => 
    intro i N o8 g1 q1 q2 hK
    have hTT := hT
    have hT1 : 0 ≤ M t 1 ∧ M t 1 ≤ 6 := hT.2.1
    have eN : N 25 3 = (m : Int) := by rw [q1 25 (by decide)]; exact hm
    have em : m = i := by omega
    subst em
    refine ms_iload dX0_hear_47 rfl ?_
    refine ms_aload_n dX0_hear_49 rfl ?_
    refine ms_getI (z := 3) dX0_hear_50 (fo_X0_45 rfl) (by first | rfl | assumption) rfl rfl ?_
    refine mi_icmp_ge (tgt := 113) dX0_hear_53 (by decide) (fun c_53 => ?_) (fun c_53 => ?_)
    · exact hK N _ _ q1 q2
    · exact absurd c_53 (by omega)
  | succ kk ih => 
    intro i N o8 g1 q1 q2 hK
    have hTT := hT
    have hT1 : 0 ≤ M t 1 ∧ M t 1 ≤ 6 := hT.2.1
    have eN : N 25 3 = (m : Int) := by rw [q1 25 (by decide)]; exact hm
    have hck := hch i (by omega)
    have e26 : N 26 (i : Int) = c i := by rw [q1 26 (by decide)]; exact hck.1
    have eT : sp_tC N t = sp_tC M t := tC_fr (fun y _ _ => q1 y (by omega))
    have ewr : N (t + 3) = M (t + 3) := q1 (t + 3) (by omega)
    refine ms_iload dX0_hear_47 rfl ?_
    refine ms_aload_n dX0_hear_49 rfl ?_
    refine ms_getI (z := 3) dX0_hear_50 (fo_X0_45 rfl) (by first | rfl | assumption) rfl rfl ?_
    refine mi_icmp_ge (tgt := 113) dX0_hear_53 (by decide) (fun c_53 => ?_) (fun c_53 => ?_)
    · exact absurd c_53 (by omega)
    · refine ms_iload dX0_hear_56 rfl ?_
      refine mi_if_eqB (tgt := 76) dX0_hear_58 (by decide) (fun c_58 => ?_) (fun c_58 => ?_)
      · refine mi_sipush dX0_hear_76 (by decide) ?_
        refine ms_istore dX0_hear_79 (by decide) rfl ?_
        dsimp only [List.set, Nat.reduceAdd]
        refine ms_aload_n dX0_hear_81 rfl ?_
        refine ms_getR dX0_hear_82 (fo_X0_18 rfl) (by first | rfl | assumption) rfl (by first | assumption | exact rf_25_2 hR ) ?_
        refine ms_iload dX0_hear_85 rfl ?_
        refine mi_iconst dX0_hear_87 ?_
        refine mi_imul dX0_hear_88 ?_
        refine ms_iload dX0_hear_89 rfl ?_
        refine mi_iadd dX0_hear_91 ?_
        refine ms_iload dX0_hear_92 rfl ?_
        refine mi_iconst dX0_hear_94 ?_
        refine mi_icmp_ne (tgt := 104) dX0_hear_95 (by decide) (fun c_95 => ?_) (fun c_95 => ?_)
        · refine ms_iload dX0_hear_104 rfl ?_
          refine ms_iast dX0_hear_106 (by first | rfl | assumption) ?_
          refine mi_iinc dX0_hear_107 rfl (by decide) rfl ?_
          dsimp only [List.set, Nat.reduceAdd]
          refine ms_goto (tgt := 47) dX0_hear_110 (by decide) ?_
          refine ih (i + 1) _ _ (by omega) (fun x hx => by rw [up_n _ _ hx]; exact q1 x hx) ⟨fun j hj => ?_, fun y hy => ?_⟩ hK
          · rw [up_s]
            by_cases e : j = i
            · subst e
              rw [iu_s]
              unfold wdV
              rw [c_58]
              rfl
            · rw [iu_n _ _ (by omega)]
              exact q2.1 j (by omega)
          · rw [up_s, iu_n _ _ (by omega)]
            exact q2.2 y (by omega)
        · exact absurd c_95 (by omega)
      · refine ms_aload_n dX0_hear_61 rfl ?_
        refine ms_aload_n dX0_hear_62 rfl ?_
        refine ms_aload_n dX0_hear_63 rfl ?_
        refine ms_getR dX0_hear_64 (fo_X0_11 rfl) (by first | rfl | assumption) rfl (by first | assumption | exact rf_25_0 hR ) ?_
        refine ms_iload dX0_hear_67 rfl ?_
        refine ms_iald dX0_hear_69 (by first | rfl | assumption) ?_
        refine ms_callV2 (ci := 5) (r := (RX5, TX5, 5)) dX0_hear_70 cv_X0_hear_X5_findWedding (k_X5_findWedding (M := N) (v := u) (wr := t + 3) hR ht (by rw [eT]; exact hT) (a := 18) (by omega) (Or.inl rfl) hwl (by rw [eT, ewr]; exact hlk) (by rw [eT]; exact (hfw c_58).1.fr (q1 _ (by decide)) (q1 _ (by decide)) (q1 _ (by decide)) (q1 _ (by decide))) (by rw [eT]; exact (hfw c_58).2) (l := N 26 (i : Int)) (by rw [e26, q1 t (by omega)]; exact ⟨hck.2.1, hck.2.2⟩)) rfl rfl (by first | rfl | assumption) (Nat.le_of_ble_eq_true rfl) rfl (fun _ _ z => z.elim) (fun v9 h9 hp9 => ?_)
        obtain ⟨rfl, rfl⟩ := hp9
        rw [e26, ewr, show (if M (t + 3) (c i) ≠ -1 ∧ u (18 + c i) = M (t + 3) (c i) then u (24 + c i) else -1) = wdF (M (t + 3)) u (c i) from rfl]
        have hwb : -1 ≤ wdF (M (t + 3)) u (c i) ∧ wdF (M (t + 3)) u (c i) ≤ 1200 := by
          have h9 := (hfw c_58).2.2 (c i) hck.2.1 (by omega)
          unfold wdF
          split <;> omega
        refine ms_goto (tgt := 79) dX0_hear_73 (by decide) ?_
        refine ms_istore dX0_hear_79 (by decide) rfl ?_
        dsimp only [List.set, Nat.reduceAdd]
        refine ms_aload_n dX0_hear_81 rfl ?_
        refine ms_getR dX0_hear_82 (fo_X0_18 rfl) (by first | rfl | assumption) rfl (by first | assumption | exact rf_25_2 hR ) ?_
        refine ms_iload dX0_hear_85 rfl ?_
        refine mi_iconst dX0_hear_87 ?_
        refine mi_imul dX0_hear_88 ?_
        refine ms_iload dX0_hear_89 rfl ?_
        refine mi_iadd dX0_hear_91 ?_
        refine ms_iload dX0_hear_92 rfl ?_
        refine mi_iconst dX0_hear_94 ?_
        refine mi_icmp_ne (tgt := 104) dX0_hear_95 (by decide) (fun c_95 => ?_) (fun c_95 => ?_)
        · refine ms_iload dX0_hear_104 rfl ?_
          refine ms_iast dX0_hear_106 (by first | rfl | assumption) ?_
          refine mi_iinc dX0_hear_107 rfl (by decide) rfl ?_
          dsimp only [List.set, Nat.reduceAdd]
          refine ms_goto (tgt := 47) dX0_hear_110 (by decide) ?_
          refine ih (i + 1) _ _ (by omega) (fun x hx => by rw [up_n _ _ hx]; exact q1 x hx) ⟨fun j hj => ?_, fun y hy => ?_⟩ hK
          · rw [up_s]
            by_cases e : j = i
            · subst e
              rw [iu_s]
              unfold wdV
              rw [if_pos c_58, if_neg c_95]
            · rw [iu_n _ _ (by omega)]
              exact q2.1 j (by omega)
          · rw [up_s, iu_n _ _ (by omega)]
            exact q2.2 y (by omega)
        · refine mi_sipush dX0_hear_98 (by decide) ?_
          refine ms_goto (tgt := 106) dX0_hear_101 (by decide) ?_
          refine ms_iast dX0_hear_106 (by first | rfl | assumption) ?_
          refine mi_iinc dX0_hear_107 rfl (by decide) rfl ?_
          dsimp only [List.set, Nat.reduceAdd]
          refine ms_goto (tgt := 47) dX0_hear_110 (by decide) ?_
          refine ih (i + 1) _ _ (by omega) (fun x hx => by rw [up_n _ _ hx]; exact q1 x hx) ⟨fun j hj => ?_, fun y hy => ?_⟩ hK
          · rw [up_s]
            by_cases e : j = i
            · subst e
              rw [iu_s]
              unfold wdV
              rw [if_pos c_58, if_pos c_95]
            · rw [iu_n _ _ (by omega)]
              exact q2.1 j (by omega)
          · rw [up_s, iu_n _ _ (by omega)]
            exact q2.2 y (by omega)

