/-- a set's lamps below l, lowest first -/
def asc (x : Int) (l : Nat) : List Int := (([0, 1, 2, 3, 4, 5] : List Int).take l).filter (fun b => decide (ob x b = 1))
theorem asc_0 : ∀ x : Fin 64, ∀ l : Fin 6, asc (x.val : Int) (l.val + 1) = (if ob (x.val : Int) (l.val : Int) = 1 then asc (x.val : Int) l.val ++ [(l.val : Int)] else asc (x.val : Int) l.val) ∧ (asc (x.val : Int) l.val).length ≤ (bl (x.val : Int)).length ∧ (ob (x.val : Int) (l.val : Int) = 1 → (asc (x.val : Int) l.val).length < (bl (x.val : Int)).length) := by decide +kernel
theorem asc_1 : ∀ x : Fin 64, (asc (x.val : Int) 6).length = (bl (x.val : Int)).length ∧ (∀ j : Fin 6, j.val < (bl (x.val : Int)).length → (asc (x.val : Int) 6).getD ((bl (x.val : Int)).length - 1 - j.val) 0 = (bl (x.val : Int)).getD j.val 0) ∧ (∀ i j : Fin 6, i.val < j.val → j.val < (bl (x.val : Int)).length → (bl (x.val : Int)).getD i.val 0 ≠ (bl (x.val : Int)).getD j.val 0) ∧ (∀ K : Fin 7, (x.val : Int) < 2 ^ K.val → asc (x.val : Int) K.val = asc (x.val : Int) 6) ∧ (bl (x.val : Int)).length ≤ 6 := by decide +kernel
theorem asc_s {x : Int} {l : Nat} (hx : 0 ≤ x ∧ x < 64) (hl : l < 6) : asc x (l + 1) = (if ob x (l : Int) = 1 then asc x l ++ [(l : Int)] else asc x l) ∧ (asc x l).length ≤ (bl x).length ∧ (ob x (l : Int) = 1 → (asc x l).length < (bl x).length) := by
  have h := asc_0 ⟨x.toNat, by omega⟩ ⟨l, hl⟩
  simp only [show ((x.toNat : Nat) : Int) = x by omega] at h
  exact h
theorem asc_e {x : Int} (hx : 0 ≤ x ∧ x < 64) : (asc x 6).length = (bl x).length ∧ (∀ j : Fin 6, j.val < (bl x).length → (asc x 6).getD ((bl x).length - 1 - j.val) 0 = (bl x).getD j.val 0) ∧ (∀ i j : Fin 6, i.val < j.val → j.val < (bl x).length → (bl x).getD i.val 0 ≠ (bl x).getD j.val 0) ∧ (∀ K : Fin 7, x < 2 ^ K.val → asc x K.val = asc x 6) ∧ (bl x).length ≤ 6 := by
  have h := asc_1 ⟨x.toNat, by omega⟩
  simp only [show ((x.toNat : Nat) : Int) = x by omega] at h
  exact h
/-- the first row of nines that rests -/
def fqP (v : Int → Int) (c : Nat → Int) (m : Nat) (V : Int → Nat → Int) (K f : Int) : Prop := (f = -1 ∧ ∀ w, 0 ≤ w → w < K → ¬ (irB v c m w = true ∧ rqB v c m V w = true)) ∨ (0 ≤ f ∧ f < K ∧ (irB v c m f = true ∧ rqB v c m V f = true) ∧ ∀ w, 0 ≤ w → w < f → ¬ (irB v c m w = true ∧ rqB v c m V w = true))
set_option maxHeartbeats 4000000 in
set_option maxRecDepth 100000 in
theorem l_X7_msA {S : mx_Sc} {f : Bool} {M : Nat → Int → Int} {L : Nat → Nat → Int64} {Rf : Nat → Nat → Option Nat} (hR : mx_rf Rf) (hT : sp_tok (sp_tR M)) {P : Option Value → mx_H → Prop} {PX : String → mx_H → Prop} {x k : Int} (hx : 0 ≤ x ∧ x < 64) (hb3 : (bl x).length ≤ 3) : ∀ (kk : Nat) (l : Nat) (N : Nat → Int → Int), (l : Int) + kk = M 53 1 → (∀ y, y ≠ 48 → y ≠ 73 → N y = M y) → (∀ j, j ≠ 38 → N 48 j = M 48 j) → N 48 38 = ((asc x l).length : Int) → (∀ i : Nat, i < (asc x l).length → N 73 (i : Int) = (asc x l).getD i 0) → (∀ (N : Nat → Int → Int) (z : Int), (∀ y, y ≠ 48 → y ≠ 73 → N y = M y) → (∀ j, j ≠ 38 → N 48 j = M 48 j) → N 48 38 = ((asc x (M 53 1).toNat).length : Int) → (∀ i : Nat, i < (asc x (M 53 1).toNat).length → N 73 (i : Int) = (asc x (M 53 1).toNat).getD i 0) → mx_E S mX7_mothers 140 [some (.ref 48), some (.int (iI x)), some (.int (iI k)), some (.int (iI 1)), some (.int (iI z)), none, none, none] [] (f, mx_SH, N, L, Rf) 0 0 P PX) → mx_E S mX7_mothers 65 [some (.ref 48), some (.int (iI x)), some (.int (iI k)), some (.int (iI 1)), some (.int (iI (l : Int))), none, none, none] [] (f, mx_SH, N, L, Rf) 0 0 P PX := by
  intro kk
  induction kk with
  | zero => 
    intro l N g1 q1 q2 q3 q4 hK
    have hT0 : 1 ≤ M 53 0 ∧ M 53 0 ≤ 30 := hT.1
    have hT1 : 0 ≤ M 53 1 ∧ M 53 1 ≤ 6 := hT.2.1
    have hT5 : 1 ≤ M 53 5 ∧ M 53 5 ≤ 99 := hT.2.2.2.2.2.1
    have hT6 : 0 ≤ M 53 6 ∧ M 53 6 ≤ 10 := hT.2.2.2.2.2.2.1
    have e53 : N 53 = M 53 := q1 53 (by decide) (by decide)
    refine ms_iload dX7_mothers_65 rfl ?_
    refine ms_aload_n dX7_mothers_67 rfl ?_
    refine ms_getR dX7_mothers_68 (fo_X7_43 rfl) (by first | rfl | assumption) rfl (by first | assumption | exact rf_48_5 hR ) ?_
    refine mi_iconst dX7_mothers_71 ?_
    refine ms_iald dX7_mothers_72 (by first | rfl | assumption) ?_
    rw [e53]
    refine mi_icmp_ge (tgt := 140) dX7_mothers_73 (by decide) (fun c_73 => ?_) (fun c_73 => ?_)
    · rw [show l = (M 53 1).toNat by omega] at q3 q4
      exact hK N _ q1 q2 q3 q4
    · exact absurd c_73 (by omega)
  | succ kk ih => 
    intro l N g1 q1 q2 q3 q4 hK
    have hT0 : 1 ≤ M 53 0 ∧ M 53 0 ≤ 30 := hT.1
    have hT1 : 0 ≤ M 53 1 ∧ M 53 1 ≤ 6 := hT.2.1
    have hT5 : 1 ≤ M 53 5 ∧ M 53 5 ≤ 99 := hT.2.2.2.2.2.1
    have hT6 : 0 ≤ M 53 6 ∧ M 53 6 ≤ 10 := hT.2.2.2.2.2.2.1
    have e53 : N 53 = M 53 := q1 53 (by decide) (by decide)
    have hob := ob_01 x (l : Int)
    have has := asc_s hx (l := l) (by omega)
    refine ms_iload dX7_mothers_65 rfl ?_
    refine ms_aload_n dX7_mothers_67 rfl ?_
    refine ms_getR dX7_mothers_68 (fo_X7_43 rfl) (by first | rfl | assumption) rfl (by first | assumption | exact rf_48_5 hR ) ?_
    refine mi_iconst dX7_mothers_71 ?_
    refine ms_iald dX7_mothers_72 (by first | rfl | assumption) ?_
    rw [e53]
    refine mi_icmp_ge (tgt := 140) dX7_mothers_73 (by decide) (fun c_73 => ?_) (fun c_73 => ?_)
    · exact absurd c_73 (by omega)
    · refine ms_iload_n dX7_mothers_76 rfl ?_
      refine mi_if_eq (tgt := 140) dX7_mothers_77 (by decide) (fun c_77 => ?_) (fun c_77 => ?_)
      · exact absurd c_77 (by omega)
      · refine ms_iload_n dX7_mothers_80 rfl ?_
        refine ms_iload dX7_mothers_81 rfl ?_
        refine mi_ishr (x / 2 ^ (l : Int).toNat) dX7_mothers_83 (ob_sar hx (by omega)) ?_
        refine mi_iconst dX7_mothers_84 ?_
        refine mi_iand (ob x (l : Int)) dX7_mothers_85 (ob_and1 (ob_le hx)) ?_
        refine mi_if_ne (tgt := 92) dX7_mothers_86 (by decide) (fun c_86 => ?_) (fun c_86 => ?_)
        · refine ms_aload_n dX7_mothers_92 rfl ?_
          refine ms_getI (z := 38) dX7_mothers_93 (fo_X7_329 rfl) (by first | rfl | assumption) rfl rfl ?_
          refine mi_iconst dX7_mothers_96 ?_
          refine mi_icmp_ge (tgt := 104) dX7_mothers_97 (by decide) (fun c_97 => ?_) (fun c_97 => ?_)
          · exact absurd c_97 (by have := has.2.2 (by omega); omega)
          · refine mi_iconst dX7_mothers_100 ?_
            refine ms_goto (tgt := 105) dX7_mothers_101 (by decide) ?_
            refine ms_istore_n dX7_mothers_105 (by decide) rfl ?_
            dsimp only [List.set, Nat.reduceAdd]
            refine ms_iload_n dX7_mothers_106 rfl ?_
            refine mi_if_ne (tgt := 113) dX7_mothers_107 (by decide) (fun c_107 => ?_) (fun c_107 => ?_)
            · refine ms_aload_n dX7_mothers_113 rfl ?_
              refine ms_getR dX7_mothers_114 (fo_X7_107 rfl) (by first | rfl | assumption) rfl (by first | assumption | exact rf_48_36 hR ) ?_
              refine ms_aload_n dX7_mothers_117 rfl ?_
              refine ms_getI (z := 38) dX7_mothers_118 (fo_X7_329 rfl) (by first | rfl | assumption) rfl rfl ?_
              refine ms_iload dX7_mothers_121 rfl ?_
              refine ms_iast dX7_mothers_123 (by first | rfl | assumption) ?_
              refine ms_aload_n dX7_mothers_124 rfl ?_
              refine ms_dup dX7_mothers_125 rfl ?_
              refine ms_getI (z := 38) dX7_mothers_126 (fo_X7_329 rfl) (by first | rfl | assumption) rfl rfl ?_
              refine mi_iconst dX7_mothers_129 ?_
              refine mi_iadd dX7_mothers_130 ?_
              refine ms_putI (z := 38) dX7_mothers_131 (fo_X7_329 rfl) (by first | rfl | assumption) rfl rfl rfl ?_
              refine mi_iinc dX7_mothers_134 rfl (by decide) rfl ?_
              dsimp only [List.set, Nat.reduceAdd]
              refine ms_goto (tgt := 65) dX7_mothers_137 (by decide) ?_
              have h9 := (asc_s hx (l := l) (by omega)).1
              rw [if_pos (by omega)] at h9
              refine ih (l + 1) _ (by omega) (fun y a b => by rw [up_n _ _ a, up_n _ _ b]; exact q1 y a b) (fun j hj => by rw [up_s, iu_n _ _ hj, up_n _ _ (by decide)]; exact q2 j hj) (by rw [up_s, iu_s, up_n _ _ (by decide), q3, h9, List.length_append]; rfl) (fun i hi => ?_) hK
              rw [h9, List.length_append] at hi
              rw [h9, up_n _ _ (by decide), up_s, q3]
              by_cases e : i = (asc x l).length
              · subst e
                rw [iu_s, List.getD_eq_getElem?_getD, List.getElem?_append_right (Nat.le_refl _), Nat.sub_self]
                rfl
              · rw [iu_n _ _ (by omega), q4 i (by simp at hi; omega), List.getD_eq_getElem?_getD, List.getD_eq_getElem?_getD, List.getElem?_append_left (by simp at hi; omega)]
            · exact absurd c_107 (by omega)
        · refine ms_goto (tgt := 134) dX7_mothers_89 (by decide) ?_
          refine mi_iinc dX7_mothers_134 rfl (by decide) rfl ?_
          dsimp only [List.set, Nat.reduceAdd]
          refine ms_goto (tgt := 65) dX7_mothers_137 (by decide) ?_
          have h9 := (asc_s hx (l := l) (by omega)).1
          rw [if_neg (by omega)] at h9
          exact ih (l + 1) N (by omega) q1 q2 (by rw [h9]; exact q3) (by rw [h9]; exact q4) hK

set_option maxHeartbeats 4000000 in
set_option maxRecDepth 100000 in
theorem l_X7_msX {S : mx_Sc} {f : Bool} {M : Nat → Int → Int} {L : Nat → Nat → Int64} {Rf : Nat → Nat → Option Nat} (hR : mx_rf Rf) (hT : sp_tok (sp_tR M)) {P : Option Value → mx_H → Prop} {PX : String → mx_H → Prop} {x k : Int} (hx : 0 ≤ x ∧ x < 64) (hx2 : x < 2 ^ (M 53 1).toNat) (hb3 : 3 < (bl x).length) : ∀ (kk : Nat) (l : Nat) (N : Nat → Int → Int), (l : Int) + kk = M 53 1 → (asc x l).length ≤ 3 → (∀ y, y ≠ 48 → y ≠ 73 → N y = M y) → (∀ j, j ≠ 38 → N 48 j = M 48 j) → N 48 38 = ((asc x l).length : Int) → (∀ i : Nat, i < (asc x l).length → N 73 (i : Int) = (asc x l).getD i 0) → (∀ (N : Nat → Int → Int) (z : Int), (∀ y, y ≠ 48 → y ≠ 73 → N y = M y) → (∀ j, j ≠ 38 → N 48 j = M 48 j) → mx_E S mX7_mothers 140 [some (.ref 48), some (.int (iI x)), some (.int (iI k)), some (.int (iI 0)), some (.int (iI z)), none, none, none] [] (f, mx_SH, N, L, Rf) 0 0 P PX) → mx_E S mX7_mothers 65 [some (.ref 48), some (.int (iI x)), some (.int (iI k)), some (.int (iI 1)), some (.int (iI (l : Int))), none, none, none] [] (f, mx_SH, N, L, Rf) 0 0 P PX := by
  intro kk
  induction kk with
  | zero => 
    intro l N g1 g3 q1 q2 q3 q4 hK
    have hT0 : 1 ≤ M 53 0 ∧ M 53 0 ≤ 30 := hT.1
    have hT1 : 0 ≤ M 53 1 ∧ M 53 1 ≤ 6 := hT.2.1
    have hT5 : 1 ≤ M 53 5 ∧ M 53 5 ≤ 99 := hT.2.2.2.2.2.1
    have hT6 : 0 ≤ M 53 6 ∧ M 53 6 ≤ 10 := hT.2.2.2.2.2.2.1
    have e53 : N 53 = M 53 := q1 53 (by decide) (by decide)
    have hae := asc_e hx
    have h7 := hae.2.2.2.1 ⟨l, by omega⟩ (by show x < 2 ^ l; rw [show l = (M 53 1).toNat by omega]; exact hx2)
    refine ms_iload dX7_mothers_65 rfl ?_
    refine ms_aload_n dX7_mothers_67 rfl ?_
    refine ms_getR dX7_mothers_68 (fo_X7_43 rfl) (by first | rfl | assumption) rfl (by first | assumption | exact rf_48_5 hR ) ?_
    refine mi_iconst dX7_mothers_71 ?_
    refine ms_iald dX7_mothers_72 (by first | rfl | assumption) ?_
    rw [e53]
    refine mi_icmp_ge (tgt := 140) dX7_mothers_73 (by decide) (fun c_73 => ?_) (fun c_73 => ?_)
    · exact absurd g3 (by have e9 : asc x l = asc x 6 := h7; rw [e9, hae.1]; omega)
    · exact absurd c_73 (by omega)
  | succ kk ih => 
    intro l N g1 g3 q1 q2 q3 q4 hK
    have hT0 : 1 ≤ M 53 0 ∧ M 53 0 ≤ 30 := hT.1
    have hT1 : 0 ≤ M 53 1 ∧ M 53 1 ≤ 6 := hT.2.1
    have hT5 : 1 ≤ M 53 5 ∧ M 53 5 ≤ 99 := hT.2.2.2.2.2.1
    have hT6 : 0 ≤ M 53 6 ∧ M 53 6 ≤ 10 := hT.2.2.2.2.2.2.1
    have e53 : N 53 = M 53 := q1 53 (by decide) (by decide)
    have hob := ob_01 x (l : Int)
    have has := asc_s hx (l := l) (by omega)
    have has2 : (asc x l).length ≤ 6 := by have := (asc_e hx).2.2.2.2; omega
    refine ms_iload dX7_mothers_65 rfl ?_
    refine ms_aload_n dX7_mothers_67 rfl ?_
    refine ms_getR dX7_mothers_68 (fo_X7_43 rfl) (by first | rfl | assumption) rfl (by first | assumption | exact rf_48_5 hR ) ?_
    refine mi_iconst dX7_mothers_71 ?_
    refine ms_iald dX7_mothers_72 (by first | rfl | assumption) ?_
    rw [e53]
    refine mi_icmp_ge (tgt := 140) dX7_mothers_73 (by decide) (fun c_73 => ?_) (fun c_73 => ?_)
    · exact absurd c_73 (by omega)
    · refine ms_iload_n dX7_mothers_76 rfl ?_
      refine mi_if_eq (tgt := 140) dX7_mothers_77 (by decide) (fun c_77 => ?_) (fun c_77 => ?_)
      · exact absurd c_77 (by omega)
      · refine ms_iload_n dX7_mothers_80 rfl ?_
        refine ms_iload dX7_mothers_81 rfl ?_
        refine mi_ishr (x / 2 ^ (l : Int).toNat) dX7_mothers_83 (ob_sar hx (by omega)) ?_
        refine mi_iconst dX7_mothers_84 ?_
        refine mi_iand (ob x (l : Int)) dX7_mothers_85 (ob_and1 (ob_le hx)) ?_
        refine mi_if_ne (tgt := 92) dX7_mothers_86 (by decide) (fun c_86 => ?_) (fun c_86 => ?_)
        · refine ms_aload_n dX7_mothers_92 rfl ?_
          refine ms_getI (z := 38) dX7_mothers_93 (fo_X7_329 rfl) (by first | rfl | assumption) rfl rfl ?_
          refine mi_iconst dX7_mothers_96 ?_
          refine mi_icmp_ge (tgt := 104) dX7_mothers_97 (by decide) (fun c_97 => ?_) (fun c_97 => ?_)
          · refine mi_iconst dX7_mothers_104 ?_
            refine ms_istore_n dX7_mothers_105 (by decide) rfl ?_
            dsimp only [List.set, Nat.reduceAdd]
            refine ms_iload_n dX7_mothers_106 rfl ?_
            refine mi_if_ne (tgt := 113) dX7_mothers_107 (by decide) (fun c_107 => ?_) (fun c_107 => ?_)
            · exact absurd rfl c_107
            · refine ms_goto (tgt := 134) dX7_mothers_110 (by decide) ?_
              refine mi_iinc dX7_mothers_134 rfl (by decide) rfl ?_
              dsimp only [List.set, Nat.reduceAdd]
              refine ms_goto (tgt := 65) dX7_mothers_137 (by decide) ?_
              refine ms_iload dX7_mothers_65 rfl ?_
              refine ms_aload_n dX7_mothers_67 rfl ?_
              refine ms_getR dX7_mothers_68 (fo_X7_43 rfl) (by first | rfl | assumption) rfl (by first | assumption | exact rf_48_5 hR ) ?_
              refine mi_iconst dX7_mothers_71 ?_
              refine ms_iald dX7_mothers_72 (by first | rfl | assumption) ?_
              rw [e53]
              refine mi_icmp_ge (tgt := 140) dX7_mothers_73 (by decide) (fun c_73 => ?_) (fun c_73 => ?_)
              · exact hK N _ q1 q2
              · refine ms_iload_n dX7_mothers_76 rfl ?_
                refine mi_if_eq (tgt := 140) dX7_mothers_77 (by decide) (fun c_77 => ?_) (fun c_77 => ?_)
                · exact hK N _ q1 q2
                · exact absurd rfl c_77
          · refine mi_iconst dX7_mothers_100 ?_
            refine ms_goto (tgt := 105) dX7_mothers_101 (by decide) ?_
            refine ms_istore_n dX7_mothers_105 (by decide) rfl ?_
            dsimp only [List.set, Nat.reduceAdd]
            refine ms_iload_n dX7_mothers_106 rfl ?_
            refine mi_if_ne (tgt := 113) dX7_mothers_107 (by decide) (fun c_107 => ?_) (fun c_107 => ?_)
            · refine ms_aload_n dX7_mothers_113 rfl ?_
              refine ms_getR dX7_mothers_114 (fo_X7_107 rfl) (by first | rfl | assumption) rfl (by first | assumption | exact rf_48_36 hR ) ?_
              refine ms_aload_n dX7_mothers_117 rfl ?_
              refine ms_getI (z := 38) dX7_mothers_118 (fo_X7_329 rfl) (by first | rfl | assumption) rfl rfl ?_
              refine ms_iload dX7_mothers_121 rfl ?_
              refine ms_iast dX7_mothers_123 (by first | rfl | assumption) ?_
              refine ms_aload_n dX7_mothers_124 rfl ?_
              refine ms_dup dX7_mothers_125 rfl ?_
              refine ms_getI (z := 38) dX7_mothers_126 (fo_X7_329 rfl) (by first | rfl | assumption) rfl rfl ?_
              refine mi_iconst dX7_mothers_129 ?_
              refine mi_iadd dX7_mothers_130 ?_
              refine ms_putI (z := 38) dX7_mothers_131 (fo_X7_329 rfl) (by first | rfl | assumption) rfl rfl rfl ?_
              refine mi_iinc dX7_mothers_134 rfl (by decide) rfl ?_
              dsimp only [List.set, Nat.reduceAdd]
              refine ms_goto (tgt := 65) dX7_mothers_137 (by decide) ?_
              have h9 := (asc_s hx (l := l) (by omega)).1
              rw [if_pos (by omega)] at h9
              refine ih (l + 1) _ (by omega) (by rw [h9, List.length_append]; simp; omega) (fun y a b => by rw [up_n _ _ a, up_n _ _ b]; exact q1 y a b) (fun j hj => by rw [up_s, iu_n _ _ hj, up_n _ _ (by decide)]; exact q2 j hj) (by rw [up_s, iu_s, up_n _ _ (by decide), q3, h9, List.length_append]; rfl) (fun i hi => ?_) hK
              rw [h9, List.length_append] at hi
              rw [h9, up_n _ _ (by decide), up_s, q3]
              by_cases e : i = (asc x l).length
              · subst e
                rw [iu_s, List.getD_eq_getElem?_getD, List.getElem?_append_right (Nat.le_refl _), Nat.sub_self]
                rfl
              · rw [iu_n _ _ (by omega), q4 i (by simp at hi; omega), List.getD_eq_getElem?_getD, List.getD_eq_getElem?_getD, List.getElem?_append_left (by simp at hi; omega)]
            · exact absurd c_107 (by omega)
        · refine ms_goto (tgt := 134) dX7_mothers_89 (by decide) ?_
          refine mi_iinc dX7_mothers_134 rfl (by decide) rfl ?_
          dsimp only [List.set, Nat.reduceAdd]
          refine ms_goto (tgt := 65) dX7_mothers_137 (by decide) ?_
          have h9 := (asc_s hx (l := l) (by omega)).1
          rw [if_neg (by omega)] at h9
          exact ih (l + 1) N (by omega) (by rw [h9]; exact g3) q1 q2 (by rw [h9]; exact q3) (by rw [h9]; exact q4) hK

