/-- the lamps of a set, the highest first -/
def blp (lm : Int) (s : Nat) : List Int := (([5, 4, 3, 2, 1, 0] : List Int).take s).filter (fun b => decide (ob lm b = 1))
def bl (lm : Int) : List Int := blp lm 6
theorem blp_s (lm : Int) {s : Nat} (hs : s < 6) : blp lm (s + 1) = blp lm s ++ (if ob lm (5 - (s : Int)) = 1 then [5 - (s : Int)] else []) := by
  unfold blp
  rw [List.take_succ, List.filter_append]
  congr 1
  have key : ∀ x : Int, List.filter (fun b => decide (ob lm b = 1)) [x] = if ob lm x = 1 then [x] else [] := fun x => by
    by_cases h : ob lm x = 1 <;> simp [h]
  rw [← key]
  congr 1
  rcases (show s = 0 ∨ s = 1 ∨ s = 2 ∨ s = 3 ∨ s = 4 ∨ s = 5 by omega) with rfl | rfl | rfl | rfl | rfl | rfl <;> rfl
theorem blp_le (lm : Int) (s : Nat) (hs : s ≤ 6) : (blp lm s).length ≤ (bl lm).length := by
  unfold bl blp
  refine List.Sublist.length_le (List.Sublist.filter _ ?_)
  rw [show ([5, 4, 3, 2, 1, 0] : List Int).take 6 = [5, 4, 3, 2, 1, 0] from rfl]
  exact List.take_sublist _ _
theorem bl_pcn {lm : Int} (h : 0 ≤ lm ∧ lm < 64) : ((bl lm).length : Int) = pcn lm := fin_of (n := 64) (P := fun lm => ((bl lm).length : Int) = pcn lm) (by decide +kernel) h.1 h.2
theorem blp_gd {l : List Int} {x : Int} {j : Nat} (h : j < l.length) : (l ++ [x]).getD j 0 = l.getD j 0 := by
  rw [List.getD_eq_getElem?_getD, List.getElem?_append_left h, List.getD_eq_getElem?_getD]
theorem up_2625 {α : Type} (M : Nat → α) (g : α) : va_up M 26 g 25 = M 25 := up_n _ _ (by decide)
theorem up_2725 {α : Type} (M : Nat → α) (g : α) : va_up M 27 g 25 = M 25 := up_n _ _ (by decide)
theorem p7_3 {m : Nat} (h : m ≤ 3) : (7 : Int) ^ m ≤ 343 ∧ 1 ≤ (7 : Int) ^ m := by
  rcases (show m = 0 ∨ m = 1 ∨ m = 2 ∨ m = 3 by omega) with rfl | rfl | rfl | rfl <;> decide
set_option maxHeartbeats 4000000 in
set_option maxRecDepth 100000 in
theorem l_X0_seat {S : mx_Sc} {f : Bool} {M : Nat → Int → Int} {L : Nat → Nat → Int64} {Rf : Nat → Nat → Option Nat} (hR : mx_rf Rf) {lm : Int} (hlm : 0 ≤ lm ∧ lm < 64) (hm : (bl lm).length ≤ 3) : ∀ (kk : Nat) (s : Nat) (N : Nat → Int → Int), s + kk = 6 → ((∀ x, x ≠ 25 → x ≠ 26 → x ≠ 27 → N x = M x) ∧ N 25 3 = ((blp lm s).length : Int) ∧ N 25 4 = 7 ^ (blp lm s).length ∧ (∀ j : Nat, j < (blp lm s).length → N 26 (j : Int) = (blp lm s).getD j 0 ∧ N 27 (j : Int) = 7 ^ j)) → mx_E S mX0_seat 12 [some (.ref 25), some (.int (iI lm)), some (.int (iI (5 - (s : Int))))] [] (f, mx_SH, N, L, Rf) 0 0 (fun v9 h9 => ∃ N, h9 = (f, mx_SH, N, L, Rf) ∧ v9 = none ∧ (∀ x, x ≠ 25 → x ≠ 26 → x ≠ 27 → N x = M x) ∧ N 25 3 = ((bl lm).length : Int) ∧ N 25 4 = 7 ^ (bl lm).length ∧ (∀ j : Nat, j < (bl lm).length → N 26 (j : Int) = (bl lm).getD j 0 ∧ N 27 (j : Int) = 7 ^ j)) (fun _ _ => False) := by
  intro kk
  induction kk with
  | zero => 
    intro s N g1 hS
    have es : s = 6 := by omega
    subst es
    refine ms_iload_n dX0_seat_12 rfl ?_
    refine mi_if_lt (tgt := 82) dX0_seat_13 (by decide) (fun c_13 => ?_) (fun c_13 => ?_)
    · refine ms_retV dX0_seat_82 rfl ⟨N, rfl, rfl, hS⟩ (by simp)
    · exact absurd c_13 (by omega)
  | succ kk ih => 
    intro s N g1 hS
    obtain ⟨q1, q2, q3, q4⟩ := hS
    have hus := ush7 (o := lm) (l := 5 - (s : Int)) (by omega) (by omega)
    have h01 := ob_01 lm (5 - (s : Int))
    have hle := blp_le lm (s + 1) (by omega)
    have hss := blp_s lm (s := s) (by omega)
    have hle0 := blp_le lm s (by omega)
    refine ms_iload_n dX0_seat_12 rfl ?_
    refine mi_if_lt (tgt := 82) dX0_seat_13 (by decide) (fun c_13 => ?_) (fun c_13 => ?_)
    · exact absurd c_13 (by omega)
    · refine ms_iload_n dX0_seat_16 rfl ?_
      refine ms_iload_n dX0_seat_17 rfl ?_
      refine mi_iushr (lm / 2 ^ (5 - (s : Int)).toNat) dX0_seat_18 hus.1 ?_
      refine mi_iconst dX0_seat_19 ?_
      refine mi_iand (ob lm (5 - (s : Int))) dX0_seat_20 hus.2 ?_
      refine mi_if_eq (tgt := 76) dX0_seat_21 (by decide) (fun c_21 => ?_) (fun c_21 => ?_)
      · rw [if_neg (by omega), List.append_nil] at hss
        refine mi_iinc dX0_seat_76 rfl (by decide) rfl ?_
        dsimp only [List.set, Nat.reduceAdd]
        refine ms_goto (tgt := 12) dX0_seat_79 (by decide) ?_
        have i9 := ih (s + 1) N (by omega) (by rw [hss]; exact ⟨q1, q2, q3, q4⟩)
        rw [show 5 - ((s + 1 : Nat) : Int) = 5 - (s : Int) + -1 by omega] at i9
        exact i9
      · rw [if_pos (by omega)] at hss
        have hln : (blp lm (s + 1)).length = (blp lm s).length + 1 := by rw [hss, List.length_append]; rfl
        refine ms_aload_n dX0_seat_24 rfl ?_
        refine ms_getI (z := 3) dX0_seat_25 (fo_X0_45 rfl) (by first | rfl | assumption) rfl rfl ?_
        refine mi_iconst dX0_seat_28 ?_
        refine mi_icmp_ge (tgt := 76) dX0_seat_29 (by decide) (fun c_29 => ?_) (fun c_29 => ?_)
        · exact absurd c_29 (by omega)
        · refine ms_aload_n dX0_seat_32 rfl ?_
          refine ms_getR dX0_seat_33 (fo_X0_11 rfl) (by first | rfl | assumption) rfl (by first | assumption | exact rf_25_0 hR ) ?_
          refine ms_aload_n dX0_seat_36 rfl ?_
          refine ms_getI (z := 3) dX0_seat_37 (fo_X0_45 rfl) (by first | rfl | assumption) rfl rfl ?_
          refine ms_iload_n dX0_seat_40 rfl ?_
          refine ms_iast dX0_seat_41 (by first | rfl | assumption) ?_
          refine ms_aload_n dX0_seat_42 rfl ?_
          refine ms_getR dX0_seat_43 (fo_X0_15 rfl) (by first | rfl | assumption) rfl (by first | assumption | exact rf_25_1 hR ) ?_
          refine ms_aload_n dX0_seat_46 rfl ?_
          refine ms_getI (z := 3) dX0_seat_47 (fo_X0_45 rfl) (by first | rfl | assumption) rfl rfl ?_
          simp only [up_2625]
          refine ms_aload_n dX0_seat_50 rfl ?_
          refine ms_getI (z := 4) dX0_seat_51 (fo_X0_25 rfl) (by first | rfl | assumption) rfl rfl ?_
          refine ms_iast dX0_seat_54 (by first | rfl | assumption) ?_
          refine ms_aload_n dX0_seat_55 rfl ?_
          refine ms_dup dX0_seat_56 rfl ?_
          refine ms_getI (z := 4) dX0_seat_57 (fo_X0_25 rfl) (by first | rfl | assumption) rfl rfl ?_
          refine mi_bipush dX0_seat_60 (by decide) ?_
          refine mi_imul dX0_seat_62 ?_
          refine ms_putI (z := 4) dX0_seat_63 (fo_X0_25 rfl) (by first | rfl | assumption) rfl rfl rfl ?_
          refine ms_aload_n dX0_seat_66 rfl ?_
          refine ms_dup dX0_seat_67 rfl ?_
          refine ms_getI (z := 3) dX0_seat_68 (fo_X0_45 rfl) (by first | rfl | assumption) rfl rfl ?_
          refine mi_iconst dX0_seat_71 ?_
          refine mi_iadd dX0_seat_72 ?_
          refine ms_putI (z := 3) dX0_seat_73 (fo_X0_45 rfl) (by first | rfl | assumption) rfl rfl rfl ?_
          refine mi_iinc dX0_seat_76 rfl (by decide) rfl ?_
          dsimp only [List.set, Nat.reduceAdd]
          refine ms_goto (tgt := 12) dX0_seat_79 (by decide) ?_
          rw [show 5 - (s : Int) + -1 = 5 - ((s + 1 : Nat) : Int) by omega]
          refine ih (s + 1) _ (by omega) ⟨fun x x0 x1 x2 => by simp [va_up, x0, x1, x2]; exact q1 x x0 x1 x2, ?_, ?_, fun j hj => ?_⟩
          · rw [hln]
            simp [va_up, iu]
            omega
          · rw [hln, Int.pow_succ, ← q3]
            simp [va_up, iu]
          · rw [hln] at hj
            by_cases e : j = (blp lm s).length
            · rw [hss, e]
              simp [va_up, iu, q2, q3]
            · have h9 := q4 j (by omega)
              have e2 : ¬ ((j : Int) = ((blp lm s).length : Int)) := by omega
              rw [hss, blp_gd (by omega)]
              simp [va_up, iu, q2, e2]
              exact h9

set_option maxHeartbeats 4000000 in
set_option maxRecDepth 100000 in
theorem k_X0_seat {S : mx_Sc} {f : Bool} {M : Nat → Int → Int} {L : Nat → Nat → Int64} {Rf : Nat → Nat → Option Nat} (hR : mx_rf Rf) {lm : Int} (hlm : 0 ≤ lm ∧ lm < 64) (hm : (bl lm).length ≤ 3) : mx_C S mX0_seat [.ref 25, .int (iI lm)] (f, mx_SH, M, L, Rf) 0 0 (fun v9 h9 => ∃ N, h9 = (f, mx_SH, N, L, Rf) ∧ v9 = none ∧ (∀ x, x ≠ 25 → x ≠ 26 → x ≠ 27 → N x = M x) ∧ N 25 3 = ((bl lm).length : Int) ∧ N 25 4 = 7 ^ (bl lm).length ∧ (∀ j : Nat, j < (bl lm).length → N 26 (j : Int) = (bl lm).getD j 0 ∧ N 27 (j : Int) = 7 ^ j)) (fun _ _ => False) := by
  refine mx_C_of (by decide) (by simp [Value.category]) (Nat.le_of_ble_eq_true rfl) rfl ?_
  show mx_E S mX0_seat 0 [some (.ref 25), some (.int (iI lm)), none] [] (f, mx_SH, M, L, Rf) 0 0 _ _
  refine ms_aload_n dX0_seat_0 rfl ?_
  refine mi_iconst dX0_seat_1 ?_
  refine ms_putI (z := 3) dX0_seat_2 (fo_X0_45 rfl) (by first | rfl | assumption) rfl rfl rfl ?_
  refine ms_aload_n dX0_seat_5 rfl ?_
  refine mi_iconst dX0_seat_6 ?_
  refine ms_putI (z := 4) dX0_seat_7 (fo_X0_25 rfl) (by first | rfl | assumption) rfl rfl rfl ?_
  refine mi_iconst dX0_seat_10 ?_
  refine ms_istore_n dX0_seat_11 (by decide) rfl ?_
  dsimp only [List.set, Nat.reduceAdd]
  exact ms_conseq (fun v9 h9 hp => by
    obtain ⟨N, y1, y2, y3, y4, y5, y6⟩ := hp
    exact ⟨N, y1, y2, fun x x0 x1 x2 => by rw [y3 x x0 x1 x2]; simp [va_up, x0], y4, y5, y6⟩) (fun _ _ z => z) (l_X0_seat (S := S) (f := f) (L := L) (M := va_up (va_up M 25 (iu (M 25) 3 0)) 25 (iu (va_up M 25 (iu (M 25) 3 0) 25) 4 1)) hR hlm hm 6 0 _ (by omega) ⟨fun _ _ _ _ => rfl, by simp [va_up, iu, blp], by simp [va_up, iu, blp], fun j hj => by simp [blp] at hj⟩)

