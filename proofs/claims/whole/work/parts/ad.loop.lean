set_option maxHeartbeats 1000000 in
set_option maxRecDepth 100000 in
/-- the law's loop -/
theorem l_law {S : mx_Sc} : ∀ (kk : Nat) (M : Nat → Int → Int) (L : Nat → Nat → Int64) (Rf : Nat → Nat → Option Nat) (it i : Int) (o5 o6 : Option Value), 0 ≤ it → i = 6 * it → it + kk ≤ 512 → (S.1 : Int) < i + 6 * kk + 6 → rlA M Rf it → mx_E S mL_law 23 [some (.ref 1000), some (.ref 0), some (.ref 48), some (.ref 81), some (.int (iI i)), o5, o6] [] (false, mx_SH, M, L, Rf) kk (6 * kk) lwP (fun _ _ => False) := by
  intro kk
  induction kk with
  | zero =>
    intro M L Rf it i o5 o6 h0 hi hk hS h
    refine ms_iload dL_law_23 rfl ?_
    refine ms_aload_n dL_law_25 rfl ?_
    refine ms_slen dL_law_26 (fun hsl => ?_)
    refine mi_bipush dL_law_27 (by decide) ?_
    refine mi_isub dL_law_29 ?_
    refine mi_icmp_gt (tgt := 1287) dL_law_30 (by decide) (fun c_30 => ?_) (fun c_30 => ?_)
    · refine mi_iconst dL_law_1287 ?_
      refine ms_retZ dL_law_1288 rfl (by first | exact Or.inl rfl | exact Or.inr rfl) rfl (by simp)
    · exact absurd c_30 (by omega)
  | succ kk ih =>
    intro M L Rf it i o5 o6 h0 hi hk hS h
    obtain ⟨w, hw, hwe⟩ := and31 (iI (sv S i))
    have hJ : ∀ (N : Nat → Int → Int) (L2 : Nat → Nat → Int64) (Rf2 : Nat → Nat → Option Nat) (p5 p6 : Option Value), rlA N Rf2 (it + 1) → mx_E S mL_law 1281 [some (.ref 1000), some (.ref 0), some (.ref 48), some (.ref 81), some (.int (iI i)), p5, p6] [] (false, mx_SH, N, L2, Rf2) kk (6 * kk) lwP (fun _ _ => False) := by
      intro N L2 Rf2 p5 p6 h9
      refine mi_iinc dL_law_1281 rfl (by decide) rfl ?_
      dsimp only [List.set, Nat.reduceAdd]
      refine ms_goto (tgt := 23) dL_law_1284 (by decide) ?_
      exact ih N L2 Rf2 (it + 1) (i + 6) p5 p6 (by omega) (by omega) (by omega) (by omega) h9
    show mx_E S mL_law 23 _ [] _ (kk + 1) (6 * kk + 6) _ _
    refine ms_iload dL_law_23 rfl ?_
    refine ms_aload_n dL_law_25 rfl ?_
    refine ms_slen dL_law_26 (fun hsl => ?_)
    refine mi_bipush dL_law_27 (by decide) ?_
    refine mi_isub dL_law_29 ?_
    refine mi_icmp_gt (tgt := 1287) dL_law_30 (by decide) (fun c_30 => ?_) (fun c_30 => ?_)
    · refine mi_iconst dL_law_1287 ?_
      refine ms_retZ dL_law_1288 rfl (by first | exact Or.inl rfl | exact Or.inr rfl) rfl (by simp)
    · refine ms_aload_n dL_law_33 rfl ?_
      refine ms_iload dL_law_34 rfl ?_
      refine ms_sl dL_law_36 ?_
      refine mi_bipush dL_law_37 (by decide) ?_
      refine mi_iand (w) dL_law_39 hwe ?_
      by_cases hd : 19 < w
      · refine ms_tabOut (tgt := 1281) dL_law_40 (Or.inr ?_) (by decide) ?_
        · rw [iI_toInt (by omega) (by omega)]; exact hd
        · exact ms_room (by omega) (by omega) (hJ _ _ _ _ _ h.it)
      · have hi6 : i + 6 ≤ (S.1 : Int) := by omega
        have hi0 : 0 ≤ i := by omega
        have hit : it ≤ 1000000 := by omega
        obtain rfl | rfl | rfl | rfl | rfl | rfl | rfl | rfl | rfl | rfl | rfl | rfl | rfl | rfl | rfl | rfl | rfl | rfl | rfl | rfl : w = 0 ∨ w = 1 ∨ w = 2 ∨ w = 3 ∨ w = 4 ∨ w = 5 ∨ w = 6 ∨ w = 7 ∨ w = 8 ∨ w = 9 ∨ w = 10 ∨ w = 11 ∨ w = 12 ∨ w = 13 ∨ w = 14 ∨ w = 15 ∨ w = 16 ∨ w = 17 ∨ w = 18 ∨ w = 19 := by omega
        · exact ms_tabIn (tgt := 136) dL_law_40 (by decide) (by decide) rfl (by decide) (lw_feed hi0 hi6 hit h hJ)
        · exact ms_tabIn (tgt := 209) dL_law_40 (by decide) (by decide) rfl (by decide) (lw_valley hi0 hi6 hit h hJ)
        · exact ms_tabIn (tgt := 265) dL_law_40 (by decide) (by decide) rfl (by decide) (lw_fault hi0 hi6 hit h hJ)
        · exact ms_tabIn (tgt := 278) dL_law_40 (by decide) (by decide) rfl (by decide) (lw_count hi0 hi6 hit h hJ)
        · exact ms_tabIn (tgt := 334) dL_law_40 (by decide) (by decide) rfl (by decide) (lw_lamp hi0 hi6 hit h hJ)
        · exact ms_tabIn (tgt := 402) dL_law_40 (by decide) (by decide) rfl (by decide) (lw_far hi0 hi6 hit h hJ)
        · exact ms_tabIn (tgt := 470) dL_law_40 (by decide) (by decide) rfl (by decide) (lw_nights hi0 hi6 hit h hJ)
        · exact ms_tabIn (tgt := 526) dL_law_40 (by decide) (by decide) rfl (by decide) (lw_undo hi0 hi6 hit h hJ)
        · exact ms_tabIn (tgt := 582) dL_law_40 (by decide) (by decide) rfl (by decide) (lw_book hi0 hi6 hit h hJ)
        · exact ms_tabIn (tgt := 662) dL_law_40 (by decide) (by decide) rfl (by decide) (lw_drop hi0 hi6 hit h hJ)
        · exact ms_tabIn (tgt := 749) dL_law_40 (by decide) (by decide) rfl (by decide) (lw_end hi0 hi6 hit h hJ)
        · exact ms_tabIn (tgt := 805) dL_law_40 (by decide) (by decide) rfl (by decide) (lw_matches hi0 hi6 hit h hJ)
        · exact ms_tabIn (tgt := 861) dL_law_40 (by decide) (by decide) rfl (by decide) (lw_mother hi0 hi6 hit h hJ)
        · exact ms_tabIn (tgt := 929) dL_law_40 (by decide) (by decide) rfl (by decide) (lw_mothers hi0 hi6 hit h hJ)
        · exact ms_tabIn (tgt := 997) dL_law_40 (by decide) (by decide) rfl (by decide) (lw_may hi0 hi6 hit h hJ)
        · exact ms_tabIn (tgt := 1053) dL_law_40 (by decide) (by decide) rfl (by decide) (lw_tells hi0 hi6 hit h hJ)
        · exact ms_tabIn (tgt := 1121) dL_law_40 (by decide) (by decide) rfl (by decide) (lw_near hi0 hi6 hit h hJ)
        · exact ms_tabIn (tgt := 1177) dL_law_40 (by decide) (by decide) rfl (by decide) (lw_years hi0 hi6 hit h hJ)
        · exact ms_tabIn (tgt := 1257) dL_law_40 (by decide) (by decide) rfl (by decide) (lw_image hi0 hi6 hit h hJ)
        · exact ms_tabIn (tgt := 1268) dL_law_40 (by decide) (by decide) rfl (by decide) (lw_restore hi0 hi6 hit h hJ)
