theorem dn_pour {M : Nat → Int → Int} {l : Int} {i j : Int} (hi : i = 0 ∨ i = 1 ∨ i = 2) (hj : j = 0 ∨ j = 1 ∨ j = 2) (hij : i ≠ j) : e3 (fun q => iu (iu (M 47) (l * 3 + i) (M 47 (l * 3 + i) - 1)) (l * 3 + j) (iu (M 47) (l * 3 + i) (M 47 (l * 3 + i) - 1) (l * 3 + j) + 1) (l * 3 + q)) (sp_pour (fun q => M 47 (l * 3 + q)) i j) := by
  rcases hi with rfl | rfl | rfl <;> rcases hj with rfl | rfl | rfl <;> first | exact absurd rfl hij | (simp only [e3, sp_pour, iu]; refine ⟨?_, ?_, ?_⟩ <;> simp <;> omega)
theorem dn_far {M : Nat → Int → Int} {l : Int} {i j : Int} (hi : i = 0 ∨ i = 1 ∨ i = 2) (hj : j = 0 ∨ j = 1 ∨ j = 2) {x y : Int} : ∀ k, (k < l * 3 ∨ l * 3 + 3 ≤ k) → iu (iu (M 47) (l * 3 + i) x) (l * 3 + j) y k = M 47 k := by
  intro k hk
  rw [iu_n _ _ (by omega), iu_n _ _ (by omega)]
set_option maxHeartbeats 4000000 in
set_option maxRecDepth 100000 in
theorem k_X5_stagger {S : mx_Sc} {f : Bool} {M : Nat → Int → Int} {L : Nat → Nat → Int64} {Rf : Nat → Nat → Option Nat} (hR : mx_rf Rf) {ng : Bool} {l : Int} (hl : 0 ≤ l ∧ l < 6) (hng : M 46 4 = bI ng) {F : Int} (hF : 1 ≤ F ∧ F ≤ 30) (hx : s3 F (fun q => M 47 (l * 3 + q))) : mx_C S mX5_stagger [.ref 46, .int (iI l)] (f, mx_SH, M, L, Rf) 0 0 (fun v9 h9 => (∃ g, h9 = (f, mx_SH, va_up M 47 g, L, Rf) ∧ e3 (fun q => g (l * 3 + q)) (sp_drunk ng (fun q => M 47 (l * 3 + q))) ∧ ∀ i, (i < l * 3 ∨ l * 3 + 3 ≤ i) → g i = M 47 i) ∧ v9 = none) (fun _ _ => False) := by
  refine mx_C_of (by decide) (by simp [Value.category]) (Nat.le_of_ble_eq_true rfl) rfl ?_
  show mx_E S mX5_stagger 0 [some (.ref 46), some (.int (iI l)), none, none, none] [] (f, mx_SH, M, L, Rf) 0 0 _ _
  have hx1 : 0 ≤ M 47 (l * 3 + 0) ∧ 0 ≤ M 47 (l * 3 + 1) ∧ 0 ≤ M 47 (l * 3 + 2) ∧ M 47 (l * 3 + 0) + M 47 (l * 3 + 1) + M 47 (l * 3 + 2) = F := hx
  have hbn := bI_01 ng
  refine ms_iload_n dX5_stagger_0 rfl ?_
  refine mi_iconst dX5_stagger_1 ?_
  refine mi_imul dX5_stagger_2 ?_
  refine ms_istore_n dX5_stagger_3 (by decide) rfl ?_
  dsimp only [List.set, Nat.reduceAdd]
  refine mi_iconst dX5_stagger_4 ?_
  refine ms_istore_n dX5_stagger_5 (by decide) rfl ?_
  dsimp only [List.set, Nat.reduceAdd]
  refine mi_iconst dX5_stagger_6 ?_
  refine ms_istore dX5_stagger_7 (by decide) rfl ?_
  dsimp only [List.set, Nat.reduceAdd]
  refine ms_iload dX5_stagger_9 rfl ?_
  refine mi_iconst dX5_stagger_11 ?_
  refine mi_icmp_ge (tgt := 44) dX5_stagger_12 (by decide) (fun c_12 => ?_) (fun c_12 => ?_)
  · exact absurd c_12 (by omega)
  · refine ms_aload_n dX5_stagger_15 rfl ?_
    refine ms_getR dX5_stagger_16 (fo_X5_9 rfl) (by first | rfl | assumption) rfl (by first | assumption | exact rf_46_0 hR ) ?_
    refine ms_iload_n dX5_stagger_19 rfl ?_
    refine ms_iload dX5_stagger_20 rfl ?_
    refine mi_iadd dX5_stagger_22 ?_
    refine ms_iald dX5_stagger_23 (by first | rfl | assumption) ?_
    refine ms_aload_n dX5_stagger_24 rfl ?_
    refine ms_getR dX5_stagger_25 (fo_X5_9 rfl) (by first | rfl | assumption) rfl (by first | assumption | exact rf_46_0 hR ) ?_
    refine ms_iload_n dX5_stagger_28 rfl ?_
    refine ms_iload_n dX5_stagger_29 rfl ?_
    refine mi_iadd dX5_stagger_30 ?_
    refine ms_iald dX5_stagger_31 (by first | rfl | assumption) ?_
    refine mi_icmp_le (tgt := 38) dX5_stagger_32 (by decide) (fun c_32 => ?_) (fun c_32 => ?_)
    · refine mi_iincL (2) dX5_stagger_38 rfl (by decide) rfl (by decide) ?_
      dsimp only [List.set, Nat.reduceAdd]
      refine ms_goto (tgt := 9) dX5_stagger_41 (by decide) ?_
      refine ms_iload dX5_stagger_9 rfl ?_
      refine mi_iconst dX5_stagger_11 ?_
      refine mi_icmp_ge (tgt := 44) dX5_stagger_12 (by decide) (fun c_12 => ?_) (fun c_12 => ?_)
      · exact absurd c_12 (by omega)
      · refine ms_aload_n dX5_stagger_15 rfl ?_
        refine ms_getR dX5_stagger_16 (fo_X5_9 rfl) (by first | rfl | assumption) rfl (by first | assumption | exact rf_46_0 hR ) ?_
        refine ms_iload_n dX5_stagger_19 rfl ?_
        refine ms_iload dX5_stagger_20 rfl ?_
        refine mi_iadd dX5_stagger_22 ?_
        refine ms_iald dX5_stagger_23 (by first | rfl | assumption) ?_
        refine ms_aload_n dX5_stagger_24 rfl ?_
        refine ms_getR dX5_stagger_25 (fo_X5_9 rfl) (by first | rfl | assumption) rfl (by first | assumption | exact rf_46_0 hR ) ?_
        refine ms_iload_n dX5_stagger_28 rfl ?_
        refine ms_iload_n dX5_stagger_29 rfl ?_
        refine mi_iadd dX5_stagger_30 ?_
        refine ms_iald dX5_stagger_31 (by first | rfl | assumption) ?_
        refine mi_icmp_le (tgt := 38) dX5_stagger_32 (by decide) (fun c_32 => ?_) (fun c_32 => ?_)
        · refine mi_iincL (3) dX5_stagger_38 rfl (by decide) rfl (by decide) ?_
          dsimp only [List.set, Nat.reduceAdd]
          refine ms_goto (tgt := 9) dX5_stagger_41 (by decide) ?_
          refine ms_iload dX5_stagger_9 rfl ?_
          refine mi_iconst dX5_stagger_11 ?_
          refine mi_icmp_ge (tgt := 44) dX5_stagger_12 (by decide) (fun c_12 => ?_) (fun c_12 => ?_)
          · refine ms_iload_n dX5_stagger_44 rfl ?_
            refine mi_iconst dX5_stagger_45 ?_
            refine mi_icmp_ne (tgt := 53) dX5_stagger_46 (by decide) (fun c_46 => ?_) (fun c_46 => ?_)
            · refine ms_iload_n dX5_stagger_53 rfl ?_
              refine mi_iconst dX5_stagger_54 ?_
              refine mi_iadd dX5_stagger_55 ?_
              rw [show (0 : Int) + 1 = 1 from rfl]
              refine ms_istore dX5_stagger_56 (by decide) rfl ?_
              dsimp only [List.set, Nat.reduceAdd]
              refine ms_aload_n dX5_stagger_58 rfl ?_
              refine ms_getI (z := 4) dX5_stagger_59 (fo_X5_30 rfl) (by first | rfl | assumption) rfl rfl ?_
              rw [hng]
              refine mi_if_eqB (tgt := 71) dX5_stagger_62 (by decide) (fun c_62 => ?_) (fun c_62 => ?_)
              · refine ms_aload_n dX5_stagger_71 rfl ?_
                refine ms_getR dX5_stagger_72 (fo_X5_9 rfl) (by first | rfl | assumption) rfl (by first | assumption | exact rf_46_0 hR ) ?_
                refine ms_iload_n dX5_stagger_75 rfl ?_
                refine ms_iload_n dX5_stagger_76 rfl ?_
                refine mi_iadd dX5_stagger_77 ?_
                refine ms_dup2 dX5_stagger_78 rfl rfl ?_
                refine ms_iald dX5_stagger_79 (by first | rfl | assumption) ?_
                refine mi_iconst dX5_stagger_80 ?_
                refine mi_isub dX5_stagger_81 ?_
                refine ms_iast dX5_stagger_82 (by first | rfl | assumption) ?_
                refine ms_aload_n dX5_stagger_83 rfl ?_
                refine ms_getR dX5_stagger_84 (fo_X5_9 rfl) (by first | rfl | assumption) rfl (by first | assumption | exact rf_46_0 hR ) ?_
                refine ms_iload_n dX5_stagger_87 rfl ?_
                refine ms_iload dX5_stagger_88 rfl ?_
                refine mi_iadd dX5_stagger_90 ?_
                refine ms_dup2 dX5_stagger_91 rfl rfl ?_
                refine ms_iald dX5_stagger_92 (by first | rfl | assumption) ?_
                refine mi_iconst dX5_stagger_93 ?_
                refine mi_iadd dX5_stagger_94 ?_
                refine ms_iast dX5_stagger_95 (by first | rfl | assumption) ?_
                refine ms_retV dX5_stagger_96 rfl ⟨⟨_, by simp only [up_s]; rw [bx_uu], ?_, dn_far (by omega) (by omega)⟩, rfl⟩ (by simp)
                have hm : sp_most (M 47 (l * 3 + 0)) (M 47 (l * 3 + 1)) (M 47 (l * 3 + 2)) = 0 := by rcases sp_most_spec (M 47 (l * 3 + 0)) (M 47 (l * 3 + 1)) (M 47 (l * 3 + 2)) with ⟨e, q⟩ | ⟨e, q⟩ | ⟨e, q⟩ <;> rw [e] <;> omega
                unfold sp_drunk
                simp only
                rw [hm, if_neg (by rintro ⟨z1, z2⟩; first | omega | (rw [z1] at c_62; cases c_62))]
                exact dn_pour (i := 0) (j := 1) (by omega) (by omega) (by omega)
              · refine ms_iload dX5_stagger_65 rfl ?_
                refine mi_iconst dX5_stagger_67 ?_
                refine mi_icmp_eq (tgt := 96) dX5_stagger_68 (by decide) (fun c_68 => ?_) (fun c_68 => ?_)
                · refine ms_retV dX5_stagger_96 rfl ⟨⟨M 47, by rw [up_id], ?_, fun _ _ => rfl⟩, rfl⟩ (by simp)
                  have hm : sp_most (M 47 (l * 3 + 0)) (M 47 (l * 3 + 1)) (M 47 (l * 3 + 2)) = 0 := by rcases sp_most_spec (M 47 (l * 3 + 0)) (M 47 (l * 3 + 1)) (M 47 (l * 3 + 2)) with ⟨e, q⟩ | ⟨e, q⟩ | ⟨e, q⟩ <;> rw [e] <;> omega
                  unfold sp_drunk
                  simp only
                  rw [hm, if_pos ⟨c_62, by omega⟩]
                  exact e3.rf _
                · refine ms_aload_n dX5_stagger_71 rfl ?_
                  refine ms_getR dX5_stagger_72 (fo_X5_9 rfl) (by first | rfl | assumption) rfl (by first | assumption | exact rf_46_0 hR ) ?_
                  refine ms_iload_n dX5_stagger_75 rfl ?_
                  refine ms_iload_n dX5_stagger_76 rfl ?_
                  refine mi_iadd dX5_stagger_77 ?_
                  refine ms_dup2 dX5_stagger_78 rfl rfl ?_
                  refine ms_iald dX5_stagger_79 (by first | rfl | assumption) ?_
                  refine mi_iconst dX5_stagger_80 ?_
                  refine mi_isub dX5_stagger_81 ?_
                  refine ms_iast dX5_stagger_82 (by first | rfl | assumption) ?_
                  refine ms_aload_n dX5_stagger_83 rfl ?_
                  refine ms_getR dX5_stagger_84 (fo_X5_9 rfl) (by first | rfl | assumption) rfl (by first | assumption | exact rf_46_0 hR ) ?_
                  refine ms_iload_n dX5_stagger_87 rfl ?_
                  refine ms_iload dX5_stagger_88 rfl ?_
                  refine mi_iadd dX5_stagger_90 ?_
                  refine ms_dup2 dX5_stagger_91 rfl rfl ?_
                  refine ms_iald dX5_stagger_92 (by first | rfl | assumption) ?_
                  refine mi_iconst dX5_stagger_93 ?_
                  refine mi_iadd dX5_stagger_94 ?_
                  refine ms_iast dX5_stagger_95 (by first | rfl | assumption) ?_
                  refine ms_retV dX5_stagger_96 rfl ⟨⟨_, by simp only [up_s]; rw [bx_uu], ?_, dn_far (by omega) (by omega)⟩, rfl⟩ (by simp)
                  have hm : sp_most (M 47 (l * 3 + 0)) (M 47 (l * 3 + 1)) (M 47 (l * 3 + 2)) = 0 := by rcases sp_most_spec (M 47 (l * 3 + 0)) (M 47 (l * 3 + 1)) (M 47 (l * 3 + 2)) with ⟨e, q⟩ | ⟨e, q⟩ | ⟨e, q⟩ <;> rw [e] <;> omega
                  unfold sp_drunk
                  simp only
                  rw [hm, if_neg (by rintro ⟨z1, z2⟩; first | omega | (rw [z1] at c_62; cases c_62))]
                  exact dn_pour (i := 0) (j := 1) (by omega) (by omega) (by omega)
            · exact absurd c_46 (by omega)
          · exact absurd c_12 (by omega)
        · refine ms_iload dX5_stagger_35 rfl ?_
          refine ms_istore_n dX5_stagger_37 (by decide) rfl ?_
          dsimp only [List.set, Nat.reduceAdd]
          refine mi_iincL (3) dX5_stagger_38 rfl (by decide) rfl (by decide) ?_
          dsimp only [List.set, Nat.reduceAdd]
          refine ms_goto (tgt := 9) dX5_stagger_41 (by decide) ?_
          refine ms_iload dX5_stagger_9 rfl ?_
          refine mi_iconst dX5_stagger_11 ?_
          refine mi_icmp_ge (tgt := 44) dX5_stagger_12 (by decide) (fun c_12 => ?_) (fun c_12 => ?_)
          · refine ms_iload_n dX5_stagger_44 rfl ?_
            refine mi_iconst dX5_stagger_45 ?_
            refine mi_icmp_ne (tgt := 53) dX5_stagger_46 (by decide) (fun c_46 => ?_) (fun c_46 => ?_)
            · exact absurd rfl c_46
            · refine mi_iconst dX5_stagger_49 ?_
              refine ms_goto (tgt := 56) dX5_stagger_50 (by decide) ?_
              skip
              refine ms_istore dX5_stagger_56 (by decide) rfl ?_
              dsimp only [List.set, Nat.reduceAdd]
              refine ms_aload_n dX5_stagger_58 rfl ?_
              refine ms_getI (z := 4) dX5_stagger_59 (fo_X5_30 rfl) (by first | rfl | assumption) rfl rfl ?_
              rw [hng]
              refine mi_if_eqB (tgt := 71) dX5_stagger_62 (by decide) (fun c_62 => ?_) (fun c_62 => ?_)
              · refine ms_aload_n dX5_stagger_71 rfl ?_
                refine ms_getR dX5_stagger_72 (fo_X5_9 rfl) (by first | rfl | assumption) rfl (by first | assumption | exact rf_46_0 hR ) ?_
                refine ms_iload_n dX5_stagger_75 rfl ?_
                refine ms_iload_n dX5_stagger_76 rfl ?_
                refine mi_iadd dX5_stagger_77 ?_
                refine ms_dup2 dX5_stagger_78 rfl rfl ?_
                refine ms_iald dX5_stagger_79 (by first | rfl | assumption) ?_
                refine mi_iconst dX5_stagger_80 ?_
                refine mi_isub dX5_stagger_81 ?_
                refine ms_iast dX5_stagger_82 (by first | rfl | assumption) ?_
                refine ms_aload_n dX5_stagger_83 rfl ?_
                refine ms_getR dX5_stagger_84 (fo_X5_9 rfl) (by first | rfl | assumption) rfl (by first | assumption | exact rf_46_0 hR ) ?_
                refine ms_iload_n dX5_stagger_87 rfl ?_
                refine ms_iload dX5_stagger_88 rfl ?_
                refine mi_iadd dX5_stagger_90 ?_
                refine ms_dup2 dX5_stagger_91 rfl rfl ?_
                refine ms_iald dX5_stagger_92 (by first | rfl | assumption) ?_
                refine mi_iconst dX5_stagger_93 ?_
                refine mi_iadd dX5_stagger_94 ?_
                refine ms_iast dX5_stagger_95 (by first | rfl | assumption) ?_
                refine ms_retV dX5_stagger_96 rfl ⟨⟨_, by simp only [up_s]; rw [bx_uu], ?_, dn_far (by omega) (by omega)⟩, rfl⟩ (by simp)
                have hm : sp_most (M 47 (l * 3 + 0)) (M 47 (l * 3 + 1)) (M 47 (l * 3 + 2)) = 2 := by rcases sp_most_spec (M 47 (l * 3 + 0)) (M 47 (l * 3 + 1)) (M 47 (l * 3 + 2)) with ⟨e, q⟩ | ⟨e, q⟩ | ⟨e, q⟩ <;> rw [e] <;> omega
                unfold sp_drunk
                simp only
                rw [hm, if_neg (by rintro ⟨z1, z2⟩; first | omega | (rw [z1] at c_62; cases c_62))]
                exact dn_pour (i := 2) (j := 0) (by omega) (by omega) (by omega)
              · refine ms_iload dX5_stagger_65 rfl ?_
                refine mi_iconst dX5_stagger_67 ?_
                refine mi_icmp_eq (tgt := 96) dX5_stagger_68 (by decide) (fun c_68 => ?_) (fun c_68 => ?_)
                · exact absurd c_68 (by omega)
                · refine ms_aload_n dX5_stagger_71 rfl ?_
                  refine ms_getR dX5_stagger_72 (fo_X5_9 rfl) (by first | rfl | assumption) rfl (by first | assumption | exact rf_46_0 hR ) ?_
                  refine ms_iload_n dX5_stagger_75 rfl ?_
                  refine ms_iload_n dX5_stagger_76 rfl ?_
                  refine mi_iadd dX5_stagger_77 ?_
                  refine ms_dup2 dX5_stagger_78 rfl rfl ?_
                  refine ms_iald dX5_stagger_79 (by first | rfl | assumption) ?_
                  refine mi_iconst dX5_stagger_80 ?_
                  refine mi_isub dX5_stagger_81 ?_
                  refine ms_iast dX5_stagger_82 (by first | rfl | assumption) ?_
                  refine ms_aload_n dX5_stagger_83 rfl ?_
                  refine ms_getR dX5_stagger_84 (fo_X5_9 rfl) (by first | rfl | assumption) rfl (by first | assumption | exact rf_46_0 hR ) ?_
                  refine ms_iload_n dX5_stagger_87 rfl ?_
                  refine ms_iload dX5_stagger_88 rfl ?_
                  refine mi_iadd dX5_stagger_90 ?_
                  refine ms_dup2 dX5_stagger_91 rfl rfl ?_
                  refine ms_iald dX5_stagger_92 (by first | rfl | assumption) ?_
                  refine mi_iconst dX5_stagger_93 ?_
                  refine mi_iadd dX5_stagger_94 ?_
                  refine ms_iast dX5_stagger_95 (by first | rfl | assumption) ?_
                  refine ms_retV dX5_stagger_96 rfl ⟨⟨_, by simp only [up_s]; rw [bx_uu], ?_, dn_far (by omega) (by omega)⟩, rfl⟩ (by simp)
                  have hm : sp_most (M 47 (l * 3 + 0)) (M 47 (l * 3 + 1)) (M 47 (l * 3 + 2)) = 2 := by rcases sp_most_spec (M 47 (l * 3 + 0)) (M 47 (l * 3 + 1)) (M 47 (l * 3 + 2)) with ⟨e, q⟩ | ⟨e, q⟩ | ⟨e, q⟩ <;> rw [e] <;> omega
                  unfold sp_drunk
                  simp only
                  rw [hm, if_neg (by rintro ⟨z1, z2⟩; first | omega | (rw [z1] at c_62; cases c_62))]
                  exact dn_pour (i := 2) (j := 0) (by omega) (by omega) (by omega)
          · exact absurd c_12 (by omega)
    · refine ms_iload dX5_stagger_35 rfl ?_
      refine ms_istore_n dX5_stagger_37 (by decide) rfl ?_
      dsimp only [List.set, Nat.reduceAdd]
      refine mi_iincL (2) dX5_stagger_38 rfl (by decide) rfl (by decide) ?_
      dsimp only [List.set, Nat.reduceAdd]
      refine ms_goto (tgt := 9) dX5_stagger_41 (by decide) ?_
      refine ms_iload dX5_stagger_9 rfl ?_
      refine mi_iconst dX5_stagger_11 ?_
      refine mi_icmp_ge (tgt := 44) dX5_stagger_12 (by decide) (fun c_12 => ?_) (fun c_12 => ?_)
      · exact absurd c_12 (by omega)
      · refine ms_aload_n dX5_stagger_15 rfl ?_
        refine ms_getR dX5_stagger_16 (fo_X5_9 rfl) (by first | rfl | assumption) rfl (by first | assumption | exact rf_46_0 hR ) ?_
        refine ms_iload_n dX5_stagger_19 rfl ?_
        refine ms_iload dX5_stagger_20 rfl ?_
        refine mi_iadd dX5_stagger_22 ?_
        refine ms_iald dX5_stagger_23 (by first | rfl | assumption) ?_
        refine ms_aload_n dX5_stagger_24 rfl ?_
        refine ms_getR dX5_stagger_25 (fo_X5_9 rfl) (by first | rfl | assumption) rfl (by first | assumption | exact rf_46_0 hR ) ?_
        refine ms_iload_n dX5_stagger_28 rfl ?_
        refine ms_iload_n dX5_stagger_29 rfl ?_
        refine mi_iadd dX5_stagger_30 ?_
        refine ms_iald dX5_stagger_31 (by first | rfl | assumption) ?_
        refine mi_icmp_le (tgt := 38) dX5_stagger_32 (by decide) (fun c_32 => ?_) (fun c_32 => ?_)
        · refine mi_iincL (3) dX5_stagger_38 rfl (by decide) rfl (by decide) ?_
          dsimp only [List.set, Nat.reduceAdd]
          refine ms_goto (tgt := 9) dX5_stagger_41 (by decide) ?_
          refine ms_iload dX5_stagger_9 rfl ?_
          refine mi_iconst dX5_stagger_11 ?_
          refine mi_icmp_ge (tgt := 44) dX5_stagger_12 (by decide) (fun c_12 => ?_) (fun c_12 => ?_)
          · refine ms_iload_n dX5_stagger_44 rfl ?_
            refine mi_iconst dX5_stagger_45 ?_
            refine mi_icmp_ne (tgt := 53) dX5_stagger_46 (by decide) (fun c_46 => ?_) (fun c_46 => ?_)
            · refine ms_iload_n dX5_stagger_53 rfl ?_
              refine mi_iconst dX5_stagger_54 ?_
              refine mi_iadd dX5_stagger_55 ?_
              rw [show (1 : Int) + 1 = 2 from rfl]
              refine ms_istore dX5_stagger_56 (by decide) rfl ?_
              dsimp only [List.set, Nat.reduceAdd]
              refine ms_aload_n dX5_stagger_58 rfl ?_
              refine ms_getI (z := 4) dX5_stagger_59 (fo_X5_30 rfl) (by first | rfl | assumption) rfl rfl ?_
              rw [hng]
              refine mi_if_eqB (tgt := 71) dX5_stagger_62 (by decide) (fun c_62 => ?_) (fun c_62 => ?_)
              · refine ms_aload_n dX5_stagger_71 rfl ?_
                refine ms_getR dX5_stagger_72 (fo_X5_9 rfl) (by first | rfl | assumption) rfl (by first | assumption | exact rf_46_0 hR ) ?_
                refine ms_iload_n dX5_stagger_75 rfl ?_
                refine ms_iload_n dX5_stagger_76 rfl ?_
                refine mi_iadd dX5_stagger_77 ?_
                refine ms_dup2 dX5_stagger_78 rfl rfl ?_
                refine ms_iald dX5_stagger_79 (by first | rfl | assumption) ?_
                refine mi_iconst dX5_stagger_80 ?_
                refine mi_isub dX5_stagger_81 ?_
                refine ms_iast dX5_stagger_82 (by first | rfl | assumption) ?_
                refine ms_aload_n dX5_stagger_83 rfl ?_
                refine ms_getR dX5_stagger_84 (fo_X5_9 rfl) (by first | rfl | assumption) rfl (by first | assumption | exact rf_46_0 hR ) ?_
                refine ms_iload_n dX5_stagger_87 rfl ?_
                refine ms_iload dX5_stagger_88 rfl ?_
                refine mi_iadd dX5_stagger_90 ?_
                refine ms_dup2 dX5_stagger_91 rfl rfl ?_
                refine ms_iald dX5_stagger_92 (by first | rfl | assumption) ?_
                refine mi_iconst dX5_stagger_93 ?_
                refine mi_iadd dX5_stagger_94 ?_
                refine ms_iast dX5_stagger_95 (by first | rfl | assumption) ?_
                refine ms_retV dX5_stagger_96 rfl ⟨⟨_, by simp only [up_s]; rw [bx_uu], ?_, dn_far (by omega) (by omega)⟩, rfl⟩ (by simp)
                have hm : sp_most (M 47 (l * 3 + 0)) (M 47 (l * 3 + 1)) (M 47 (l * 3 + 2)) = 1 := by rcases sp_most_spec (M 47 (l * 3 + 0)) (M 47 (l * 3 + 1)) (M 47 (l * 3 + 2)) with ⟨e, q⟩ | ⟨e, q⟩ | ⟨e, q⟩ <;> rw [e] <;> omega
                unfold sp_drunk
                simp only
                rw [hm, if_neg (by rintro ⟨z1, z2⟩; first | omega | (rw [z1] at c_62; cases c_62))]
                exact dn_pour (i := 1) (j := 2) (by omega) (by omega) (by omega)
              · refine ms_iload dX5_stagger_65 rfl ?_
                refine mi_iconst dX5_stagger_67 ?_
                refine mi_icmp_eq (tgt := 96) dX5_stagger_68 (by decide) (fun c_68 => ?_) (fun c_68 => ?_)
                · exact absurd c_68 (by omega)
                · refine ms_aload_n dX5_stagger_71 rfl ?_
                  refine ms_getR dX5_stagger_72 (fo_X5_9 rfl) (by first | rfl | assumption) rfl (by first | assumption | exact rf_46_0 hR ) ?_
                  refine ms_iload_n dX5_stagger_75 rfl ?_
                  refine ms_iload_n dX5_stagger_76 rfl ?_
                  refine mi_iadd dX5_stagger_77 ?_
                  refine ms_dup2 dX5_stagger_78 rfl rfl ?_
                  refine ms_iald dX5_stagger_79 (by first | rfl | assumption) ?_
                  refine mi_iconst dX5_stagger_80 ?_
                  refine mi_isub dX5_stagger_81 ?_
                  refine ms_iast dX5_stagger_82 (by first | rfl | assumption) ?_
                  refine ms_aload_n dX5_stagger_83 rfl ?_
                  refine ms_getR dX5_stagger_84 (fo_X5_9 rfl) (by first | rfl | assumption) rfl (by first | assumption | exact rf_46_0 hR ) ?_
                  refine ms_iload_n dX5_stagger_87 rfl ?_
                  refine ms_iload dX5_stagger_88 rfl ?_
                  refine mi_iadd dX5_stagger_90 ?_
                  refine ms_dup2 dX5_stagger_91 rfl rfl ?_
                  refine ms_iald dX5_stagger_92 (by first | rfl | assumption) ?_
                  refine mi_iconst dX5_stagger_93 ?_
                  refine mi_iadd dX5_stagger_94 ?_
                  refine ms_iast dX5_stagger_95 (by first | rfl | assumption) ?_
                  refine ms_retV dX5_stagger_96 rfl ⟨⟨_, by simp only [up_s]; rw [bx_uu], ?_, dn_far (by omega) (by omega)⟩, rfl⟩ (by simp)
                  have hm : sp_most (M 47 (l * 3 + 0)) (M 47 (l * 3 + 1)) (M 47 (l * 3 + 2)) = 1 := by rcases sp_most_spec (M 47 (l * 3 + 0)) (M 47 (l * 3 + 1)) (M 47 (l * 3 + 2)) with ⟨e, q⟩ | ⟨e, q⟩ | ⟨e, q⟩ <;> rw [e] <;> omega
                  unfold sp_drunk
                  simp only
                  rw [hm, if_neg (by rintro ⟨z1, z2⟩; first | omega | (rw [z1] at c_62; cases c_62))]
                  exact dn_pour (i := 1) (j := 2) (by omega) (by omega) (by omega)
            · exact absurd c_46 (by omega)
          · exact absurd c_12 (by omega)
        · refine ms_iload dX5_stagger_35 rfl ?_
          refine ms_istore_n dX5_stagger_37 (by decide) rfl ?_
          dsimp only [List.set, Nat.reduceAdd]
          refine mi_iincL (3) dX5_stagger_38 rfl (by decide) rfl (by decide) ?_
          dsimp only [List.set, Nat.reduceAdd]
          refine ms_goto (tgt := 9) dX5_stagger_41 (by decide) ?_
          refine ms_iload dX5_stagger_9 rfl ?_
          refine mi_iconst dX5_stagger_11 ?_
          refine mi_icmp_ge (tgt := 44) dX5_stagger_12 (by decide) (fun c_12 => ?_) (fun c_12 => ?_)
          · refine ms_iload_n dX5_stagger_44 rfl ?_
            refine mi_iconst dX5_stagger_45 ?_
            refine mi_icmp_ne (tgt := 53) dX5_stagger_46 (by decide) (fun c_46 => ?_) (fun c_46 => ?_)
            · exact absurd rfl c_46
            · refine mi_iconst dX5_stagger_49 ?_
              refine ms_goto (tgt := 56) dX5_stagger_50 (by decide) ?_
              skip
              refine ms_istore dX5_stagger_56 (by decide) rfl ?_
              dsimp only [List.set, Nat.reduceAdd]
              refine ms_aload_n dX5_stagger_58 rfl ?_
              refine ms_getI (z := 4) dX5_stagger_59 (fo_X5_30 rfl) (by first | rfl | assumption) rfl rfl ?_
              rw [hng]
              refine mi_if_eqB (tgt := 71) dX5_stagger_62 (by decide) (fun c_62 => ?_) (fun c_62 => ?_)
              · refine ms_aload_n dX5_stagger_71 rfl ?_
                refine ms_getR dX5_stagger_72 (fo_X5_9 rfl) (by first | rfl | assumption) rfl (by first | assumption | exact rf_46_0 hR ) ?_
                refine ms_iload_n dX5_stagger_75 rfl ?_
                refine ms_iload_n dX5_stagger_76 rfl ?_
                refine mi_iadd dX5_stagger_77 ?_
                refine ms_dup2 dX5_stagger_78 rfl rfl ?_
                refine ms_iald dX5_stagger_79 (by first | rfl | assumption) ?_
                refine mi_iconst dX5_stagger_80 ?_
                refine mi_isub dX5_stagger_81 ?_
                refine ms_iast dX5_stagger_82 (by first | rfl | assumption) ?_
                refine ms_aload_n dX5_stagger_83 rfl ?_
                refine ms_getR dX5_stagger_84 (fo_X5_9 rfl) (by first | rfl | assumption) rfl (by first | assumption | exact rf_46_0 hR ) ?_
                refine ms_iload_n dX5_stagger_87 rfl ?_
                refine ms_iload dX5_stagger_88 rfl ?_
                refine mi_iadd dX5_stagger_90 ?_
                refine ms_dup2 dX5_stagger_91 rfl rfl ?_
                refine ms_iald dX5_stagger_92 (by first | rfl | assumption) ?_
                refine mi_iconst dX5_stagger_93 ?_
                refine mi_iadd dX5_stagger_94 ?_
                refine ms_iast dX5_stagger_95 (by first | rfl | assumption) ?_
                refine ms_retV dX5_stagger_96 rfl ⟨⟨_, by simp only [up_s]; rw [bx_uu], ?_, dn_far (by omega) (by omega)⟩, rfl⟩ (by simp)
                have hm : sp_most (M 47 (l * 3 + 0)) (M 47 (l * 3 + 1)) (M 47 (l * 3 + 2)) = 2 := by rcases sp_most_spec (M 47 (l * 3 + 0)) (M 47 (l * 3 + 1)) (M 47 (l * 3 + 2)) with ⟨e, q⟩ | ⟨e, q⟩ | ⟨e, q⟩ <;> rw [e] <;> omega
                unfold sp_drunk
                simp only
                rw [hm, if_neg (by rintro ⟨z1, z2⟩; first | omega | (rw [z1] at c_62; cases c_62))]
                exact dn_pour (i := 2) (j := 0) (by omega) (by omega) (by omega)
              · refine ms_iload dX5_stagger_65 rfl ?_
                refine mi_iconst dX5_stagger_67 ?_
                refine mi_icmp_eq (tgt := 96) dX5_stagger_68 (by decide) (fun c_68 => ?_) (fun c_68 => ?_)
                · exact absurd c_68 (by omega)
                · refine ms_aload_n dX5_stagger_71 rfl ?_
                  refine ms_getR dX5_stagger_72 (fo_X5_9 rfl) (by first | rfl | assumption) rfl (by first | assumption | exact rf_46_0 hR ) ?_
                  refine ms_iload_n dX5_stagger_75 rfl ?_
                  refine ms_iload_n dX5_stagger_76 rfl ?_
                  refine mi_iadd dX5_stagger_77 ?_
                  refine ms_dup2 dX5_stagger_78 rfl rfl ?_
                  refine ms_iald dX5_stagger_79 (by first | rfl | assumption) ?_
                  refine mi_iconst dX5_stagger_80 ?_
                  refine mi_isub dX5_stagger_81 ?_
                  refine ms_iast dX5_stagger_82 (by first | rfl | assumption) ?_
                  refine ms_aload_n dX5_stagger_83 rfl ?_
                  refine ms_getR dX5_stagger_84 (fo_X5_9 rfl) (by first | rfl | assumption) rfl (by first | assumption | exact rf_46_0 hR ) ?_
                  refine ms_iload_n dX5_stagger_87 rfl ?_
                  refine ms_iload dX5_stagger_88 rfl ?_
                  refine mi_iadd dX5_stagger_90 ?_
                  refine ms_dup2 dX5_stagger_91 rfl rfl ?_
                  refine ms_iald dX5_stagger_92 (by first | rfl | assumption) ?_
                  refine mi_iconst dX5_stagger_93 ?_
                  refine mi_iadd dX5_stagger_94 ?_
                  refine ms_iast dX5_stagger_95 (by first | rfl | assumption) ?_
                  refine ms_retV dX5_stagger_96 rfl ⟨⟨_, by simp only [up_s]; rw [bx_uu], ?_, dn_far (by omega) (by omega)⟩, rfl⟩ (by simp)
                  have hm : sp_most (M 47 (l * 3 + 0)) (M 47 (l * 3 + 1)) (M 47 (l * 3 + 2)) = 2 := by rcases sp_most_spec (M 47 (l * 3 + 0)) (M 47 (l * 3 + 1)) (M 47 (l * 3 + 2)) with ⟨e, q⟩ | ⟨e, q⟩ | ⟨e, q⟩ <;> rw [e] <;> omega
                  unfold sp_drunk
                  simp only
                  rw [hm, if_neg (by rintro ⟨z1, z2⟩; first | omega | (rw [z1] at c_62; cases c_62))]
                  exact dn_pour (i := 2) (j := 0) (by omega) (by omega) (by omega)
          · exact absurd c_12 (by omega)

