set_option maxHeartbeats 4000000 in
set_option maxRecDepth 100000 in
theorem l_X5_gtI {S : mx_Sc} {f : Bool} {M : Nat → Int → Int} {L : Nat → Nat → Int64} {Rf : Nat → Nat → Option Nat} (hR : mx_rf Rf) {a : Nat} (ha : a = 3 ∨ a = 11 ∨ a = 18) {l g : Int} (hl : 0 ≤ l ∧ l < 6) (hg : 0 ≤ g ∧ g < 6) {F : Int} (hF : 1 ≤ F ∧ F ≤ 30) (hx : s3 F (fun q => M 47 (l * 3 + q))) (hgs : s3 F (fun q => M (a + 1) (g * 3 + q))) {P : Option Value → mx_H → Prop} {PX : String → mx_H → Prop} {tm i : Int} {bc bs : Nat} {o7 o8 o9 o10 : Option Value} (hK : ∀ o9 o10 : Option Value, mx_E S mX5_goTowards 150 [some (.ref 46), some (.ref a), some (.int (iI l)), some (.int (iI g)), some (.int (iI (l * 3))), some (.int (iI tm)), some (.int (iI i)), some (.int (iI (sp_most (M 47 (l * 3 + 0) - M (a + 1) (g * 3 + 0)) (M 47 (l * 3 + 1) - M (a + 1) (g * 3 + 1)) (M 47 (l * 3 + 2) - M (a + 1) (g * 3 + 2))))), some (.int (iI (sp_most (-(M 47 (l * 3 + 0) - M (a + 1) (g * 3 + 0))) (-(M 47 (l * 3 + 1) - M (a + 1) (g * 3 + 1))) (-(M 47 (l * 3 + 2) - M (a + 1) (g * 3 + 2)))))), o9, o10] [] (f, mx_SH, M, L, Rf) bc bs P PX) : mx_E S mX5_goTowards 43 [some (.ref 46), some (.ref a), some (.int (iI l)), some (.int (iI g)), some (.int (iI (l * 3))), some (.int (iI tm)), some (.int (iI i)), o7, o8, o9, o10] [] (f, mx_SH, M, L, Rf) bc bs P PX := by
  have ha9 : a < 900 := by omega
  have hs_a := sc_s ha
  have hs_a1 := sc_s1 ha
  have hr_a1 := sc_r1 hR ha
  have hs_a2 := sc_s2 ha
  have hr_a2 := sc_r2 hR ha
  have hs_a3 := sc_s3 ha
  have hr_a3 := sc_r3 hR ha
  have hx1 : 0 ≤ M 47 (l * 3 + 0) ∧ 0 ≤ M 47 (l * 3 + 1) ∧ 0 ≤ M 47 (l * 3 + 2) ∧ M 47 (l * 3 + 0) + M 47 (l * 3 + 1) + M 47 (l * 3 + 2) = F := hx
  have hg1 : 0 ≤ M (a + 1) (g * 3 + 0) ∧ 0 ≤ M (a + 1) (g * 3 + 1) ∧ 0 ≤ M (a + 1) (g * 3 + 2) ∧ M (a + 1) (g * 3 + 0) + M (a + 1) (g * 3 + 1) + M (a + 1) (g * 3 + 2) = F := hgs
  refine mi_iconst dX5_goTowards_43 ?_
  refine ms_istore dX5_goTowards_44 (by decide) rfl ?_
  dsimp only [List.set, Nat.reduceAdd]
  refine mi_iconst dX5_goTowards_46 ?_
  refine ms_istore dX5_goTowards_47 (by decide) rfl ?_
  dsimp only [List.set, Nat.reduceAdd]
  refine mi_iconst dX5_goTowards_49 ?_
  refine ms_istore dX5_goTowards_50 (by decide) rfl ?_
  dsimp only [List.set, Nat.reduceAdd]
  refine ms_iload dX5_goTowards_52 rfl ?_
  refine mi_iconst dX5_goTowards_54 ?_
  refine mi_icmp_ge (tgt := 150) dX5_goTowards_55 (by decide) (fun c_55 => ?_) (fun c_55 => ?_)
  · exact absurd c_55 (by omega)
  · refine ms_aload_n dX5_goTowards_58 rfl ?_
    refine ms_getR dX5_goTowards_59 (fo_X5_9 rfl) (by first | rfl | assumption) rfl (by first | assumption | exact rf_46_0 hR ) ?_
    refine ms_iload dX5_goTowards_62 rfl ?_
    refine ms_iload dX5_goTowards_64 rfl ?_
    refine mi_iadd dX5_goTowards_66 ?_
    refine ms_iald dX5_goTowards_67 (by first | rfl | assumption) ?_
    refine ms_aload_n dX5_goTowards_68 rfl ?_
    refine ms_getR dX5_goTowards_69 (fo_X5_69 rfl) (by first | rfl | assumption) rfl (by first | assumption | exact rf_3_0 hR | exact rf_11_0 hR | exact rf_18_0 hR ) ?_
    refine ms_iload_n dX5_goTowards_72 rfl ?_
    refine mi_iconst dX5_goTowards_73 ?_
    refine mi_imul dX5_goTowards_74 ?_
    refine ms_iload dX5_goTowards_75 rfl ?_
    refine mi_iadd dX5_goTowards_77 ?_
    refine ms_iald dX5_goTowards_78 (by first | rfl | assumption) ?_
    refine mi_isub dX5_goTowards_79 ?_
    refine ms_istore dX5_goTowards_80 (by decide) rfl ?_
    dsimp only [List.set, Nat.reduceAdd]
    refine ms_iload dX5_goTowards_82 rfl ?_
    refine ms_aload_n dX5_goTowards_84 rfl ?_
    refine ms_getR dX5_goTowards_85 (fo_X5_9 rfl) (by first | rfl | assumption) rfl (by first | assumption | exact rf_46_0 hR ) ?_
    refine ms_iload dX5_goTowards_88 rfl ?_
    refine ms_iload dX5_goTowards_90 rfl ?_
    refine mi_iadd dX5_goTowards_92 ?_
    refine ms_iald dX5_goTowards_93 (by first | rfl | assumption) ?_
    refine ms_aload_n dX5_goTowards_94 rfl ?_
    refine ms_getR dX5_goTowards_95 (fo_X5_69 rfl) (by first | rfl | assumption) rfl (by first | assumption | exact rf_3_0 hR | exact rf_11_0 hR | exact rf_18_0 hR ) ?_
    refine ms_iload_n dX5_goTowards_98 rfl ?_
    refine mi_iconst dX5_goTowards_99 ?_
    refine mi_imul dX5_goTowards_100 ?_
    refine ms_iload dX5_goTowards_101 rfl ?_
    refine mi_iadd dX5_goTowards_103 ?_
    refine ms_iald dX5_goTowards_104 (by first | rfl | assumption) ?_
    refine mi_isub dX5_goTowards_105 ?_
    refine mi_icmp_le (tgt := 113) dX5_goTowards_106 (by decide) (fun c_106_1 => ?_) (fun c_106_1 => ?_)
    · refine ms_iload dX5_goTowards_113 rfl ?_
      refine ms_aload_n dX5_goTowards_115 rfl ?_
      refine ms_getR dX5_goTowards_116 (fo_X5_9 rfl) (by first | rfl | assumption) rfl (by first | assumption | exact rf_46_0 hR ) ?_
      refine ms_iload dX5_goTowards_119 rfl ?_
      refine ms_iload dX5_goTowards_121 rfl ?_
      refine mi_iadd dX5_goTowards_123 ?_
      refine ms_iald dX5_goTowards_124 (by first | rfl | assumption) ?_
      refine ms_aload_n dX5_goTowards_125 rfl ?_
      refine ms_getR dX5_goTowards_126 (fo_X5_69 rfl) (by first | rfl | assumption) rfl (by first | assumption | exact rf_3_0 hR | exact rf_11_0 hR | exact rf_18_0 hR ) ?_
      refine ms_iload_n dX5_goTowards_129 rfl ?_
      refine mi_iconst dX5_goTowards_130 ?_
      refine mi_imul dX5_goTowards_131 ?_
      refine ms_iload dX5_goTowards_132 rfl ?_
      refine mi_iadd dX5_goTowards_134 ?_
      refine ms_iald dX5_goTowards_135 (by first | rfl | assumption) ?_
      refine mi_isub dX5_goTowards_136 ?_
      refine mi_icmp_ge (tgt := 144) dX5_goTowards_137 (by decide) (fun c_137_1 => ?_) (fun c_137_1 => ?_)
      · refine mi_iincL (2) dX5_goTowards_144 rfl (by decide) rfl (by decide) ?_
        dsimp only [List.set, Nat.reduceAdd]
        refine ms_goto (tgt := 52) dX5_goTowards_147 (by decide) ?_
        refine ms_iload dX5_goTowards_52 rfl ?_
        refine mi_iconst dX5_goTowards_54 ?_
        refine mi_icmp_ge (tgt := 150) dX5_goTowards_55 (by decide) (fun c_55 => ?_) (fun c_55 => ?_)
        · exact absurd c_55 (by omega)
        · refine ms_aload_n dX5_goTowards_58 rfl ?_
          refine ms_getR dX5_goTowards_59 (fo_X5_9 rfl) (by first | rfl | assumption) rfl (by first | assumption | exact rf_46_0 hR ) ?_
          refine ms_iload dX5_goTowards_62 rfl ?_
          refine ms_iload dX5_goTowards_64 rfl ?_
          refine mi_iadd dX5_goTowards_66 ?_
          refine ms_iald dX5_goTowards_67 (by first | rfl | assumption) ?_
          refine ms_aload_n dX5_goTowards_68 rfl ?_
          refine ms_getR dX5_goTowards_69 (fo_X5_69 rfl) (by first | rfl | assumption) rfl (by first | assumption | exact rf_3_0 hR | exact rf_11_0 hR | exact rf_18_0 hR ) ?_
          refine ms_iload_n dX5_goTowards_72 rfl ?_
          refine mi_iconst dX5_goTowards_73 ?_
          refine mi_imul dX5_goTowards_74 ?_
          refine ms_iload dX5_goTowards_75 rfl ?_
          refine mi_iadd dX5_goTowards_77 ?_
          refine ms_iald dX5_goTowards_78 (by first | rfl | assumption) ?_
          refine mi_isub dX5_goTowards_79 ?_
          refine ms_istore dX5_goTowards_80 (by decide) rfl ?_
          dsimp only [List.set, Nat.reduceAdd]
          refine ms_iload dX5_goTowards_82 rfl ?_
          refine ms_aload_n dX5_goTowards_84 rfl ?_
          refine ms_getR dX5_goTowards_85 (fo_X5_9 rfl) (by first | rfl | assumption) rfl (by first | assumption | exact rf_46_0 hR ) ?_
          refine ms_iload dX5_goTowards_88 rfl ?_
          refine ms_iload dX5_goTowards_90 rfl ?_
          refine mi_iadd dX5_goTowards_92 ?_
          refine ms_iald dX5_goTowards_93 (by first | rfl | assumption) ?_
          refine ms_aload_n dX5_goTowards_94 rfl ?_
          refine ms_getR dX5_goTowards_95 (fo_X5_69 rfl) (by first | rfl | assumption) rfl (by first | assumption | exact rf_3_0 hR | exact rf_11_0 hR | exact rf_18_0 hR ) ?_
          refine ms_iload_n dX5_goTowards_98 rfl ?_
          refine mi_iconst dX5_goTowards_99 ?_
          refine mi_imul dX5_goTowards_100 ?_
          refine ms_iload dX5_goTowards_101 rfl ?_
          refine mi_iadd dX5_goTowards_103 ?_
          refine ms_iald dX5_goTowards_104 (by first | rfl | assumption) ?_
          refine mi_isub dX5_goTowards_105 ?_
          refine mi_icmp_le (tgt := 113) dX5_goTowards_106 (by decide) (fun c_106_2 => ?_) (fun c_106_2 => ?_)
          · refine ms_iload dX5_goTowards_113 rfl ?_
            refine ms_aload_n dX5_goTowards_115 rfl ?_
            refine ms_getR dX5_goTowards_116 (fo_X5_9 rfl) (by first | rfl | assumption) rfl (by first | assumption | exact rf_46_0 hR ) ?_
            refine ms_iload dX5_goTowards_119 rfl ?_
            refine ms_iload dX5_goTowards_121 rfl ?_
            refine mi_iadd dX5_goTowards_123 ?_
            refine ms_iald dX5_goTowards_124 (by first | rfl | assumption) ?_
            refine ms_aload_n dX5_goTowards_125 rfl ?_
            refine ms_getR dX5_goTowards_126 (fo_X5_69 rfl) (by first | rfl | assumption) rfl (by first | assumption | exact rf_3_0 hR | exact rf_11_0 hR | exact rf_18_0 hR ) ?_
            refine ms_iload_n dX5_goTowards_129 rfl ?_
            refine mi_iconst dX5_goTowards_130 ?_
            refine mi_imul dX5_goTowards_131 ?_
            refine ms_iload dX5_goTowards_132 rfl ?_
            refine mi_iadd dX5_goTowards_134 ?_
            refine ms_iald dX5_goTowards_135 (by first | rfl | assumption) ?_
            refine mi_isub dX5_goTowards_136 ?_
            refine mi_icmp_ge (tgt := 144) dX5_goTowards_137 (by decide) (fun c_137_2 => ?_) (fun c_137_2 => ?_)
            · refine mi_iincL (3) dX5_goTowards_144 rfl (by decide) rfl (by decide) ?_
              dsimp only [List.set, Nat.reduceAdd]
              refine ms_goto (tgt := 52) dX5_goTowards_147 (by decide) ?_
              refine ms_iload dX5_goTowards_52 rfl ?_
              refine mi_iconst dX5_goTowards_54 ?_
              refine mi_icmp_ge (tgt := 150) dX5_goTowards_55 (by decide) (fun c_55 => ?_) (fun c_55 => ?_)
              · have e1 : sp_most (M 47 (l * 3 + 0) - M (a + 1) (g * 3 + 0)) (M 47 (l * 3 + 1) - M (a + 1) (g * 3 + 1)) (M 47 (l * 3 + 2) - M (a + 1) (g * 3 + 2)) = 0 := by rcases sp_most_spec (M 47 (l * 3 + 0) - M (a + 1) (g * 3 + 0)) (M 47 (l * 3 + 1) - M (a + 1) (g * 3 + 1)) (M 47 (l * 3 + 2) - M (a + 1) (g * 3 + 2)) with ⟨e, q⟩ | ⟨e, q⟩ | ⟨e, q⟩ <;> rw [e] <;> omega
                have e2 : sp_most (-(M 47 (l * 3 + 0) - M (a + 1) (g * 3 + 0))) (-(M 47 (l * 3 + 1) - M (a + 1) (g * 3 + 1))) (-(M 47 (l * 3 + 2) - M (a + 1) (g * 3 + 2))) = 0 := by rcases sp_most_spec (-(M 47 (l * 3 + 0) - M (a + 1) (g * 3 + 0))) (-(M 47 (l * 3 + 1) - M (a + 1) (g * 3 + 1))) (-(M 47 (l * 3 + 2) - M (a + 1) (g * 3 + 2))) with ⟨e, q⟩ | ⟨e, q⟩ | ⟨e, q⟩ <;> rw [e] <;> omega
                rw [e1, e2] at hK
                exact hK _ _
              · exact absurd c_55 (by omega)
            · refine ms_iload dX5_goTowards_140 rfl ?_
              refine ms_istore dX5_goTowards_142 (by decide) rfl ?_
              dsimp only [List.set, Nat.reduceAdd]
              refine mi_iincL (3) dX5_goTowards_144 rfl (by decide) rfl (by decide) ?_
              dsimp only [List.set, Nat.reduceAdd]
              refine ms_goto (tgt := 52) dX5_goTowards_147 (by decide) ?_
              refine ms_iload dX5_goTowards_52 rfl ?_
              refine mi_iconst dX5_goTowards_54 ?_
              refine mi_icmp_ge (tgt := 150) dX5_goTowards_55 (by decide) (fun c_55 => ?_) (fun c_55 => ?_)
              · have e1 : sp_most (M 47 (l * 3 + 0) - M (a + 1) (g * 3 + 0)) (M 47 (l * 3 + 1) - M (a + 1) (g * 3 + 1)) (M 47 (l * 3 + 2) - M (a + 1) (g * 3 + 2)) = 0 := by rcases sp_most_spec (M 47 (l * 3 + 0) - M (a + 1) (g * 3 + 0)) (M 47 (l * 3 + 1) - M (a + 1) (g * 3 + 1)) (M 47 (l * 3 + 2) - M (a + 1) (g * 3 + 2)) with ⟨e, q⟩ | ⟨e, q⟩ | ⟨e, q⟩ <;> rw [e] <;> omega
                have e2 : sp_most (-(M 47 (l * 3 + 0) - M (a + 1) (g * 3 + 0))) (-(M 47 (l * 3 + 1) - M (a + 1) (g * 3 + 1))) (-(M 47 (l * 3 + 2) - M (a + 1) (g * 3 + 2))) = 2 := by rcases sp_most_spec (-(M 47 (l * 3 + 0) - M (a + 1) (g * 3 + 0))) (-(M 47 (l * 3 + 1) - M (a + 1) (g * 3 + 1))) (-(M 47 (l * 3 + 2) - M (a + 1) (g * 3 + 2))) with ⟨e, q⟩ | ⟨e, q⟩ | ⟨e, q⟩ <;> rw [e] <;> omega
                rw [e1, e2] at hK
                exact hK _ _
              · exact absurd c_55 (by omega)
          · refine ms_iload dX5_goTowards_109 rfl ?_
            refine ms_istore dX5_goTowards_111 (by decide) rfl ?_
            dsimp only [List.set, Nat.reduceAdd]
            refine ms_iload dX5_goTowards_113 rfl ?_
            refine ms_aload_n dX5_goTowards_115 rfl ?_
            refine ms_getR dX5_goTowards_116 (fo_X5_9 rfl) (by first | rfl | assumption) rfl (by first | assumption | exact rf_46_0 hR ) ?_
            refine ms_iload dX5_goTowards_119 rfl ?_
            refine ms_iload dX5_goTowards_121 rfl ?_
            refine mi_iadd dX5_goTowards_123 ?_
            refine ms_iald dX5_goTowards_124 (by first | rfl | assumption) ?_
            refine ms_aload_n dX5_goTowards_125 rfl ?_
            refine ms_getR dX5_goTowards_126 (fo_X5_69 rfl) (by first | rfl | assumption) rfl (by first | assumption | exact rf_3_0 hR | exact rf_11_0 hR | exact rf_18_0 hR ) ?_
            refine ms_iload_n dX5_goTowards_129 rfl ?_
            refine mi_iconst dX5_goTowards_130 ?_
            refine mi_imul dX5_goTowards_131 ?_
            refine ms_iload dX5_goTowards_132 rfl ?_
            refine mi_iadd dX5_goTowards_134 ?_
            refine ms_iald dX5_goTowards_135 (by first | rfl | assumption) ?_
            refine mi_isub dX5_goTowards_136 ?_
            refine mi_icmp_ge (tgt := 144) dX5_goTowards_137 (by decide) (fun c_137_2 => ?_) (fun c_137_2 => ?_)
            · refine mi_iincL (3) dX5_goTowards_144 rfl (by decide) rfl (by decide) ?_
              dsimp only [List.set, Nat.reduceAdd]
              refine ms_goto (tgt := 52) dX5_goTowards_147 (by decide) ?_
              refine ms_iload dX5_goTowards_52 rfl ?_
              refine mi_iconst dX5_goTowards_54 ?_
              refine mi_icmp_ge (tgt := 150) dX5_goTowards_55 (by decide) (fun c_55 => ?_) (fun c_55 => ?_)
              · have e1 : sp_most (M 47 (l * 3 + 0) - M (a + 1) (g * 3 + 0)) (M 47 (l * 3 + 1) - M (a + 1) (g * 3 + 1)) (M 47 (l * 3 + 2) - M (a + 1) (g * 3 + 2)) = 2 := by rcases sp_most_spec (M 47 (l * 3 + 0) - M (a + 1) (g * 3 + 0)) (M 47 (l * 3 + 1) - M (a + 1) (g * 3 + 1)) (M 47 (l * 3 + 2) - M (a + 1) (g * 3 + 2)) with ⟨e, q⟩ | ⟨e, q⟩ | ⟨e, q⟩ <;> rw [e] <;> omega
                have e2 : sp_most (-(M 47 (l * 3 + 0) - M (a + 1) (g * 3 + 0))) (-(M 47 (l * 3 + 1) - M (a + 1) (g * 3 + 1))) (-(M 47 (l * 3 + 2) - M (a + 1) (g * 3 + 2))) = 0 := by rcases sp_most_spec (-(M 47 (l * 3 + 0) - M (a + 1) (g * 3 + 0))) (-(M 47 (l * 3 + 1) - M (a + 1) (g * 3 + 1))) (-(M 47 (l * 3 + 2) - M (a + 1) (g * 3 + 2))) with ⟨e, q⟩ | ⟨e, q⟩ | ⟨e, q⟩ <;> rw [e] <;> omega
                rw [e1, e2] at hK
                exact hK _ _
              · exact absurd c_55 (by omega)
            · refine ms_iload dX5_goTowards_140 rfl ?_
              refine ms_istore dX5_goTowards_142 (by decide) rfl ?_
              dsimp only [List.set, Nat.reduceAdd]
              refine mi_iincL (3) dX5_goTowards_144 rfl (by decide) rfl (by decide) ?_
              dsimp only [List.set, Nat.reduceAdd]
              refine ms_goto (tgt := 52) dX5_goTowards_147 (by decide) ?_
              refine ms_iload dX5_goTowards_52 rfl ?_
              refine mi_iconst dX5_goTowards_54 ?_
              refine mi_icmp_ge (tgt := 150) dX5_goTowards_55 (by decide) (fun c_55 => ?_) (fun c_55 => ?_)
              · have e1 : sp_most (M 47 (l * 3 + 0) - M (a + 1) (g * 3 + 0)) (M 47 (l * 3 + 1) - M (a + 1) (g * 3 + 1)) (M 47 (l * 3 + 2) - M (a + 1) (g * 3 + 2)) = 2 := by rcases sp_most_spec (M 47 (l * 3 + 0) - M (a + 1) (g * 3 + 0)) (M 47 (l * 3 + 1) - M (a + 1) (g * 3 + 1)) (M 47 (l * 3 + 2) - M (a + 1) (g * 3 + 2)) with ⟨e, q⟩ | ⟨e, q⟩ | ⟨e, q⟩ <;> rw [e] <;> omega
                have e2 : sp_most (-(M 47 (l * 3 + 0) - M (a + 1) (g * 3 + 0))) (-(M 47 (l * 3 + 1) - M (a + 1) (g * 3 + 1))) (-(M 47 (l * 3 + 2) - M (a + 1) (g * 3 + 2))) = 2 := by rcases sp_most_spec (-(M 47 (l * 3 + 0) - M (a + 1) (g * 3 + 0))) (-(M 47 (l * 3 + 1) - M (a + 1) (g * 3 + 1))) (-(M 47 (l * 3 + 2) - M (a + 1) (g * 3 + 2))) with ⟨e, q⟩ | ⟨e, q⟩ | ⟨e, q⟩ <;> rw [e] <;> omega
                rw [e1, e2] at hK
                exact hK _ _
              · exact absurd c_55 (by omega)
      · refine ms_iload dX5_goTowards_140 rfl ?_
        refine ms_istore dX5_goTowards_142 (by decide) rfl ?_
        dsimp only [List.set, Nat.reduceAdd]
        refine mi_iincL (2) dX5_goTowards_144 rfl (by decide) rfl (by decide) ?_
        dsimp only [List.set, Nat.reduceAdd]
        refine ms_goto (tgt := 52) dX5_goTowards_147 (by decide) ?_
        refine ms_iload dX5_goTowards_52 rfl ?_
        refine mi_iconst dX5_goTowards_54 ?_
        refine mi_icmp_ge (tgt := 150) dX5_goTowards_55 (by decide) (fun c_55 => ?_) (fun c_55 => ?_)
        · exact absurd c_55 (by omega)
        · refine ms_aload_n dX5_goTowards_58 rfl ?_
          refine ms_getR dX5_goTowards_59 (fo_X5_9 rfl) (by first | rfl | assumption) rfl (by first | assumption | exact rf_46_0 hR ) ?_
          refine ms_iload dX5_goTowards_62 rfl ?_
          refine ms_iload dX5_goTowards_64 rfl ?_
          refine mi_iadd dX5_goTowards_66 ?_
          refine ms_iald dX5_goTowards_67 (by first | rfl | assumption) ?_
          refine ms_aload_n dX5_goTowards_68 rfl ?_
          refine ms_getR dX5_goTowards_69 (fo_X5_69 rfl) (by first | rfl | assumption) rfl (by first | assumption | exact rf_3_0 hR | exact rf_11_0 hR | exact rf_18_0 hR ) ?_
          refine ms_iload_n dX5_goTowards_72 rfl ?_
          refine mi_iconst dX5_goTowards_73 ?_
          refine mi_imul dX5_goTowards_74 ?_
          refine ms_iload dX5_goTowards_75 rfl ?_
          refine mi_iadd dX5_goTowards_77 ?_
          refine ms_iald dX5_goTowards_78 (by first | rfl | assumption) ?_
          refine mi_isub dX5_goTowards_79 ?_
          refine ms_istore dX5_goTowards_80 (by decide) rfl ?_
          dsimp only [List.set, Nat.reduceAdd]
          refine ms_iload dX5_goTowards_82 rfl ?_
          refine ms_aload_n dX5_goTowards_84 rfl ?_
          refine ms_getR dX5_goTowards_85 (fo_X5_9 rfl) (by first | rfl | assumption) rfl (by first | assumption | exact rf_46_0 hR ) ?_
          refine ms_iload dX5_goTowards_88 rfl ?_
          refine ms_iload dX5_goTowards_90 rfl ?_
          refine mi_iadd dX5_goTowards_92 ?_
          refine ms_iald dX5_goTowards_93 (by first | rfl | assumption) ?_
          refine ms_aload_n dX5_goTowards_94 rfl ?_
          refine ms_getR dX5_goTowards_95 (fo_X5_69 rfl) (by first | rfl | assumption) rfl (by first | assumption | exact rf_3_0 hR | exact rf_11_0 hR | exact rf_18_0 hR ) ?_
          refine ms_iload_n dX5_goTowards_98 rfl ?_
          refine mi_iconst dX5_goTowards_99 ?_
          refine mi_imul dX5_goTowards_100 ?_
          refine ms_iload dX5_goTowards_101 rfl ?_
          refine mi_iadd dX5_goTowards_103 ?_
          refine ms_iald dX5_goTowards_104 (by first | rfl | assumption) ?_
          refine mi_isub dX5_goTowards_105 ?_
          refine mi_icmp_le (tgt := 113) dX5_goTowards_106 (by decide) (fun c_106_2 => ?_) (fun c_106_2 => ?_)
          · refine ms_iload dX5_goTowards_113 rfl ?_
            refine ms_aload_n dX5_goTowards_115 rfl ?_
            refine ms_getR dX5_goTowards_116 (fo_X5_9 rfl) (by first | rfl | assumption) rfl (by first | assumption | exact rf_46_0 hR ) ?_
            refine ms_iload dX5_goTowards_119 rfl ?_
            refine ms_iload dX5_goTowards_121 rfl ?_
            refine mi_iadd dX5_goTowards_123 ?_
            refine ms_iald dX5_goTowards_124 (by first | rfl | assumption) ?_
            refine ms_aload_n dX5_goTowards_125 rfl ?_
            refine ms_getR dX5_goTowards_126 (fo_X5_69 rfl) (by first | rfl | assumption) rfl (by first | assumption | exact rf_3_0 hR | exact rf_11_0 hR | exact rf_18_0 hR ) ?_
            refine ms_iload_n dX5_goTowards_129 rfl ?_
            refine mi_iconst dX5_goTowards_130 ?_
            refine mi_imul dX5_goTowards_131 ?_
            refine ms_iload dX5_goTowards_132 rfl ?_
            refine mi_iadd dX5_goTowards_134 ?_
            refine ms_iald dX5_goTowards_135 (by first | rfl | assumption) ?_
            refine mi_isub dX5_goTowards_136 ?_
            refine mi_icmp_ge (tgt := 144) dX5_goTowards_137 (by decide) (fun c_137_2 => ?_) (fun c_137_2 => ?_)
            · refine mi_iincL (3) dX5_goTowards_144 rfl (by decide) rfl (by decide) ?_
              dsimp only [List.set, Nat.reduceAdd]
              refine ms_goto (tgt := 52) dX5_goTowards_147 (by decide) ?_
              refine ms_iload dX5_goTowards_52 rfl ?_
              refine mi_iconst dX5_goTowards_54 ?_
              refine mi_icmp_ge (tgt := 150) dX5_goTowards_55 (by decide) (fun c_55 => ?_) (fun c_55 => ?_)
              · have e1 : sp_most (M 47 (l * 3 + 0) - M (a + 1) (g * 3 + 0)) (M 47 (l * 3 + 1) - M (a + 1) (g * 3 + 1)) (M 47 (l * 3 + 2) - M (a + 1) (g * 3 + 2)) = 0 := by rcases sp_most_spec (M 47 (l * 3 + 0) - M (a + 1) (g * 3 + 0)) (M 47 (l * 3 + 1) - M (a + 1) (g * 3 + 1)) (M 47 (l * 3 + 2) - M (a + 1) (g * 3 + 2)) with ⟨e, q⟩ | ⟨e, q⟩ | ⟨e, q⟩ <;> rw [e] <;> omega
                have e2 : sp_most (-(M 47 (l * 3 + 0) - M (a + 1) (g * 3 + 0))) (-(M 47 (l * 3 + 1) - M (a + 1) (g * 3 + 1))) (-(M 47 (l * 3 + 2) - M (a + 1) (g * 3 + 2))) = 1 := by rcases sp_most_spec (-(M 47 (l * 3 + 0) - M (a + 1) (g * 3 + 0))) (-(M 47 (l * 3 + 1) - M (a + 1) (g * 3 + 1))) (-(M 47 (l * 3 + 2) - M (a + 1) (g * 3 + 2))) with ⟨e, q⟩ | ⟨e, q⟩ | ⟨e, q⟩ <;> rw [e] <;> omega
                rw [e1, e2] at hK
                exact hK _ _
              · exact absurd c_55 (by omega)
            · refine ms_iload dX5_goTowards_140 rfl ?_
              refine ms_istore dX5_goTowards_142 (by decide) rfl ?_
              dsimp only [List.set, Nat.reduceAdd]
              refine mi_iincL (3) dX5_goTowards_144 rfl (by decide) rfl (by decide) ?_
              dsimp only [List.set, Nat.reduceAdd]
              refine ms_goto (tgt := 52) dX5_goTowards_147 (by decide) ?_
              refine ms_iload dX5_goTowards_52 rfl ?_
              refine mi_iconst dX5_goTowards_54 ?_
              refine mi_icmp_ge (tgt := 150) dX5_goTowards_55 (by decide) (fun c_55 => ?_) (fun c_55 => ?_)
              · have e1 : sp_most (M 47 (l * 3 + 0) - M (a + 1) (g * 3 + 0)) (M 47 (l * 3 + 1) - M (a + 1) (g * 3 + 1)) (M 47 (l * 3 + 2) - M (a + 1) (g * 3 + 2)) = 0 := by rcases sp_most_spec (M 47 (l * 3 + 0) - M (a + 1) (g * 3 + 0)) (M 47 (l * 3 + 1) - M (a + 1) (g * 3 + 1)) (M 47 (l * 3 + 2) - M (a + 1) (g * 3 + 2)) with ⟨e, q⟩ | ⟨e, q⟩ | ⟨e, q⟩ <;> rw [e] <;> omega
                have e2 : sp_most (-(M 47 (l * 3 + 0) - M (a + 1) (g * 3 + 0))) (-(M 47 (l * 3 + 1) - M (a + 1) (g * 3 + 1))) (-(M 47 (l * 3 + 2) - M (a + 1) (g * 3 + 2))) = 2 := by rcases sp_most_spec (-(M 47 (l * 3 + 0) - M (a + 1) (g * 3 + 0))) (-(M 47 (l * 3 + 1) - M (a + 1) (g * 3 + 1))) (-(M 47 (l * 3 + 2) - M (a + 1) (g * 3 + 2))) with ⟨e, q⟩ | ⟨e, q⟩ | ⟨e, q⟩ <;> rw [e] <;> omega
                rw [e1, e2] at hK
                exact hK _ _
              · exact absurd c_55 (by omega)
          · refine ms_iload dX5_goTowards_109 rfl ?_
            refine ms_istore dX5_goTowards_111 (by decide) rfl ?_
            dsimp only [List.set, Nat.reduceAdd]
            refine ms_iload dX5_goTowards_113 rfl ?_
            refine ms_aload_n dX5_goTowards_115 rfl ?_
            refine ms_getR dX5_goTowards_116 (fo_X5_9 rfl) (by first | rfl | assumption) rfl (by first | assumption | exact rf_46_0 hR ) ?_
            refine ms_iload dX5_goTowards_119 rfl ?_
            refine ms_iload dX5_goTowards_121 rfl ?_
            refine mi_iadd dX5_goTowards_123 ?_
            refine ms_iald dX5_goTowards_124 (by first | rfl | assumption) ?_
            refine ms_aload_n dX5_goTowards_125 rfl ?_
            refine ms_getR dX5_goTowards_126 (fo_X5_69 rfl) (by first | rfl | assumption) rfl (by first | assumption | exact rf_3_0 hR | exact rf_11_0 hR | exact rf_18_0 hR ) ?_
            refine ms_iload_n dX5_goTowards_129 rfl ?_
            refine mi_iconst dX5_goTowards_130 ?_
            refine mi_imul dX5_goTowards_131 ?_
            refine ms_iload dX5_goTowards_132 rfl ?_
            refine mi_iadd dX5_goTowards_134 ?_
            refine ms_iald dX5_goTowards_135 (by first | rfl | assumption) ?_
            refine mi_isub dX5_goTowards_136 ?_
            refine mi_icmp_ge (tgt := 144) dX5_goTowards_137 (by decide) (fun c_137_2 => ?_) (fun c_137_2 => ?_)
            · refine mi_iincL (3) dX5_goTowards_144 rfl (by decide) rfl (by decide) ?_
              dsimp only [List.set, Nat.reduceAdd]
              refine ms_goto (tgt := 52) dX5_goTowards_147 (by decide) ?_
              refine ms_iload dX5_goTowards_52 rfl ?_
              refine mi_iconst dX5_goTowards_54 ?_
              refine mi_icmp_ge (tgt := 150) dX5_goTowards_55 (by decide) (fun c_55 => ?_) (fun c_55 => ?_)
              · have e1 : sp_most (M 47 (l * 3 + 0) - M (a + 1) (g * 3 + 0)) (M 47 (l * 3 + 1) - M (a + 1) (g * 3 + 1)) (M 47 (l * 3 + 2) - M (a + 1) (g * 3 + 2)) = 2 := by rcases sp_most_spec (M 47 (l * 3 + 0) - M (a + 1) (g * 3 + 0)) (M 47 (l * 3 + 1) - M (a + 1) (g * 3 + 1)) (M 47 (l * 3 + 2) - M (a + 1) (g * 3 + 2)) with ⟨e, q⟩ | ⟨e, q⟩ | ⟨e, q⟩ <;> rw [e] <;> omega
                have e2 : sp_most (-(M 47 (l * 3 + 0) - M (a + 1) (g * 3 + 0))) (-(M 47 (l * 3 + 1) - M (a + 1) (g * 3 + 1))) (-(M 47 (l * 3 + 2) - M (a + 1) (g * 3 + 2))) = 1 := by rcases sp_most_spec (-(M 47 (l * 3 + 0) - M (a + 1) (g * 3 + 0))) (-(M 47 (l * 3 + 1) - M (a + 1) (g * 3 + 1))) (-(M 47 (l * 3 + 2) - M (a + 1) (g * 3 + 2))) with ⟨e, q⟩ | ⟨e, q⟩ | ⟨e, q⟩ <;> rw [e] <;> omega
                rw [e1, e2] at hK
                exact hK _ _
              · exact absurd c_55 (by omega)
            · refine ms_iload dX5_goTowards_140 rfl ?_
              refine ms_istore dX5_goTowards_142 (by decide) rfl ?_
              dsimp only [List.set, Nat.reduceAdd]
              refine mi_iincL (3) dX5_goTowards_144 rfl (by decide) rfl (by decide) ?_
              dsimp only [List.set, Nat.reduceAdd]
              refine ms_goto (tgt := 52) dX5_goTowards_147 (by decide) ?_
              refine ms_iload dX5_goTowards_52 rfl ?_
              refine mi_iconst dX5_goTowards_54 ?_
              refine mi_icmp_ge (tgt := 150) dX5_goTowards_55 (by decide) (fun c_55 => ?_) (fun c_55 => ?_)
              · have e1 : sp_most (M 47 (l * 3 + 0) - M (a + 1) (g * 3 + 0)) (M 47 (l * 3 + 1) - M (a + 1) (g * 3 + 1)) (M 47 (l * 3 + 2) - M (a + 1) (g * 3 + 2)) = 2 := by rcases sp_most_spec (M 47 (l * 3 + 0) - M (a + 1) (g * 3 + 0)) (M 47 (l * 3 + 1) - M (a + 1) (g * 3 + 1)) (M 47 (l * 3 + 2) - M (a + 1) (g * 3 + 2)) with ⟨e, q⟩ | ⟨e, q⟩ | ⟨e, q⟩ <;> rw [e] <;> omega
                have e2 : sp_most (-(M 47 (l * 3 + 0) - M (a + 1) (g * 3 + 0))) (-(M 47 (l * 3 + 1) - M (a + 1) (g * 3 + 1))) (-(M 47 (l * 3 + 2) - M (a + 1) (g * 3 + 2))) = 2 := by rcases sp_most_spec (-(M 47 (l * 3 + 0) - M (a + 1) (g * 3 + 0))) (-(M 47 (l * 3 + 1) - M (a + 1) (g * 3 + 1))) (-(M 47 (l * 3 + 2) - M (a + 1) (g * 3 + 2))) with ⟨e, q⟩ | ⟨e, q⟩ | ⟨e, q⟩ <;> rw [e] <;> omega
                rw [e1, e2] at hK
                exact hK _ _
              · exact absurd c_55 (by omega)
    · refine ms_iload dX5_goTowards_109 rfl ?_
      refine ms_istore dX5_goTowards_111 (by decide) rfl ?_
      dsimp only [List.set, Nat.reduceAdd]
      refine ms_iload dX5_goTowards_113 rfl ?_
      refine ms_aload_n dX5_goTowards_115 rfl ?_
      refine ms_getR dX5_goTowards_116 (fo_X5_9 rfl) (by first | rfl | assumption) rfl (by first | assumption | exact rf_46_0 hR ) ?_
      refine ms_iload dX5_goTowards_119 rfl ?_
      refine ms_iload dX5_goTowards_121 rfl ?_
      refine mi_iadd dX5_goTowards_123 ?_
      refine ms_iald dX5_goTowards_124 (by first | rfl | assumption) ?_
      refine ms_aload_n dX5_goTowards_125 rfl ?_
      refine ms_getR dX5_goTowards_126 (fo_X5_69 rfl) (by first | rfl | assumption) rfl (by first | assumption | exact rf_3_0 hR | exact rf_11_0 hR | exact rf_18_0 hR ) ?_
      refine ms_iload_n dX5_goTowards_129 rfl ?_
      refine mi_iconst dX5_goTowards_130 ?_
      refine mi_imul dX5_goTowards_131 ?_
      refine ms_iload dX5_goTowards_132 rfl ?_
      refine mi_iadd dX5_goTowards_134 ?_
      refine ms_iald dX5_goTowards_135 (by first | rfl | assumption) ?_
      refine mi_isub dX5_goTowards_136 ?_
      refine mi_icmp_ge (tgt := 144) dX5_goTowards_137 (by decide) (fun c_137_1 => ?_) (fun c_137_1 => ?_)
      · refine mi_iincL (2) dX5_goTowards_144 rfl (by decide) rfl (by decide) ?_
        dsimp only [List.set, Nat.reduceAdd]
        refine ms_goto (tgt := 52) dX5_goTowards_147 (by decide) ?_
        refine ms_iload dX5_goTowards_52 rfl ?_
        refine mi_iconst dX5_goTowards_54 ?_
        refine mi_icmp_ge (tgt := 150) dX5_goTowards_55 (by decide) (fun c_55 => ?_) (fun c_55 => ?_)
        · exact absurd c_55 (by omega)
        · refine ms_aload_n dX5_goTowards_58 rfl ?_
          refine ms_getR dX5_goTowards_59 (fo_X5_9 rfl) (by first | rfl | assumption) rfl (by first | assumption | exact rf_46_0 hR ) ?_
          refine ms_iload dX5_goTowards_62 rfl ?_
          refine ms_iload dX5_goTowards_64 rfl ?_
          refine mi_iadd dX5_goTowards_66 ?_
          refine ms_iald dX5_goTowards_67 (by first | rfl | assumption) ?_
          refine ms_aload_n dX5_goTowards_68 rfl ?_
          refine ms_getR dX5_goTowards_69 (fo_X5_69 rfl) (by first | rfl | assumption) rfl (by first | assumption | exact rf_3_0 hR | exact rf_11_0 hR | exact rf_18_0 hR ) ?_
          refine ms_iload_n dX5_goTowards_72 rfl ?_
          refine mi_iconst dX5_goTowards_73 ?_
          refine mi_imul dX5_goTowards_74 ?_
          refine ms_iload dX5_goTowards_75 rfl ?_
          refine mi_iadd dX5_goTowards_77 ?_
          refine ms_iald dX5_goTowards_78 (by first | rfl | assumption) ?_
          refine mi_isub dX5_goTowards_79 ?_
          refine ms_istore dX5_goTowards_80 (by decide) rfl ?_
          dsimp only [List.set, Nat.reduceAdd]
          refine ms_iload dX5_goTowards_82 rfl ?_
          refine ms_aload_n dX5_goTowards_84 rfl ?_
          refine ms_getR dX5_goTowards_85 (fo_X5_9 rfl) (by first | rfl | assumption) rfl (by first | assumption | exact rf_46_0 hR ) ?_
          refine ms_iload dX5_goTowards_88 rfl ?_
          refine ms_iload dX5_goTowards_90 rfl ?_
          refine mi_iadd dX5_goTowards_92 ?_
          refine ms_iald dX5_goTowards_93 (by first | rfl | assumption) ?_
          refine ms_aload_n dX5_goTowards_94 rfl ?_
          refine ms_getR dX5_goTowards_95 (fo_X5_69 rfl) (by first | rfl | assumption) rfl (by first | assumption | exact rf_3_0 hR | exact rf_11_0 hR | exact rf_18_0 hR ) ?_
          refine ms_iload_n dX5_goTowards_98 rfl ?_
          refine mi_iconst dX5_goTowards_99 ?_
          refine mi_imul dX5_goTowards_100 ?_
          refine ms_iload dX5_goTowards_101 rfl ?_
          refine mi_iadd dX5_goTowards_103 ?_
          refine ms_iald dX5_goTowards_104 (by first | rfl | assumption) ?_
          refine mi_isub dX5_goTowards_105 ?_
          refine mi_icmp_le (tgt := 113) dX5_goTowards_106 (by decide) (fun c_106_2 => ?_) (fun c_106_2 => ?_)
          · refine ms_iload dX5_goTowards_113 rfl ?_
            refine ms_aload_n dX5_goTowards_115 rfl ?_
            refine ms_getR dX5_goTowards_116 (fo_X5_9 rfl) (by first | rfl | assumption) rfl (by first | assumption | exact rf_46_0 hR ) ?_
            refine ms_iload dX5_goTowards_119 rfl ?_
            refine ms_iload dX5_goTowards_121 rfl ?_
            refine mi_iadd dX5_goTowards_123 ?_
            refine ms_iald dX5_goTowards_124 (by first | rfl | assumption) ?_
            refine ms_aload_n dX5_goTowards_125 rfl ?_
            refine ms_getR dX5_goTowards_126 (fo_X5_69 rfl) (by first | rfl | assumption) rfl (by first | assumption | exact rf_3_0 hR | exact rf_11_0 hR | exact rf_18_0 hR ) ?_
            refine ms_iload_n dX5_goTowards_129 rfl ?_
            refine mi_iconst dX5_goTowards_130 ?_
            refine mi_imul dX5_goTowards_131 ?_
            refine ms_iload dX5_goTowards_132 rfl ?_
            refine mi_iadd dX5_goTowards_134 ?_
            refine ms_iald dX5_goTowards_135 (by first | rfl | assumption) ?_
            refine mi_isub dX5_goTowards_136 ?_
            refine mi_icmp_ge (tgt := 144) dX5_goTowards_137 (by decide) (fun c_137_2 => ?_) (fun c_137_2 => ?_)
            · refine mi_iincL (3) dX5_goTowards_144 rfl (by decide) rfl (by decide) ?_
              dsimp only [List.set, Nat.reduceAdd]
              refine ms_goto (tgt := 52) dX5_goTowards_147 (by decide) ?_
              refine ms_iload dX5_goTowards_52 rfl ?_
              refine mi_iconst dX5_goTowards_54 ?_
              refine mi_icmp_ge (tgt := 150) dX5_goTowards_55 (by decide) (fun c_55 => ?_) (fun c_55 => ?_)
              · have e1 : sp_most (M 47 (l * 3 + 0) - M (a + 1) (g * 3 + 0)) (M 47 (l * 3 + 1) - M (a + 1) (g * 3 + 1)) (M 47 (l * 3 + 2) - M (a + 1) (g * 3 + 2)) = 1 := by rcases sp_most_spec (M 47 (l * 3 + 0) - M (a + 1) (g * 3 + 0)) (M 47 (l * 3 + 1) - M (a + 1) (g * 3 + 1)) (M 47 (l * 3 + 2) - M (a + 1) (g * 3 + 2)) with ⟨e, q⟩ | ⟨e, q⟩ | ⟨e, q⟩ <;> rw [e] <;> omega
                have e2 : sp_most (-(M 47 (l * 3 + 0) - M (a + 1) (g * 3 + 0))) (-(M 47 (l * 3 + 1) - M (a + 1) (g * 3 + 1))) (-(M 47 (l * 3 + 2) - M (a + 1) (g * 3 + 2))) = 0 := by rcases sp_most_spec (-(M 47 (l * 3 + 0) - M (a + 1) (g * 3 + 0))) (-(M 47 (l * 3 + 1) - M (a + 1) (g * 3 + 1))) (-(M 47 (l * 3 + 2) - M (a + 1) (g * 3 + 2))) with ⟨e, q⟩ | ⟨e, q⟩ | ⟨e, q⟩ <;> rw [e] <;> omega
                rw [e1, e2] at hK
                exact hK _ _
              · exact absurd c_55 (by omega)
            · refine ms_iload dX5_goTowards_140 rfl ?_
              refine ms_istore dX5_goTowards_142 (by decide) rfl ?_
              dsimp only [List.set, Nat.reduceAdd]
              refine mi_iincL (3) dX5_goTowards_144 rfl (by decide) rfl (by decide) ?_
              dsimp only [List.set, Nat.reduceAdd]
              refine ms_goto (tgt := 52) dX5_goTowards_147 (by decide) ?_
              refine ms_iload dX5_goTowards_52 rfl ?_
              refine mi_iconst dX5_goTowards_54 ?_
              refine mi_icmp_ge (tgt := 150) dX5_goTowards_55 (by decide) (fun c_55 => ?_) (fun c_55 => ?_)
              · have e1 : sp_most (M 47 (l * 3 + 0) - M (a + 1) (g * 3 + 0)) (M 47 (l * 3 + 1) - M (a + 1) (g * 3 + 1)) (M 47 (l * 3 + 2) - M (a + 1) (g * 3 + 2)) = 1 := by rcases sp_most_spec (M 47 (l * 3 + 0) - M (a + 1) (g * 3 + 0)) (M 47 (l * 3 + 1) - M (a + 1) (g * 3 + 1)) (M 47 (l * 3 + 2) - M (a + 1) (g * 3 + 2)) with ⟨e, q⟩ | ⟨e, q⟩ | ⟨e, q⟩ <;> rw [e] <;> omega
                have e2 : sp_most (-(M 47 (l * 3 + 0) - M (a + 1) (g * 3 + 0))) (-(M 47 (l * 3 + 1) - M (a + 1) (g * 3 + 1))) (-(M 47 (l * 3 + 2) - M (a + 1) (g * 3 + 2))) = 2 := by rcases sp_most_spec (-(M 47 (l * 3 + 0) - M (a + 1) (g * 3 + 0))) (-(M 47 (l * 3 + 1) - M (a + 1) (g * 3 + 1))) (-(M 47 (l * 3 + 2) - M (a + 1) (g * 3 + 2))) with ⟨e, q⟩ | ⟨e, q⟩ | ⟨e, q⟩ <;> rw [e] <;> omega
                rw [e1, e2] at hK
                exact hK _ _
              · exact absurd c_55 (by omega)
          · refine ms_iload dX5_goTowards_109 rfl ?_
            refine ms_istore dX5_goTowards_111 (by decide) rfl ?_
            dsimp only [List.set, Nat.reduceAdd]
            refine ms_iload dX5_goTowards_113 rfl ?_
            refine ms_aload_n dX5_goTowards_115 rfl ?_
            refine ms_getR dX5_goTowards_116 (fo_X5_9 rfl) (by first | rfl | assumption) rfl (by first | assumption | exact rf_46_0 hR ) ?_
            refine ms_iload dX5_goTowards_119 rfl ?_
            refine ms_iload dX5_goTowards_121 rfl ?_
            refine mi_iadd dX5_goTowards_123 ?_
            refine ms_iald dX5_goTowards_124 (by first | rfl | assumption) ?_
            refine ms_aload_n dX5_goTowards_125 rfl ?_
            refine ms_getR dX5_goTowards_126 (fo_X5_69 rfl) (by first | rfl | assumption) rfl (by first | assumption | exact rf_3_0 hR | exact rf_11_0 hR | exact rf_18_0 hR ) ?_
            refine ms_iload_n dX5_goTowards_129 rfl ?_
            refine mi_iconst dX5_goTowards_130 ?_
            refine mi_imul dX5_goTowards_131 ?_
            refine ms_iload dX5_goTowards_132 rfl ?_
            refine mi_iadd dX5_goTowards_134 ?_
            refine ms_iald dX5_goTowards_135 (by first | rfl | assumption) ?_
            refine mi_isub dX5_goTowards_136 ?_
            refine mi_icmp_ge (tgt := 144) dX5_goTowards_137 (by decide) (fun c_137_2 => ?_) (fun c_137_2 => ?_)
            · refine mi_iincL (3) dX5_goTowards_144 rfl (by decide) rfl (by decide) ?_
              dsimp only [List.set, Nat.reduceAdd]
              refine ms_goto (tgt := 52) dX5_goTowards_147 (by decide) ?_
              refine ms_iload dX5_goTowards_52 rfl ?_
              refine mi_iconst dX5_goTowards_54 ?_
              refine mi_icmp_ge (tgt := 150) dX5_goTowards_55 (by decide) (fun c_55 => ?_) (fun c_55 => ?_)
              · have e1 : sp_most (M 47 (l * 3 + 0) - M (a + 1) (g * 3 + 0)) (M 47 (l * 3 + 1) - M (a + 1) (g * 3 + 1)) (M 47 (l * 3 + 2) - M (a + 1) (g * 3 + 2)) = 2 := by rcases sp_most_spec (M 47 (l * 3 + 0) - M (a + 1) (g * 3 + 0)) (M 47 (l * 3 + 1) - M (a + 1) (g * 3 + 1)) (M 47 (l * 3 + 2) - M (a + 1) (g * 3 + 2)) with ⟨e, q⟩ | ⟨e, q⟩ | ⟨e, q⟩ <;> rw [e] <;> omega
                have e2 : sp_most (-(M 47 (l * 3 + 0) - M (a + 1) (g * 3 + 0))) (-(M 47 (l * 3 + 1) - M (a + 1) (g * 3 + 1))) (-(M 47 (l * 3 + 2) - M (a + 1) (g * 3 + 2))) = 0 := by rcases sp_most_spec (-(M 47 (l * 3 + 0) - M (a + 1) (g * 3 + 0))) (-(M 47 (l * 3 + 1) - M (a + 1) (g * 3 + 1))) (-(M 47 (l * 3 + 2) - M (a + 1) (g * 3 + 2))) with ⟨e, q⟩ | ⟨e, q⟩ | ⟨e, q⟩ <;> rw [e] <;> omega
                rw [e1, e2] at hK
                exact hK _ _
              · exact absurd c_55 (by omega)
            · refine ms_iload dX5_goTowards_140 rfl ?_
              refine ms_istore dX5_goTowards_142 (by decide) rfl ?_
              dsimp only [List.set, Nat.reduceAdd]
              refine mi_iincL (3) dX5_goTowards_144 rfl (by decide) rfl (by decide) ?_
              dsimp only [List.set, Nat.reduceAdd]
              refine ms_goto (tgt := 52) dX5_goTowards_147 (by decide) ?_
              refine ms_iload dX5_goTowards_52 rfl ?_
              refine mi_iconst dX5_goTowards_54 ?_
              refine mi_icmp_ge (tgt := 150) dX5_goTowards_55 (by decide) (fun c_55 => ?_) (fun c_55 => ?_)
              · have e1 : sp_most (M 47 (l * 3 + 0) - M (a + 1) (g * 3 + 0)) (M 47 (l * 3 + 1) - M (a + 1) (g * 3 + 1)) (M 47 (l * 3 + 2) - M (a + 1) (g * 3 + 2)) = 2 := by rcases sp_most_spec (M 47 (l * 3 + 0) - M (a + 1) (g * 3 + 0)) (M 47 (l * 3 + 1) - M (a + 1) (g * 3 + 1)) (M 47 (l * 3 + 2) - M (a + 1) (g * 3 + 2)) with ⟨e, q⟩ | ⟨e, q⟩ | ⟨e, q⟩ <;> rw [e] <;> omega
                have e2 : sp_most (-(M 47 (l * 3 + 0) - M (a + 1) (g * 3 + 0))) (-(M 47 (l * 3 + 1) - M (a + 1) (g * 3 + 1))) (-(M 47 (l * 3 + 2) - M (a + 1) (g * 3 + 2))) = 2 := by rcases sp_most_spec (-(M 47 (l * 3 + 0) - M (a + 1) (g * 3 + 0))) (-(M 47 (l * 3 + 1) - M (a + 1) (g * 3 + 1))) (-(M 47 (l * 3 + 2) - M (a + 1) (g * 3 + 2))) with ⟨e, q⟩ | ⟨e, q⟩ | ⟨e, q⟩ <;> rw [e] <;> omega
                rw [e1, e2] at hK
                exact hK _ _
              · exact absurd c_55 (by omega)
      · refine ms_iload dX5_goTowards_140 rfl ?_
        refine ms_istore dX5_goTowards_142 (by decide) rfl ?_
        dsimp only [List.set, Nat.reduceAdd]
        refine mi_iincL (2) dX5_goTowards_144 rfl (by decide) rfl (by decide) ?_
        dsimp only [List.set, Nat.reduceAdd]
        refine ms_goto (tgt := 52) dX5_goTowards_147 (by decide) ?_
        refine ms_iload dX5_goTowards_52 rfl ?_
        refine mi_iconst dX5_goTowards_54 ?_
        refine mi_icmp_ge (tgt := 150) dX5_goTowards_55 (by decide) (fun c_55 => ?_) (fun c_55 => ?_)
        · exact absurd c_55 (by omega)
        · refine ms_aload_n dX5_goTowards_58 rfl ?_
          refine ms_getR dX5_goTowards_59 (fo_X5_9 rfl) (by first | rfl | assumption) rfl (by first | assumption | exact rf_46_0 hR ) ?_
          refine ms_iload dX5_goTowards_62 rfl ?_
          refine ms_iload dX5_goTowards_64 rfl ?_
          refine mi_iadd dX5_goTowards_66 ?_
          refine ms_iald dX5_goTowards_67 (by first | rfl | assumption) ?_
          refine ms_aload_n dX5_goTowards_68 rfl ?_
          refine ms_getR dX5_goTowards_69 (fo_X5_69 rfl) (by first | rfl | assumption) rfl (by first | assumption | exact rf_3_0 hR | exact rf_11_0 hR | exact rf_18_0 hR ) ?_
          refine ms_iload_n dX5_goTowards_72 rfl ?_
          refine mi_iconst dX5_goTowards_73 ?_
          refine mi_imul dX5_goTowards_74 ?_
          refine ms_iload dX5_goTowards_75 rfl ?_
          refine mi_iadd dX5_goTowards_77 ?_
          refine ms_iald dX5_goTowards_78 (by first | rfl | assumption) ?_
          refine mi_isub dX5_goTowards_79 ?_
          refine ms_istore dX5_goTowards_80 (by decide) rfl ?_
          dsimp only [List.set, Nat.reduceAdd]
          refine ms_iload dX5_goTowards_82 rfl ?_
          refine ms_aload_n dX5_goTowards_84 rfl ?_
          refine ms_getR dX5_goTowards_85 (fo_X5_9 rfl) (by first | rfl | assumption) rfl (by first | assumption | exact rf_46_0 hR ) ?_
          refine ms_iload dX5_goTowards_88 rfl ?_
          refine ms_iload dX5_goTowards_90 rfl ?_
          refine mi_iadd dX5_goTowards_92 ?_
          refine ms_iald dX5_goTowards_93 (by first | rfl | assumption) ?_
          refine ms_aload_n dX5_goTowards_94 rfl ?_
          refine ms_getR dX5_goTowards_95 (fo_X5_69 rfl) (by first | rfl | assumption) rfl (by first | assumption | exact rf_3_0 hR | exact rf_11_0 hR | exact rf_18_0 hR ) ?_
          refine ms_iload_n dX5_goTowards_98 rfl ?_
          refine mi_iconst dX5_goTowards_99 ?_
          refine mi_imul dX5_goTowards_100 ?_
          refine ms_iload dX5_goTowards_101 rfl ?_
          refine mi_iadd dX5_goTowards_103 ?_
          refine ms_iald dX5_goTowards_104 (by first | rfl | assumption) ?_
          refine mi_isub dX5_goTowards_105 ?_
          refine mi_icmp_le (tgt := 113) dX5_goTowards_106 (by decide) (fun c_106_2 => ?_) (fun c_106_2 => ?_)
          · refine ms_iload dX5_goTowards_113 rfl ?_
            refine ms_aload_n dX5_goTowards_115 rfl ?_
            refine ms_getR dX5_goTowards_116 (fo_X5_9 rfl) (by first | rfl | assumption) rfl (by first | assumption | exact rf_46_0 hR ) ?_
            refine ms_iload dX5_goTowards_119 rfl ?_
            refine ms_iload dX5_goTowards_121 rfl ?_
            refine mi_iadd dX5_goTowards_123 ?_
            refine ms_iald dX5_goTowards_124 (by first | rfl | assumption) ?_
            refine ms_aload_n dX5_goTowards_125 rfl ?_
            refine ms_getR dX5_goTowards_126 (fo_X5_69 rfl) (by first | rfl | assumption) rfl (by first | assumption | exact rf_3_0 hR | exact rf_11_0 hR | exact rf_18_0 hR ) ?_
            refine ms_iload_n dX5_goTowards_129 rfl ?_
            refine mi_iconst dX5_goTowards_130 ?_
            refine mi_imul dX5_goTowards_131 ?_
            refine ms_iload dX5_goTowards_132 rfl ?_
            refine mi_iadd dX5_goTowards_134 ?_
            refine ms_iald dX5_goTowards_135 (by first | rfl | assumption) ?_
            refine mi_isub dX5_goTowards_136 ?_
            refine mi_icmp_ge (tgt := 144) dX5_goTowards_137 (by decide) (fun c_137_2 => ?_) (fun c_137_2 => ?_)
            · refine mi_iincL (3) dX5_goTowards_144 rfl (by decide) rfl (by decide) ?_
              dsimp only [List.set, Nat.reduceAdd]
              refine ms_goto (tgt := 52) dX5_goTowards_147 (by decide) ?_
              refine ms_iload dX5_goTowards_52 rfl ?_
              refine mi_iconst dX5_goTowards_54 ?_
              refine mi_icmp_ge (tgt := 150) dX5_goTowards_55 (by decide) (fun c_55 => ?_) (fun c_55 => ?_)
              · have e1 : sp_most (M 47 (l * 3 + 0) - M (a + 1) (g * 3 + 0)) (M 47 (l * 3 + 1) - M (a + 1) (g * 3 + 1)) (M 47 (l * 3 + 2) - M (a + 1) (g * 3 + 2)) = 1 := by rcases sp_most_spec (M 47 (l * 3 + 0) - M (a + 1) (g * 3 + 0)) (M 47 (l * 3 + 1) - M (a + 1) (g * 3 + 1)) (M 47 (l * 3 + 2) - M (a + 1) (g * 3 + 2)) with ⟨e, q⟩ | ⟨e, q⟩ | ⟨e, q⟩ <;> rw [e] <;> omega
                have e2 : sp_most (-(M 47 (l * 3 + 0) - M (a + 1) (g * 3 + 0))) (-(M 47 (l * 3 + 1) - M (a + 1) (g * 3 + 1))) (-(M 47 (l * 3 + 2) - M (a + 1) (g * 3 + 2))) = 1 := by rcases sp_most_spec (-(M 47 (l * 3 + 0) - M (a + 1) (g * 3 + 0))) (-(M 47 (l * 3 + 1) - M (a + 1) (g * 3 + 1))) (-(M 47 (l * 3 + 2) - M (a + 1) (g * 3 + 2))) with ⟨e, q⟩ | ⟨e, q⟩ | ⟨e, q⟩ <;> rw [e] <;> omega
                rw [e1, e2] at hK
                exact hK _ _
              · exact absurd c_55 (by omega)
            · refine ms_iload dX5_goTowards_140 rfl ?_
              refine ms_istore dX5_goTowards_142 (by decide) rfl ?_
              dsimp only [List.set, Nat.reduceAdd]
              refine mi_iincL (3) dX5_goTowards_144 rfl (by decide) rfl (by decide) ?_
              dsimp only [List.set, Nat.reduceAdd]
              refine ms_goto (tgt := 52) dX5_goTowards_147 (by decide) ?_
              refine ms_iload dX5_goTowards_52 rfl ?_
              refine mi_iconst dX5_goTowards_54 ?_
              refine mi_icmp_ge (tgt := 150) dX5_goTowards_55 (by decide) (fun c_55 => ?_) (fun c_55 => ?_)
              · have e1 : sp_most (M 47 (l * 3 + 0) - M (a + 1) (g * 3 + 0)) (M 47 (l * 3 + 1) - M (a + 1) (g * 3 + 1)) (M 47 (l * 3 + 2) - M (a + 1) (g * 3 + 2)) = 1 := by rcases sp_most_spec (M 47 (l * 3 + 0) - M (a + 1) (g * 3 + 0)) (M 47 (l * 3 + 1) - M (a + 1) (g * 3 + 1)) (M 47 (l * 3 + 2) - M (a + 1) (g * 3 + 2)) with ⟨e, q⟩ | ⟨e, q⟩ | ⟨e, q⟩ <;> rw [e] <;> omega
                have e2 : sp_most (-(M 47 (l * 3 + 0) - M (a + 1) (g * 3 + 0))) (-(M 47 (l * 3 + 1) - M (a + 1) (g * 3 + 1))) (-(M 47 (l * 3 + 2) - M (a + 1) (g * 3 + 2))) = 2 := by rcases sp_most_spec (-(M 47 (l * 3 + 0) - M (a + 1) (g * 3 + 0))) (-(M 47 (l * 3 + 1) - M (a + 1) (g * 3 + 1))) (-(M 47 (l * 3 + 2) - M (a + 1) (g * 3 + 2))) with ⟨e, q⟩ | ⟨e, q⟩ | ⟨e, q⟩ <;> rw [e] <;> omega
                rw [e1, e2] at hK
                exact hK _ _
              · exact absurd c_55 (by omega)
          · refine ms_iload dX5_goTowards_109 rfl ?_
            refine ms_istore dX5_goTowards_111 (by decide) rfl ?_
            dsimp only [List.set, Nat.reduceAdd]
            refine ms_iload dX5_goTowards_113 rfl ?_
            refine ms_aload_n dX5_goTowards_115 rfl ?_
            refine ms_getR dX5_goTowards_116 (fo_X5_9 rfl) (by first | rfl | assumption) rfl (by first | assumption | exact rf_46_0 hR ) ?_
            refine ms_iload dX5_goTowards_119 rfl ?_
            refine ms_iload dX5_goTowards_121 rfl ?_
            refine mi_iadd dX5_goTowards_123 ?_
            refine ms_iald dX5_goTowards_124 (by first | rfl | assumption) ?_
            refine ms_aload_n dX5_goTowards_125 rfl ?_
            refine ms_getR dX5_goTowards_126 (fo_X5_69 rfl) (by first | rfl | assumption) rfl (by first | assumption | exact rf_3_0 hR | exact rf_11_0 hR | exact rf_18_0 hR ) ?_
            refine ms_iload_n dX5_goTowards_129 rfl ?_
            refine mi_iconst dX5_goTowards_130 ?_
            refine mi_imul dX5_goTowards_131 ?_
            refine ms_iload dX5_goTowards_132 rfl ?_
            refine mi_iadd dX5_goTowards_134 ?_
            refine ms_iald dX5_goTowards_135 (by first | rfl | assumption) ?_
            refine mi_isub dX5_goTowards_136 ?_
            refine mi_icmp_ge (tgt := 144) dX5_goTowards_137 (by decide) (fun c_137_2 => ?_) (fun c_137_2 => ?_)
            · refine mi_iincL (3) dX5_goTowards_144 rfl (by decide) rfl (by decide) ?_
              dsimp only [List.set, Nat.reduceAdd]
              refine ms_goto (tgt := 52) dX5_goTowards_147 (by decide) ?_
              refine ms_iload dX5_goTowards_52 rfl ?_
              refine mi_iconst dX5_goTowards_54 ?_
              refine mi_icmp_ge (tgt := 150) dX5_goTowards_55 (by decide) (fun c_55 => ?_) (fun c_55 => ?_)
              · have e1 : sp_most (M 47 (l * 3 + 0) - M (a + 1) (g * 3 + 0)) (M 47 (l * 3 + 1) - M (a + 1) (g * 3 + 1)) (M 47 (l * 3 + 2) - M (a + 1) (g * 3 + 2)) = 2 := by rcases sp_most_spec (M 47 (l * 3 + 0) - M (a + 1) (g * 3 + 0)) (M 47 (l * 3 + 1) - M (a + 1) (g * 3 + 1)) (M 47 (l * 3 + 2) - M (a + 1) (g * 3 + 2)) with ⟨e, q⟩ | ⟨e, q⟩ | ⟨e, q⟩ <;> rw [e] <;> omega
                have e2 : sp_most (-(M 47 (l * 3 + 0) - M (a + 1) (g * 3 + 0))) (-(M 47 (l * 3 + 1) - M (a + 1) (g * 3 + 1))) (-(M 47 (l * 3 + 2) - M (a + 1) (g * 3 + 2))) = 1 := by rcases sp_most_spec (-(M 47 (l * 3 + 0) - M (a + 1) (g * 3 + 0))) (-(M 47 (l * 3 + 1) - M (a + 1) (g * 3 + 1))) (-(M 47 (l * 3 + 2) - M (a + 1) (g * 3 + 2))) with ⟨e, q⟩ | ⟨e, q⟩ | ⟨e, q⟩ <;> rw [e] <;> omega
                rw [e1, e2] at hK
                exact hK _ _
              · exact absurd c_55 (by omega)
            · refine ms_iload dX5_goTowards_140 rfl ?_
              refine ms_istore dX5_goTowards_142 (by decide) rfl ?_
              dsimp only [List.set, Nat.reduceAdd]
              refine mi_iincL (3) dX5_goTowards_144 rfl (by decide) rfl (by decide) ?_
              dsimp only [List.set, Nat.reduceAdd]
              refine ms_goto (tgt := 52) dX5_goTowards_147 (by decide) ?_
              refine ms_iload dX5_goTowards_52 rfl ?_
              refine mi_iconst dX5_goTowards_54 ?_
              refine mi_icmp_ge (tgt := 150) dX5_goTowards_55 (by decide) (fun c_55 => ?_) (fun c_55 => ?_)
              · have e1 : sp_most (M 47 (l * 3 + 0) - M (a + 1) (g * 3 + 0)) (M 47 (l * 3 + 1) - M (a + 1) (g * 3 + 1)) (M 47 (l * 3 + 2) - M (a + 1) (g * 3 + 2)) = 2 := by rcases sp_most_spec (M 47 (l * 3 + 0) - M (a + 1) (g * 3 + 0)) (M 47 (l * 3 + 1) - M (a + 1) (g * 3 + 1)) (M 47 (l * 3 + 2) - M (a + 1) (g * 3 + 2)) with ⟨e, q⟩ | ⟨e, q⟩ | ⟨e, q⟩ <;> rw [e] <;> omega
                have e2 : sp_most (-(M 47 (l * 3 + 0) - M (a + 1) (g * 3 + 0))) (-(M 47 (l * 3 + 1) - M (a + 1) (g * 3 + 1))) (-(M 47 (l * 3 + 2) - M (a + 1) (g * 3 + 2))) = 2 := by rcases sp_most_spec (-(M 47 (l * 3 + 0) - M (a + 1) (g * 3 + 0))) (-(M 47 (l * 3 + 1) - M (a + 1) (g * 3 + 1))) (-(M 47 (l * 3 + 2) - M (a + 1) (g * 3 + 2))) with ⟨e, q⟩ | ⟨e, q⟩ | ⟨e, q⟩ <;> rw [e] <;> omega
                rw [e1, e2] at hK
                exact hK _ _
              · exact absurd c_55 (by omega)

set_option maxHeartbeats 4000000 in
set_option maxRecDepth 100000 in
theorem l_X5_gtL {S : mx_Sc} {f : Bool} {M : Nat → Int → Int} {L : Nat → Nat → Int64} {Rf : Nat → Nat → Option Nat} (hR : mx_rf Rf) {a : Nat} (ha : a = 3 ∨ a = 11 ∨ a = 18) {l g : Int} (hl : 0 ≤ l ∧ l < 6) (hg : 0 ≤ g ∧ g < 6) {F : Int} (hF : 1 ≤ F ∧ F ≤ 30) {ng : Bool} (hng : M 46 4 = bI ng) (hgs : s3 F (fun q => M (a + 1) (g * 3 + q))) {tm : Int} (htm : 0 ≤ tm ∧ tm ≤ 100) : ∀ (kk : Nat) (i : Int) (N : Nat → Int → Int) (o7 o8 o9 o10 : Option Value), 0 ≤ i → i + kk = tm → (∀ x, x ≠ 47 → N x = M x) → (∀ k, (k < l * 3 ∨ l * 3 + 3 ≤ k) → N 47 k = M 47 k) → s3 F (fun q => N 47 (l * 3 + q)) → mx_E S mX5_goTowards 36 [some (.ref 46), some (.ref a), some (.int (iI l)), some (.int (iI g)), some (.int (iI (l * 3))), some (.int (iI tm)), some (.int (iI i)), o7, o8, o9, o10] [] (f, mx_SH, N, L, Rf) 0 0 (fun v9 h9 => (∃ g2, h9 = (f, mx_SH, va_up M 47 g2, L, Rf) ∧ e3 (fun q => g2 (l * 3 + q)) (sp_go ng (fun q => M (a + 1) (g * 3 + q)) kk (fun q => N 47 (l * 3 + q))) ∧ ∀ i, (i < l * 3 ∨ l * 3 + 3 ≤ i) → g2 i = M 47 i) ∧ v9 = none) (fun _ _ => False) := by
  intro kk
  induction kk with
  | zero => 
    intro i N o7 o8 o9 o10 g0 g1 q1 q2 hx
    have ha9 : a < 900 := by omega
    have hs_a := sc_s ha
    have hs_a1 := sc_s1 ha
    have hr_a1 := sc_r1 hR ha
    have hs_a2 := sc_s2 ha
    have hr_a2 := sc_r2 hR ha
    have hs_a3 := sc_s3 ha
    have hr_a3 := sc_r3 hR ha
    have hN : N (a + 1) = M (a + 1) := q1 (a + 1) (by omega)
    have hgN : s3 F (fun q => N (a + 1) (g * 3 + q)) := by rw [hN]; exact hgs
    have hx1 : 0 ≤ N 47 (l * 3 + 0) ∧ 0 ≤ N 47 (l * 3 + 1) ∧ 0 ≤ N 47 (l * 3 + 2) ∧ N 47 (l * 3 + 0) + N 47 (l * 3 + 1) + N 47 (l * 3 + 2) = F := hx
    have hg1 : 0 ≤ N (a + 1) (g * 3 + 0) ∧ 0 ≤ N (a + 1) (g * 3 + 1) ∧ 0 ≤ N (a + 1) (g * 3 + 2) ∧ N (a + 1) (g * 3 + 0) + N (a + 1) (g * 3 + 1) + N (a + 1) (g * 3 + 2) = F := hgN
    have h464 : N 46 4 = bI ng := by rw [q1 46 (by decide)]; exact hng
    have r1 := sp_most_rng (N 47 (l * 3 + 0) - N (a + 1) (g * 3 + 0)) (N 47 (l * 3 + 1) - N (a + 1) (g * 3 + 1)) (N 47 (l * 3 + 2) - N (a + 1) (g * 3 + 2))
    have r2 := sp_most_rng (-(N 47 (l * 3 + 0) - N (a + 1) (g * 3 + 0))) (-(N 47 (l * 3 + 1) - N (a + 1) (g * 3 + 1))) (-(N 47 (l * 3 + 2) - N (a + 1) (g * 3 + 2)))
    refine ms_iload dX5_goTowards_36 rfl ?_
    refine ms_iload dX5_goTowards_38 rfl ?_
    refine mi_icmp_ge (tgt := 205) dX5_goTowards_40 (by decide) (fun c_40 => ?_) (fun c_40 => ?_)
    · refine ms_retV dX5_goTowards_205 rfl ⟨⟨N 47, by rw [← up_ext (a := 47) (g := N 47) q1 rfl], e3.rf _, q2⟩, rfl⟩ (by simp)
    · exact absurd c_40 (by omega)
  | succ kk ih => 
    intro i N o7 o8 o9 o10 g0 g1 q1 q2 hx
    have ha9 : a < 900 := by omega
    have hs_a := sc_s ha
    have hs_a1 := sc_s1 ha
    have hr_a1 := sc_r1 hR ha
    have hs_a2 := sc_s2 ha
    have hr_a2 := sc_r2 hR ha
    have hs_a3 := sc_s3 ha
    have hr_a3 := sc_r3 hR ha
    have hN : N (a + 1) = M (a + 1) := q1 (a + 1) (by omega)
    have hgN : s3 F (fun q => N (a + 1) (g * 3 + q)) := by rw [hN]; exact hgs
    have hx1 : 0 ≤ N 47 (l * 3 + 0) ∧ 0 ≤ N 47 (l * 3 + 1) ∧ 0 ≤ N 47 (l * 3 + 2) ∧ N 47 (l * 3 + 0) + N 47 (l * 3 + 1) + N 47 (l * 3 + 2) = F := hx
    have hg1 : 0 ≤ N (a + 1) (g * 3 + 0) ∧ 0 ≤ N (a + 1) (g * 3 + 1) ∧ 0 ≤ N (a + 1) (g * 3 + 2) ∧ N (a + 1) (g * 3 + 0) + N (a + 1) (g * 3 + 1) + N (a + 1) (g * 3 + 2) = F := hgN
    have h464 : N 46 4 = bI ng := by rw [q1 46 (by decide)]; exact hng
    have r1 := sp_most_rng (N 47 (l * 3 + 0) - N (a + 1) (g * 3 + 0)) (N 47 (l * 3 + 1) - N (a + 1) (g * 3 + 1)) (N 47 (l * 3 + 2) - N (a + 1) (g * 3 + 2))
    have r2 := sp_most_rng (-(N 47 (l * 3 + 0) - N (a + 1) (g * 3 + 0))) (-(N 47 (l * 3 + 1) - N (a + 1) (g * 3 + 1))) (-(N 47 (l * 3 + 2) - N (a + 1) (g * 3 + 2)))
    refine ms_iload dX5_goTowards_36 rfl ?_
    refine ms_iload dX5_goTowards_38 rfl ?_
    refine mi_icmp_ge (tgt := 205) dX5_goTowards_40 (by decide) (fun c_40 => ?_) (fun c_40 => ?_)
    · exact absurd c_40 (by omega)
    · refine l_X5_gtI (M := N) hR ha hl hg hF hx hgN (fun p9 p10 => ?_)
      refine ms_iload dX5_goTowards_150 rfl ?_
      refine ms_iload dX5_goTowards_152 rfl ?_
      refine mi_icmp_eq (tgt := 170) dX5_goTowards_154 (by decide) (fun c_154 => ?_) (fun c_154 => ?_)
      · refine ms_retV dX5_goTowards_170 rfl ⟨⟨N 47, by rw [← up_ext (a := 47) (g := N 47) q1 rfl], ?_, q2⟩, rfl⟩ (by simp)
        simp only [sp_go]
        rw [if_pos (by rw [← hN]; exact sp_stuck_0 (by show N 47 (l * 3 + 0) - N (a + 1) (g * 3 + 0) = 0; rcases sp_most_spec (N 47 (l * 3 + 0) - N (a + 1) (g * 3 + 0)) (N 47 (l * 3 + 1) - N (a + 1) (g * 3 + 1)) (N 47 (l * 3 + 2) - N (a + 1) (g * 3 + 2)) with ⟨e, q⟩ | ⟨e, q⟩ | ⟨e, q⟩ <;> rcases sp_most_spec (-(N 47 (l * 3 + 0) - N (a + 1) (g * 3 + 0))) (-(N 47 (l * 3 + 1) - N (a + 1) (g * 3 + 1))) (-(N 47 (l * 3 + 2) - N (a + 1) (g * 3 + 2))) with ⟨e2, q2⟩ | ⟨e2, q2⟩ | ⟨e2, q2⟩ <;> rw [e, e2] at c_154 <;> omega) (by show N 47 (l * 3 + 1) - N (a + 1) (g * 3 + 1) = 0; rcases sp_most_spec (N 47 (l * 3 + 0) - N (a + 1) (g * 3 + 0)) (N 47 (l * 3 + 1) - N (a + 1) (g * 3 + 1)) (N 47 (l * 3 + 2) - N (a + 1) (g * 3 + 2)) with ⟨e, q⟩ | ⟨e, q⟩ | ⟨e, q⟩ <;> rcases sp_most_spec (-(N 47 (l * 3 + 0) - N (a + 1) (g * 3 + 0))) (-(N 47 (l * 3 + 1) - N (a + 1) (g * 3 + 1))) (-(N 47 (l * 3 + 2) - N (a + 1) (g * 3 + 2))) with ⟨e2, q2⟩ | ⟨e2, q2⟩ | ⟨e2, q2⟩ <;> rw [e, e2] at c_154 <;> omega) (by show N 47 (l * 3 + 2) - N (a + 1) (g * 3 + 2) = 0; rcases sp_most_spec (N 47 (l * 3 + 0) - N (a + 1) (g * 3 + 0)) (N 47 (l * 3 + 1) - N (a + 1) (g * 3 + 1)) (N 47 (l * 3 + 2) - N (a + 1) (g * 3 + 2)) with ⟨e, q⟩ | ⟨e, q⟩ | ⟨e, q⟩ <;> rcases sp_most_spec (-(N 47 (l * 3 + 0) - N (a + 1) (g * 3 + 0))) (-(N 47 (l * 3 + 1) - N (a + 1) (g * 3 + 1))) (-(N 47 (l * 3 + 2) - N (a + 1) (g * 3 + 2))) with ⟨e2, q2⟩ | ⟨e2, q2⟩ | ⟨e2, q2⟩ <;> rw [e, e2] at c_154 <;> omega))]
        exact e3.rf _
      · refine ms_aload_n dX5_goTowards_157 rfl ?_
        refine ms_getI (z := 4) dX5_goTowards_158 (fo_X5_30 rfl) (by first | rfl | assumption) rfl rfl ?_
        rw [h464]
        refine mi_if_eqB (tgt := 171) dX5_goTowards_161 (by decide) (fun c_161 => ?_) (fun c_161 => ?_)
        · refine ms_aload_n dX5_goTowards_171 rfl ?_
          refine ms_getR dX5_goTowards_172 (fo_X5_9 rfl) (by first | rfl | assumption) rfl (by first | assumption | exact rf_46_0 hR ) ?_
          refine ms_iload dX5_goTowards_175 rfl ?_
          refine ms_iload dX5_goTowards_177 rfl ?_
          refine mi_iadd dX5_goTowards_179 ?_
          refine ms_dup2 dX5_goTowards_180 rfl rfl ?_
          refine ms_iald dX5_goTowards_181 (by first | rfl | assumption) ?_
          refine mi_iconst dX5_goTowards_182 ?_
          refine mi_isub dX5_goTowards_183 ?_
          refine ms_iast dX5_goTowards_184 (by first | rfl | assumption) ?_
          refine ms_aload_n dX5_goTowards_185 rfl ?_
          refine ms_getR dX5_goTowards_186 (fo_X5_9 rfl) (by first | rfl | assumption) rfl (by first | assumption | exact rf_46_0 hR ) ?_
          refine ms_iload dX5_goTowards_189 rfl ?_
          refine ms_iload dX5_goTowards_191 rfl ?_
          refine mi_iadd dX5_goTowards_193 ?_
          refine ms_dup2 dX5_goTowards_194 rfl rfl ?_
          refine ms_iald dX5_goTowards_195 (by first | rfl | assumption) ?_
          refine mi_iconst dX5_goTowards_196 ?_
          refine mi_iadd dX5_goTowards_197 ?_
          refine ms_iast dX5_goTowards_198 (by first | rfl | assumption) ?_
          refine mi_iinc dX5_goTowards_199 rfl (by decide) rfl ?_
          dsimp only [List.set, Nat.reduceAdd]
          refine ms_goto (tgt := 36) dX5_goTowards_202 (by decide) ?_
          have hns : sp_stuck ng (fun q => N 47 (l * 3 + q)) (fun q => N (a + 1) (g * 3 + q)) = false := sp_stuck_f (by rintro ⟨z0, z1, z2⟩; apply c_154; rw [z0, z1, z2]; rfl) (by rintro ⟨z1, z2⟩; first | exact absurd z2 c_167 | (rw [z1] at c_161; cases c_161))
          have hpp := dn_pour (M := N) (l := l) r1 r2 c_154
          have hgo : s3 F (sp_go1 (fun q => N 47 (l * 3 + q)) (fun q => N (a + 1) (g * 3 + q))) := hx.go1 hgN (fun z => by rw [sp_stuck_0 z.1 z.2.1 z.2.2] at hns; cases hns)
          refine ms_conseq (fun v9 h9 hp => ?_) (fun _ _ z => z) (ih (i + 1) _ _ _ _ _ (by omega) (by omega) (fun x hx9 => by simp only [va_up, if_neg hx9]; exact q1 x hx9) (fun k hk => by simp only [up_s]; rw [dn_far r1 r2 k hk]; exact q2 k hk) (by simp only [up_s]; exact hgo.e hpp))
          obtain ⟨⟨g2, y1, y2, y3⟩, y4⟩ := hp
          refine ⟨⟨g2, y1, y2.tr ?_, y3⟩, y4⟩
          simp only [up_s, sp_go]
          rw [if_neg (by rw [← hN, hns]; decide)]
          rw [← hN]
          exact (hpp).go kk
        · refine ms_iload dX5_goTowards_164 rfl ?_
          refine mi_iconst dX5_goTowards_166 ?_
          refine mi_icmp_ne (tgt := 171) dX5_goTowards_167 (by decide) (fun c_167 => ?_) (fun c_167 => ?_)
          · refine ms_aload_n dX5_goTowards_171 rfl ?_
            refine ms_getR dX5_goTowards_172 (fo_X5_9 rfl) (by first | rfl | assumption) rfl (by first | assumption | exact rf_46_0 hR ) ?_
            refine ms_iload dX5_goTowards_175 rfl ?_
            refine ms_iload dX5_goTowards_177 rfl ?_
            refine mi_iadd dX5_goTowards_179 ?_
            refine ms_dup2 dX5_goTowards_180 rfl rfl ?_
            refine ms_iald dX5_goTowards_181 (by first | rfl | assumption) ?_
            refine mi_iconst dX5_goTowards_182 ?_
            refine mi_isub dX5_goTowards_183 ?_
            refine ms_iast dX5_goTowards_184 (by first | rfl | assumption) ?_
            refine ms_aload_n dX5_goTowards_185 rfl ?_
            refine ms_getR dX5_goTowards_186 (fo_X5_9 rfl) (by first | rfl | assumption) rfl (by first | assumption | exact rf_46_0 hR ) ?_
            refine ms_iload dX5_goTowards_189 rfl ?_
            refine ms_iload dX5_goTowards_191 rfl ?_
            refine mi_iadd dX5_goTowards_193 ?_
            refine ms_dup2 dX5_goTowards_194 rfl rfl ?_
            refine ms_iald dX5_goTowards_195 (by first | rfl | assumption) ?_
            refine mi_iconst dX5_goTowards_196 ?_
            refine mi_iadd dX5_goTowards_197 ?_
            refine ms_iast dX5_goTowards_198 (by first | rfl | assumption) ?_
            refine mi_iinc dX5_goTowards_199 rfl (by decide) rfl ?_
            dsimp only [List.set, Nat.reduceAdd]
            refine ms_goto (tgt := 36) dX5_goTowards_202 (by decide) ?_
            have hns : sp_stuck ng (fun q => N 47 (l * 3 + q)) (fun q => N (a + 1) (g * 3 + q)) = false := sp_stuck_f (by rintro ⟨z0, z1, z2⟩; apply c_154; rw [z0, z1, z2]; rfl) (by rintro ⟨z1, z2⟩; first | exact absurd z2 c_167 | (rw [z1] at c_161; cases c_161))
            have hpp := dn_pour (M := N) (l := l) r1 r2 c_154
            have hgo : s3 F (sp_go1 (fun q => N 47 (l * 3 + q)) (fun q => N (a + 1) (g * 3 + q))) := hx.go1 hgN (fun z => by rw [sp_stuck_0 z.1 z.2.1 z.2.2] at hns; cases hns)
            refine ms_conseq (fun v9 h9 hp => ?_) (fun _ _ z => z) (ih (i + 1) _ _ _ _ _ (by omega) (by omega) (fun x hx9 => by simp only [va_up, if_neg hx9]; exact q1 x hx9) (fun k hk => by simp only [up_s]; rw [dn_far r1 r2 k hk]; exact q2 k hk) (by simp only [up_s]; exact hgo.e hpp))
            obtain ⟨⟨g2, y1, y2, y3⟩, y4⟩ := hp
            refine ⟨⟨g2, y1, y2.tr ?_, y3⟩, y4⟩
            simp only [up_s, sp_go]
            rw [if_neg (by rw [← hN, hns]; decide)]
            rw [← hN]
            exact (hpp).go kk
          · refine ms_retV dX5_goTowards_170 rfl ⟨⟨N 47, by rw [← up_ext (a := 47) (g := N 47) q1 rfl], ?_, q2⟩, rfl⟩ (by simp)
            simp only [sp_go]
            rw [if_pos (by rw [← hN]; exact sp_stuck_1 c_161 c_167)]
            exact e3.rf _

set_option maxHeartbeats 4000000 in
set_option maxRecDepth 100000 in
theorem k_X5_goTowards {S : mx_Sc} {f : Bool} {M : Nat → Int → Int} {L : Nat → Nat → Int64} {Rf : Nat → Nat → Option Nat} (hR : mx_rf Rf) {t : Nat} (ht : t = 29 ∨ t = 37) (hT : sp_tok (sp_tC M t)) {a : Nat} (ha : a = 3 ∨ a = 11 ∨ a = 18) (hwt : Rf 46 1 = some t) {l g : Int} (hl : 0 ≤ l ∧ l < M t 1) (hg : 0 ≤ g ∧ g < 6) {hf ng : Bool} (hng : M 46 4 = bI ng) (hst : M 46 3 = (if hf = true then (M t 2 + 1) / 2 else M t 2)) (hx : s3 (M t 0) (fun q => M 47 (l * 3 + q))) (hgs : s3 (M t 0) (fun q => M (a + 1) (g * 3 + q))) : mx_C S mX5_goTowards [.ref 46, .ref a, .int (iI l), .int (iI g)] (f, mx_SH, M, L, Rf) 0 0 (fun v9 h9 => (∃ g2, h9 = (f, mx_SH, va_up M 47 g2, L, Rf) ∧ e3 (fun q => g2 (l * 3 + q)) (sp_go ng (fun q => M (a + 1) (g * 3 + q)) (sp_step (sp_tC M t) hf l).toNat (fun q => M 47 (l * 3 + q))) ∧ ∀ i, (i < l * 3 ∨ l * 3 + 3 ≤ i) → g2 i = M 47 i) ∧ v9 = none) (fun _ _ => False) := by
  refine mx_C_of (by decide) (by simp [Value.category]) (Nat.le_of_ble_eq_true rfl) rfl ?_
  show mx_E S mX5_goTowards 0 [some (.ref 46), some (.ref a), some (.int (iI l)), some (.int (iI g)), none, none, none, none, none, none, none] [] (f, mx_SH, M, L, Rf) 0 0 _ _
  have ht9 : t < 900 := by omega
  have hs_t := tc_s ht
  have hs_t1 := tc_s1 ht
  have hr_t1 := tc_r1 hR ht
  have hs_t2 := tc_s2 ht
  have hr_t2 := tc_r2 hR ht
  have hs_t3 := tc_s3 ht
  have hr_t3 := tc_r3 hR ht
  have hs_t4 := tc_s4 ht
  have hr_t4 := tc_r4 hR ht
  have hs_t5 := tc_s5 ht
  have hr_t5 := tc_r5 hR ht
  have hs_t6 := tc_s6 ht
  have hr_t6 := tc_r6 hR ht
  have hs_t7 := tc_s7 ht
  have hr_t7 := tc_r7 hR ht
  have ha9 : a < 900 := by omega
  have hs_a := sc_s ha
  have hs_a1 := sc_s1 ha
  have hr_a1 := sc_r1 hR ha
  have hs_a2 := sc_s2 ha
  have hr_a2 := sc_r2 hR ha
  have hs_a3 := sc_s3 ha
  have hr_a3 := sc_r3 hR ha
  have hT0 : 1 ≤ M t 0 ∧ M t 0 ≤ 30 := hT.1
  have hT1 : 0 ≤ M t 1 ∧ M t 1 ≤ 6 := hT.2.1
  have hT2 : 1 ≤ M t 2 ∧ M t 2 ≤ 9 := hT.2.2.1
  have hT3 : 0 ≤ M t 3 ∧ M t 3 ≤ 9 := hT.2.2.2.1
  have hT4 : 0 ≤ M t 4 ∧ M t 4 ≤ 9 := hT.2.2.2.2.1
  have hT5 : 1 ≤ M t 5 ∧ M t 5 ≤ 99 := hT.2.2.2.2.2.1
  have hT6 : 0 ≤ M t 6 ∧ M t 6 ≤ 10 := hT.2.2.2.2.2.2.1
  have hTn : ((M t 1).toNat : Int) = M t 1 := Int.toNat_of_nonneg hT1.1
  have hTn6 : ((M t 6).toNat : Int) = M t 6 := Int.toNat_of_nonneg hT6.1
  have hkl : 0 ≤ M (t + 1) l ∧ M (t + 1) l ≤ 4 := (hT.2.2.2.2.2.2.2.1 l (by omega) (by show l < M t 1; omega)).1
  have hs3 : 1 ≤ M 46 3 ∧ M 46 3 ≤ 9 := by
    rw [hst]
    split <;> omega
  refine ms_iload_n dX5_goTowards_0 rfl ?_
  refine mi_iconst dX5_goTowards_1 ?_
  refine mi_imul dX5_goTowards_2 ?_
  refine ms_istore dX5_goTowards_3 (by decide) rfl ?_
  dsimp only [List.set, Nat.reduceAdd]
  refine ms_aload_n dX5_goTowards_5 rfl ?_
  refine ms_getR dX5_goTowards_6 (fo_X5_15 rfl) (by first | rfl | assumption) rfl (by first | assumption ) ?_
  refine ms_getR dX5_goTowards_9 (fo_X5_97 rfl) (by first | rfl | assumption) rfl (by first | assumption | exact rf_29_7 hR | exact rf_37_7 hR ) ?_
  refine ms_iload_n dX5_goTowards_12 rfl ?_
  refine ms_iald dX5_goTowards_13 (by first | rfl | assumption) ?_
  refine mi_iconst dX5_goTowards_14 ?_
  refine mi_icmp_ne (tgt := 27) dX5_goTowards_15 (by decide) (fun c_15 => ?_) (fun c_15 => ?_)
  · refine ms_aload_n dX5_goTowards_27 rfl ?_
    refine ms_getI (z := 3) dX5_goTowards_28 (fo_X5_29 rfl) (by first | rfl | assumption) rfl rfl ?_
    refine ms_istore dX5_goTowards_31 (by decide) rfl ?_
    dsimp only [List.set, Nat.reduceAdd]
    refine mi_iconst dX5_goTowards_33 ?_
    refine ms_istore dX5_goTowards_34 (by decide) rfl ?_
    dsimp only [List.set, Nat.reduceAdd]
    have ek : (((sp_step (sp_tC M t) hf l).toNat : Nat) : Int) = M 46 3 := by
      unfold sp_step
      simp only
      rw [if_neg c_15, hst]
      split <;> omega
    exact l_X5_gtL (S := S) (f := f) (L := L) hR ha (l := l) (g := g) (by omega) hg (F := M t 0) hT0 hng hgs (tm := M 46 3) (by omega) (sp_step (sp_tC M t) hf l).toNat 0 M none none none none (by omega) (by omega) (fun _ _ => rfl) (fun _ _ => rfl) hx
  · refine mi_iconst dX5_goTowards_18 ?_
    refine ms_aload_n dX5_goTowards_19 rfl ?_
    refine ms_getI (z := 3) dX5_goTowards_20 (fo_X5_29 rfl) (by first | rfl | assumption) rfl rfl ?_
    refine mi_imul dX5_goTowards_23 ?_
    refine ms_goto (tgt := 31) dX5_goTowards_24 (by decide) ?_
    refine ms_istore dX5_goTowards_31 (by decide) rfl ?_
    dsimp only [List.set, Nat.reduceAdd]
    refine mi_iconst dX5_goTowards_33 ?_
    refine ms_istore dX5_goTowards_34 (by decide) rfl ?_
    dsimp only [List.set, Nat.reduceAdd]
    have ek : (((sp_step (sp_tC M t) hf l).toNat : Nat) : Int) = 2 * M 46 3 := by
      unfold sp_step
      simp only
      rw [if_pos c_15, hst]
      split <;> omega
    exact l_X5_gtL (S := S) (f := f) (L := L) hR ha (l := l) (g := g) (by omega) hg (F := M t 0) hT0 hng hgs (tm := 2 * M 46 3) (by omega) (sp_step (sp_tC M t) hf l).toNat 0 M none none none none (by omega) (by omega) (fun _ _ => rfl) (fun _ _ => rfl) hx

