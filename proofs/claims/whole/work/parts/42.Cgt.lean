set_option maxHeartbeats 4000000 in
set_option maxRecDepth 100000 in
theorem l_X5_gtI {S : mx_Sc} {f : Bool} {M : Nat → Int → Int} {L : Nat → Nat → Int64} {Rf : Nat → Nat → Option Nat} (hR : mx_rf Rf) {a : Nat} (ha : a = 3 ∨ a = 11 ∨ a = 18) {l g : Int} (hl : 0 ≤ l ∧ l < 6) (hg : 0 ≤ g ∧ g < 6) {F : Int} (hF : 1 ≤ F ∧ F ≤ 30) (hx : s3 F (fun q => M 47 (l * 3 + q))) (hgs : s3 F (fun q => M (a + 1) (g * 3 + q))) {P : Option Value → mx_H → Prop} {PX : String → mx_H → Prop} {tm i : Int} {bc bs : Nat} {o7 o8 o9 o10 : Option Value} (hK : ∀ o9 o10 : Option Value, mx_E S mX5_goTowards 150 [some (.ref 46), some (.ref a), some (.int (iI l)), some (.int (iI g)), some (.int (iI (l * 3))), some (.int (iI tm)), some (.int (iI i)), some (.int (iI (sp_most (M 47 (l * 3 + 0) - M (a + 1) (g * 3 + 0)) (M 47 (l * 3 + 1) - M (a + 1) (g * 3 + 1)) (M 47 (l * 3 + 2) - M (a + 1) (g * 3 + 2))))), some (.int (iI (sp_most (-(M 47 (l * 3 + 0) - M (a + 1) (g * 3 + 0))) (-(M 47 (l * 3 + 1) - M (a + 1) (g * 3 + 1))) (-(M 47 (l * 3 + 2) - M (a + 1) (g * 3 + 2)))))), o9, o10] [] (f, mx_SH, M, L, Rf) bc bs P PX) (ok7 : mx_ok1 [some (.int 0), o7] 2 = true) (ok8 : mx_ok1 [some (.int 0), o8] 2 = true) (ok9 : mx_ok1 [some (.int 0), o9] 2 = true) : mx_E S mX5_goTowards 43 [some (.ref 46), some (.ref a), some (.int (iI l)), some (.int (iI g)), some (.int (iI (l * 3))), some (.int (iI tm)), some (.int (iI i)), o7, o8, o9, o10] [] (f, mx_SH, M, L, Rf) bc bs P PX := by
  have ha9 : a < 900 := by omega
  have hs_a := sc_s ha
  have hs_a1 := sc_s1 ha
  have hr_a1 := sc_r1 hR ha
  have hs_a2 := sc_s2 ha
  have hr_a2 := sc_r2 hR ha
  have hs_a3 := sc_s3 ha
  have hr_a3 := sc_r3 hR ha
  have hx1 : 0 ≤ M 47 (l * 3 + 0) ∧ 0 ≤ M 47 (l * 3 + 1) ∧ 0 ≤ M 47 (l * 3 + 2) ∧ M 47 (l * 3 + 0) + M 47 (l * 3 + 1) + M 47 (l * 3 + 2) = F := hx
  have hg1 : 0 ≤ M (a + 1) (g * 3 + 0) ∧ 0 ≤ M (a + 1) (g * 3 + 1) ∧ 0 ≤ M (a + 1) (g * 3 + 2) ∧ M (a + 1) (g * 3 + 0) + M (a + 1) (g * 3 + 1) + M (a + 1) (g * 3 + 2) = F := hgs
  refine mi_iconst dX5_goTowards_43 ?_
  refine ms_istore dX5_goTowards_44 (by decide) rfl ?_
  dsimp only [List.set, Nat.reduceAdd]
  refine mi_iconst dX5_goTowards_46 ?_
  refine ms_istore dX5_goTowards_47 (by decide) rfl ?_
  dsimp only [List.set, Nat.reduceAdd]
  refine mi_iconst dX5_goTowards_49 ?_
  refine ms_istore dX5_goTowards_50 (by decide) rfl ?_
  dsimp only [List.set, Nat.reduceAdd]
  refine ms_iload dX5_goTowards_52 rfl ?_
  refine mi_iconst dX5_goTowards_54 ?_
  refine mi_icmp_ge (tgt := 150) dX5_goTowards_55 (by decide) (fun c_55 => ?_) (fun c_55 => ?_)
  · exact absurd c_55 (by omega)
  · refine ms_aload_n dX5_goTowards_58 rfl ?_
    refine ms_getR dX5_goTowards_59 (fo_X5_9 rfl) (by first | rfl | assumption) rfl (by first | assumption | exact rf_46_0 hR ) ?_
    refine ms_iload dX5_goTowards_62 rfl ?_
    refine ms_iload dX5_goTowards_64 rfl ?_
    refine mi_iadd dX5_goTowards_66 ?_
    refine ms_iald dX5_goTowards_67 (by first | rfl | assumption) ?_
    refine ms_aload_n dX5_goTowards_68 rfl ?_
    refine ms_getR dX5_goTowards_69 (fo_X5_69 rfl) (by first | rfl | assumption) rfl (by first | assumption | exact rf_3_0 hR | exact rf_11_0 hR | exact rf_18_0 hR ) ?_
    refine ms_iload_n dX5_goTowards_72 rfl ?_
    refine mi_iconst dX5_goTowards_73 ?_
    refine mi_imul dX5_goTowards_74 ?_
    refine ms_iload dX5_goTowards_75 rfl ?_
    refine mi_iadd dX5_goTowards_77 ?_
    refine ms_iald dX5_goTowards_78 (by first | rfl | assumption) ?_
    refine mi_isub dX5_goTowards_79 ?_
    refine ms_istore dX5_goTowards_80 (by decide) rfl ?_
    dsimp only [List.set, Nat.reduceAdd]
    refine ms_iload dX5_goTowards_82 rfl ?_
    refine ms_aload_n dX5_goTowards_84 rfl ?_
    refine ms_getR dX5_goTowards_85 (fo_X5_9 rfl) (by first | rfl | assumption) rfl (by first | assumption | exact rf_46_0 hR ) ?_
    refine ms_iload dX5_goTowards_88 rfl ?_
    refine ms_iload dX5_goTowards_90 rfl ?_
    refine mi_iadd dX5_goTowards_92 ?_
    refine ms_iald dX5_goTowards_93 (by first | rfl | assumption) ?_
    refine ms_aload_n dX5_goTowards_94 rfl ?_
    refine ms_getR dX5_goTowards_95 (fo_X5_69 rfl) (by first | rfl | assumption) rfl (by first | assumption | exact rf_3_0 hR | exact rf_11_0 hR | exact rf_18_0 hR ) ?_
    refine ms_iload_n dX5_goTowards_98 rfl ?_
    refine mi_iconst dX5_goTowards_99 ?_
    refine mi_imul dX5_goTowards_100 ?_
    refine ms_iload dX5_goTowards_101 rfl ?_
    refine mi_iadd dX5_goTowards_103 ?_
    refine ms_iald dX5_goTowards_104 (by first | rfl | assumption) ?_
    refine mi_isub dX5_goTowards_105 ?_
    refine mi_icmp_le (tgt := 113) dX5_goTowards_106 (by decide) (fun c_106_1 => ?_) (fun c_106_1 => ?_)
    · refine ms_iload dX5_goTowards_113 rfl ?_
      refine ms_aload_n dX5_goTowards_115 rfl ?_
      refine ms_getR dX5_goTowards_116 (fo_X5_9 rfl) (by first | rfl | assumption) rfl (by first | assumption | exact rf_46_0 hR ) ?_
      refine ms_iload dX5_goTowards_119 rfl ?_
      refine ms_iload dX5_goTowards_121 rfl ?_
      refine mi_iadd dX5_goTowards_123 ?_
      refine ms_iald dX5_goTowards_124 (by first | rfl | assumption) ?_
      refine ms_aload_n dX5_goTowards_125 rfl ?_
      refine ms_getR dX5_goTowards_126 (fo_X5_69 rfl) (by first | rfl | assumption) rfl (by first | assumption | exact rf_3_0 hR | exact rf_11_0 hR | exact rf_18_0 hR ) ?_
      refine ms_iload_n dX5_goTowards_129 rfl ?_
      refine mi_iconst dX5_goTowards_130 ?_
      refine mi_imul dX5_goTowards_131 ?_
      refine ms_iload dX5_goTowards_132 rfl ?_
      refine mi_iadd dX5_goTowards_134 ?_
      refine ms_iald dX5_goTowards_135 (by first | rfl | assumption) ?_
      refine mi_isub dX5_goTowards_136 ?_
      refine mi_icmp_ge (tgt := 144) dX5_goTowards_137 (by decide) (fun c_137_1 => ?_) (fun c_137_1 => ?_)
      · refine mi_iincL (2) dX5_goTowards_144 rfl (by decide) rfl (by decide) ?_
        dsimp only [List.set, Nat.reduceAdd]
        refine ms_goto (tgt := 52) dX5_goTowards_147 (by decide) ?_
        refine ms_iload dX5_goTowards_52 rfl ?_
        refine mi_iconst dX5_goTowards_54 ?_
        refine mi_icmp_ge (tgt := 150) dX5_goTowards_55 (by decide) (fun c_55 => ?_) (fun c_55 => ?_)
        · exact absurd c_55 (by omega)
        · refine ms_aload_n dX5_goTowards_58 rfl ?_
          refine ms_getR dX5_goTowards_59 (fo_X5_9 rfl) (by first | rfl | assumption) rfl (by first | assumption | exact rf_46_0 hR ) ?_
          refine ms_iload dX5_goTowards_62 rfl ?_
          refine ms_iload dX5_goTowards_64 rfl ?_
          refine mi_iadd dX5_goTowards_66 ?_
          refine ms_iald dX5_goTowards_67 (by first | rfl | assumption) ?_
          refine ms_aload_n dX5_goTowards_68 rfl ?_
          refine ms_getR dX5_goTowards_69 (fo_X5_69 rfl) (by first | rfl | assumption) rfl (by first | assumption | exact rf_3_0 hR | exact rf_11_0 hR | exact rf_18_0 hR ) ?_
          refine ms_iload_n dX5_goTowards_72 rfl ?_
          refine mi_iconst dX5_goTowards_73 ?_
          refine mi_imul dX5_goTowards_74 ?_
          refine ms_iload dX5_goTowards_75 rfl ?_
          refine mi_iadd dX5_goTowards_77 ?_
          refine ms_iald dX5_goTowards_78 (by first | rfl | assumption) ?_
          refine mi_isub dX5_goTowards_79 ?_
          refine ms_istore dX5_goTowards_80 (by decide) rfl ?_
          dsimp only [List.set, Nat.reduceAdd]
          refine ms_iload dX5_goTowards_82 rfl ?_
          refine ms_aload_n dX5_goTowards_84 rfl ?_
          refine ms_getR dX5_goTowards_85 (fo_X5_9 rfl) (by first | rfl | assumption) rfl (by first | assumption | exact rf_46_0 hR ) ?_
          refine ms_iload dX5_goTowards_88 rfl ?_
          refine ms_iload dX5_goTowards_90 rfl ?_
          refine mi_iadd dX5_goTowards_92 ?_
          refine ms_iald dX5_goTowards_93 (by first | rfl | assumption) ?_
          refine ms_aload_n dX5_goTowards_94 rfl ?_
          refine ms_getR dX5_goTowards_95 (fo_X5_69 rfl) (by first | rfl | assumption) rfl (by first | assumption | exact rf_3_0 hR | exact rf_11_0 hR | exact rf_18_0 hR ) ?_
          refine ms_iload_n dX5_goTowards_98 rfl ?_
          refine mi_iconst dX5_goTowards_99 ?_
          refine mi_imul dX5_goTowards_100 ?_
          refine ms_iload dX5_goTowards_101 rfl ?_
          refine mi_iadd dX5_goTowards_103 ?_
          refine ms_iald dX5_goTowards_104 (by first | rfl | assumption) ?_
          refine mi_isub dX5_goTowards_105 ?_
          refine mi_icmp_le (tgt := 113) dX5_goTowards_106 (by decide) (fun c_106_2 => ?_) (fun c_106_2 => ?_)
          · refine ms_iload dX5_goTowards_113 rfl ?_
            refine ms_aload_n dX5_goTowards_115 rfl ?_
            refine ms_getR dX5_goTowards_116 (fo_X5_9 rfl) (by first | rfl | assumption) rfl (by first | assumption | exact rf_46_0 hR ) ?_
            refine ms_iload dX5_goTowards_119 rfl ?_
            refine ms_iload dX5_goTowards_121 rfl ?_
            refine mi_iadd dX5_goTowards_123 ?_
            refine ms_iald dX5_goTowards_124 (by first | rfl | assumption) ?_
            refine ms_aload_n dX5_goTowards_125 rfl ?_
            refine ms_getR dX5_goTowards_126 (fo_X5_69 rfl) (by first | rfl | assumption) rfl (by first | assumption | exact rf_3_0 hR | exact rf_11_0 hR | exact rf_18_0 hR ) ?_
            refine ms_iload_n dX5_goTowards_129 rfl ?_
            refine mi_iconst dX5_goTowards_130 ?_
            refine mi_imul dX5_goTowards_131 ?_
            refine ms_iload dX5_goTowards_132 rfl ?_
            refine mi_iadd dX5_goTowards_134 ?_
            refine ms_iald dX5_goTowards_135 (by first | rfl | assumption) ?_
            refine mi_isub dX5_goTowards_136 ?_
            refine mi_icmp_ge (tgt := 144) dX5_goTowards_137 (by decide) (fun c_137_2 => ?_) (fun c_137_2 => ?_)
            · refine mi_iincL (3) dX5_goTowards_144 rfl (by decide) rfl (by decide) ?_
              dsimp only [List.set, Nat.reduceAdd]
              refine ms_goto (tgt := 52) dX5_goTowards_147 (by decide) ?_
              refine ms_iload dX5_goTowards_52 rfl ?_
              refine mi_iconst dX5_goTowards_54 ?_
              refine mi_icmp_ge (tgt := 150) dX5_goTowards_55 (by decide) (fun c_55 => ?_) (fun c_55 => ?_)
              · have e1 : sp_most (M 47 (l * 3 + 0) - M (a + 1) (g * 3 + 0)) (M 47 (l * 3 + 1) - M (a + 1) (g * 3 + 1)) (M 47 (l * 3 + 2) - M (a + 1) (g * 3 + 2)) = 0 := by rcases sp_most_spec (M 47 (l * 3 + 0) - M (a + 1) (g * 3 + 0)) (M 47 (l * 3 + 1) - M (a + 1) (g * 3 + 1)) (M 47 (l * 3 + 2) - M (a + 1) (g * 3 + 2)) with ⟨e, q⟩ | ⟨e, q⟩ | ⟨e, q⟩ <;> rw [e] <;> omega
                have e2 : sp_most (-(M 47 (l * 3 + 0) - M (a + 1) (g * 3 + 0))) (-(M 47 (l * 3 + 1) - M (a + 1) (g * 3 + 1))) (-(M 47 (l * 3 + 2) - M (a + 1) (g * 3 + 2))) = 0 := by rcases sp_most_spec (-(M 47 (l * 3 + 0) - M (a + 1) (g * 3 + 0))) (-(M 47 (l * 3 + 1) - M (a + 1) (g * 3 + 1))) (-(M 47 (l * 3 + 2) - M (a + 1) (g * 3 + 2))) with ⟨e, q⟩ | ⟨e, q⟩ | ⟨e, q⟩ <;> rw [e] <;> omega
                rw [e1, e2] at hK
                exact hK _ _
              · exact absurd c_55 (by omega)
            · refine ms_iload dX5_goTowards_140 rfl ?_
              refine ms_istore dX5_goTowards_142 (by decide) rfl ?_
              dsimp only [List.set, Nat.reduceAdd]
              refine mi_iincL (3) dX5_goTowards_144 rfl (by decide) rfl (by decide) ?_
              dsimp only [List.set, Nat.reduceAdd]
              refine ms_goto (tgt := 52) dX5_goTowards_147 (by decide) ?_
              refine ms_iload dX5_goTowards_52 rfl ?_
              refine mi_iconst dX5_goTowards_54 ?_
              refine mi_icmp_ge (tgt := 150) dX5_goTowards_55 (by decide) (fun c_55 => ?_) (fun c_55 => ?_)
              · have e1 : sp_most (M 47 (l * 3 + 0) - M (a + 1) (g * 3 + 0)) (M 47 (l * 3 + 1) - M (a + 1) (g * 3 + 1)) (M 47 (l * 3 + 2) - M (a + 1) (g * 3 + 2)) = 0 := by rcases sp_most_spec (M 47 (l * 3 + 0) - M (a + 1) (g * 3 + 0)) (M 47 (l * 3 + 1) - M (a + 1) (g * 3 + 1)) (M 47 (l * 3 + 2) - M (a + 1) (g * 3 + 2)) with ⟨e, q⟩ | ⟨e, q⟩ | ⟨e, q⟩ <;> rw [e] <;> omega
                have e2 : sp_most (-(M 47 (l * 3 + 0) - M (a + 1) (g * 3 + 0))) (-(M 47 (l * 3 + 1) - M (a + 1) (g * 3 + 1))) (-(M 47 (l * 3 + 2) - M (a + 1) (g * 3 + 2))) = 2 := by rcases sp_most_spec (-(M 47 (l * 3 + 0) - M (a + 1) (g * 3 + 0))) (-(M 47 (l * 3 + 1) - M (a + 1) (g * 3 + 1))) (-(M 47 (l * 3 + 2) - M (a + 1) (g * 3 + 2))) with ⟨e, q⟩ | ⟨e, q⟩ | ⟨e, q⟩ <;> rw [e] <;> omega
                rw [e1, e2] at hK
                exact hK _ _
              · exact absurd c_55 (by omega)
          · refine ms_iload dX5_goTowards_109 rfl ?_
            refine ms_istore dX5_goTowards_111 (by decide) rfl ?_
            dsimp only [List.set, Nat.reduceAdd]
            refine ms_iload dX5_goTowards_113 rfl ?_
            refine ms_aload_n dX5_goTowards_115 rfl ?_
            refine ms_getR dX5_goTowards_116 (fo_X5_9 rfl) (by first | rfl | assumption) rfl (by first | assumption | exact rf_46_0 hR ) ?_
            refine ms_iload dX5_goTowards_119 rfl ?_
            refine ms_iload dX5_goTowards_121 rfl ?_
            refine mi_iadd dX5_goTowards_123 ?_
            refine ms_iald dX5_goTowards_124 (by first | rfl | assumption) ?_
            refine ms_aload_n dX5_goTowards_125 rfl ?_
            refine ms_getR dX5_goTowards_126 (fo_X5_69 rfl) (by first | rfl | assumption) rfl (by first | assumption | exact rf_3_0 hR | exact rf_11_0 hR | exact rf_18_0 hR ) ?_
            refine ms_iload_n dX5_goTowards_129 rfl ?_
            refine mi_iconst dX5_goTowards_130 ?_
            refine mi_imul dX5_goTowards_131 ?_
            refine ms_iload dX5_goTowards_132 rfl ?_
            refine mi_iadd dX5_goTowards_134 ?_
            refine ms_iald dX5_goTowards_135 (by first | rfl | assumption) ?_
            refine mi_isub dX5_goTowards_136 ?_
            refine mi_icmp_ge (tgt := 144) dX5_goTowards_137 (by decide) (fun c_137_2 => ?_) (fun c_137_2 => ?_)
            · refine mi_iincL (3) dX5_goTowards_144 rfl (by decide) rfl (by decide) ?_
              dsimp only [List.set, Nat.reduceAdd]
              refine ms_goto (tgt := 52) dX5_goTowards_147 (by decide) ?_
              refine ms_iload dX5_goTowards_52 rfl ?_
              refine mi_iconst dX5_goTowards_54 ?_
              refine mi_icmp_ge (tgt := 150) dX5_goTowards_55 (by decide) (fun c_55 => ?_) (fun c_55 => ?_)
              · have e1 : sp_most (M 47 (l * 3 + 0) - M (a + 1) (g * 3 + 0)) (M 47 (l * 3 + 1) - M (a + 1) (g * 3 + 1)) (M 47 (l * 3 + 2) - M (a + 1) (g * 3 + 2)) = 2 := by rcases sp_most_spec (M 47 (l * 3 + 0) - M (a + 1) (g * 3 + 0)) (M 47 (l * 3 + 1) - M (a + 1) (g * 3 + 1)) (M 47 (l * 3 + 2) - M (a + 1) (g * 3 + 2)) with ⟨e, q⟩ | ⟨e, q⟩ | ⟨e, q⟩ <;> rw [e] <;> omega
                have e2 : sp_most (-(M 47 (l * 3 + 0) - M (a + 1) (g * 3 + 0))) (-(M 47 (l * 3 + 1) - M (a + 1) (g * 3 + 1))) (-(M 47 (l * 3 + 2) - M (a + 1) (g * 3 + 2))) = 0 := by rcases sp_most_spec (-(M 47 (l * 3 + 0) - M (a + 1) (g * 3 + 0))) (-(M 47 (l * 3 + 1) - M (a + 1) (g * 3 + 1))) (-(M 47 (l * 3 + 2) - M (a + 1) (g * 3 + 2))) with ⟨e, q⟩ | ⟨e, q⟩ | ⟨e, q⟩ <;> rw [e] <;> omega
                rw [e1, e2] at hK
                exact hK _ _
              · exact absurd c_55 (by omega)
            · refine ms_iload dX5_goTowards_140 rfl ?_
              refine ms_istore dX5_goTowards_142 (by decide) rfl ?_
              dsimp only [List.set, Nat.reduceAdd]
              refine mi_iincL (3) dX5_goTowards_144 rfl (by decide) rfl (by decide) ?_
              dsimp only [List.set, Nat.reduceAdd]
              refine ms_goto (tgt := 52) dX5_goTowards_147 (by decide) ?_
              refine ms_iload dX5_goTowards_52 rfl ?_
              refine mi_iconst dX5_goTowards_54 ?_
              refine mi_icmp_ge (tgt := 150) dX5_goTowards_55 (by decide) (fun c_55 => ?_) (fun c_55 => ?_)
              · have e1 : sp_most (M 47 (l * 3 + 0) - M (a + 1) (g * 3 + 0)) (M 47 (l * 3 + 1) - M (a + 1) (g * 3 + 1)) (M 47 (l * 3 + 2) - M (a + 1) (g * 3 + 2)) = 2 := by rcases sp_most_spec (M 47 (l * 3 + 0) - M (a + 1) (g * 3 + 0)) (M 47 (l * 3 + 1) - M (a + 1) (g * 3 + 1)) (M 47 (l * 3 + 2) - M (a + 1) (g * 3 + 2)) with ⟨e, q⟩ | ⟨e, q⟩ | ⟨e, q⟩ <;> rw [e] <;> omega
                have e2 : sp_most (-(M 47 (l * 3 + 0) - M (a + 1) (g * 3 + 0))) (-(M 47 (l * 3 + 1) - M (a + 1) (g * 3 + 1))) (-(M 47 (l * 3 + 2) - M (a + 1) (g * 3 + 2))) = 2 := by rcases sp_most_spec (-(M 47 (l * 3 + 0) - M (a + 1) (g * 3 + 0))) (-(M 47 (l * 3 + 1) - M (a + 1) (g * 3 + 1))) (-(M 47 (l * 3 + 2) - M (a + 1) (g * 3 + 2))) with ⟨e, q⟩ | ⟨e, q⟩ | ⟨e, q⟩ <;> rw [e] <;> omega
                rw [e1, e2] at hK
                exact hK _ _
              · exact absurd c_55 (by omega)
      · refine ms_iload dX5_goTowards_140 rfl ?_
        refine ms_istore dX5_goTowards_142 (by decide) rfl ?_
        dsimp only [List.set, Nat.reduceAdd]
        refine mi_iincL (2) dX5_goTowards_144 rfl (by decide) rfl (by decide) ?_
        dsimp only [List.set, Nat.reduceAdd]
        refine ms_goto (tgt := 52) dX5_goTowards_147 (by decide) ?_
        refine ms_iload dX5_goTowards_52 rfl ?_
        refine mi_iconst dX5_goTowards_54 ?_
        refine mi_icmp_ge (tgt := 150) dX5_goTowards_55 (by decide) (fun c_55 => ?_) (fun c_55 => ?_)
        · exact absurd c_55 (by omega)
        · refine ms_aload_n dX5_goTowards_58 rfl ?_
          refine ms_getR dX5_goTowards_59 (fo_X5_9 rfl) (by first | rfl | assumption) rfl (by first | assumption | exact rf_46_0 hR ) ?_
          refine ms_iload dX5_goTowards_62 rfl ?_
          refine ms_iload dX5_goTowards_64 rfl ?_
          refine mi_iadd dX5_goTowards_66 ?_
          refine ms_iald dX5_goTowards_67 (by first | rfl | assumption) ?_
          refine ms_aload_n dX5_goTowards_68 rfl ?_
          refine ms_getR dX5_goTowards_69 (fo_X5_69 rfl) (by first | rfl | assumption) rfl (by first | assumption | exact rf_3_0 hR | exact rf_11_0 hR | exact rf_18_0 hR ) ?_
          refine ms_iload_n dX5_goTowards_72 rfl ?_
          refine mi_iconst dX5_goTowards_73 ?_
          refine mi_imul dX5_goTowards_74 ?_
          refine ms_iload dX5_goTowards_75 rfl ?_
          refine mi_iadd dX5_goTowards_77 ?_
          refine ms_iald dX5_goTowards_78 (by first | rfl | assumption) ?_
          refine mi_isub dX5_goTowards_79 ?_
          refine ms_istore dX5_goTowards_80 (by decide) rfl ?_
          dsimp only [List.set, Nat.reduceAdd]
          refine ms_iload dX5_goTowards_82 rfl ?_
          refine ms_aload_n dX5_goTowards_84 rfl ?_
          refine ms_getR dX5_goTowards_85 (fo_X5_9 rfl) (by first | rfl | assumption) rfl (by first | assumption | exact rf_46_0 hR ) ?_
          refine ms_iload dX5_goTowards_88 rfl ?_
          refine ms_iload dX5_goTowards_90 rfl ?_
          refine mi_iadd dX5_goTowards_92 ?_
          refine ms_iald dX5_goTowards_93 (by first | rfl | assumption) ?_
          refine ms_aload_n dX5_goTowards_94 rfl ?_
          refine ms_getR dX5_goTowards_95 (fo_X5_69 rfl) (by first | rfl | assumption) rfl (by first | assumption | exact rf_3_0 hR | exact rf_11_0 hR | exact rf_18_0 hR ) ?_
          refine ms_iload_n dX5_goTowards_98 rfl ?_
          refine mi_iconst dX5_goTowards_99 ?_
          refine mi_imul dX5_goTowards_100 ?_
          refine ms_iload dX5_goTowards_101 rfl ?_
          refine mi_iadd dX5_goTowards_103 ?_
          refine ms_iald dX5_goTowards_104 (by first | rfl | assumption) ?_
          refine mi_isub dX5_goTowards_105 ?_
          refine mi_icmp_le (tgt := 113) dX5_goTowards_106 (by decide) (fun c_106_2 => ?_) (fun c_106_2 => ?_)
          · refine ms_iload dX5_goTowards_113 rfl ?_
            refine ms_aload_n dX5_goTowards_115 rfl ?_
            refine ms_getR dX5_goTowards_116 (fo_X5_9 rfl) (by first | rfl | assumption) rfl (by first | assumption | exact rf_46_0 hR ) ?_
            refine ms_iload dX5_goTowards_119 rfl ?_
            refine ms_iload dX5_goTowards_121 rfl ?_
            refine mi_iadd dX5_goTowards_123 ?_
            refine ms_iald dX5_goTowards_124 (by first | rfl | assumption) ?_
            refine ms_aload_n dX5_goTowards_125 rfl ?_
            refine ms_getR dX5_goTowards_126 (fo_X5_69 rfl) (by first | rfl | assumption) rfl (by first | assumption | exact rf_3_0 hR | exact rf_11_0 hR | exact rf_18_0 hR ) ?_
            refine ms_iload_n dX5_goTowards_129 rfl ?_
            refine mi_iconst dX5_goTowards_130 ?_
            refine mi_imul dX5_goTowards_131 ?_
            refine ms_iload dX5_goTowards_132 rfl ?_
            refine mi_iadd dX5_goTowards_134 ?_
            refine ms_iald dX5_goTowards_135 (by first | rfl | assumption) ?_
            refine mi_isub dX5_goTowards_136 ?_
            refine mi_icmp_ge (tgt := 144) dX5_goTowards_137 (by decide) (fun c_137_2 => ?_) (fun c_137_2 => ?_)
            · refine mi_iincL (3) dX5_goTowards_144 rfl (by decide) rfl (by decide) ?_
              dsimp only [List.set, Nat.reduceAdd]
              refine ms_goto (tgt := 52) dX5_goTowards_147 (by decide) ?_
              refine ms_iload dX5_goTowards_52 rfl ?_
              refine mi_iconst dX5_goTowards_54 ?_
              refine mi_icmp_ge (tgt := 150) dX5_goTowards_55 (by decide) (fun c_55 => ?_) (fun c_55 => ?_)
              · have e1 : sp_most (M 47 (l * 3 + 0) - M (a + 1) (g * 3 + 0)) (M 47 (l * 3 + 1) - M (a + 1) (g * 3 + 1)) (M 47 (l * 3 + 2) - M (a + 1) (g * 3 + 2)) = 0 := by rcases sp_most_spec (M 47 (l * 3 + 0) - M (a + 1) (g * 3 + 0)) (M 47 (l * 3 + 1) - M (a + 1) (g * 3 + 1)) (M 47 (l * 3 + 2) - M (a + 1) (g * 3 + 2)) with ⟨e, q⟩ | ⟨e, q⟩ | ⟨e, q⟩ <;> rw [e] <;> omega
                have e2 : sp_most (-(M 47 (l * 3 + 0) - M (a + 1) (g * 3 + 0))) (-(M 47 (l * 3 + 1) - M (a + 1) (g * 3 + 1))) (-(M 47 (l * 3 + 2) - M (a + 1) (g * 3 + 2))) = 1 := by rcases sp_most_spec (-(M 47 (l * 3 + 0) - M (a + 1) (g * 3 + 0))) (-(M 47 (l * 3 + 1) - M (a + 1) (g * 3 + 1))) (-(M 47 (l * 3 + 2) - M (a + 1) (g * 3 + 2))) with ⟨e, q⟩ | ⟨e, q⟩ | ⟨e, q⟩ <;> rw [e] <;> omega
                rw [e1, e2] at hK
                exact hK _ _
              · exact absurd c_55 (by omega)
            · refine ms_iload dX5_goTowards_140 rfl ?_
              refine ms_istore dX5_goTowards_142 (by decide) rfl ?_
              dsimp only [List.set, Nat.reduceAdd]
              refine mi_iincL (3) dX5_goTowards_144 rfl (by decide) rfl (by decide) ?_
              dsimp only [List.set, Nat.reduceAdd]
              refine ms_goto (tgt := 52) dX5_goTowards_147 (by decide) ?_
              refine ms_iload dX5_goTowards_52 rfl ?_
              refine mi_iconst dX5_goTowards_54 ?_
              refine mi_icmp_ge (tgt := 150) dX5_goTowards_55 (by decide) (fun c_55 => ?_) (fun c_55 => ?_)
              · have e1 : sp_most (M 47 (l * 3 + 0) - M (a + 1) (g * 3 + 0)) (M 47 (l * 3 + 1) - M (a + 1) (g * 3 + 1)) (M 47 (l * 3 + 2) - M (a + 1) (g * 3 + 2)) = 0 := by rcases sp_most_spec (M 47 (l * 3 + 0) - M (a + 1) (g * 3 + 0)) (M 47 (l * 3 + 1) - M (a + 1) (g * 3 + 1)) (M 47 (l * 3 + 2) - M (a + 1) (g * 3 + 2)) with ⟨e, q⟩ | ⟨e, q⟩ | ⟨e, q⟩ <;> rw [e] <;> omega
                have e2 : sp_most (-(M 47 (l * 3 + 0) - M (a + 1) (g * 3 + 0))) (-(M 47 (l * 3 + 1) - M (a + 1) (g * 3 + 1))) (-(M 47 (l * 3 + 2) - M (a + 1) (g * 3 + 2))) = 2 := by rcases sp_most_spec (-(M 47 (l * 3 + 0) - M (a + 1) (g * 3 + 0))) (-(M 47 (l * 3 + 1) - M (a + 1) (g * 3 + 1))) (-(M 47 (l * 3 + 2) - M (a + 1) (g * 3 + 2))) with ⟨e, q⟩ | ⟨e, q⟩ | ⟨e, q⟩ <;> rw [e] <;> omega
                rw [e1, e2] at hK
                exact hK _ _
              · exact absurd c_55 (by omega)
          · refine ms_iload dX5_goTowards_109 rfl ?_
            refine ms_istore dX5_goTowards_111 (by decide) rfl ?_
            dsimp only [List.set, Nat.reduceAdd]
            refine ms_iload dX5_goTowards_113 rfl ?_
            refine ms_aload_n dX5_goTowards_115 rfl ?_
            refine ms_getR dX5_goTowards_116 (fo_X5_9 rfl) (by first | rfl | assumption) rfl (by first | assumption | exact rf_46_0 hR ) ?_
            refine ms_iload dX5_goTowards_119 rfl ?_
            refine ms_iload dX5_goTowards_121 rfl ?_
            refine mi_iadd dX5_goTowards_123 ?_
            refine ms_iald dX5_goTowards_124 (by first | rfl | assumption) ?_
            refine ms_aload_n dX5_goTowards_125 rfl ?_
            refine ms_getR dX5_goTowards_126 (fo_X5_69 rfl) (by first | rfl | assumption) rfl (by first | assumption | exact rf_3_0 hR | exact rf_11_0 hR | exact rf_18_0 hR ) ?_
            refine ms_iload_n dX5_goTowards_129 rfl ?_
            refine mi_iconst dX5_goTowards_130 ?_
            refine mi_imul dX5_goTowards_131 ?_
            refine ms_iload dX5_goTowards_132 rfl ?_
            refine mi_iadd dX5_goTowards_134 ?_
            refine ms_iald dX5_goTowards_135 (by first | rfl | assumption) ?_
            refine mi_isub dX5_goTowards_136 ?_
            refine mi_icmp_ge (tgt := 144) dX5_goTowards_137 (by decide) (fun c_137_2 => ?_) (fun c_137_2 => ?_)
            · refine mi_iincL (3) dX5_goTowards_144 rfl (by decide) rfl (by decide) ?_
              dsimp only [List.set, Nat.reduceAdd]
              refine ms_goto (tgt := 52) dX5_goTowards_147 (by decide) ?_
              refine ms_iload dX5_goTowards_52 rfl ?_
              refine mi_iconst dX5_goTowards_54 ?_
              refine mi_icmp_ge (tgt := 150) dX5_goTowards_55 (by decide) (fun c_55 => ?_) (fun c_55 => ?_)
              · have e1 : sp_most (M 47 (l * 3 + 0) - M (a + 1) (g * 3 + 0)) (M 47 (l * 3 + 1) - M (a + 1) (g * 3 + 1)) (M 47 (l * 3 + 2) - M (a + 1) (g * 3 + 2)) = 2 := by rcases sp_most_spec (M 47 (l * 3 + 0) - M (a + 1) (g * 3 + 0)) (M 47 (l * 3 + 1) - M (a + 1) (g * 3 + 1)) (M 47 (l * 3 + 2) - M (a + 1) (g * 3 + 2)) with ⟨e, q⟩ | ⟨e, q⟩ | ⟨e, q⟩ <;> rw [e] <;> omega
                have e2 : sp_most (-(M 47 (l * 3 + 0) - M (a + 1) (g * 3 + 0))) (-(M 47 (l * 3 + 1) - M (a + 1) (g * 3 + 1))) (-(M 47 (l * 3 + 2) - M (a + 1) (g * 3 + 2))) = 1 := by rcases sp_most_spec (-(M 47 (l * 3 + 0) - M (a + 1) (g * 3 + 0))) (-(M 47 (l * 3 + 1) - M (a + 1) (g * 3 + 1))) (-(M 47 (l * 3 + 2) - M (a + 1) (g * 3 + 2))) with ⟨e, q⟩ | ⟨e, q⟩ | ⟨e, q⟩ <;> rw [e] <;> omega
                rw [e1, e2] at hK
                exact hK _ _
              · exact absurd c_55 (by omega)
            · refine ms_iload dX5_goTowards_140 rfl ?_
              refine ms_istore dX5_goTowards_142 (by decide) rfl ?_
              dsimp only [List.set, Nat.reduceAdd]
              refine mi_iincL (3) dX5_goTowards_144 rfl (by decide) rfl (by decide) ?_
              dsimp only [List.set, Nat.reduceAdd]
              refine ms_goto (tgt := 52) dX5_goTowards_147 (by decide) ?_
              refine ms_iload dX5_goTowards_52 rfl ?_
              refine mi_iconst dX5_goTowards_54 ?_
              refine mi_icmp_ge (tgt := 150) dX5_goTowards_55 (by decide) (fun c_55 => ?_) (fun c_55 => ?_)
              · have e1 : sp_most (M 47 (l * 3 + 0) - M (a + 1) (g * 3 + 0)) (M 47 (l * 3 + 1) - M (a + 1) (g * 3 + 1)) (M 47 (l * 3 + 2) - M (a + 1) (g * 3 + 2)) = 2 := by rcases sp_most_spec (M 47 (l * 3 + 0) - M (a + 1) (g * 3 + 0)) (M 47 (l * 3 + 1) - M (a + 1) (g * 3 + 1)) (M 47 (l * 3 + 2) - M (a + 1) (g * 3 + 2)) with ⟨e, q⟩ | ⟨e, q⟩ | ⟨e, q⟩ <;> rw [e] <;> omega
                have e2 : sp_most (-(M 47 (l * 3 + 0) - M (a + 1) (g * 3 + 0))) (-(M 47 (l * 3 + 1) - M (a + 1) (g * 3 + 1))) (-(M 47 (l * 3 + 2) - M (a + 1) (g * 3 + 2))) = 2 := by rcases sp_most_spec (-(M 47 (l * 3 + 0) - M (a + 1) (g * 3 + 0))) (-(M 47 (l * 3 + 1) - M (a + 1) (g * 3 + 1))) (-(M 47 (l * 3 + 2) - M (a + 1) (g * 3 + 2))) with ⟨e, q⟩ | ⟨e, q⟩ | ⟨e, q⟩ <;> rw [e] <;> omega
                rw [e1, e2] at hK
                exact hK _ _
              · exact absurd c_55 (by omega)
    · refine ms_iload dX5_goTowards_109 rfl ?_
      refine ms_istore dX5_goTowards_111 (by decide) rfl ?_
      dsimp only [List.set, Nat.reduceAdd]
      refine ms_iload dX5_goTowards_113 rfl ?_
      refine ms_aload_n dX5_goTowards_115 rfl ?_
      refine ms_getR dX5_goTowards_116 (fo_X5_9 rfl) (by first | rfl | assumption) rfl (by first | assumption | exact rf_46_0 hR ) ?_
      refine ms_iload dX5_goTowards_119 rfl ?_
      refine ms_iload dX5_goTowards_121 rfl ?_
      refine mi_iadd dX5_goTowards_123 ?_
      refine ms_iald dX5_goTowards_124 (by first | rfl | assumption) ?_
      refine ms_aload_n dX5_goTowards_125 rfl ?_
      refine ms_getR dX5_goTowards_126 (fo_X5_69 rfl) (by first | rfl | assumption) rfl (by first | assumption | exact rf_3_0 hR | exact rf_11_0 hR | exact rf_18_0 hR ) ?_
      refine ms_iload_n dX5_goTowards_129 rfl ?_
      refine mi_iconst dX5_goTowards_130 ?_
      refine mi_imul dX5_goTowards_131 ?_
      refine ms_iload dX5_goTowards_132 rfl ?_
      refine mi_iadd dX5_goTowards_134 ?_
      refine ms_iald dX5_goTowards_135 (by first | rfl | assumption) ?_
      refine mi_isub dX5_goTowards_136 ?_
      refine mi_icmp_ge (tgt := 144) dX5_goTowards_137 (by decide) (fun c_137_1 => ?_) (fun c_137_1 => ?_)
      · refine mi_iincL (2) dX5_goTowards_144 rfl (by decide) rfl (by decide) ?_
        dsimp only [List.set, Nat.reduceAdd]
        refine ms_goto (tgt := 52) dX5_goTowards_147 (by decide) ?_
        refine ms_iload dX5_goTowards_52 rfl ?_
        refine mi_iconst dX5_goTowards_54 ?_
        refine mi_icmp_ge (tgt := 150) dX5_goTowards_55 (by decide) (fun c_55 => ?_) (fun c_55 => ?_)
        · exact absurd c_55 (by omega)
        · refine ms_aload_n dX5_goTowards_58 rfl ?_
          refine ms_getR dX5_goTowards_59 (fo_X5_9 rfl) (by first | rfl | assumption) rfl (by first | assumption | exact rf_46_0 hR ) ?_
          refine ms_iload dX5_goTowards_62 rfl ?_
          refine ms_iload dX5_goTowards_64 rfl ?_
          refine mi_iadd dX5_goTowards_66 ?_
          refine ms_iald dX5_goTowards_67 (by first | rfl | assumption) ?_
          refine ms_aload_n dX5_goTowards_68 rfl ?_
          refine ms_getR dX5_goTowards_69 (fo_X5_69 rfl) (by first | rfl | assumption) rfl (by first | assumption | exact rf_3_0 hR | exact rf_11_0 hR | exact rf_18_0 hR ) ?_
          refine ms_iload_n dX5_goTowards_72 rfl ?_
          refine mi_iconst dX5_goTowards_73 ?_
          refine mi_imul dX5_goTowards_74 ?_
          refine ms_iload dX5_goTowards_75 rfl ?_
          refine mi_iadd dX5_goTowards_77 ?_
          refine ms_iald dX5_goTowards_78 (by first | rfl | assumption) ?_
          refine mi_isub dX5_goTowards_79 ?_
          refine ms_istore dX5_goTowards_80 (by decide) rfl ?_
          dsimp only [List.set, Nat.reduceAdd]
          refine ms_iload dX5_goTowards_82 rfl ?_
          refine ms_aload_n dX5_goTowards_84 rfl ?_
          refine ms_getR dX5_goTowards_85 (fo_X5_9 rfl) (by first | rfl | assumption) rfl (by first | assumption | exact rf_46_0 hR ) ?_
          refine ms_iload dX5_goTowards_88 rfl ?_
          refine ms_iload dX5_goTowards_90 rfl ?_
          refine mi_iadd dX5_goTowards_92 ?_
          refine ms_iald dX5_goTowards_93 (by first | rfl | assumption) ?_
          refine ms_aload_n dX5_goTowards_94 rfl ?_
          refine ms_getR dX5_goTowards_95 (fo_X5_69 rfl) (by first | rfl | assumption) rfl (by first | assumption | exact rf_3_0 hR | exact rf_11_0 hR | exact rf_18_0 hR ) ?_
          refine ms_iload_n dX5_goTowards_98 rfl ?_
          refine mi_iconst dX5_goTowards_99 ?_
          refine mi_imul dX5_goTowards_100 ?_
          refine ms_iload dX5_goTowards_101 rfl ?_
          refine mi_iadd dX5_goTowards_103 ?_
          refine ms_iald dX5_goTowards_104 (by first | rfl | assumption) ?_
          refine mi_isub dX5_goTowards_105 ?_
          refine mi_icmp_le (tgt := 113) dX5_goTowards_106 (by decide) (fun c_106_2 => ?_) (fun c_106_2 => ?_)
          · refine ms_iload dX5_goTowards_113 rfl ?_
            refine ms_aload_n dX5_goTowards_115 rfl ?_
            refine ms_getR dX5_goTowards_116 (fo_X5_9 rfl) (by first | rfl | assumption) rfl (by first | assumption | exact rf_46_0 hR ) ?_
            refine ms_iload dX5_goTowards_119 rfl ?_
            refine ms_iload dX5_goTowards_121 rfl ?_
            refine mi_iadd dX5_goTowards_123 ?_
            refine ms_iald dX5_goTowards_124 (by first | rfl | assumption) ?_
            refine ms_aload_n dX5_goTowards_125 rfl ?_
            refine ms_getR dX5_goTowards_126 (fo_X5_69 rfl) (by first | rfl | assumption) rfl (by first | assumption | exact rf_3_0 hR | exact rf_11_0 hR | exact rf_18_0 hR ) ?_
            refine ms_iload_n dX5_goTowards_129 rfl ?_
            refine mi_iconst dX5_goTowards_130 ?_
            refine mi_imul dX5_goTowards_131 ?_
            refine ms_iload dX5_goTowards_132 rfl ?_
            refine mi_iadd dX5_goTowards_134 ?_
            refine ms_iald dX5_goTowards_135 (by first | rfl | assumption) ?_
            refine mi_isub dX5_goTowards_136 ?_
            refine mi_icmp_ge (tgt := 144) dX5_goTowards_137 (by decide) (fun c_137_2 => ?_) (fun c_137_2 => ?_)
            · refine mi_iincL (3) dX5_goTowards_144 rfl (by decide) rfl (by decide) ?_
              dsimp only [List.set, Nat.reduceAdd]
              refine ms_goto (tgt := 52) dX5_goTowards_147 (by decide) ?_
              refine ms_iload dX5_goTowards_52 rfl ?_
              refine mi_iconst dX5_goTowards_54 ?_
              refine mi_icmp_ge (tgt := 150) dX5_goTowards_55 (by decide) (fun c_55 => ?_) (fun c_55 => ?_)
              · have e1 : sp_most (M 47 (l * 3 + 0) - M (a + 1) (g * 3 + 0)) (M 47 (l * 3 + 1) - M (a + 1) (g * 3 + 1)) (M 47 (l * 3 + 2) - M (a + 1) (g * 3 + 2)) = 1 := by rcases sp_most_spec (M 47 (l * 3 + 0) - M (a + 1) (g * 3 + 0)) (M 47 (l * 3 + 1) - M (a + 1) (g * 3 + 1)) (M 47 (l * 3 + 2) - M (a + 1) (g * 3 + 2)) with ⟨e, q⟩ | ⟨e, q⟩ | ⟨e, q⟩ <;> rw [e] <;> omega
                have e2 : sp_most (-(M 47 (l * 3 + 0) - M (a + 1) (g * 3 + 0))) (-(M 47 (l * 3 + 1) - M (a + 1) (g * 3 + 1))) (-(M 47 (l * 3 + 2) - M (a + 1) (g * 3 + 2))) = 0 := by rcases sp_most_spec (-(M 47 (l * 3 + 0) - M (a + 1) (g * 3 + 0))) (-(M 47 (l * 3 + 1) - M (a + 1) (g * 3 + 1))) (-(M 47 (l * 3 + 2) - M (a + 1) (g * 3 + 2))) with ⟨e, q⟩ | ⟨e, q⟩ | ⟨e, q⟩ <;> rw [e] <;> omega
                rw [e1, e2] at hK
                exact hK _ _
              · exact absurd c_55 (by omega)
            · refine ms_iload dX5_goTowards_140 rfl ?_
              refine ms_istore dX5_goTowards_142 (by decide) rfl ?_
              dsimp only [List.set, Nat.reduceAdd]
              refine mi_iincL (3) dX5_goTowards_144 rfl (by decide) rfl (by decide) ?_
              dsimp only [List.set, Nat.reduceAdd]
              refine ms_goto (tgt := 52) dX5_goTowards_147 (by decide) ?_
              refine ms_iload dX5_goTowards_52 rfl ?_
              refine mi_iconst dX5_goTowards_54 ?_
              refine mi_icmp_ge (tgt := 150) dX5_goTowards_55 (by decide) (fun c_55 => ?_) (fun c_55 => ?_)
              · have e1 : sp_most (M 47 (l * 3 + 0) - M (a + 1) (g * 3 + 0)) (M 47 (l * 3 + 1) - M (a + 1) (g * 3 + 1)) (M 47 (l * 3 + 2) - M (a + 1) (g * 3 + 2)) = 1 := by rcases sp_most_spec (M 47 (l * 3 + 0) - M (a + 1) (g * 3 + 0)) (M 47 (l * 3 + 1) - M (a + 1) (g * 3 + 1)) (M 47 (l * 3 + 2) - M (a + 1) (g * 3 + 2)) with ⟨e, q⟩ | ⟨e, q⟩ | ⟨e, q⟩ <;> rw [e] <;> omega
                have e2 : sp_most (-(M 47 (l * 3 + 0) - M (a + 1) (g * 3 + 0))) (-(M 47 (l * 3 + 1) - M (a + 1) (g * 3 + 1))) (-(M 47 (l * 3 + 2) - M (a + 1) (g * 3 + 2))) = 2 := by rcases sp_most_spec (-(M 47 (l * 3 + 0) - M (a + 1) (g * 3 + 0))) (-(M 47 (l * 3 + 1) - M (a + 1) (g * 3 + 1))) (-(M 47 (l * 3 + 2) - M (a + 1) (g * 3 + 2))) with ⟨e, q⟩ | ⟨e, q⟩ | ⟨e, q⟩ <;> rw [e] <;> omega
                rw [e1, e2] at hK
                exact hK _ _
              · exact absurd c_55 (by omega)
          · refine ms_iload dX5_goTowards_109 rfl ?_
            refine ms_istore dX5_goTowards_111 (by decide) rfl ?_
            dsimp only [List.set, Nat.reduceAdd]
            refine ms_iload dX5_goTowards_113 rfl ?_
            refine ms_aload_n dX5_goTowards_115 rfl ?_
            refine ms_getR dX5_goTowards_116 (fo_X5_9 rfl) (by first | rfl | assumption) rfl (by first | assumption | exact rf_46_0 hR ) ?_
            refine ms_iload dX5_goTowards_119 rfl ?_
            refine ms_iload dX5_goTowards_121 rfl ?_
            refine mi_iadd dX5_goTowards_123 ?_
            refine ms_iald dX5_goTowards_124 (by first | rfl | assumption) ?_
            refine ms_aload_n dX5_goTowards_125 rfl ?_
            refine ms_getR dX5_goTowards_126 (fo_X5_69 rfl) (by first | rfl | assumption) rfl (by first | assumption | exact rf_3_0 hR | exact rf_11_0 hR | exact rf_18_0 hR ) ?_
            refine ms_iload_n dX5_goTowards_129 rfl ?_
            refine mi_iconst dX5_goTowards_130 ?_
            refine mi_imul dX5_goTowards_131 ?_
            refine ms_iload dX5_goTowards_132 rfl ?_
            refine mi_iadd dX5_goTowards_134 ?_
            refine ms_iald dX5_goTowards_135 (by first | rfl | assumption) ?_
            refine mi_isub dX5_goTowards_136 ?_
            refine mi_icmp_ge (tgt := 144) dX5_goTowards_137 (by decide) (fun c_137_2 => ?_) (fun c_137_2 => ?_)
            · refine mi_iincL (3) dX5_goTowards_144 rfl (by decide) rfl (by decide) ?_
              dsimp only [List.set, Nat.reduceAdd]
              refine ms_goto (tgt := 52) dX5_goTowards_147 (by decide) ?_
              refine ms_iload dX5_goTowards_52 rfl ?_
              refine mi_iconst dX5_goTowards_54 ?_
              refine mi_icmp_ge (tgt := 150) dX5_goTowards_55 (by decide) (fun c_55 => ?_) (fun c_55 => ?_)
              · have e1 : sp_most (M 47 (l * 3 + 0) - M (a + 1) (g * 3 + 0)) (M 47 (l * 3 + 1) - M (a + 1) (g * 3 + 1)) (M 47 (l * 3 + 2) - M (a + 1) (g * 3 + 2)) = 2 := by rcases sp_most_spec (M 47 (l * 3 + 0) - M (a + 1) (g * 3 + 0)) (M 47 (l * 3 + 1) - M (a + 1) (g * 3 + 1)) (M 47 (l * 3 + 2) - M (a + 1) (g * 3 + 2)) with ⟨e, q⟩ | ⟨e, q⟩ | ⟨e, q⟩ <;> rw [e] <;> omega
                have e2 : sp_most (-(M 47 (l * 3 + 0) - M (a + 1) (g * 3 + 0))) (-(M 47 (l * 3 + 1) - M (a + 1) (g * 3 + 1))) (-(M 47 (l * 3 + 2) - M (a + 1) (g * 3 + 2))) = 0 := by rcases sp_most_spec (-(M 47 (l * 3 + 0) - M (a + 1) (g * 3 + 0))) (-(M 47 (l * 3 + 1) - M (a + 1) (g * 3 + 1))) (-(M 47 (l * 3 + 2) - M (a + 1) (g * 3 + 2))) with ⟨e, q⟩ | ⟨e, q⟩ | ⟨e, q⟩ <;> rw [e] <;> omega
                rw [e1, e2] at hK
                exact hK _ _
              · exact absurd c_55 (by omega)
            · refine ms_iload dX5_goTowards_140 rfl ?_
              refine ms_istore dX5_goTowards_142 (by decide) rfl ?_
              dsimp only [List.set, Nat.reduceAdd]
              refine mi_iincL (3) dX5_goTowards_144 rfl (by decide) rfl (by decide) ?_
              dsimp only [List.set, Nat.reduceAdd]
              refine ms_goto (tgt := 52) dX5_goTowards_147 (by decide) ?_
              refine ms_iload dX5_goTowards_52 rfl ?_
              refine mi_iconst dX5_goTowards_54 ?_
              refine mi_icmp_ge (tgt := 150) dX5_goTowards_55 (by decide) (fun c_55 => ?_) (fun c_55 => ?_)
              · have e1 : sp_most (M 47 (l * 3 + 0) - M (a + 1) (g * 3 + 0)) (M 47 (l * 3 + 1) - M (a + 1) (g * 3 + 1)) (M 47 (l * 3 + 2) - M (a + 1) (g * 3 + 2)) = 2 := by rcases sp_most_spec (M 47 (l * 3 + 0) - M (a + 1) (g * 3 + 0)) (M 47 (l * 3 + 1) - M (a + 1) (g * 3 + 1)) (M 47 (l * 3 + 2) - M (a + 1) (g * 3 + 2)) with ⟨e, q⟩ | ⟨e, q⟩ | ⟨e, q⟩ <;> rw [e] <;> omega
                have e2 : sp_most (-(M 47 (l * 3 + 0) - M (a + 1) (g * 3 + 0))) (-(M 47 (l * 3 + 1) - M (a + 1) (g * 3 + 1))) (-(M 47 (l * 3 + 2) - M (a + 1) (g * 3 + 2))) = 2 := by rcases sp_most_spec (-(M 47 (l * 3 + 0) - M (a + 1) (g * 3 + 0))) (-(M 47 (l * 3 + 1) - M (a + 1) (g * 3 + 1))) (-(M 47 (l * 3 + 2) - M (a + 1) (g * 3 + 2))) with ⟨e, q⟩ | ⟨e, q⟩ | ⟨e, q⟩ <;> rw [e] <;> omega
                rw [e1, e2] at hK
                exact hK _ _
              · exact absurd c_55 (by omega)
      · refine ms_iload dX5_goTowards_140 rfl ?_
        refine ms_istore dX5_goTowards_142 (by decide) rfl ?_
        dsimp only [List.set, Nat.reduceAdd]
        refine mi_iincL (2) dX5_goTowards_144 rfl (by decide) rfl (by decide) ?_
        dsimp only [List.set, Nat.reduceAdd]
        refine ms_goto (tgt := 52) dX5_goTowards_147 (by decide) ?_
        refine ms_iload dX5_goTowards_52 rfl ?_
        refine mi_iconst dX5_goTowards_54 ?_
        refine mi_icmp_ge (tgt := 150) dX5_goTowards_55 (by decide) (fun c_55 => ?_) (fun c_55 => ?_)
        · exact absurd c_55 (by omega)
        · refine ms_aload_n dX5_goTowards_58 rfl ?_
          refine ms_getR dX5_goTowards_59 (fo_X5_9 rfl) (by first | rfl | assumption) rfl (by first | assumption | exact rf_46_0 hR ) ?_
          refine ms_iload dX5_goTowards_62 rfl ?_
          refine ms_iload dX5_goTowards_64 rfl ?_
          refine mi_iadd dX5_goTowards_66 ?_
          refine ms_iald dX5_goTowards_67 (by first | rfl | assumption) ?_
          refine ms_aload_n dX5_goTowards_68 rfl ?_
          refine ms_getR dX5_goTowards_69 (fo_X5_69 rfl) (by first | rfl | assumption) rfl (by first | assumption | exact rf_3_0 hR | exact rf_11_0 hR | exact rf_18_0 hR ) ?_
          refine ms_iload_n dX5_goTowards_72 rfl ?_
          refine mi_iconst dX5_goTowards_73 ?_
          refine mi_imul dX5_goTowards_74 ?_
          refine ms_iload dX5_goTowards_75 rfl ?_
          refine mi_iadd dX5_goTowards_77 ?_
          refine ms_iald dX5_goTowards_78 (by first | rfl | assumption) ?_
          refine mi_isub dX5_goTowards_79 ?_
          refine ms_istore dX5_goTowards_80 (by decide) rfl ?_
          dsimp only [List.set, Nat.reduceAdd]
          refine ms_iload dX5_goTowards_82 rfl ?_
          refine ms_aload_n dX5_goTowards_84 rfl ?_
          refine ms_getR dX5_goTowards_85 (fo_X5_9 rfl) (by first | rfl | assumption) rfl (by first | assumption | exact rf_46_0 hR ) ?_
          refine ms_iload dX5_goTowards_88 rfl ?_
          refine ms_iload dX5_goTowards_90 rfl ?_
          refine mi_iadd dX5_goTowards_92 ?_
          refine ms_iald dX5_goTowards_93 (by first | rfl | assumption) ?_
          refine ms_aload_n dX5_goTowards_94 rfl ?_
          refine ms_getR dX5_goTowards_95 (fo_X5_69 rfl) (by first | rfl | assumption) rfl (by first | assumption | exact rf_3_0 hR | exact rf_11_0 hR | exact rf_18_0 hR ) ?_
          refine ms_iload_n dX5_goTowards_98 rfl ?_
          refine mi_iconst dX5_goTowards_99 ?_
          refine mi_imul dX5_goTowards_100 ?_
          refine ms_iload dX5_goTowards_101 rfl ?_
          refine mi_iadd dX5_goTowards_103 ?_
          refine ms_iald dX5_goTowards_104 (by first | rfl | assumption) ?_
          refine mi_isub dX5_goTowards_105 ?_
          refine mi_icmp_le (tgt := 113) dX5_goTowards_106 (by decide) (fun c_106_2 => ?_) (fun c_106_2 => ?_)
          · refine ms_iload dX5_goTowards_113 rfl ?_
            refine ms_aload_n dX5_goTowards_115 rfl ?_
            refine ms_getR dX5_goTowards_116 (fo_X5_9 rfl) (by first | rfl | assumption) rfl (by first | assumption | exact rf_46_0 hR ) ?_
            refine ms_iload dX5_goTowards_119 rfl ?_
            refine ms_iload dX5_goTowards_121 rfl ?_
            refine mi_iadd dX5_goTowards_123 ?_
            refine ms_iald dX5_goTowards_124 (by first | rfl | assumption) ?_
            refine ms_aload_n dX5_goTowards_125 rfl ?_
            refine ms_getR dX5_goTowards_126 (fo_X5_69 rfl) (by first | rfl | assumption) rfl (by first | assumption | exact rf_3_0 hR | exact rf_11_0 hR | exact rf_18_0 hR ) ?_
            refine ms_iload_n dX5_goTowards_129 rfl ?_
            refine mi_iconst dX5_goTowards_130 ?_
            refine mi_imul dX5_goTowards_131 ?_
            refine ms_iload dX5_goTowards_132 rfl ?_
            refine mi_iadd dX5_goTowards_134 ?_
            refine ms_iald dX5_goTowards_135 (by first | rfl | assumption) ?_
            refine mi_isub dX5_goTowards_136 ?_
            refine mi_icmp_ge (tgt := 144) dX5_goTowards_137 (by decide) (fun c_137_2 => ?_) (fun c_137_2 => ?_)
            · refine mi_iincL (3) dX5_goTowards_144 rfl (by decide) rfl (by decide) ?_
              dsimp only [List.set, Nat.reduceAdd]
              refine ms_goto (tgt := 52) dX5_goTowards_147 (by decide) ?_
              refine ms_iload dX5_goTowards_52 rfl ?_
              refine mi_iconst dX5_goTowards_54 ?_
              refine mi_icmp_ge (tgt := 150) dX5_goTowards_55 (by decide) (fun c_55 => ?_) (fun c_55 => ?_)
              · have e1 : sp_most (M 47 (l * 3 + 0) - M (a + 1) (g * 3 + 0)) (M 47 (l * 3 + 1) - M (a + 1) (g * 3 + 1)) (M 47 (l * 3 + 2) - M (a + 1) (g * 3 + 2)) = 1 := by rcases sp_most_spec (M 47 (l * 3 + 0) - M (a + 1) (g * 3 + 0)) (M 47 (l * 3 + 1) - M (a + 1) (g * 3 + 1)) (M 47 (l * 3 + 2) - M (a + 1) (g * 3 + 2)) with ⟨e, q⟩ | ⟨e, q⟩ | ⟨e, q⟩ <;> rw [e] <;> omega
                have e2 : sp_most (-(M 47 (l * 3 + 0) - M (a + 1) (g * 3 + 0))) (-(M 47 (l * 3 + 1) - M (a + 1) (g * 3 + 1))) (-(M 47 (l * 3 + 2) - M (a + 1) (g * 3 + 2))) = 1 := by rcases sp_most_spec (-(M 47 (l * 3 + 0) - M (a + 1) (g * 3 + 0))) (-(M 47 (l * 3 + 1) - M (a + 1) (g * 3 + 1))) (-(M 47 (l * 3 + 2) - M (a + 1) (g * 3 + 2))) with ⟨e, q⟩ | ⟨e, q⟩ | ⟨e, q⟩ <;> rw [e] <;> omega
                rw [e1, e2] at hK
                exact hK _ _
              · exact absurd c_55 (by omega)
            · refine ms_iload dX5_goTowards_140 rfl ?_
              refine ms_istore dX5_goTowards_142 (by decide) rfl ?_
              dsimp only [List.set, Nat.reduceAdd]
              refine mi_iincL (3) dX5_goTowards_144 rfl (by decide) rfl (by decide) ?_
              dsimp only [List.set, Nat.reduceAdd]
              refine ms_goto (tgt := 52) dX5_goTowards_147 (by decide) ?_
              refine ms_iload dX5_goTowards_52 rfl ?_
              refine mi_iconst dX5_goTowards_54 ?_
              refine mi_icmp_ge (tgt := 150) dX5_goTowards_55 (by decide) (fun c_55 => ?_) (fun c_55 => ?_)
              · have e1 : sp_most (M 47 (l * 3 + 0) - M (a + 1) (g * 3 + 0)) (M 47 (l * 3 + 1) - M (a + 1) (g * 3 + 1)) (M 47 (l * 3 + 2) - M (a + 1) (g * 3 + 2)) = 1 := by rcases sp_most_spec (M 47 (l * 3 + 0) - M (a + 1) (g * 3 + 0)) (M 47 (l * 3 + 1) - M (a + 1) (g * 3 + 1)) (M 47 (l * 3 + 2) - M (a + 1) (g * 3 + 2)) with ⟨e, q⟩ | ⟨e, q⟩ | ⟨e, q⟩ <;> rw [e] <;> omega
                have e2 : sp_most (-(M 47 (l * 3 + 0) - M (a + 1) (g * 3 + 0))) (-(M 47 (l * 3 + 1) - M (a + 1) (g * 3 + 1))) (-(M 47 (l * 3 + 2) - M (a + 1) (g * 3 + 2))) = 2 := by rcases sp_most_spec (-(M 47 (l * 3 + 0) - M (a + 1) (g * 3 + 0))) (-(M 47 (l * 3 + 1) - M (a + 1) (g * 3 + 1))) (-(M 47 (l * 3 + 2) - M (a + 1) (g * 3 + 2))) with ⟨e, q⟩ | ⟨e, q⟩ | ⟨e, q⟩ <;> rw [e] <;> omega
                rw [e1, e2] at hK
                exact hK _ _
              · exact absurd c_55 (by omega)
          · refine ms_iload dX5_goTowards_109 rfl ?_
            refine ms_istore dX5_goTowards_111 (by decide) rfl ?_
            dsimp only [List.set, Nat.reduceAdd]
            refine ms_iload dX5_goTowards_113 rfl ?_
            refine ms_aload_n dX5_goTowards_115 rfl ?_
            refine ms_getR dX5_goTowards_116 (fo_X5_9 rfl) (by first | rfl | assumption) rfl (by first | assumption | exact rf_46_0 hR ) ?_
            refine ms_iload dX5_goTowards_119 rfl ?_
            refine ms_iload dX5_goTowards_121 rfl ?_
            refine mi_iadd dX5_goTowards_123 ?_
            refine ms_iald dX5_goTowards_124 (by first | rfl | assumption) ?_
            refine ms_aload_n dX5_goTowards_125 rfl ?_
            refine ms_getR dX5_goTowards_126 (fo_X5_69 rfl) (by first | rfl | assumption) rfl (by first | assumption | exact rf_3_0 hR | exact rf_11_0 hR | exact rf_18_0 hR ) ?_
            refine ms_iload_n dX5_goTowards_129 rfl ?_
            refine mi_iconst dX5_goTowards_130 ?_
            refine mi_imul dX5_goTowards_131 ?_
            refine ms_iload dX5_goTowards_132 rfl ?_
            refine mi_iadd dX5_goTowards_134 ?_
            refine ms_iald dX5_goTowards_135 (by first | rfl | assumption) ?_
            refine mi_isub dX5_goTowards_136 ?_
            refine mi_icmp_ge (tgt := 144) dX5_goTowards_137 (by decide) (fun c_137_2 => ?_) (fun c_137_2 => ?_)
            · refine mi_iincL (3) dX5_goTowards_144 rfl (by decide) rfl (by decide) ?_
              dsimp only [List.set, Nat.reduceAdd]
              refine ms_goto (tgt := 52) dX5_goTowards_147 (by decide) ?_
              refine ms_iload dX5_goTowards_52 rfl ?_
              refine mi_iconst dX5_goTowards_54 ?_
              refine mi_icmp_ge (tgt := 150) dX5_goTowards_55 (by decide) (fun c_55 => ?_) (fun c_55 => ?_)
              · have e1 : sp_most (M 47 (l * 3 + 0) - M (a + 1) (g * 3 + 0)) (M 47 (l * 3 + 1) - M (a + 1) (g * 3 + 1)) (M 47 (l * 3 + 2) - M (a + 1) (g * 3 + 2)) = 2 := by rcases sp_most_spec (M 47 (l * 3 + 0) - M (a + 1) (g * 3 + 0)) (M 47 (l * 3 + 1) - M (a + 1) (g * 3 + 1)) (M 47 (l * 3 + 2) - M (a + 1) (g * 3 + 2)) with ⟨e, q⟩ | ⟨e, q⟩ | ⟨e, q⟩ <;> rw [e] <;> omega
                have e2 : sp_most (-(M 47 (l * 3 + 0) - M (a + 1) (g * 3 + 0))) (-(M 47 (l * 3 + 1) - M (a + 1) (g * 3 + 1))) (-(M 47 (l * 3 + 2) - M (a + 1) (g * 3 + 2))) = 1 := by rcases sp_most_spec (-(M 47 (l * 3 + 0) - M (a + 1) (g * 3 + 0))) (-(M 47 (l * 3 + 1) - M (a + 1) (g * 3 + 1))) (-(M 47 (l * 3 + 2) - M (a + 1) (g * 3 + 2))) with ⟨e, q⟩ | ⟨e, q⟩ | ⟨e, q⟩ <;> rw [e] <;> omega
                rw [e1, e2] at hK
                exact hK _ _
              · exact absurd c_55 (by omega)
            · refine ms_iload dX5_goTowards_140 rfl ?_
              refine ms_istore dX5_goTowards_142 (by decide) rfl ?_
              dsimp only [List.set, Nat.reduceAdd]
              refine mi_iincL (3) dX5_goTowards_144 rfl (by decide) rfl (by decide) ?_
              dsimp only [List.set, Nat.reduceAdd]
              refine ms_goto (tgt := 52) dX5_goTowards_147 (by decide) ?_
              refine ms_iload dX5_goTowards_52 rfl ?_
              refine mi_iconst dX5_goTowards_54 ?_
              refine mi_icmp_ge (tgt := 150) dX5_goTowards_55 (by decide) (fun c_55 => ?_) (fun c_55 => ?_)
              · have e1 : sp_most (M 47 (l * 3 + 0) - M (a + 1) (g * 3 + 0)) (M 47 (l * 3 + 1) - M (a + 1) (g * 3 + 1)) (M 47 (l * 3 + 2) - M (a + 1) (g * 3 + 2)) = 2 := by rcases sp_most_spec (M 47 (l * 3 + 0) - M (a + 1) (g * 3 + 0)) (M 47 (l * 3 + 1) - M (a + 1) (g * 3 + 1)) (M 47 (l * 3 + 2) - M (a + 1) (g * 3 + 2)) with ⟨e, q⟩ | ⟨e, q⟩ | ⟨e, q⟩ <;> rw [e] <;> omega
                have e2 : sp_most (-(M 47 (l * 3 + 0) - M (a + 1) (g * 3 + 0))) (-(M 47 (l * 3 + 1) - M (a + 1) (g * 3 + 1))) (-(M 47 (l * 3 + 2) - M (a + 1) (g * 3 + 2))) = 2 := by rcases sp_most_spec (-(M 47 (l * 3 + 0) - M (a + 1) (g * 3 + 0))) (-(M 47 (l * 3 + 1) - M (a + 1) (g * 3 + 1))) (-(M 47 (l * 3 + 2) - M (a + 1) (g * 3 + 2))) with ⟨e, q⟩ | ⟨e, q⟩ | ⟨e, q⟩ <;> rw [e] <;> omega
                rw [e1, e2] at hK
                exact hK _ _
              · exact absurd c_55 (by omega)

