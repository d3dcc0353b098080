theorem sp_stuck_0 {ng : Bool} {x g : Int → Int} (h0 : x 0 - g 0 = 0) (h1 : x 1 - g 1 = 0) (h2 : x 2 - g 2 = 0) : sp_stuck ng x g = true := by simp [sp_stuck, h0, h1, h2]
theorem sp_stuck_1 {ng : Bool} {x g : Int → Int} (h0 : ng = true) (h1 : sp_most (-(x 0 - g 0)) (-(x 1 - g 1)) (-(x 2 - g 2)) = 1) : sp_stuck ng x g = true := by
  unfold sp_stuck
  rw [h0, decide_eq_true h1]
  simp
theorem sp_stuck_f {ng : Bool} {x g : Int → Int} (h0 : ¬ (x 0 - g 0 = 0 ∧ x 1 - g 1 = 0 ∧ x 2 - g 2 = 0)) (h1 : ¬ (ng = true ∧ sp_most (-(x 0 - g 0)) (-(x 1 - g 1)) (-(x 2 - g 2)) = 1)) : sp_stuck ng x g = false := by
  unfold sp_stuck
  rw [decide_eq_false h0]
  cases ng
  · rfl
  · rw [decide_eq_false (fun q => h1 ⟨rfl, q⟩)]
    rfl
set_option maxHeartbeats 4000000 in
set_option maxRecDepth 100000 in
theorem k_X7_goNear {S : mx_Sc} {f : Bool} {M : Nat → Int → Int} {L : Nat → Nat → Int64} {Rf : Nat → Nat → Option Nat} (hR : mx_rf Rf) {r : Nat} (hr9 : r < 900) (hs : mx_SH[r]? = some (0, 30)) {hf ng : Bool} (hx : ∀ o, 0 ≤ o → o < 3 → -1000 ≤ M 67 o ∧ M 67 o ≤ 1000) {g3 : Int} (hg3 : 0 ≤ g3 ∧ g3 ≤ 15) (hg : ∀ o, 0 ≤ o → o < 3 → -1000 ≤ M r (g3 + o) ∧ M r (g3 + o) ≤ 1000) (hr67 : r ≠ 67) : mx_C S mX7_goNear [.ref 48, .ref r, .int (iI g3), .int (iI (bI hf + 2 * bI ng))] (f, mx_SH, M, L, Rf) 0 0 (fun v9 h9 => h9 = (f, mx_SH, (if sp_stuck ng (M 67) (fun o => M r (g3 + o)) = true then M else va_up M 67 (sp_go1 (M 67) (fun o => M r (g3 + o)))), L, Rf) ∧ v9 = some (.int (iI (bI (!sp_stuck ng (M 67) (fun o => M r (g3 + o))))))) (fun _ _ => False) := by
  refine mx_C_of (by decide) (by simp [Value.category]) (Nat.le_of_ble_eq_true rfl) rfl ?_
  show mx_E S mX7_goNear 0 [some (.ref 48), some (.ref r), some (.int (iI g3)), some (.int (iI (bI hf + 2 * bI ng))), none, none, none, none, none] [] (f, mx_SH, M, L, Rf) 0 0 _ _
  have hbn := bI_01 ng
  have hbh := bI_01 hf
  have hx0 := hx 0 (by omega) (by omega)
  have hg0x := hg 0 (by omega) (by omega)
  have hx1 := hx 1 (by omega) (by omega)
  have hg1x := hg 1 (by omega) (by omega)
  have hx2 := hx 2 (by omega) (by omega)
  have hg2x := hg 2 (by omega) (by omega)
  rw [Int.add_zero] at hg0x
  have ez : g3 + 0 = g3 := Int.add_zero g3
  refine ms_aload_n dX7_goNear_0 rfl ?_
  refine ms_getR dX7_goNear_1 (fo_X7_89 rfl) (by first | rfl | assumption) rfl (by first | assumption | exact rf_48_30 hR ) ?_
  refine mi_iconst dX7_goNear_4 ?_
  refine ms_iald dX7_goNear_5 (by first | rfl | assumption) ?_
  refine ms_aload_n dX7_goNear_6 rfl ?_
  refine ms_iload_n dX7_goNear_7 rfl ?_
  refine ms_iald dX7_goNear_8 (by first | rfl | assumption) ?_
  refine mi_isub dX7_goNear_9 ?_
  refine ms_istore dX7_goNear_10 (by decide) rfl ?_
  dsimp only [List.set, Nat.reduceAdd]
  refine ms_aload_n dX7_goNear_12 rfl ?_
  refine ms_getR dX7_goNear_13 (fo_X7_89 rfl) (by first | rfl | assumption) rfl (by first | assumption | exact rf_48_30 hR ) ?_
  refine mi_iconst dX7_goNear_16 ?_
  refine ms_iald dX7_goNear_17 (by first | rfl | assumption) ?_
  refine ms_aload_n dX7_goNear_18 rfl ?_
  refine ms_iload_n dX7_goNear_19 rfl ?_
  refine mi_iconst dX7_goNear_20 ?_
  refine mi_iadd dX7_goNear_21 ?_
  refine ms_iald dX7_goNear_22 (by first | rfl | assumption) ?_
  refine mi_isub dX7_goNear_23 ?_
  refine ms_istore dX7_goNear_24 (by decide) rfl ?_
  dsimp only [List.set, Nat.reduceAdd]
  refine ms_aload_n dX7_goNear_26 rfl ?_
  refine ms_getR dX7_goNear_27 (fo_X7_89 rfl) (by first | rfl | assumption) rfl (by first | assumption | exact rf_48_30 hR ) ?_
  refine mi_iconst dX7_goNear_30 ?_
  refine ms_iald dX7_goNear_31 (by first | rfl | assumption) ?_
  refine ms_aload_n dX7_goNear_32 rfl ?_
  refine ms_iload_n dX7_goNear_33 rfl ?_
  refine mi_iconst dX7_goNear_34 ?_
  refine mi_iadd dX7_goNear_35 ?_
  refine ms_iald dX7_goNear_36 (by first | rfl | assumption) ?_
  refine mi_isub dX7_goNear_37 ?_
  refine ms_istore dX7_goNear_38 (by decide) rfl ?_
  dsimp only [List.set, Nat.reduceAdd]
  refine ms_iload dX7_goNear_40 rfl ?_
  refine ms_iload dX7_goNear_42 rfl ?_
  refine ms_iload dX7_goNear_44 rfl ?_
  refine ms_callS3 dX7_goNear_46 cv_X7_goNear_X7_mostOf (k_X7_mostOf (by omega) (by omega) (by omega)) (Nat.le_of_ble_eq_true rfl) rfl (fun _ _ z => z.elim) (fun v9 h9 hp9 => ?_)
  obtain ⟨rfl, rfl⟩ := hp9
  refine ms_istore dX7_goNear_49 (by decide) rfl ?_
  dsimp only [List.set, Nat.reduceAdd]
  refine ms_iload dX7_goNear_51 rfl ?_
  refine mi_ineg dX7_goNear_53 ?_
  refine ms_iload dX7_goNear_54 rfl ?_
  refine mi_ineg dX7_goNear_56 ?_
  refine ms_iload dX7_goNear_57 rfl ?_
  refine mi_ineg dX7_goNear_59 ?_
  refine ms_callS3 dX7_goNear_60 cv_X7_goNear_X7_mostOf (k_X7_mostOf (by omega) (by omega) (by omega)) (Nat.le_of_ble_eq_true rfl) rfl (fun _ _ z => z.elim) (fun v9 h9 hp9 => ?_)
  obtain ⟨rfl, rfl⟩ := hp9
  have m1 := sp_most_rng (M 67 0 - M r (g3)) (M 67 1 - M r (g3 + 1)) (M 67 2 - M r (g3 + 2))
  have m2 := sp_most_rng (-(M 67 0 - M r (g3))) (-(M 67 1 - M r (g3 + 1))) (-(M 67 2 - M r (g3 + 2)))
  refine ms_istore dX7_goNear_63 (by decide) rfl ?_
  dsimp only [List.set, Nat.reduceAdd]
  refine ms_iload dX7_goNear_65 rfl ?_
  refine mi_if_ne (tgt := 80) dX7_goNear_67 (by decide) (fun c_67 => ?_) (fun c_67 => ?_)
  · refine ms_iload_n dX7_goNear_80 rfl ?_
    refine mi_iconst dX7_goNear_81 ?_
    refine mi_iand (2 * bI ng) dX7_goNear_82 (by cases hf <;> cases ng <;> decide) ?_
    refine mi_if_eq (tgt := 94) dX7_goNear_83 (by decide) (fun c_83 => ?_) (fun c_83 => ?_)
    · refine ms_aload_n dX7_goNear_94 rfl ?_
      refine ms_getR dX7_goNear_95 (fo_X7_89 rfl) (by first | rfl | assumption) rfl (by first | assumption | exact rf_48_30 hR ) ?_
      refine ms_iload dX7_goNear_98 rfl ?_
      refine ms_dup2 dX7_goNear_100 rfl rfl ?_
      refine ms_iald dX7_goNear_101 (by first | rfl | assumption) ?_
      refine mi_iconst dX7_goNear_102 ?_
      refine mi_isub dX7_goNear_103 ?_
      refine ms_iast dX7_goNear_104 (by first | rfl | assumption) ?_
      refine ms_aload_n dX7_goNear_105 rfl ?_
      refine ms_getR dX7_goNear_106 (fo_X7_89 rfl) (by first | rfl | assumption) rfl (by first | assumption | exact rf_48_30 hR ) ?_
      refine ms_iload dX7_goNear_109 rfl ?_
      refine ms_dup2 dX7_goNear_111 rfl rfl ?_
      refine ms_iald dX7_goNear_112 (by first | rfl | assumption) ?_
      refine mi_iconst dX7_goNear_113 ?_
      refine mi_iadd dX7_goNear_114 ?_
      refine ms_iast dX7_goNear_115 (by first | rfl | assumption) ?_
      refine mi_iconst dX7_goNear_116 ?_
      refine ms_retZ dX7_goNear_117 rfl (by first | exact Or.inl rfl | exact Or.inr rfl) (by rw [show sp_stuck ng (M 67) (fun o => M r (g3 + o)) = false from sp_stuck_f (g := (fun o => M r (g3 + o))) (by simp only [ez]; omega) (by simp only [ez]; rintro ⟨z1, z2⟩; first | exact absurd z2 c_89 | (rw [z1] at c_83; simp [bI] at c_83))]; exact ⟨by rw [if_neg (by decide)]; simp only [sp_go1, sp_pour, ez, up_s]; rw [bx_uu], rfl⟩) (by simp)
    · refine ms_iload dX7_goNear_86 rfl ?_
      refine mi_iconst dX7_goNear_88 ?_
      refine mi_icmp_ne (tgt := 94) dX7_goNear_89 (by decide) (fun c_89 => ?_) (fun c_89 => ?_)
      · refine ms_aload_n dX7_goNear_94 rfl ?_
        refine ms_getR dX7_goNear_95 (fo_X7_89 rfl) (by first | rfl | assumption) rfl (by first | assumption | exact rf_48_30 hR ) ?_
        refine ms_iload dX7_goNear_98 rfl ?_
        refine ms_dup2 dX7_goNear_100 rfl rfl ?_
        refine ms_iald dX7_goNear_101 (by first | rfl | assumption) ?_
        refine mi_iconst dX7_goNear_102 ?_
        refine mi_isub dX7_goNear_103 ?_
        refine ms_iast dX7_goNear_104 (by first | rfl | assumption) ?_
        refine ms_aload_n dX7_goNear_105 rfl ?_
        refine ms_getR dX7_goNear_106 (fo_X7_89 rfl) (by first | rfl | assumption) rfl (by first | assumption | exact rf_48_30 hR ) ?_
        refine ms_iload dX7_goNear_109 rfl ?_
        refine ms_dup2 dX7_goNear_111 rfl rfl ?_
        refine ms_iald dX7_goNear_112 (by first | rfl | assumption) ?_
        refine mi_iconst dX7_goNear_113 ?_
        refine mi_iadd dX7_goNear_114 ?_
        refine ms_iast dX7_goNear_115 (by first | rfl | assumption) ?_
        refine mi_iconst dX7_goNear_116 ?_
        refine ms_retZ dX7_goNear_117 rfl (by first | exact Or.inl rfl | exact Or.inr rfl) (by rw [show sp_stuck ng (M 67) (fun o => M r (g3 + o)) = false from sp_stuck_f (g := (fun o => M r (g3 + o))) (by simp only [ez]; omega) (by simp only [ez]; rintro ⟨z1, z2⟩; first | exact absurd z2 c_89 | (rw [z1] at c_83; simp [bI] at c_83))]; exact ⟨by rw [if_neg (by decide)]; simp only [sp_go1, sp_pour, ez, up_s]; rw [bx_uu], rfl⟩) (by simp)
      · refine mi_iconst dX7_goNear_92 ?_
        refine ms_retZ dX7_goNear_93 rfl (by first | exact Or.inl rfl | exact Or.inr rfl) (by rw [show sp_stuck ng (M 67) (fun o => M r (g3 + o)) = true from by first | exact sp_stuck_0 (by simp only [ez]; assumption) (by assumption) (by assumption) | exact sp_stuck_1 (by cases ng; exact absurd rfl c_83; rfl) (by simp only [ez]; assumption)]; exact ⟨by rw [if_pos rfl], rfl⟩) (by simp)
  · refine ms_iload dX7_goNear_70 rfl ?_
    refine mi_if_ne (tgt := 80) dX7_goNear_72 (by decide) (fun c_72 => ?_) (fun c_72 => ?_)
    · refine ms_iload_n dX7_goNear_80 rfl ?_
      refine mi_iconst dX7_goNear_81 ?_
      refine mi_iand (2 * bI ng) dX7_goNear_82 (by cases hf <;> cases ng <;> decide) ?_
      refine mi_if_eq (tgt := 94) dX7_goNear_83 (by decide) (fun c_83 => ?_) (fun c_83 => ?_)
      · refine ms_aload_n dX7_goNear_94 rfl ?_
        refine ms_getR dX7_goNear_95 (fo_X7_89 rfl) (by first | rfl | assumption) rfl (by first | assumption | exact rf_48_30 hR ) ?_
        refine ms_iload dX7_goNear_98 rfl ?_
        refine ms_dup2 dX7_goNear_100 rfl rfl ?_
        refine ms_iald dX7_goNear_101 (by first | rfl | assumption) ?_
        refine mi_iconst dX7_goNear_102 ?_
        refine mi_isub dX7_goNear_103 ?_
        refine ms_iast dX7_goNear_104 (by first | rfl | assumption) ?_
        refine ms_aload_n dX7_goNear_105 rfl ?_
        refine ms_getR dX7_goNear_106 (fo_X7_89 rfl) (by first | rfl | assumption) rfl (by first | assumption | exact rf_48_30 hR ) ?_
        refine ms_iload dX7_goNear_109 rfl ?_
        refine ms_dup2 dX7_goNear_111 rfl rfl ?_
        refine ms_iald dX7_goNear_112 (by first | rfl | assumption) ?_
        refine mi_iconst dX7_goNear_113 ?_
        refine mi_iadd dX7_goNear_114 ?_
        refine ms_iast dX7_goNear_115 (by first | rfl | assumption) ?_
        refine mi_iconst dX7_goNear_116 ?_
        refine ms_retZ dX7_goNear_117 rfl (by first | exact Or.inl rfl | exact Or.inr rfl) (by rw [show sp_stuck ng (M 67) (fun o => M r (g3 + o)) = false from sp_stuck_f (g := (fun o => M r (g3 + o))) (by simp only [ez]; omega) (by simp only [ez]; rintro ⟨z1, z2⟩; first | exact absurd z2 c_89 | (rw [z1] at c_83; simp [bI] at c_83))]; exact ⟨by rw [if_neg (by decide)]; simp only [sp_go1, sp_pour, ez, up_s]; rw [bx_uu], rfl⟩) (by simp)
      · refine ms_iload dX7_goNear_86 rfl ?_
        refine mi_iconst dX7_goNear_88 ?_
        refine mi_icmp_ne (tgt := 94) dX7_goNear_89 (by decide) (fun c_89 => ?_) (fun c_89 => ?_)
        · refine ms_aload_n dX7_goNear_94 rfl ?_
          refine ms_getR dX7_goNear_95 (fo_X7_89 rfl) (by first | rfl | assumption) rfl (by first | assumption | exact rf_48_30 hR ) ?_
          refine ms_iload dX7_goNear_98 rfl ?_
          refine ms_dup2 dX7_goNear_100 rfl rfl ?_
          refine ms_iald dX7_goNear_101 (by first | rfl | assumption) ?_
          refine mi_iconst dX7_goNear_102 ?_
          refine mi_isub dX7_goNear_103 ?_
          refine ms_iast dX7_goNear_104 (by first | rfl | assumption) ?_
          refine ms_aload_n dX7_goNear_105 rfl ?_
          refine ms_getR dX7_goNear_106 (fo_X7_89 rfl) (by first | rfl | assumption) rfl (by first | assumption | exact rf_48_30 hR ) ?_
          refine ms_iload dX7_goNear_109 rfl ?_
          refine ms_dup2 dX7_goNear_111 rfl rfl ?_
          refine ms_iald dX7_goNear_112 (by first | rfl | assumption) ?_
          refine mi_iconst dX7_goNear_113 ?_
          refine mi_iadd dX7_goNear_114 ?_
          refine ms_iast dX7_goNear_115 (by first | rfl | assumption) ?_
          refine mi_iconst dX7_goNear_116 ?_
          refine ms_retZ dX7_goNear_117 rfl (by first | exact Or.inl rfl | exact Or.inr rfl) (by rw [show sp_stuck ng (M 67) (fun o => M r (g3 + o)) = false from sp_stuck_f (g := (fun o => M r (g3 + o))) (by simp only [ez]; omega) (by simp only [ez]; rintro ⟨z1, z2⟩; first | exact absurd z2 c_89 | (rw [z1] at c_83; simp [bI] at c_83))]; exact ⟨by rw [if_neg (by decide)]; simp only [sp_go1, sp_pour, ez, up_s]; rw [bx_uu], rfl⟩) (by simp)
        · refine mi_iconst dX7_goNear_92 ?_
          refine ms_retZ dX7_goNear_93 rfl (by first | exact Or.inl rfl | exact Or.inr rfl) (by rw [show sp_stuck ng (M 67) (fun o => M r (g3 + o)) = true from by first | exact sp_stuck_0 (by simp only [ez]; assumption) (by assumption) (by assumption) | exact sp_stuck_1 (by cases ng; exact absurd rfl c_83; rfl) (by simp only [ez]; assumption)]; exact ⟨by rw [if_pos rfl], rfl⟩) (by simp)
    · refine ms_iload dX7_goNear_75 rfl ?_
      refine mi_if_eq (tgt := 92) dX7_goNear_77 (by decide) (fun c_77 => ?_) (fun c_77 => ?_)
      · refine mi_iconst dX7_goNear_92 ?_
        refine ms_retZ dX7_goNear_93 rfl (by first | exact Or.inl rfl | exact Or.inr rfl) (by rw [show sp_stuck ng (M 67) (fun o => M r (g3 + o)) = true from by first | exact sp_stuck_0 (by simp only [ez]; assumption) (by assumption) (by assumption) | exact sp_stuck_1 (by cases ng; exact absurd rfl c_83; rfl) (by simp only [ez]; assumption)]; exact ⟨by rw [if_pos rfl], rfl⟩) (by simp)
      · refine ms_iload_n dX7_goNear_80 rfl ?_
        refine mi_iconst dX7_goNear_81 ?_
        refine mi_iand (2 * bI ng) dX7_goNear_82 (by cases hf <;> cases ng <;> decide) ?_
        refine mi_if_eq (tgt := 94) dX7_goNear_83 (by decide) (fun c_83 => ?_) (fun c_83 => ?_)
        · refine ms_aload_n dX7_goNear_94 rfl ?_
          refine ms_getR dX7_goNear_95 (fo_X7_89 rfl) (by first | rfl | assumption) rfl (by first | assumption | exact rf_48_30 hR ) ?_
          refine ms_iload dX7_goNear_98 rfl ?_
          refine ms_dup2 dX7_goNear_100 rfl rfl ?_
          refine ms_iald dX7_goNear_101 (by first | rfl | assumption) ?_
          refine mi_iconst dX7_goNear_102 ?_
          refine mi_isub dX7_goNear_103 ?_
          refine ms_iast dX7_goNear_104 (by first | rfl | assumption) ?_
          refine ms_aload_n dX7_goNear_105 rfl ?_
          refine ms_getR dX7_goNear_106 (fo_X7_89 rfl) (by first | rfl | assumption) rfl (by first | assumption | exact rf_48_30 hR ) ?_
          refine ms_iload dX7_goNear_109 rfl ?_
          refine ms_dup2 dX7_goNear_111 rfl rfl ?_
          refine ms_iald dX7_goNear_112 (by first | rfl | assumption) ?_
          refine mi_iconst dX7_goNear_113 ?_
          refine mi_iadd dX7_goNear_114 ?_
          refine ms_iast dX7_goNear_115 (by first | rfl | assumption) ?_
          refine mi_iconst dX7_goNear_116 ?_
          refine ms_retZ dX7_goNear_117 rfl (by first | exact Or.inl rfl | exact Or.inr rfl) (by rw [show sp_stuck ng (M 67) (fun o => M r (g3 + o)) = false from sp_stuck_f (g := (fun o => M r (g3 + o))) (by simp only [ez]; omega) (by simp only [ez]; rintro ⟨z1, z2⟩; first | exact absurd z2 c_89 | (rw [z1] at c_83; simp [bI] at c_83))]; exact ⟨by rw [if_neg (by decide)]; simp only [sp_go1, sp_pour, ez, up_s]; rw [bx_uu], rfl⟩) (by simp)
        · refine ms_iload dX7_goNear_86 rfl ?_
          refine mi_iconst dX7_goNear_88 ?_
          refine mi_icmp_ne (tgt := 94) dX7_goNear_89 (by decide) (fun c_89 => ?_) (fun c_89 => ?_)
          · refine ms_aload_n dX7_goNear_94 rfl ?_
            refine ms_getR dX7_goNear_95 (fo_X7_89 rfl) (by first | rfl | assumption) rfl (by first | assumption | exact rf_48_30 hR ) ?_
            refine ms_iload dX7_goNear_98 rfl ?_
            refine ms_dup2 dX7_goNear_100 rfl rfl ?_
            refine ms_iald dX7_goNear_101 (by first | rfl | assumption) ?_
            refine mi_iconst dX7_goNear_102 ?_
            refine mi_isub dX7_goNear_103 ?_
            refine ms_iast dX7_goNear_104 (by first | rfl | assumption) ?_
            refine ms_aload_n dX7_goNear_105 rfl ?_
            refine ms_getR dX7_goNear_106 (fo_X7_89 rfl) (by first | rfl | assumption) rfl (by first | assumption | exact rf_48_30 hR ) ?_
            refine ms_iload dX7_goNear_109 rfl ?_
            refine ms_dup2 dX7_goNear_111 rfl rfl ?_
            refine ms_iald dX7_goNear_112 (by first | rfl | assumption) ?_
            refine mi_iconst dX7_goNear_113 ?_
            refine mi_iadd dX7_goNear_114 ?_
            refine ms_iast dX7_goNear_115 (by first | rfl | assumption) ?_
            refine mi_iconst dX7_goNear_116 ?_
            refine ms_retZ dX7_goNear_117 rfl (by first | exact Or.inl rfl | exact Or.inr rfl) (by rw [show sp_stuck ng (M 67) (fun o => M r (g3 + o)) = false from sp_stuck_f (g := (fun o => M r (g3 + o))) (by simp only [ez]; omega) (by simp only [ez]; rintro ⟨z1, z2⟩; first | exact absurd z2 c_89 | (rw [z1] at c_83; simp [bI] at c_83))]; exact ⟨by rw [if_neg (by decide)]; simp only [sp_go1, sp_pour, ez, up_s]; rw [bx_uu], rfl⟩) (by simp)
          · refine mi_iconst dX7_goNear_92 ?_
            refine ms_retZ dX7_goNear_93 rfl (by first | exact Or.inl rfl | exact Or.inr rfl) (by rw [show sp_stuck ng (M 67) (fun o => M r (g3 + o)) = true from by first | exact sp_stuck_0 (by simp only [ez]; assumption) (by assumption) (by assumption) | exact sp_stuck_1 (by cases ng; exact absurd rfl c_83; rfl) (by simp only [ez]; assumption)]; exact ⟨by rw [if_pos rfl], rfl⟩) (by simp)

section MXG
variable {S : mx_Sc} {μ : mx_M} {pc : Nat} {ls : List (Option Value)} {st : List Value} {bc bs : Nat} {P : Option Value → mx_H → Prop} {PX : String → mx_H → Prop}
variable {f : Bool} {sh : List (Nat × Nat)} {M : Nat → Int → Int} {L : Nat → Nat → Int64} {Rf : Nat → Nat → Option Nat}
/-- what is known of the ints, and no more -/
theorem mx_gen (Φ : (Nat → Int → Int) → Prop) (hΦ : Φ M) (k : ∀ N, Φ N → mx_E S μ pc ls st (f, sh, N, L, Rf) bc bs P PX) : mx_E S μ pc ls st (f, sh, M, L, Rf) bc bs P PX := k M hΦ
end MXG
theorem up_id {α : Type} (M : Nat → α) (a : Nat) : va_up M a (M a) = M := by
  funext x
  by_cases h : x = a <;> simp [va_up, h]
theorem up_c {α : Type} {M N : Nat → α} {a : Nat} (g : α) (h : ∀ x, x ≠ a → N x = M x) : va_up N a g = va_up M a g := by
  funext x
  by_cases hx : x = a
  · simp [va_up, hx]
  · simp [va_up, hx, h x hx]
/-- behind the going: the drunk one's part -/
def sp_dk (t : sp_T) (ng : Bool) (l : Int) (x : Int → Int) : Int → Int := (if t.2.1 l = 3 then sp_drunk ng else fun x => x) x
theorem e3.dk {x y : Int → Int} (h : e3 x y) (t : sp_T) (ng : Bool) (l : Int) : e3 (sp_dk t ng l x) (sp_dk t ng l y) := by
  unfold sp_dk
  split
  · exact h.drunk ng
  · exact h

set_option maxHeartbeats 4000000 in
set_option maxRecDepth 100000 in
theorem l_X7_moveC {S : mx_Sc} {f : Bool} {M : Nat → Int → Int} {L : Nat → Nat → Int64} {Rf : Nat → Nat → Option Nat} (hR : mx_rf Rf) (hT : sp_tok (sp_tR M)) {r : Nat} (hr9 : r < 900) (hs : mx_SH[r]? = some (0, 30)) {hf ng : Bool} {n l : Int} (hn : 0 ≤ n ∧ n ≤ 5000) (hl : 0 ≤ l ∧ l < M 53 1) {w : Int} (hw : -1 ≤ w ∧ w < M 53 1) (hr67 : r ≠ 67) (hx : s3 (M 53 0) (M 67)) {to2 s2 k2 : Int} : mx_E S mX7_moveOne 136 [some (.ref 48), some (.ref r), some (.int (iI n)), some (.int (iI l)), some (.int (iI w)), some (.int (iI (bI hf + 2 * bI ng))), some (.int (iI to2)), some (.int (iI s2)), some (.int (iI k2))] [] (f, mx_SH, M, L, Rf) 0 0 (fun v9 h9 => (∃ g, h9 = (f, mx_SH, va_up M 67 g, L, Rf) ∧ e3 g (sp_dk (sp_tR M) ng l (M 67))) ∧ v9 = none) (fun _ _ => False) := by
  have hT0 : 1 ≤ M 53 0 ∧ M 53 0 ≤ 30 := hT.1
  have hT1 : 0 ≤ M 53 1 ∧ M 53 1 ≤ 6 := hT.2.1
  have hT2 : 1 ≤ M 53 2 ∧ M 53 2 ≤ 9 := hT.2.2.1
  have hT3 : 0 ≤ M 53 3 ∧ M 53 3 ≤ 9 := hT.2.2.2.1
  have hT4 : 0 ≤ M 53 4 ∧ M 53 4 ≤ 9 := hT.2.2.2.2.1
  have hT5 : 1 ≤ M 53 5 ∧ M 53 5 ≤ 99 := hT.2.2.2.2.2.1
  have hT6 : 0 ≤ M 53 6 ∧ M 53 6 ≤ 10 := hT.2.2.2.2.2.2.1
  have hbn := bI_01 ng
  have hbh := bI_01 hf
  have hkl : 0 ≤ M 54 l ∧ M 54 l ≤ 4 := (hT.2.2.2.2.2.2.2.1 l (by omega) (by show l < M 53 1; omega)).1
  have hx1 : 0 ≤ M 67 0 ∧ 0 ≤ M 67 1 ∧ 0 ≤ M 67 2 ∧ M 67 0 + M 67 1 + M 67 2 = M 53 0 := hx
  have m1 := sp_most_rng (M 67 0) (M 67 1) (M 67 2)
  refine ms_aload_n dX7_moveOne_136 rfl ?_
  refine ms_getR dX7_moveOne_137 (fo_X7_46 rfl) (by first | rfl | assumption) rfl (by first | assumption | exact rf_48_6 hR ) ?_
  refine ms_iload_n dX7_moveOne_140 rfl ?_
  refine ms_iald dX7_moveOne_141 (by first | rfl | assumption) ?_
  refine mi_iconst dX7_moveOne_142 ?_
  refine mi_icmp_eq (tgt := 147) dX7_moveOne_143 (by decide) (fun c_143 => ?_) (fun c_143 => ?_)
  · refine ms_aload_n dX7_moveOne_147 rfl ?_
    refine ms_getR dX7_moveOne_148 (fo_X7_89 rfl) (by first | rfl | assumption) rfl (by first | assumption | exact rf_48_30 hR ) ?_
    refine mi_iconst dX7_moveOne_151 ?_
    refine ms_iald dX7_moveOne_152 (by first | rfl | assumption) ?_
    refine ms_aload_n dX7_moveOne_153 rfl ?_
    refine ms_getR dX7_moveOne_154 (fo_X7_89 rfl) (by first | rfl | assumption) rfl (by first | assumption | exact rf_48_30 hR ) ?_
    refine mi_iconst dX7_moveOne_157 ?_
    refine ms_iald dX7_moveOne_158 (by first | rfl | assumption) ?_
    refine ms_aload_n dX7_moveOne_159 rfl ?_
    refine ms_getR dX7_moveOne_160 (fo_X7_89 rfl) (by first | rfl | assumption) rfl (by first | assumption | exact rf_48_30 hR ) ?_
    refine mi_iconst dX7_moveOne_163 ?_
    refine ms_iald dX7_moveOne_164 (by first | rfl | assumption) ?_
    refine ms_callS3 dX7_moveOne_165 cv_X7_moveOne_X7_mostOf (k_X7_mostOf (by omega) (by omega) (by omega)) (Nat.le_of_ble_eq_true rfl) rfl (fun _ _ z => z.elim) (fun v9 h9 hp9 => ?_)
    obtain ⟨rfl, rfl⟩ := hp9
    refine ms_istore dX7_moveOne_168 (by decide) rfl ?_
    dsimp only [List.set, Nat.reduceAdd]
    refine ms_iload dX7_moveOne_170 rfl ?_
    refine mi_iconst dX7_moveOne_172 ?_
    refine mi_iand (2 * bI ng) dX7_moveOne_173 (by cases hf <;> cases ng <;> decide) ?_
    refine mi_if_eq (tgt := 183) dX7_moveOne_174 (by decide) (fun c_174 => ?_) (fun c_174 => ?_)
    · refine ms_aload_n dX7_moveOne_183 rfl ?_
      refine ms_getR dX7_moveOne_184 (fo_X7_89 rfl) (by first | rfl | assumption) rfl (by first | assumption | exact rf_48_30 hR ) ?_
      refine ms_iload dX7_moveOne_187 rfl ?_
      refine ms_dup2 dX7_moveOne_189 rfl rfl ?_
      refine ms_iald dX7_moveOne_190 (by first | rfl | assumption) ?_
      refine mi_iconst dX7_moveOne_191 ?_
      refine mi_isub dX7_moveOne_192 ?_
      refine ms_iast dX7_moveOne_193 (by first | rfl | assumption) ?_
      refine ms_aload_n dX7_moveOne_194 rfl ?_
      refine ms_getR dX7_moveOne_195 (fo_X7_89 rfl) (by first | rfl | assumption) rfl (by first | assumption | exact rf_48_30 hR ) ?_
      refine ms_iload dX7_moveOne_198 rfl ?_
      refine mi_iconst dX7_moveOne_200 ?_
      refine mi_iadd dX7_moveOne_201 ?_
      refine mi_iconst dX7_moveOne_202 ?_
      refine mi_irem dX7_moveOne_203 ?_
      refine ms_dup2 dX7_moveOne_204 rfl rfl ?_
      refine ms_iald dX7_moveOne_205 (by first | rfl | assumption) ?_
      refine mi_iconst dX7_moveOne_206 ?_
      refine mi_iadd dX7_moveOne_207 ?_
      refine ms_iast dX7_moveOne_208 (by first | rfl | assumption) ?_
      refine ms_retV dX7_moveOne_209 rfl ⟨⟨sp_pour (M 67) (sp_most (M 67 0) (M 67 1) (M 67 2)) ((sp_most (M 67 0) (M 67 1) (M 67 2) + 1) % 3), by simp only [sp_pour, up_s]; rw [bx_uu], by simp only [sp_dk]; rw [if_pos c_143]; unfold sp_drunk; rw [if_neg (by rintro ⟨z1, z2⟩; first | exact absurd z2 c_179 | (rw [z1] at c_174; simp [bI] at c_174))]; exact e3.rf _⟩, rfl⟩ (by simp)
    · refine ms_iload dX7_moveOne_177 rfl ?_
      refine mi_if_ne (tgt := 183) dX7_moveOne_179 (by decide) (fun c_179 => ?_) (fun c_179 => ?_)
      · refine ms_aload_n dX7_moveOne_183 rfl ?_
        refine ms_getR dX7_moveOne_184 (fo_X7_89 rfl) (by first | rfl | assumption) rfl (by first | assumption | exact rf_48_30 hR ) ?_
        refine ms_iload dX7_moveOne_187 rfl ?_
        refine ms_dup2 dX7_moveOne_189 rfl rfl ?_
        refine ms_iald dX7_moveOne_190 (by first | rfl | assumption) ?_
        refine mi_iconst dX7_moveOne_191 ?_
        refine mi_isub dX7_moveOne_192 ?_
        refine ms_iast dX7_moveOne_193 (by first | rfl | assumption) ?_
        refine ms_aload_n dX7_moveOne_194 rfl ?_
        refine ms_getR dX7_moveOne_195 (fo_X7_89 rfl) (by first | rfl | assumption) rfl (by first | assumption | exact rf_48_30 hR ) ?_
        refine ms_iload dX7_moveOne_198 rfl ?_
        refine mi_iconst dX7_moveOne_200 ?_
        refine mi_iadd dX7_moveOne_201 ?_
        refine mi_iconst dX7_moveOne_202 ?_
        refine mi_irem dX7_moveOne_203 ?_
        refine ms_dup2 dX7_moveOne_204 rfl rfl ?_
        refine ms_iald dX7_moveOne_205 (by first | rfl | assumption) ?_
        refine mi_iconst dX7_moveOne_206 ?_
        refine mi_iadd dX7_moveOne_207 ?_
        refine ms_iast dX7_moveOne_208 (by first | rfl | assumption) ?_
        refine ms_retV dX7_moveOne_209 rfl ⟨⟨sp_pour (M 67) (sp_most (M 67 0) (M 67 1) (M 67 2)) ((sp_most (M 67 0) (M 67 1) (M 67 2) + 1) % 3), by simp only [sp_pour, up_s]; rw [bx_uu], by simp only [sp_dk]; rw [if_pos c_143]; unfold sp_drunk; rw [if_neg (by rintro ⟨z1, z2⟩; first | exact absurd z2 c_179 | (rw [z1] at c_174; simp [bI] at c_174))]; exact e3.rf _⟩, rfl⟩ (by simp)
      · refine ms_retV dX7_moveOne_182 rfl ⟨⟨M 67, by rw [up_id], by simp only [sp_dk]; rw [if_pos c_143]; unfold sp_drunk; rw [if_pos ⟨by cases ng; exact absurd rfl c_174; rfl, c_179⟩]; exact e3.rf _⟩, rfl⟩ (by simp)
  · refine ms_retV dX7_moveOne_146 rfl ⟨⟨M 67, by rw [up_id], by simp only [sp_dk]; rw [if_neg c_143]; exact e3.rf _⟩, rfl⟩ (by simp)

set_option maxHeartbeats 4000000 in
set_option maxRecDepth 100000 in
theorem l_X7_moveL {S : mx_Sc} {f : Bool} {M : Nat → Int → Int} {L : Nat → Nat → Int64} {Rf : Nat → Nat → Option Nat} (hR : mx_rf Rf) (hT : sp_tok (sp_tR M)) {r : Nat} (hr9 : r < 900) (hs : mx_SH[r]? = some (0, 30)) {hf ng : Bool} {n l : Int} (hn : 0 ≤ n ∧ n ≤ 5000) (hl : 0 ≤ l ∧ l < M 53 1) {w : Int} (hw : -1 ≤ w ∧ w < M 53 1) (hr67 : r ≠ 67) {P : Option Value → mx_H → Prop} {PX : String → mx_H → Prop} {to s2 : Int} (hto : 0 ≤ to ∧ to < M 53 1) (hg : s3 (M 53 0) (fun o => M r (3 * to + o))) : ∀ (kk : Nat) (x : Int → Int) (N : Nat → Int → Int), kk ≤ 100 → (∀ x, x ≠ 67 → N x = M x) → e3 (N 67) x → s3 (M 53 0) x → (∀ (N : Nat → Int → Int) (to2 k2 : Int), (∀ x, x ≠ 67 → N x = M x) → e3 (N 67) (sp_go ng (fun o => M r (3 * to + o)) kk x) → mx_E S mX7_moveOne 136 [some (.ref 48), some (.ref r), some (.int (iI n)), some (.int (iI l)), some (.int (iI w)), some (.int (iI (bI hf + 2 * bI ng))), some (.int (iI to2)), some (.int (iI s2)), some (.int (iI k2))] [] (f, mx_SH, N, L, Rf) 0 0 P PX) → mx_E S mX7_moveOne 102 [some (.ref 48), some (.ref r), some (.int (iI n)), some (.int (iI l)), some (.int (iI w)), some (.int (iI (bI hf + 2 * bI ng))), some (.int (iI to)), some (.int (iI s2)), some (.int (iI (kk : Int)))] [] (f, mx_SH, N, L, Rf) 0 0 P PX := by
  intro kk
  induction kk with
  | zero => 
    intro x N gk q1 q2 hx hK
    have hT0 : 1 ≤ M 53 0 ∧ M 53 0 ≤ 30 := hT.1
    have hT1 : 0 ≤ M 53 1 ∧ M 53 1 ≤ 6 := hT.2.1
    have hT2 : 1 ≤ M 53 2 ∧ M 53 2 ≤ 9 := hT.2.2.1
    have hT3 : 0 ≤ M 53 3 ∧ M 53 3 ≤ 9 := hT.2.2.2.1
    have hT4 : 0 ≤ M 53 4 ∧ M 53 4 ≤ 9 := hT.2.2.2.2.1
    have hT5 : 1 ≤ M 53 5 ∧ M 53 5 ≤ 99 := hT.2.2.2.2.2.1
    have hT6 : 0 ≤ M 53 6 ∧ M 53 6 ≤ 10 := hT.2.2.2.2.2.2.1
    have hbn := bI_01 ng
    have hbh := bI_01 hf
    refine ms_iload dX7_moveOne_102 rfl ?_
    refine mi_if_le (tgt := 136) dX7_moveOne_104 (by decide) (fun c_104 => ?_) (fun c_104 => ?_)
    · exact hK N _ _ q1 q2
    · exact absurd c_104 (by omega)
  | succ kk ih => 
    intro x N gk q1 q2 hx hK
    have hT0 : 1 ≤ M 53 0 ∧ M 53 0 ≤ 30 := hT.1
    have hT1 : 0 ≤ M 53 1 ∧ M 53 1 ≤ 6 := hT.2.1
    have hT2 : 1 ≤ M 53 2 ∧ M 53 2 ≤ 9 := hT.2.2.1
    have hT3 : 0 ≤ M 53 3 ∧ M 53 3 ≤ 9 := hT.2.2.2.1
    have hT4 : 0 ≤ M 53 4 ∧ M 53 4 ≤ 9 := hT.2.2.2.2.1
    have hT5 : 1 ≤ M 53 5 ∧ M 53 5 ≤ 99 := hT.2.2.2.2.2.1
    have hT6 : 0 ≤ M 53 6 ∧ M 53 6 ≤ 10 := hT.2.2.2.2.2.2.1
    have hbn := bI_01 ng
    have hbh := bI_01 hf
    have hxx : 0 ≤ x 0 ∧ 0 ≤ x 1 ∧ 0 ≤ x 2 ∧ x 0 + x 1 + x 2 = M 53 0 := hx
    have hgg : 0 ≤ M r (3 * to + 0) ∧ 0 ≤ M r (3 * to + 1) ∧ 0 ≤ M r (3 * to + 2) ∧ M r (3 * to + 0) + M r (3 * to + 1) + M r (3 * to + 2) = M 53 0 := hg
    have hNr : N r = M r := q1 r hr67
    have e0 := q2.1
    have e1 := q2.2.1
    have e2 := q2.2.2
    refine ms_iload dX7_moveOne_102 rfl ?_
    refine mi_if_le (tgt := 136) dX7_moveOne_104 (by decide) (fun c_104 => ?_) (fun c_104 => ?_)
    · exact absurd c_104 (by omega)
    · refine ms_iload dX7_moveOne_107 rfl ?_
      refine mi_iconst dX7_moveOne_109 ?_
      refine mi_icmp_eq (tgt := 136) dX7_moveOne_110 (by decide) (fun c_110 => ?_) (fun c_110 => ?_)
      · exact absurd c_110 (by omega)
      · refine ms_aload_n dX7_moveOne_113 rfl ?_
        refine ms_aload_n dX7_moveOne_114 rfl ?_
        refine mi_iconst dX7_moveOne_115 ?_
        refine ms_iload dX7_moveOne_116 rfl ?_
        refine mi_imul dX7_moveOne_118 ?_
        refine ms_iload dX7_moveOne_119 rfl ?_
        refine ms_callV3 (ci := 7) (r := (RX7, TX7, 48)) dX7_moveOne_121 cv_X7_moveOne_X7_goNear (k_X7_goNear (M := N) hR hr9 hs (g3 := 3 * to) (fun o o0 o1 => by rcases (show o = 0 ∨ o = 1 ∨ o = 2 by omega) with rfl | rfl | rfl <;> omega) (by omega) (fun o o0 o1 => by rw [hNr]; rcases (show o = 0 ∨ o = 1 ∨ o = 2 by omega) with rfl | rfl | rfl <;> omega) hr67) rfl rfl (by first | rfl | assumption) (Nat.le_of_ble_eq_true rfl) rfl (fun _ _ z => z.elim) (fun v9 h9 hp9 => ?_)
        obtain ⟨rfl, rfl⟩ := hp9
        simp only [hNr]
        refine mi_if_neB (tgt := 130) dX7_moveOne_124 (by decide) (fun c_124 => ?_) (fun c_124 => ?_)
        · have hst : sp_stuck ng (N 67) (fun o => M r (3 * to + o)) = false := by simpa using c_124
          rw [if_neg (by rw [hst]; decide)]
          refine mi_iinc dX7_moveOne_130 rfl (by decide) rfl ?_
          dsimp only [List.set, Nat.reduceAdd]
          refine ms_goto (tgt := 102) dX7_moveOne_133 (by decide) ?_
          have hstx : sp_stuck ng x (fun o => M r (3 * to + o)) = false := by rw [← e3.stuck q2 ng]; exact hst
          have i9 := ih (sp_go1 x (fun o => M r (3 * to + o))) (va_up N 67 (sp_go1 (N 67) (fun o => M r (3 * to + o)))) (by omega) (fun y hy => by rw [up_n _ _ hy]; exact q1 y hy) (by rw [up_s]; exact q2.go1 _) (hx.go1 hg (fun z => by rw [sp_stuck_0 z.1 z.2.1 z.2.2] at hstx; cases hstx)) (fun N2 to2 k2 z1 z2 => hK N2 to2 k2 z1 (by simp only [sp_go]; rw [if_neg (by rw [hstx]; decide)]; exact z2))
          rw [show (kk : Int) = ((kk + 1 : Nat) : Int) + -1 by omega] at i9
          exact i9
        · have hst : sp_stuck ng (N 67) (fun o => M r (3 * to + o)) = true := by simpa using c_124
          rw [if_pos hst]
          refine mi_iconst dX7_moveOne_127 ?_
          refine ms_istore dX7_moveOne_128 (by decide) rfl ?_
          dsimp only [List.set, Nat.reduceAdd]
          refine mi_iinc dX7_moveOne_130 rfl (by decide) rfl ?_
          dsimp only [List.set, Nat.reduceAdd]
          refine ms_goto (tgt := 102) dX7_moveOne_133 (by decide) ?_
          refine ms_iload dX7_moveOne_102 rfl ?_
          refine mi_if_le (tgt := 136) dX7_moveOne_104 (by decide) (fun c_104 => ?_) (fun c_104 => ?_)
          · refine hK N (-1) _ q1 ?_
            simp only [sp_go]
            rw [if_pos (by rw [← e3.stuck q2 ng]; exact hst)]
            exact q2
          · refine ms_iload dX7_moveOne_107 rfl ?_
            refine mi_iconst dX7_moveOne_109 ?_
            refine mi_icmp_eq (tgt := 136) dX7_moveOne_110 (by decide) (fun c_110 => ?_) (fun c_110 => ?_)
            · refine hK N (-1) _ q1 ?_
              simp only [sp_go]
              rw [if_pos (by rw [← e3.stuck q2 ng]; exact hst)]
              exact q2
            · exact absurd rfl c_110

set_option maxHeartbeats 4000000 in
set_option maxRecDepth 100000 in
theorem l_X7_moveB {S : mx_Sc} {f : Bool} {M : Nat → Int → Int} {L : Nat → Nat → Int64} {Rf : Nat → Nat → Option Nat} (hR : mx_rf Rf) (hT : sp_tok (sp_tR M)) {r : Nat} (hr9 : r < 900) (hs : mx_SH[r]? = some (0, 30)) {hf ng : Bool} {n l : Int} (hn : 0 ≤ n ∧ n ≤ 5000) (hl : 0 ≤ l ∧ l < M 53 1) {w : Int} (hw : -1 ≤ w ∧ w < M 53 1) (hr67 : r ≠ 67) (hv : sp_vok (sp_tR M) (M r)) (hx : s3 (M 53 0) (M 67)) (h67 : e3 (M 67) (fun o => M r (3 * l + o))) {o6 : Int} : mx_E S mX7_moveOne 30 [some (.ref 48), some (.ref r), some (.int (iI n)), some (.int (iI l)), some (.int (iI w)), some (.int (iI (bI hf + 2 * bI ng))), some (.int (iI o6)), none, none] [] (f, mx_SH, M, L, Rf) 0 0 (fun v9 h9 => (∃ g, h9 = (f, mx_SH, va_up M 67 g, L, Rf) ∧ e3 g (sp_move (sp_tR M) (M r) n l w hf ng)) ∧ v9 = none) (fun _ _ => False) := by
  have hT0 : 1 ≤ M 53 0 ∧ M 53 0 ≤ 30 := hT.1
  have hT1 : 0 ≤ M 53 1 ∧ M 53 1 ≤ 6 := hT.2.1
  have hT2 : 1 ≤ M 53 2 ∧ M 53 2 ≤ 9 := hT.2.2.1
  have hT3 : 0 ≤ M 53 3 ∧ M 53 3 ≤ 9 := hT.2.2.2.1
  have hT4 : 0 ≤ M 53 4 ∧ M 53 4 ≤ 9 := hT.2.2.2.2.1
  have hT5 : 1 ≤ M 53 5 ∧ M 53 5 ≤ 99 := hT.2.2.2.2.2.1
  have hT6 : 0 ≤ M 53 6 ∧ M 53 6 ≤ 10 := hT.2.2.2.2.2.2.1
  have hbn := bI_01 ng
  have hbh := bI_01 hf
  have hkl : 0 ≤ M 54 l ∧ M 54 l ≤ 4 := (hT.2.2.2.2.2.2.2.1 l (by omega) (by show l < M 53 1; omega)).1
  have hstp : 1 ≤ sp_step (sp_tR M) hf l := by
    unfold sp_step
    simp only
    split <;> split <;> omega
  refine ms_aload_n dX7_moveOne_30 rfl ?_
  refine ms_aload_n dX7_moveOne_31 rfl ?_
  refine ms_iload_n dX7_moveOne_32 rfl ?_
  refine ms_iload_n dX7_moveOne_33 rfl ?_
  refine ms_callV3 (ci := 7) (r := (RX7, TX7, 48)) dX7_moveOne_34 cv_X7_moveOne_X7_stays (k_X7_stays hR hT hr9 hs hv hn hl) rfl rfl (by first | rfl | assumption) (Nat.le_of_ble_eq_true rfl) rfl (fun _ _ z => z.elim) (fun v9 h9 hp9 => ?_)
  obtain ⟨rfl, rfl⟩ := hp9
  refine mi_if_eqB (tgt := 41) dX7_moveOne_37 (by decide) (fun c_37 => ?_) (fun c_37 => ?_)
  · refine ms_aload_n dX7_moveOne_41 rfl ?_
    refine ms_aload_n dX7_moveOne_42 rfl ?_
    refine ms_iload_n dX7_moveOne_43 rfl ?_
    refine ms_iload_n dX7_moveOne_44 rfl ?_
    refine ms_iload dX7_moveOne_45 rfl ?_
    refine ms_callV4 (ci := 7) (r := (RX7, TX7, 48)) dX7_moveOne_47 cv_X7_moveOne_X7_towards (k_X7_towards hR hT hr9 hs hv hn hl hw) rfl rfl (by first | rfl | assumption) (Nat.le_of_ble_eq_true rfl) rfl (fun _ _ z => z.elim) (fun v9 h9 hp9 => ?_)
    obtain ⟨rfl, rfl⟩ := hp9
    have hrn := sp_to_rng (t := sp_tR M) (M r) n l hw
    simp only at hrn
    refine ms_istore dX7_moveOne_50 (by decide) rfl ?_
    dsimp only [List.set, Nat.reduceAdd]
    refine ms_iload dX7_moveOne_52 rfl ?_
    refine mi_iconst dX7_moveOne_54 ?_
    refine mi_iand (bI hf) dX7_moveOne_55 (by cases hf <;> cases ng <;> decide) ?_
    refine mi_iconst dX7_moveOne_56 ?_
    refine mi_icmp_ne (tgt := 73) dX7_moveOne_57 (by decide) (fun c_57 => ?_) (fun c_57 => ?_)
    · refine ms_aload_n dX7_moveOne_73 rfl ?_
      refine ms_getR dX7_moveOne_74 (fo_X7_43 rfl) (by first | rfl | assumption) rfl (by first | assumption | exact rf_48_5 hR ) ?_
      refine mi_iconst dX7_moveOne_77 ?_
      refine ms_iald dX7_moveOne_78 (by first | rfl | assumption) ?_
      refine ms_istore dX7_moveOne_79 (by decide) rfl ?_
      dsimp only [List.set, Nat.reduceAdd]
      refine ms_aload_n dX7_moveOne_81 rfl ?_
      refine ms_getR dX7_moveOne_82 (fo_X7_46 rfl) (by first | rfl | assumption) rfl (by first | assumption | exact rf_48_6 hR ) ?_
      refine ms_iload_n dX7_moveOne_85 rfl ?_
      refine ms_iald dX7_moveOne_86 (by first | rfl | assumption) ?_
      refine mi_iconst dX7_moveOne_87 ?_
      refine mi_icmp_ne (tgt := 98) dX7_moveOne_88 (by decide) (fun c_88 => ?_) (fun c_88 => ?_)
      · refine ms_iload dX7_moveOne_98 rfl ?_
        refine ms_istore dX7_moveOne_100 (by decide) rfl ?_
        dsimp only [List.set, Nat.reduceAdd]
        by_cases hto : sp_to (sp_tR M) (M r) n l w = -1
        · refine ms_iload dX7_moveOne_102 rfl ?_
          refine mi_if_le (tgt := 136) dX7_moveOne_104 (by decide) (fun c_104 => ?_) (fun c_104 => ?_)
          · refine ms_conseq (fun v9 h9 hp => ?_) (fun _ _ z => z) (l_X7_moveC hR hT hr9 hs hn hl hw hr67 hx)
            obtain ⟨⟨g, z1, z2⟩, z3⟩ := hp
            refine ⟨⟨g, z1, z2.tr ?_⟩, z3⟩
            unfold sp_move
            rw [if_neg (by rw [c_37]; decide), hto]
            exact h67.dk _ _ _
          · refine ms_iload dX7_moveOne_107 rfl ?_
            refine mi_iconst dX7_moveOne_109 ?_
            refine mi_icmp_eq (tgt := 136) dX7_moveOne_110 (by decide) (fun c_110 => ?_) (fun c_110 => ?_)
            · refine ms_conseq (fun v9 h9 hp => ?_) (fun _ _ z => z) (l_X7_moveC hR hT hr9 hs hn hl hw hr67 hx)
              obtain ⟨⟨g, z1, z2⟩, z3⟩ := hp
              refine ⟨⟨g, z1, z2.tr ?_⟩, z3⟩
              unfold sp_move
              rw [if_neg (by rw [c_37]; decide), hto]
              exact h67.dk _ _ _
            · exact absurd hto c_110
        · have hrng : 0 ≤ sp_to (sp_tR M) (M r) n l w ∧ sp_to (sp_tR M) (M r) n l w < M 53 1 := (sp_to_rng (t := sp_tR M) (M r) n l hw).resolve_left hto
          have ek : (((sp_step (sp_tR M) hf l).toNat : Nat) : Int) = M 53 2 := by
            unfold sp_step
            simp only
            have hhf : hf = false := by cases hf; rfl; simp [bI] at c_57
            rw [hhf, if_neg c_88]
            simp
            omega
          have h100 : ((sp_step (sp_tR M) hf l).toNat : Nat) ≤ 100 := by
            have q : (((sp_step (sp_tR M) hf l).toNat : Nat) : Int) ≤ 100 := by rw [ek]; omega
            omega
          have i9 := fun hK => l_X7_moveL (S := S) (f := f) (L := L) (hf := hf) (ng := ng) (P := (fun v9 h9 => (∃ g, h9 = (f, mx_SH, va_up M 67 g, L, Rf) ∧ e3 g (sp_move (sp_tR M) (M r) n l w hf ng)) ∧ v9 = none)) (PX := fun _ _ => False) (s2 := M 53 2) hR hT hr9 hs hn hl hw hr67 hrng (hv.s hrng.1 hrng.2) (sp_step (sp_tR M) hf l).toNat (fun o => M r (3 * l + o)) M h100 (fun _ _ => rfl) h67 (hv.s hl.1 hl.2) hK
          rw [ek] at i9
          refine i9 (fun N to2 k2 z1 z2 => ?_)
          · have eT : sp_tR N = sp_tR M := by simp only [sp_tR, z1 53 (by decide), z1 54 (by decide), z1 55 (by decide), z1 58 (by decide), z1 59 (by decide), z1 60 (by decide)]
            have eN : ∀ k, N 53 k = M 53 k := fun k => by rw [z1 53 (by decide)]
            refine ms_conseq (fun v9 h9 hp => ?_) (fun _ _ z => z) (l_X7_moveC (M := N) hR (by rw [eT]; exact hT) hr9 hs hn (by rw [eN]; exact hl) (by rw [eN]; exact hw) hr67 (by rw [eN]; exact (s3.go (hv.s hrng.1 hrng.2) _ (hv.s hl.1 hl.2)).e z2))
            obtain ⟨⟨g, y1, y2⟩, y3⟩ := hp
            refine ⟨⟨g, by rw [y1, up_c g z1], y2.tr ?_⟩, y3⟩
            rw [eT]
            unfold sp_move
            rw [if_neg (by rw [c_37]; decide), if_neg hto]
            exact z2.dk _ _ _
      · refine mi_iconst dX7_moveOne_91 ?_
        refine ms_iload dX7_moveOne_92 rfl ?_
        refine mi_imul dX7_moveOne_94 ?_
        refine ms_goto (tgt := 100) dX7_moveOne_95 (by decide) ?_
        refine ms_istore dX7_moveOne_100 (by decide) rfl ?_
        dsimp only [List.set, Nat.reduceAdd]
        by_cases hto : sp_to (sp_tR M) (M r) n l w = -1
        · refine ms_iload dX7_moveOne_102 rfl ?_
          refine mi_if_le (tgt := 136) dX7_moveOne_104 (by decide) (fun c_104 => ?_) (fun c_104 => ?_)
          · refine ms_conseq (fun v9 h9 hp => ?_) (fun _ _ z => z) (l_X7_moveC hR hT hr9 hs hn hl hw hr67 hx)
            obtain ⟨⟨g, z1, z2⟩, z3⟩ := hp
            refine ⟨⟨g, z1, z2.tr ?_⟩, z3⟩
            unfold sp_move
            rw [if_neg (by rw [c_37]; decide), hto]
            exact h67.dk _ _ _
          · refine ms_iload dX7_moveOne_107 rfl ?_
            refine mi_iconst dX7_moveOne_109 ?_
            refine mi_icmp_eq (tgt := 136) dX7_moveOne_110 (by decide) (fun c_110 => ?_) (fun c_110 => ?_)
            · refine ms_conseq (fun v9 h9 hp => ?_) (fun _ _ z => z) (l_X7_moveC hR hT hr9 hs hn hl hw hr67 hx)
              obtain ⟨⟨g, z1, z2⟩, z3⟩ := hp
              refine ⟨⟨g, z1, z2.tr ?_⟩, z3⟩
              unfold sp_move
              rw [if_neg (by rw [c_37]; decide), hto]
              exact h67.dk _ _ _
            · exact absurd hto c_110
        · have hrng : 0 ≤ sp_to (sp_tR M) (M r) n l w ∧ sp_to (sp_tR M) (M r) n l w < M 53 1 := (sp_to_rng (t := sp_tR M) (M r) n l hw).resolve_left hto
          have ek : (((sp_step (sp_tR M) hf l).toNat : Nat) : Int) = 2 * M 53 2 := by
            unfold sp_step
            simp only
            have hhf : hf = false := by cases hf; rfl; simp [bI] at c_57
            rw [hhf, if_pos c_88]
            simp
            omega
          have h100 : ((sp_step (sp_tR M) hf l).toNat : Nat) ≤ 100 := by
            have q : (((sp_step (sp_tR M) hf l).toNat : Nat) : Int) ≤ 100 := by rw [ek]; omega
            omega
          have i9 := fun hK => l_X7_moveL (S := S) (f := f) (L := L) (hf := hf) (ng := ng) (P := (fun v9 h9 => (∃ g, h9 = (f, mx_SH, va_up M 67 g, L, Rf) ∧ e3 g (sp_move (sp_tR M) (M r) n l w hf ng)) ∧ v9 = none)) (PX := fun _ _ => False) (s2 := M 53 2) hR hT hr9 hs hn hl hw hr67 hrng (hv.s hrng.1 hrng.2) (sp_step (sp_tR M) hf l).toNat (fun o => M r (3 * l + o)) M h100 (fun _ _ => rfl) h67 (hv.s hl.1 hl.2) hK
          rw [ek] at i9
          refine i9 (fun N to2 k2 z1 z2 => ?_)
          · have eT : sp_tR N = sp_tR M := by simp only [sp_tR, z1 53 (by decide), z1 54 (by decide), z1 55 (by decide), z1 58 (by decide), z1 59 (by decide), z1 60 (by decide)]
            have eN : ∀ k, N 53 k = M 53 k := fun k => by rw [z1 53 (by decide)]
            refine ms_conseq (fun v9 h9 hp => ?_) (fun _ _ z => z) (l_X7_moveC (M := N) hR (by rw [eT]; exact hT) hr9 hs hn (by rw [eN]; exact hl) (by rw [eN]; exact hw) hr67 (by rw [eN]; exact (s3.go (hv.s hrng.1 hrng.2) _ (hv.s hl.1 hl.2)).e z2))
            obtain ⟨⟨g, y1, y2⟩, y3⟩ := hp
            refine ⟨⟨g, by rw [y1, up_c g z1], y2.tr ?_⟩, y3⟩
            rw [eT]
            unfold sp_move
            rw [if_neg (by rw [c_37]; decide), if_neg hto]
            exact z2.dk _ _ _
    · refine ms_aload_n dX7_moveOne_60 rfl ?_
      refine ms_getR dX7_moveOne_61 (fo_X7_43 rfl) (by first | rfl | assumption) rfl (by first | assumption | exact rf_48_5 hR ) ?_
      refine mi_iconst dX7_moveOne_64 ?_
      refine ms_iald dX7_moveOne_65 (by first | rfl | assumption) ?_
      refine mi_iconst dX7_moveOne_66 ?_
      refine mi_iadd dX7_moveOne_67 ?_
      refine mi_iconst dX7_moveOne_68 ?_
      refine mi_idiv dX7_moveOne_69 ?_
      refine ms_goto (tgt := 79) dX7_moveOne_70 (by decide) ?_
      refine ms_istore dX7_moveOne_79 (by decide) rfl ?_
      dsimp only [List.set, Nat.reduceAdd]
      refine ms_aload_n dX7_moveOne_81 rfl ?_
      refine ms_getR dX7_moveOne_82 (fo_X7_46 rfl) (by first | rfl | assumption) rfl (by first | assumption | exact rf_48_6 hR ) ?_
      refine ms_iload_n dX7_moveOne_85 rfl ?_
      refine ms_iald dX7_moveOne_86 (by first | rfl | assumption) ?_
      refine mi_iconst dX7_moveOne_87 ?_
      refine mi_icmp_ne (tgt := 98) dX7_moveOne_88 (by decide) (fun c_88 => ?_) (fun c_88 => ?_)
      · refine ms_iload dX7_moveOne_98 rfl ?_
        refine ms_istore dX7_moveOne_100 (by decide) rfl ?_
        dsimp only [List.set, Nat.reduceAdd]
        by_cases hto : sp_to (sp_tR M) (M r) n l w = -1
        · refine ms_iload dX7_moveOne_102 rfl ?_
          refine mi_if_le (tgt := 136) dX7_moveOne_104 (by decide) (fun c_104 => ?_) (fun c_104 => ?_)
          · refine ms_conseq (fun v9 h9 hp => ?_) (fun _ _ z => z) (l_X7_moveC hR hT hr9 hs hn hl hw hr67 hx)
            obtain ⟨⟨g, z1, z2⟩, z3⟩ := hp
            refine ⟨⟨g, z1, z2.tr ?_⟩, z3⟩
            unfold sp_move
            rw [if_neg (by rw [c_37]; decide), hto]
            exact h67.dk _ _ _
          · refine ms_iload dX7_moveOne_107 rfl ?_
            refine mi_iconst dX7_moveOne_109 ?_
            refine mi_icmp_eq (tgt := 136) dX7_moveOne_110 (by decide) (fun c_110 => ?_) (fun c_110 => ?_)
            · refine ms_conseq (fun v9 h9 hp => ?_) (fun _ _ z => z) (l_X7_moveC hR hT hr9 hs hn hl hw hr67 hx)
              obtain ⟨⟨g, z1, z2⟩, z3⟩ := hp
              refine ⟨⟨g, z1, z2.tr ?_⟩, z3⟩
              unfold sp_move
              rw [if_neg (by rw [c_37]; decide), hto]
              exact h67.dk _ _ _
            · exact absurd hto c_110
        · have hrng : 0 ≤ sp_to (sp_tR M) (M r) n l w ∧ sp_to (sp_tR M) (M r) n l w < M 53 1 := (sp_to_rng (t := sp_tR M) (M r) n l hw).resolve_left hto
          have ek : (((sp_step (sp_tR M) hf l).toNat : Nat) : Int) = ((M 53 2 + 1) / 2) := by
            unfold sp_step
            simp only
            have hhf : hf = true := by cases hf; simp [bI] at c_57; rfl
            rw [hhf, if_neg c_88]
            simp
            omega
          have h100 : ((sp_step (sp_tR M) hf l).toNat : Nat) ≤ 100 := by
            have q : (((sp_step (sp_tR M) hf l).toNat : Nat) : Int) ≤ 100 := by rw [ek]; omega
            omega
          have i9 := fun hK => l_X7_moveL (S := S) (f := f) (L := L) (hf := hf) (ng := ng) (P := (fun v9 h9 => (∃ g, h9 = (f, mx_SH, va_up M 67 g, L, Rf) ∧ e3 g (sp_move (sp_tR M) (M r) n l w hf ng)) ∧ v9 = none)) (PX := fun _ _ => False) (s2 := ((M 53 2 + 1) / 2)) hR hT hr9 hs hn hl hw hr67 hrng (hv.s hrng.1 hrng.2) (sp_step (sp_tR M) hf l).toNat (fun o => M r (3 * l + o)) M h100 (fun _ _ => rfl) h67 (hv.s hl.1 hl.2) hK
          rw [ek] at i9
          refine i9 (fun N to2 k2 z1 z2 => ?_)
          · have eT : sp_tR N = sp_tR M := by simp only [sp_tR, z1 53 (by decide), z1 54 (by decide), z1 55 (by decide), z1 58 (by decide), z1 59 (by decide), z1 60 (by decide)]
            have eN : ∀ k, N 53 k = M 53 k := fun k => by rw [z1 53 (by decide)]
            refine ms_conseq (fun v9 h9 hp => ?_) (fun _ _ z => z) (l_X7_moveC (M := N) hR (by rw [eT]; exact hT) hr9 hs hn (by rw [eN]; exact hl) (by rw [eN]; exact hw) hr67 (by rw [eN]; exact (s3.go (hv.s hrng.1 hrng.2) _ (hv.s hl.1 hl.2)).e z2))
            obtain ⟨⟨g, y1, y2⟩, y3⟩ := hp
            refine ⟨⟨g, by rw [y1, up_c g z1], y2.tr ?_⟩, y3⟩
            rw [eT]
            unfold sp_move
            rw [if_neg (by rw [c_37]; decide), if_neg hto]
            exact z2.dk _ _ _
      · refine mi_iconst dX7_moveOne_91 ?_
        refine ms_iload dX7_moveOne_92 rfl ?_
        refine mi_imul dX7_moveOne_94 ?_
        refine ms_goto (tgt := 100) dX7_moveOne_95 (by decide) ?_
        refine ms_istore dX7_moveOne_100 (by decide) rfl ?_
        dsimp only [List.set, Nat.reduceAdd]
        by_cases hto : sp_to (sp_tR M) (M r) n l w = -1
        · refine ms_iload dX7_moveOne_102 rfl ?_
          refine mi_if_le (tgt := 136) dX7_moveOne_104 (by decide) (fun c_104 => ?_) (fun c_104 => ?_)
          · refine ms_conseq (fun v9 h9 hp => ?_) (fun _ _ z => z) (l_X7_moveC hR hT hr9 hs hn hl hw hr67 hx)
            obtain ⟨⟨g, z1, z2⟩, z3⟩ := hp
            refine ⟨⟨g, z1, z2.tr ?_⟩, z3⟩
            unfold sp_move
            rw [if_neg (by rw [c_37]; decide), hto]
            exact h67.dk _ _ _
          · refine ms_iload dX7_moveOne_107 rfl ?_
            refine mi_iconst dX7_moveOne_109 ?_
            refine mi_icmp_eq (tgt := 136) dX7_moveOne_110 (by decide) (fun c_110 => ?_) (fun c_110 => ?_)
            · refine ms_conseq (fun v9 h9 hp => ?_) (fun _ _ z => z) (l_X7_moveC hR hT hr9 hs hn hl hw hr67 hx)
              obtain ⟨⟨g, z1, z2⟩, z3⟩ := hp
              refine ⟨⟨g, z1, z2.tr ?_⟩, z3⟩
              unfold sp_move
              rw [if_neg (by rw [c_37]; decide), hto]
              exact h67.dk _ _ _
            · exact absurd hto c_110
        · have hrng : 0 ≤ sp_to (sp_tR M) (M r) n l w ∧ sp_to (sp_tR M) (M r) n l w < M 53 1 := (sp_to_rng (t := sp_tR M) (M r) n l hw).resolve_left hto
          have ek : (((sp_step (sp_tR M) hf l).toNat : Nat) : Int) = 2 * ((M 53 2 + 1) / 2) := by
            unfold sp_step
            simp only
            have hhf : hf = true := by cases hf; simp [bI] at c_57; rfl
            rw [hhf, if_pos c_88]
            simp
            omega
          have h100 : ((sp_step (sp_tR M) hf l).toNat : Nat) ≤ 100 := by
            have q : (((sp_step (sp_tR M) hf l).toNat : Nat) : Int) ≤ 100 := by rw [ek]; omega
            omega
          have i9 := fun hK => l_X7_moveL (S := S) (f := f) (L := L) (hf := hf) (ng := ng) (P := (fun v9 h9 => (∃ g, h9 = (f, mx_SH, va_up M 67 g, L, Rf) ∧ e3 g (sp_move (sp_tR M) (M r) n l w hf ng)) ∧ v9 = none)) (PX := fun _ _ => False) (s2 := ((M 53 2 + 1) / 2)) hR hT hr9 hs hn hl hw hr67 hrng (hv.s hrng.1 hrng.2) (sp_step (sp_tR M) hf l).toNat (fun o => M r (3 * l + o)) M h100 (fun _ _ => rfl) h67 (hv.s hl.1 hl.2) hK
          rw [ek] at i9
          refine i9 (fun N to2 k2 z1 z2 => ?_)
          · have eT : sp_tR N = sp_tR M := by simp only [sp_tR, z1 53 (by decide), z1 54 (by decide), z1 55 (by decide), z1 58 (by decide), z1 59 (by decide), z1 60 (by decide)]
            have eN : ∀ k, N 53 k = M 53 k := fun k => by rw [z1 53 (by decide)]
            refine ms_conseq (fun v9 h9 hp => ?_) (fun _ _ z => z) (l_X7_moveC (M := N) hR (by rw [eT]; exact hT) hr9 hs hn (by rw [eN]; exact hl) (by rw [eN]; exact hw) hr67 (by rw [eN]; exact (s3.go (hv.s hrng.1 hrng.2) _ (hv.s hl.1 hl.2)).e z2))
            obtain ⟨⟨g, y1, y2⟩, y3⟩ := hp
            refine ⟨⟨g, by rw [y1, up_c g z1], y2.tr ?_⟩, y3⟩
            rw [eT]
            unfold sp_move
            rw [if_neg (by rw [c_37]; decide), if_neg hto]
            exact z2.dk _ _ _
  · refine ms_retV dX7_moveOne_40 rfl ⟨⟨M 67, by rw [up_id], by unfold sp_move; rw [if_pos c_37]; exact h67⟩, rfl⟩ (by simp)

set_option maxHeartbeats 4000000 in
set_option maxRecDepth 100000 in
theorem k_X7_moveOne {S : mx_Sc} {f : Bool} {M : Nat → Int → Int} {L : Nat → Nat → Int64} {Rf : Nat → Nat → Option Nat} (hR : mx_rf Rf) (hT : sp_tok (sp_tR M)) {r : Nat} (hr9 : r < 900) (hs : mx_SH[r]? = some (0, 30)) {hf ng : Bool} {n l : Int} (hn : 0 ≤ n ∧ n ≤ 5000) (hl : 0 ≤ l ∧ l < M 53 1) {w : Int} (hw : -1 ≤ w ∧ w < M 53 1) (hr67 : r ≠ 67) (hv : sp_vok (sp_tR M) (M r)) : mx_C S mX7_moveOne [.ref 48, .ref r, .int (iI n), .int (iI l), .int (iI w), .int (iI (bI hf + 2 * bI ng))] (f, mx_SH, M, L, Rf) 0 0 (fun v9 h9 => (∃ g, h9 = (f, mx_SH, va_up M 67 g, L, Rf) ∧ e3 g (sp_move (sp_tR M) (M r) n l w hf ng)) ∧ v9 = none) (fun _ _ => False) := by
  refine mx_C_of (by decide) (by simp [Value.category]) (Nat.le_of_ble_eq_true rfl) rfl ?_
  show mx_E S mX7_moveOne 0 [some (.ref 48), some (.ref r), some (.int (iI n)), some (.int (iI l)), some (.int (iI w)), some (.int (iI (bI hf + 2 * bI ng))), none, none, none] [] (f, mx_SH, M, L, Rf) 0 0 _ _
  have hT0 : 1 ≤ M 53 0 ∧ M 53 0 ≤ 30 := hT.1
  have hT1 : 0 ≤ M 53 1 ∧ M 53 1 ≤ 6 := hT.2.1
  have hT2 : 1 ≤ M 53 2 ∧ M 53 2 ≤ 9 := hT.2.2.1
  have hT3 : 0 ≤ M 53 3 ∧ M 53 3 ≤ 9 := hT.2.2.2.1
  have hT4 : 0 ≤ M 53 4 ∧ M 53 4 ≤ 9 := hT.2.2.2.2.1
  have hT5 : 1 ≤ M 53 5 ∧ M 53 5 ≤ 99 := hT.2.2.2.2.2.1
  have hT6 : 0 ≤ M 53 6 ∧ M 53 6 ≤ 10 := hT.2.2.2.2.2.2.1
  have hbn := bI_01 ng
  have hbh := bI_01 hf
  refine mi_iconst dX7_moveOne_0 ?_
  refine ms_istore dX7_moveOne_1 (by decide) rfl ?_
  dsimp only [List.set, Nat.reduceAdd]
  refine ms_iload dX7_moveOne_3 rfl ?_
  refine mi_iconst dX7_moveOne_5 ?_
  refine mi_icmp_ge (tgt := 30) dX7_moveOne_6 (by decide) (fun c_6 => ?_) (fun c_6 => ?_)
  · exact absurd c_6 (by omega)
  · refine ms_aload_n dX7_moveOne_9 rfl ?_
    refine ms_getR dX7_moveOne_10 (fo_X7_89 rfl) (by first | rfl | assumption) rfl (by first | assumption | exact rf_48_30 hR ) ?_
    refine ms_iload dX7_moveOne_13 rfl ?_
    refine ms_aload_n dX7_moveOne_15 rfl ?_
    refine mi_iconst dX7_moveOne_16 ?_
    refine ms_iload_n dX7_moveOne_17 rfl ?_
    refine mi_imul dX7_moveOne_18 ?_
    refine ms_iload dX7_moveOne_19 rfl ?_
    refine mi_iadd dX7_moveOne_21 ?_
    refine ms_iald dX7_moveOne_22 (by first | rfl | assumption) ?_
    refine ms_iast dX7_moveOne_23 (by first | rfl | assumption) ?_
    refine mi_iincL (1) dX7_moveOne_24 rfl (by decide) rfl (by decide) ?_
    dsimp only [List.set, Nat.reduceAdd]
    refine ms_goto (tgt := 3) dX7_moveOne_27 (by decide) ?_
    refine ms_iload dX7_moveOne_3 rfl ?_
    refine mi_iconst dX7_moveOne_5 ?_
    refine mi_icmp_ge (tgt := 30) dX7_moveOne_6 (by decide) (fun c_6 => ?_) (fun c_6 => ?_)
    · exact absurd c_6 (by omega)
    · refine ms_aload_n dX7_moveOne_9 rfl ?_
      refine ms_getR dX7_moveOne_10 (fo_X7_89 rfl) (by first | rfl | assumption) rfl (by first | assumption | exact rf_48_30 hR ) ?_
      refine ms_iload dX7_moveOne_13 rfl ?_
      refine ms_aload_n dX7_moveOne_15 rfl ?_
      refine mi_iconst dX7_moveOne_16 ?_
      refine ms_iload_n dX7_moveOne_17 rfl ?_
      refine mi_imul dX7_moveOne_18 ?_
      refine ms_iload dX7_moveOne_19 rfl ?_
      refine mi_iadd dX7_moveOne_21 ?_
      refine ms_iald dX7_moveOne_22 (by first | rfl | assumption) ?_
      refine ms_iast dX7_moveOne_23 (by first | rfl | assumption) ?_
      refine mi_iincL (2) dX7_moveOne_24 rfl (by decide) rfl (by decide) ?_
      dsimp only [List.set, Nat.reduceAdd]
      refine ms_goto (tgt := 3) dX7_moveOne_27 (by decide) ?_
      refine ms_iload dX7_moveOne_3 rfl ?_
      refine mi_iconst dX7_moveOne_5 ?_
      refine mi_icmp_ge (tgt := 30) dX7_moveOne_6 (by decide) (fun c_6 => ?_) (fun c_6 => ?_)
      · exact absurd c_6 (by omega)
      · refine ms_aload_n dX7_moveOne_9 rfl ?_
        refine ms_getR dX7_moveOne_10 (fo_X7_89 rfl) (by first | rfl | assumption) rfl (by first | assumption | exact rf_48_30 hR ) ?_
        refine ms_iload dX7_moveOne_13 rfl ?_
        refine ms_aload_n dX7_moveOne_15 rfl ?_
        refine mi_iconst dX7_moveOne_16 ?_
        refine ms_iload_n dX7_moveOne_17 rfl ?_
        refine mi_imul dX7_moveOne_18 ?_
        refine ms_iload dX7_moveOne_19 rfl ?_
        refine mi_iadd dX7_moveOne_21 ?_
        refine ms_iald dX7_moveOne_22 (by first | rfl | assumption) ?_
        refine ms_iast dX7_moveOne_23 (by first | rfl | assumption) ?_
        refine mi_iincL (3) dX7_moveOne_24 rfl (by decide) rfl (by decide) ?_
        dsimp only [List.set, Nat.reduceAdd]
        refine ms_goto (tgt := 3) dX7_moveOne_27 (by decide) ?_
        refine ms_iload dX7_moveOne_3 rfl ?_
        refine mi_iconst dX7_moveOne_5 ?_
        refine mi_icmp_ge (tgt := 30) dX7_moveOne_6 (by decide) (fun c_6 => ?_) (fun c_6 => ?_)
        · refine mx_gen (fun N => (∀ x, x ≠ 67 → N x = M x) ∧ e3 (N 67) (fun o => M r (3 * l + o))) ⟨fun x hx => by simp only [va_up, if_neg hx], by simp [e3, va_up, iu, hr67]⟩ (fun N hN => ?_)
          have eT : sp_tR N = sp_tR M := by simp only [sp_tR, hN.1 53 (by decide), hN.1 54 (by decide), hN.1 55 (by decide), hN.1 58 (by decide), hN.1 59 (by decide), hN.1 60 (by decide)]
          have eN : ∀ k, N 53 k = M 53 k := fun k => by rw [hN.1 53 (by decide)]
          have eR : N r = M r := hN.1 r hr67
          refine ms_conseq (fun v9 h9 hp => ?_) (fun _ _ z => z) (l_X7_moveB (M := N) hR (by rw [eT]; exact hT) hr9 hs hn (by rw [eN]; exact hl) (by rw [eN]; exact hw) hr67 (by rw [eT, eR]; exact hv) (by rw [eN]; exact (hv.s hl.1 hl.2).e hN.2) (by rw [eR]; exact hN.2))
          obtain ⟨⟨g, y1, y2⟩, y3⟩ := hp
          exact ⟨⟨g, by rw [y1, up_c g hN.1], by rw [eT, eR] at y2; exact y2⟩, y3⟩
        · exact absurd c_6 (by omega)

