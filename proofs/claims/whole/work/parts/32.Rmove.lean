theorem sp_stuck_0 {ng : Bool} {x g : Int → Int} (h0 : x 0 - g 0 = 0) (h1 : x 1 - g 1 = 0) (h2 : x 2 - g 2 = 0) : sp_stuck ng x g = true := by simp [sp_stuck, h0, h1, h2]
theorem sp_stuck_1 {ng : Bool} {x g : Int → Int} (h0 : ng = true) (h1 : sp_most (-(x 0 - g 0)) (-(x 1 - g 1)) (-(x 2 - g 2)) = 1) : sp_stuck ng x g = true := by
  unfold sp_stuck
  rw [h0, decide_eq_true h1]
  simp
theorem sp_stuck_f {ng : Bool} {x g : Int → Int} (h0 : ¬ (x 0 - g 0 = 0 ∧ x 1 - g 1 = 0 ∧ x 2 - g 2 = 0)) (h1 : ¬ (ng = true ∧ sp_most (-(x 0 - g 0)) (-(x 1 - g 1)) (-(x 2 - g 2)) = 1)) : sp_stuck ng x g = false := by
  unfold sp_stuck
  rw [decide_eq_false h0]
  cases ng
  · rfl
  · rw [decide_eq_false (fun q => h1 ⟨rfl, q⟩)]
    rfl
set_option maxHeartbeats 4000000 in
set_option maxRecDepth 100000 in
theorem k_X7_goNear {S : mx_Sc} {f : Bool} {M : Nat → Int → Int} {L : Nat → Nat → Int64} {Rf : Nat → Nat → Option Nat} (hR : mx_rf Rf) {r : Nat} (hr9 : r < 900) (hs : mx_SH[r]? = some (0, 30)) {hf ng : Bool} (hx : ∀ o, 0 ≤ o → o < 3 → -1000 ≤ M 67 o ∧ M 67 o ≤ 1000) {g3 : Int} (hg3 : 0 ≤ g3 ∧ g3 ≤ 15) (hg : ∀ o, 0 ≤ o → o < 3 → -1000 ≤ M r (g3 + o) ∧ M r (g3 + o) ≤ 1000) (hr67 : r ≠ 67) : mx_C S mX7_goNear [.ref 48, .ref r, .int (iI g3), .int (iI (bI hf + 2 * bI ng))] (f, mx_SH, M, L, Rf) 0 0 (fun v9 h9 => h9 = (f, mx_SH, (if sp_stuck ng (M 67) (fun o => M r (g3 + o)) = true then M else va_up M 67 (sp_go1 (M 67) (fun o => M r (g3 + o)))), L, Rf) ∧ v9 = some (.int (iI (bI (!sp_stuck ng (M 67) (fun o => M r (g3 + o))))))) (fun _ _ => False) := by
  refine mx_C_of (by decide) (by simp [Value.category]) (Nat.le_of_ble_eq_true rfl) rfl ?_
  show mx_E S mX7_goNear 0 [some (.ref 48), some (.ref r), some (.int (iI g3)), some (.int (iI (bI hf + 2 * bI ng))), none, none, none, none, none] [] (f, mx_SH, M, L, Rf) 0 0 _ _
  have hbn := bI_01 ng
  have hbh := bI_01 hf
  have hx0 := hx 0 (by omega) (by omega)
  have hg0x := hg 0 (by omega) (by omega)
  have hx1 := hx 1 (by omega) (by omega)
  have hg1x := hg 1 (by omega) (by omega)
  have hx2 := hx 2 (by omega) (by omega)
  have hg2x := hg 2 (by omega) (by omega)
  rw [Int.add_zero] at hg0x
  have ez : g3 + 0 = g3 := Int.add_zero g3
  refine ms_aload_n dX7_goNear_0 rfl ?_
  refine ms_getR dX7_goNear_1 (fo_X7_89 rfl) (by first | rfl | assumption) rfl (by first | assumption | exact rf_48_30 hR ) ?_
  refine mi_iconst dX7_goNear_4 ?_
  refine ms_iald dX7_goNear_5 (by first | rfl | assumption) ?_
  refine ms_aload_n dX7_goNear_6 rfl ?_
  refine ms_iload_n dX7_goNear_7 rfl ?_
  refine ms_iald dX7_goNear_8 (by first | rfl | assumption) ?_
  refine mi_isub dX7_goNear_9 ?_
  refine ms_istore dX7_goNear_10 (by decide) rfl ?_
  dsimp only [List.set, Nat.reduceAdd]
  refine ms_aload_n dX7_goNear_12 rfl ?_
  refine ms_getR dX7_goNear_13 (fo_X7_89 rfl) (by first | rfl | assumption) rfl (by first | assumption | exact rf_48_30 hR ) ?_
  refine mi_iconst dX7_goNear_16 ?_
  refine ms_iald dX7_goNear_17 (by first | rfl | assumption) ?_
  refine ms_aload_n dX7_goNear_18 rfl ?_
  refine ms_iload_n dX7_goNear_19 rfl ?_
  refine mi_iconst dX7_goNear_20 ?_
  refine mi_iadd dX7_goNear_21 ?_
  refine ms_iald dX7_goNear_22 (by first | rfl | assumption) ?_
  refine mi_isub dX7_goNear_23 ?_
  refine ms_istore dX7_goNear_24 (by decide) rfl ?_
  dsimp only [List.set, Nat.reduceAdd]
  refine ms_aload_n dX7_goNear_26 rfl ?_
  refine ms_getR dX7_goNear_27 (fo_X7_89 rfl) (by first | rfl | assumption) rfl (by first | assumption | exact rf_48_30 hR ) ?_
  refine mi_iconst dX7_goNear_30 ?_
  refine ms_iald dX7_goNear_31 (by first | rfl | assumption) ?_
  refine ms_aload_n dX7_goNear_32 rfl ?_
  refine ms_iload_n dX7_goNear_33 rfl ?_
  refine mi_iconst dX7_goNear_34 ?_
  refine mi_iadd dX7_goNear_35 ?_
  refine ms_iald dX7_goNear_36 (by first | rfl | assumption) ?_
  refine mi_isub dX7_goNear_37 ?_
  refine ms_istore dX7_goNear_38 (by decide) rfl ?_
  dsimp only [List.set, Nat.reduceAdd]
  refine ms_iload dX7_goNear_40 rfl ?_
  refine ms_iload dX7_goNear_42 rfl ?_
  refine ms_iload dX7_goNear_44 rfl ?_
  refine ms_callS3 dX7_goNear_46 cv_X7_goNear_X7_mostOf (k_X7_mostOf (by omega) (by omega) (by omega)) (Nat.le_of_ble_eq_true rfl) rfl (fun _ _ z => z.elim) (fun v9 h9 hp9 => ?_)
  obtain ⟨rfl, rfl⟩ := hp9
  refine ms_istore dX7_goNear_49 (by decide) rfl ?_
  dsimp only [List.set, Nat.reduceAdd]
  refine ms_iload dX7_goNear_51 rfl ?_
  refine mi_ineg dX7_goNear_53 ?_
  refine ms_iload dX7_goNear_54 rfl ?_
  refine mi_ineg dX7_goNear_56 ?_
  refine ms_iload dX7_goNear_57 rfl ?_
  refine mi_ineg dX7_goNear_59 ?_
  refine ms_callS3 dX7_goNear_60 cv_X7_goNear_X7_mostOf (k_X7_mostOf (by omega) (by omega) (by omega)) (Nat.le_of_ble_eq_true rfl) rfl (fun _ _ z => z.elim) (fun v9 h9 hp9 => ?_)
  obtain ⟨rfl, rfl⟩ := hp9
  have m1 := sp_most_rng (M 67 0 - M r (g3)) (M 67 1 - M r (g3 + 1)) (M 67 2 - M r (g3 + 2))
  have m2 := sp_most_rng (-(M 67 0 - M r (g3))) (-(M 67 1 - M r (g3 + 1))) (-(M 67 2 - M r (g3 + 2)))
  refine ms_istore dX7_goNear_63 (by decide) rfl ?_
  dsimp only [List.set, Nat.reduceAdd]
  refine ms_iload dX7_goNear_65 rfl ?_
  refine mi_if_ne (tgt := 80) dX7_goNear_67 (by decide) (fun c_67 => ?_) (fun c_67 => ?_)
  · refine ms_iload_n dX7_goNear_80 rfl ?_
    refine mi_iconst dX7_goNear_81 ?_
    refine mi_iand (2 * bI ng) dX7_goNear_82 (by cases hf <;> cases ng <;> decide) ?_
    refine mi_if_eq (tgt := 94) dX7_goNear_83 (by decide) (fun c_83 => ?_) (fun c_83 => ?_)
    · refine ms_aload_n dX7_goNear_94 rfl ?_
      refine ms_getR dX7_goNear_95 (fo_X7_89 rfl) (by first | rfl | assumption) rfl (by first | assumption | exact rf_48_30 hR ) ?_
      refine ms_iload dX7_goNear_98 rfl ?_
      refine ms_dup2 dX7_goNear_100 rfl rfl ?_
      refine ms_iald dX7_goNear_101 (by first | rfl | assumption) ?_
      refine mi_iconst dX7_goNear_102 ?_
      refine mi_isub dX7_goNear_103 ?_
      refine ms_iast dX7_goNear_104 (by first | rfl | assumption) ?_
      refine ms_aload_n dX7_goNear_105 rfl ?_
      refine ms_getR dX7_goNear_106 (fo_X7_89 rfl) (by first | rfl | assumption) rfl (by first | assumption | exact rf_48_30 hR ) ?_
      refine ms_iload dX7_goNear_109 rfl ?_
      refine ms_dup2 dX7_goNear_111 rfl rfl ?_
      refine ms_iald dX7_goNear_112 (by first | rfl | assumption) ?_
      refine mi_iconst dX7_goNear_113 ?_
      refine mi_iadd dX7_goNear_114 ?_
      refine ms_iast dX7_goNear_115 (by first | rfl | assumption) ?_
      refine mi_iconst dX7_goNear_116 ?_
      refine ms_retZ dX7_goNear_117 rfl (by first | exact Or.inl rfl | exact Or.inr rfl) (by rw [show sp_stuck ng (M 67) (fun o => M r (g3 + o)) = false from sp_stuck_f (g := (fun o => M r (g3 + o))) (by simp only [ez]; omega) (by simp only [ez]; rintro ⟨z1, z2⟩; first | exact absurd z2 c_89 | (rw [z1] at c_83; simp [bI] at c_83))]; exact ⟨by rw [if_neg (by decide)]; simp only [sp_go1, sp_pour, ez, up_s]; rw [bx_uu], rfl⟩) (by simp)
    · refine ms_iload dX7_goNear_86 rfl ?_
      refine mi_iconst dX7_goNear_88 ?_
      refine mi_icmp_ne (tgt := 94) dX7_goNear_89 (by decide) (fun c_89 => ?_) (fun c_89 => ?_)
      · refine ms_aload_n dX7_goNear_94 rfl ?_
        refine ms_getR dX7_goNear_95 (fo_X7_89 rfl) (by first | rfl | assumption) rfl (by first | assumption | exact rf_48_30 hR ) ?_
        refine ms_iload dX7_goNear_98 rfl ?_
        refine ms_dup2 dX7_goNear_100 rfl rfl ?_
        refine ms_iald dX7_goNear_101 (by first | rfl | assumption) ?_
        refine mi_iconst dX7_goNear_102 ?_
        refine mi_isub dX7_goNear_103 ?_
        refine ms_iast dX7_goNear_104 (by first | rfl | assumption) ?_
        refine ms_aload_n dX7_goNear_105 rfl ?_
        refine ms_getR dX7_goNear_106 (fo_X7_89 rfl) (by first | rfl | assumption) rfl (by first | assumption | exact rf_48_30 hR ) ?_
        refine ms_iload dX7_goNear_109 rfl ?_
        refine ms_dup2 dX7_goNear_111 rfl rfl ?_
        refine ms_iald dX7_goNear_112 (by first | rfl | assumption) ?_
        refine mi_iconst dX7_goNear_113 ?_
        refine mi_iadd dX7_goNear_114 ?_
        refine ms_iast dX7_goNear_115 (by first | rfl | assumption) ?_
        refine mi_iconst dX7_goNear_116 ?_
        refine ms_retZ dX7_goNear_117 rfl (by first | exact Or.inl rfl | exact Or.inr rfl) (by rw [show sp_stuck ng (M 67) (fun o => M r (g3 + o)) = false from sp_stuck_f (g := (fun o => M r (g3 + o))) (by simp only [ez]; omega) (by simp only [ez]; rintro ⟨z1, z2⟩; first | exact absurd z2 c_89 | (rw [z1] at c_83; simp [bI] at c_83))]; exact ⟨by rw [if_neg (by decide)]; simp only [sp_go1, sp_pour, ez, up_s]; rw [bx_uu], rfl⟩) (by simp)
      · refine mi_iconst dX7_goNear_92 ?_
        refine ms_retZ dX7_goNear_93 rfl (by first | exact Or.inl rfl | exact Or.inr rfl) (by rw [show sp_stuck ng (M 67) (fun o => M r (g3 + o)) = true from by first | exact sp_stuck_0 (by simp only [ez]; assumption) (by assumption) (by assumption) | exact sp_stuck_1 (by cases ng; exact absurd rfl c_83; rfl) (by simp only [ez]; assumption)]; exact ⟨by rw [if_pos rfl], rfl⟩) (by simp)
  · refine ms_iload dX7_goNear_70 rfl ?_
    refine mi_if_ne (tgt := 80) dX7_goNear_72 (by decide) (fun c_72 => ?_) (fun c_72 => ?_)
    · refine ms_iload_n dX7_goNear_80 rfl ?_
      refine mi_iconst dX7_goNear_81 ?_
      refine mi_iand (2 * bI ng) dX7_goNear_82 (by cases hf <;> cases ng <;> decide) ?_
      refine mi_if_eq (tgt := 94) dX7_goNear_83 (by decide) (fun c_83 => ?_) (fun c_83 => ?_)
      · refine ms_aload_n dX7_goNear_94 rfl ?_
        refine ms_getR dX7_goNear_95 (fo_X7_89 rfl) (by first | rfl | assumption) rfl (by first | assumption | exact rf_48_30 hR ) ?_
        refine ms_iload dX7_goNear_98 rfl ?_
        refine ms_dup2 dX7_goNear_100 rfl rfl ?_
        refine ms_iald dX7_goNear_101 (by first | rfl | assumption) ?_
        refine mi_iconst dX7_goNear_102 ?_
        refine mi_isub dX7_goNear_103 ?_
        refine ms_iast dX7_goNear_104 (by first | rfl | assumption) ?_
        refine ms_aload_n dX7_goNear_105 rfl ?_
        refine ms_getR dX7_goNear_106 (fo_X7_89 rfl) (by first | rfl | assumption) rfl (by first | assumption | exact rf_48_30 hR ) ?_
        refine ms_iload dX7_goNear_109 rfl ?_
        refine ms_dup2 dX7_goNear_111 rfl rfl ?_
        refine ms_iald dX7_goNear_112 (by first | rfl | assumption) ?_
        refine mi_iconst dX7_goNear_113 ?_
        refine mi_iadd dX7_goNear_114 ?_
        refine ms_iast dX7_goNear_115 (by first | rfl | assumption) ?_
        refine mi_iconst dX7_goNear_116 ?_
        refine ms_retZ dX7_goNear_117 rfl (by first | exact Or.inl rfl | exact Or.inr rfl) (by rw [show sp_stuck ng (M 67) (fun o => M r (g3 + o)) = false from sp_stuck_f (g := (fun o => M r (g3 + o))) (by simp only [ez]; omega) (by simp only [ez]; rintro ⟨z1, z2⟩; first | exact absurd z2 c_89 | (rw [z1] at c_83; simp [bI] at c_83))]; exact ⟨by rw [if_neg (by decide)]; simp only [sp_go1, sp_pour, ez, up_s]; rw [bx_uu], rfl⟩) (by simp)
      · refine ms_iload dX7_goNear_86 rfl ?_
        refine mi_iconst dX7_goNear_88 ?_
        refine mi_icmp_ne (tgt := 94) dX7_goNear_89 (by decide) (fun c_89 => ?_) (fun c_89 => ?_)
        · refine ms_aload_n dX7_goNear_94 rfl ?_
          refine ms_getR dX7_goNear_95 (fo_X7_89 rfl) (by first | rfl | assumption) rfl (by first | assumption | exact rf_48_30 hR ) ?_
          refine ms_iload dX7_goNear_98 rfl ?_
          refine ms_dup2 dX7_goNear_100 rfl rfl ?_
          refine ms_iald dX7_goNear_101 (by first | rfl | assumption) ?_
          refine mi_iconst dX7_goNear_102 ?_
          refine mi_isub dX7_goNear_103 ?_
          refine ms_iast dX7_goNear_104 (by first | rfl | assumption) ?_
          refine ms_aload_n dX7_goNear_105 rfl ?_
          refine ms_getR dX7_goNear_106 (fo_X7_89 rfl) (by first | rfl | assumption) rfl (by first | assumption | exact rf_48_30 hR ) ?_
          refine ms_iload dX7_goNear_109 rfl ?_
          refine ms_dup2 dX7_goNear_111 rfl rfl ?_
          refine ms_iald dX7_goNear_112 (by first | rfl | assumption) ?_
          refine mi_iconst dX7_goNear_113 ?_
          refine mi_iadd dX7_goNear_114 ?_
          refine ms_iast dX7_goNear_115 (by first | rfl | assumption) ?_
          refine mi_iconst dX7_goNear_116 ?_
          refine ms_retZ dX7_goNear_117 rfl (by first | exact Or.inl rfl | exact Or.inr rfl) (by rw [show sp_stuck ng (M 67) (fun o => M r (g3 + o)) = false from sp_stuck_f (g := (fun o => M r (g3 + o))) (by simp only [ez]; omega) (by simp only [ez]; rintro ⟨z1, z2⟩; first | exact absurd z2 c_89 | (rw [z1] at c_83; simp [bI] at c_83))]; exact ⟨by rw [if_neg (by decide)]; simp only [sp_go1, sp_pour, ez, up_s]; rw [bx_uu], rfl⟩) (by simp)
        · refine mi_iconst dX7_goNear_92 ?_
          refine ms_retZ dX7_goNear_93 rfl (by first | exact Or.inl rfl | exact Or.inr rfl) (by rw [show sp_stuck ng (M 67) (fun o => M r (g3 + o)) = true from by first | exact sp_stuck_0 (by simp only [ez]; assumption) (by assumption) (by assumption) | exact sp_stuck_1 (by cases ng; exact absurd rfl c_83; rfl) (by simp only [ez]; assumption)]; exact ⟨by rw [if_pos rfl], rfl⟩) (by simp)
    · refine ms_iload dX7_goNear_75 rfl ?_
      refine mi_if_eq (tgt := 92) dX7_goNear_77 (by decide) (fun c_77 => ?_) (fun c_77 => ?_)
      · refine mi_iconst dX7_goNear_92 ?_
        refine ms_retZ dX7_goNear_93 rfl (by first | exact Or.inl rfl | exact Or.inr rfl) (by rw [show sp_stuck ng (M 67) (fun o => M r (g3 + o)) = true from by first | exact sp_stuck_0 (by simp only [ez]; assumption) (by assumption) (by assumption) | exact sp_stuck_1 (by cases ng; exact absurd rfl c_83; rfl) (by simp only [ez]; assumption)]; exact ⟨by rw [if_pos rfl], rfl⟩) (by simp)
      · refine ms_iload_n dX7_goNear_80 rfl ?_
        refine mi_iconst dX7_goNear_81 ?_
        refine mi_iand (2 * bI ng) dX7_goNear_82 (by cases hf <;> cases ng <;> decide) ?_
        refine mi_if_eq (tgt := 94) dX7_goNear_83 (by decide) (fun c_83 => ?_) (fun c_83 => ?_)
        · refine ms_aload_n dX7_goNear_94 rfl ?_
          refine ms_getR dX7_goNear_95 (fo_X7_89 rfl) (by first | rfl | assumption) rfl (by first | assumption | exact rf_48_30 hR ) ?_
          refine ms_iload dX7_goNear_98 rfl ?_
          refine ms_dup2 dX7_goNear_100 rfl rfl ?_
          refine ms_iald dX7_goNear_101 (by first | rfl | assumption) ?_
          refine mi_iconst dX7_goNear_102 ?_
          refine mi_isub dX7_goNear_103 ?_
          refine ms_iast dX7_goNear_104 (by first | rfl | assumption) ?_
          refine ms_aload_n dX7_goNear_105 rfl ?_
          refine ms_getR dX7_goNear_106 (fo_X7_89 rfl) (by first | rfl | assumption) rfl (by first | assumption | exact rf_48_30 hR ) ?_
          refine ms_iload dX7_goNear_109 rfl ?_
          refine ms_dup2 dX7_goNear_111 rfl rfl ?_
          refine ms_iald dX7_goNear_112 (by first | rfl | assumption) ?_
          refine mi_iconst dX7_goNear_113 ?_
          refine mi_iadd dX7_goNear_114 ?_
          refine ms_iast dX7_goNear_115 (by first | rfl | assumption) ?_
          refine mi_iconst dX7_goNear_116 ?_
          refine ms_retZ dX7_goNear_117 rfl (by first | exact Or.inl rfl | exact Or.inr rfl) (by rw [show sp_stuck ng (M 67) (fun o => M r (g3 + o)) = false from sp_stuck_f (g := (fun o => M r (g3 + o))) (by simp only [ez]; omega) (by simp only [ez]; rintro ⟨z1, z2⟩; first | exact absurd z2 c_89 | (rw [z1] at c_83; simp [bI] at c_83))]; exact ⟨by rw [if_neg (by decide)]; simp only [sp_go1, sp_pour, ez, up_s]; rw [bx_uu], rfl⟩) (by simp)
        · refine ms_iload dX7_goNear_86 rfl ?_
          refine mi_iconst dX7_goNear_88 ?_
          refine mi_icmp_ne (tgt := 94) dX7_goNear_89 (by decide) (fun c_89 => ?_) (fun c_89 => ?_)
          · refine ms_aload_n dX7_goNear_94 rfl ?_
            refine ms_getR dX7_goNear_95 (fo_X7_89 rfl) (by first | rfl | assumption) rfl (by first | assumption | exact rf_48_30 hR ) ?_
            refine ms_iload dX7_goNear_98 rfl ?_
            refine ms_dup2 dX7_goNear_100 rfl rfl ?_
            refine ms_iald dX7_goNear_101 (by first | rfl | assumption) ?_
            refine mi_iconst dX7_goNear_102 ?_
            refine mi_isub dX7_goNear_103 ?_
            refine ms_iast dX7_goNear_104 (by first | rfl | assumption) ?_
            refine ms_aload_n dX7_goNear_105 rfl ?_
            refine ms_getR dX7_goNear_106 (fo_X7_89 rfl) (by first | rfl | assumption) rfl (by first | assumption | exact rf_48_30 hR ) ?_
            refine ms_iload dX7_goNear_109 rfl ?_
            refine ms_dup2 dX7_goNear_111 rfl rfl ?_
            refine ms_iald dX7_goNear_112 (by first | rfl | assumption) ?_
            refine mi_iconst dX7_goNear_113 ?_
            refine mi_iadd dX7_goNear_114 ?_
            refine ms_iast dX7_goNear_115 (by first | rfl | assumption) ?_
            refine mi_iconst dX7_goNear_116 ?_
            refine ms_retZ dX7_goNear_117 rfl (by first | exact Or.inl rfl | exact Or.inr rfl) (by rw [show sp_stuck ng (M 67) (fun o => M r (g3 + o)) = false from sp_stuck_f (g := (fun o => M r (g3 + o))) (by simp only [ez]; omega) (by simp only [ez]; rintro ⟨z1, z2⟩; first | exact absurd z2 c_89 | (rw [z1] at c_83; simp [bI] at c_83))]; exact ⟨by rw [if_neg (by decide)]; simp only [sp_go1, sp_pour, ez, up_s]; rw [bx_uu], rfl⟩) (by simp)
          · refine mi_iconst dX7_goNear_92 ?_
            refine ms_retZ dX7_goNear_93 rfl (by first | exact Or.inl rfl | exact Or.inr rfl) (by rw [show sp_stuck ng (M 67) (fun o => M r (g3 + o)) = true from by first | exact sp_stuck_0 (by simp only [ez]; assumption) (by assumption) (by assumption) | exact sp_stuck_1 (by cases ng; exact absurd rfl c_83; rfl) (by simp only [ez]; assumption)]; exact ⟨by rw [if_pos rfl], rfl⟩) (by simp)

