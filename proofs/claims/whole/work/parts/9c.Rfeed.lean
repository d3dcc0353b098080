theorem by_sar (x : Int32) {s : Int} (hs : s = 0 ∨ s = 8 ∨ s = 16 ∨ s = 24) : (x >>> (iI s &&& 31)) &&& iI 255 = iI (by32 x s) := by
  unfold by32
  rw [iI_ti]
  apply Int32.toBitVec_inj.mp
  have h2 : ∀ (y z : BitVec 32), (∀ i, i < 8 → y.getLsbD i = z.getLsbD i) → y &&& 255#32 = z &&& 255#32 := by
    intro y z h
    apply BitVec.eq_of_getLsbD_eq
    intro i hi
    rw [BitVec.getLsbD_and, BitVec.getLsbD_and]
    by_cases e : i < 8
    · rw [h i e]
    · have h9 : (255#32).getLsbD i = false := (by decide : ∀ i : Fin 32, ¬ i.val < 8 → (255#32).getLsbD i.val = false) ⟨i, hi⟩ e
      rw [h9, Bool.and_false, Bool.and_false]
  rcases hs with rfl | rfl | rfl | rfl
  · exact h2 (x.toBitVec.sshiftRight 0) (x.toBitVec >>> 0) (fun i hi => by rw [BitVec.getLsbD_sshiftRight, BitVec.getLsbD_ushiftRight, if_pos (by omega), decide_eq_false (by omega)]; rfl)
  · exact h2 (x.toBitVec.sshiftRight 8) (x.toBitVec >>> 8) (fun i hi => by rw [BitVec.getLsbD_sshiftRight, BitVec.getLsbD_ushiftRight, if_pos (by omega), decide_eq_false (by omega)]; rfl)
  · exact h2 (x.toBitVec.sshiftRight 16) (x.toBitVec >>> 16) (fun i hi => by rw [BitVec.getLsbD_sshiftRight, BitVec.getLsbD_ushiftRight, if_pos (by omega), decide_eq_false (by omega)]; rfl)
  · exact h2 (x.toBitVec.sshiftRight 24) (x.toBitVec >>> 24) (fun i hi => by rw [BitVec.getLsbD_sshiftRight, BitVec.getLsbD_ushiftRight, if_pos (by omega), decide_eq_false (by omega)]; rfl)
set_option maxHeartbeats 4000000 in
set_option maxRecDepth 100000 in
theorem l_X7_feed {S : mx_Sc} {f : Bool} {M : Nat → Int → Int} {L : Nat → Nat → Int64} {Rf : Nat → Nat → Option Nat} (hR : mx_rf Rf) {p a b c d e : Int} (hp : 0 ≤ p ∧ p ≤ 480) : ∀ (kk : Nat) (k : Int) (N : Nat → Int → Int) (o7 : Option Value), 0 ≤ k → k + kk = 20 → (∀ y, y ≠ 48 → y ≠ 62 → N y = M y) → (∀ j, j ≠ 15 → N 48 j = M 48 j) → N 48 15 = p + k → (∀ y, N 62 y = if p ≤ y ∧ y < p + k then fd a b c d e (y - p) else M 62 y) → mx_E S mX7_feed 23 [some (.ref 48), some (.int (iI a)), some (.int (iI b)), some (.int (iI c)), some (.int (iI d)), some (.int (iI e)), some (.int (iI k)), o7] [] (f, mx_SH, N, L, Rf) 0 0 (fun v9 h9 => ∃ N, h9 = (f, mx_SH, N, L, Rf) ∧ v9 = some (.int (iI (p + 20))) ∧ (∀ y, y ≠ 48 → y ≠ 62 → N y = M y) ∧ (∀ j, j ≠ 15 → N 48 j = M 48 j) ∧ N 48 15 = p + 20 ∧ ∀ y, N 62 y = if p ≤ y ∧ y < p + 20 then fd a b c d e (y - p) else M 62 y) (fun _ _ => False) := by
  intro kk
  induction kk with
  | zero => 
    intro k N o7 g0 g1 q1 q2 q3 q4
    refine ms_iload dX7_feed_23 rfl ?_
    refine mi_bipush dX7_feed_25 (by decide) ?_
    refine mi_icmp_ge (tgt := 120) dX7_feed_27 (by decide) (fun c_27 => ?_) (fun c_27 => ?_)
    · refine ms_aload_n dX7_feed_120 rfl ?_
      refine ms_getI (z := 15) dX7_feed_121 (fo_X7_138 rfl) (by first | rfl | assumption) rfl rfl ?_
      rw [q3, show k = 20 by omega]
      refine ms_ret dX7_feed_124 rfl ⟨N, rfl, rfl, q1, q2, by rw [q3]; omega, fun y => by rw [q4 y, show k = 20 by omega]⟩ (by simp)
    · exact absurd c_27 (by omega)
  | succ kk ih => 
    intro k N o7 g0 g1 q1 q2 q3 q4
    refine ms_iload dX7_feed_23 rfl ?_
    refine mi_bipush dX7_feed_25 (by decide) ?_
    refine mi_icmp_ge (tgt := 120) dX7_feed_27 (by decide) (fun c_27 => ?_) (fun c_27 => ?_)
    · exact absurd c_27 (by omega)
    · refine ms_iload dX7_feed_30 rfl ?_
      refine mi_iconst dX7_feed_32 ?_
      refine mi_icmp_ge (tgt := 40) dX7_feed_33 (by decide) (fun c_33 => ?_) (fun c_33 => ?_)
      · refine ms_iload dX7_feed_40 rfl ?_
        refine mi_bipush dX7_feed_42 (by decide) ?_
        refine mi_icmp_ge (tgt := 51) dX7_feed_44 (by decide) (fun c_44 => ?_) (fun c_44 => ?_)
        · refine ms_iload dX7_feed_51 rfl ?_
          refine mi_bipush dX7_feed_53 (by decide) ?_
          refine mi_icmp_ge (tgt := 62) dX7_feed_55 (by decide) (fun c_55 => ?_) (fun c_55 => ?_)
          · refine ms_iload dX7_feed_62 rfl ?_
            refine mi_bipush dX7_feed_64 (by decide) ?_
            refine mi_icmp_ge (tgt := 74) dX7_feed_66 (by decide) (fun c_66 => ?_) (fun c_66 => ?_)
            · refine ms_iload dX7_feed_74 rfl ?_
              refine ms_istore dX7_feed_76 (by decide) rfl ?_
              dsimp only [List.set, Nat.reduceAdd]
              refine ms_aload_n dX7_feed_78 rfl ?_
              refine ms_getR dX7_feed_79 (fo_X7_70 rfl) (by first | rfl | assumption) rfl (by first | assumption | exact rf_48_14 hR ) ?_
              refine ms_aload_n dX7_feed_82 rfl ?_
              refine ms_getI (z := 15) dX7_feed_83 (fo_X7_138 rfl) (by first | rfl | assumption) rfl rfl ?_
              refine ms_iload dX7_feed_86 rfl ?_
              refine mi_bipush dX7_feed_88 (by decide) ?_
              refine mi_bipush dX7_feed_90 (by decide) ?_
              refine ms_iload dX7_feed_92 rfl ?_
              refine mi_iconst dX7_feed_94 ?_
              refine mi_irem dX7_feed_95 ?_
              refine mi_imul dX7_feed_96 ?_
              have hs4 : 24 - 8 * (k % 4) = 0 ∨ 24 - 8 * (k % 4) = 8 ∨ 24 - 8 * (k % 4) = 16 ∨ 24 - 8 * (k % 4) = 24 := by omega
              refine mi_isub dX7_feed_97 ?_
              refine mi_ishr ((iI e >>> (iI (24 - 8 * (k % 4)) &&& 31)).toInt) dX7_feed_98 (iI_ti _).symm ?_
              refine mi_sipush dX7_feed_99 (by decide) ?_
              refine mi_iand (by32 (iI e) (24 - 8 * (k % 4))) dX7_feed_102 (by rw [iI_ti]; exact by_sar _ hs4) ?_
              refine ms_iast dX7_feed_103 (by first | rfl | assumption) ?_
              refine ms_aload_n dX7_feed_104 rfl ?_
              refine ms_dup dX7_feed_105 rfl ?_
              refine ms_getI (z := 15) dX7_feed_106 (fo_X7_138 rfl) (by first | rfl | assumption) rfl rfl ?_
              refine mi_iconst dX7_feed_109 ?_
              refine mi_iadd dX7_feed_110 ?_
              refine ms_putI (z := 15) dX7_feed_111 (fo_X7_138 rfl) (by first | rfl | assumption) rfl rfl rfl ?_
              refine mi_iinc dX7_feed_114 rfl (by decide) rfl ?_
              dsimp only [List.set, Nat.reduceAdd]
              refine ms_goto (tgt := 23) dX7_feed_117 (by decide) ?_
              rw [up_n (b := 48) _ _ (by decide)]
              refine ih (k + 1) _ _ (by omega) (by omega) (fun y y0 y1 => by rw [up_n _ _ y0, up_n _ _ y1]; exact q1 y y0 y1) (fun j hj => by rw [up_s, iu_n _ _ hj]; exact q2 j hj) (by rw [up_s, iu_s]; omega) (fun y => ?_)
              rw [up_n _ _ (by decide), up_s, q3]
              by_cases ey : y = p + k
              · rw [ey, iu_s, if_pos (by omega)]
                unfold fd
                rw [show p + k - p = k by omega]
                rw [if_neg (by omega), if_neg (by omega), if_neg (by omega), if_neg (by omega)]; congr 2; omega
              · rw [iu_n _ _ ey, q4 y]
                by_cases h : p ≤ y ∧ y < p + k
                · rw [if_pos h, if_pos (by omega)]
                · rw [if_neg h, if_neg (by omega)]
            · refine ms_iload dX7_feed_69 rfl ?_
              refine ms_goto (tgt := 76) dX7_feed_71 (by decide) ?_
              refine ms_istore dX7_feed_76 (by decide) rfl ?_
              dsimp only [List.set, Nat.reduceAdd]
              refine ms_aload_n dX7_feed_78 rfl ?_
              refine ms_getR dX7_feed_79 (fo_X7_70 rfl) (by first | rfl | assumption) rfl (by first | assumption | exact rf_48_14 hR ) ?_
              refine ms_aload_n dX7_feed_82 rfl ?_
              refine ms_getI (z := 15) dX7_feed_83 (fo_X7_138 rfl) (by first | rfl | assumption) rfl rfl ?_
              refine ms_iload dX7_feed_86 rfl ?_
              refine mi_bipush dX7_feed_88 (by decide) ?_
              refine mi_bipush dX7_feed_90 (by decide) ?_
              refine ms_iload dX7_feed_92 rfl ?_
              refine mi_iconst dX7_feed_94 ?_
              refine mi_irem dX7_feed_95 ?_
              refine mi_imul dX7_feed_96 ?_
              have hs4 : 24 - 8 * (k % 4) = 0 ∨ 24 - 8 * (k % 4) = 8 ∨ 24 - 8 * (k % 4) = 16 ∨ 24 - 8 * (k % 4) = 24 := by omega
              refine mi_isub dX7_feed_97 ?_
              refine mi_ishr ((iI d >>> (iI (24 - 8 * (k % 4)) &&& 31)).toInt) dX7_feed_98 (iI_ti _).symm ?_
              refine mi_sipush dX7_feed_99 (by decide) ?_
              refine mi_iand (by32 (iI d) (24 - 8 * (k % 4))) dX7_feed_102 (by rw [iI_ti]; exact by_sar _ hs4) ?_
              refine ms_iast dX7_feed_103 (by first | rfl | assumption) ?_
              refine ms_aload_n dX7_feed_104 rfl ?_
              refine ms_dup dX7_feed_105 rfl ?_
              refine ms_getI (z := 15) dX7_feed_106 (fo_X7_138 rfl) (by first | rfl | assumption) rfl rfl ?_
              refine mi_iconst dX7_feed_109 ?_
              refine mi_iadd dX7_feed_110 ?_
              refine ms_putI (z := 15) dX7_feed_111 (fo_X7_138 rfl) (by first | rfl | assumption) rfl rfl rfl ?_
              refine mi_iinc dX7_feed_114 rfl (by decide) rfl ?_
              dsimp only [List.set, Nat.reduceAdd]
              refine ms_goto (tgt := 23) dX7_feed_117 (by decide) ?_
              rw [up_n (b := 48) _ _ (by decide)]
              refine ih (k + 1) _ _ (by omega) (by omega) (fun y y0 y1 => by rw [up_n _ _ y0, up_n _ _ y1]; exact q1 y y0 y1) (fun j hj => by rw [up_s, iu_n _ _ hj]; exact q2 j hj) (by rw [up_s, iu_s]; omega) (fun y => ?_)
              rw [up_n _ _ (by decide), up_s, q3]
              by_cases ey : y = p + k
              · rw [ey, iu_s, if_pos (by omega)]
                unfold fd
                rw [show p + k - p = k by omega]
                rw [if_neg (by omega), if_neg (by omega), if_neg (by omega), if_pos (by omega)]; congr 2; omega
              · rw [iu_n _ _ ey, q4 y]
                by_cases h : p ≤ y ∧ y < p + k
                · rw [if_pos h, if_pos (by omega)]
                · rw [if_neg h, if_neg (by omega)]
          · refine ms_iload_n dX7_feed_58 rfl ?_
            refine ms_goto (tgt := 76) dX7_feed_59 (by decide) ?_
            refine ms_istore dX7_feed_76 (by decide) rfl ?_
            dsimp only [List.set, Nat.reduceAdd]
            refine ms_aload_n dX7_feed_78 rfl ?_
            refine ms_getR dX7_feed_79 (fo_X7_70 rfl) (by first | rfl | assumption) rfl (by first | assumption | exact rf_48_14 hR ) ?_
            refine ms_aload_n dX7_feed_82 rfl ?_
            refine ms_getI (z := 15) dX7_feed_83 (fo_X7_138 rfl) (by first | rfl | assumption) rfl rfl ?_
            refine ms_iload dX7_feed_86 rfl ?_
            refine mi_bipush dX7_feed_88 (by decide) ?_
            refine mi_bipush dX7_feed_90 (by decide) ?_
            refine ms_iload dX7_feed_92 rfl ?_
            refine mi_iconst dX7_feed_94 ?_
            refine mi_irem dX7_feed_95 ?_
            refine mi_imul dX7_feed_96 ?_
            have hs4 : 24 - 8 * (k % 4) = 0 ∨ 24 - 8 * (k % 4) = 8 ∨ 24 - 8 * (k % 4) = 16 ∨ 24 - 8 * (k % 4) = 24 := by omega
            refine mi_isub dX7_feed_97 ?_
            refine mi_ishr ((iI c >>> (iI (24 - 8 * (k % 4)) &&& 31)).toInt) dX7_feed_98 (iI_ti _).symm ?_
            refine mi_sipush dX7_feed_99 (by decide) ?_
            refine mi_iand (by32 (iI c) (24 - 8 * (k % 4))) dX7_feed_102 (by rw [iI_ti]; exact by_sar _ hs4) ?_
            refine ms_iast dX7_feed_103 (by first | rfl | assumption) ?_
            refine ms_aload_n dX7_feed_104 rfl ?_
            refine ms_dup dX7_feed_105 rfl ?_
            refine ms_getI (z := 15) dX7_feed_106 (fo_X7_138 rfl) (by first | rfl | assumption) rfl rfl ?_
            refine mi_iconst dX7_feed_109 ?_
            refine mi_iadd dX7_feed_110 ?_
            refine ms_putI (z := 15) dX7_feed_111 (fo_X7_138 rfl) (by first | rfl | assumption) rfl rfl rfl ?_
            refine mi_iinc dX7_feed_114 rfl (by decide) rfl ?_
            dsimp only [List.set, Nat.reduceAdd]
            refine ms_goto (tgt := 23) dX7_feed_117 (by decide) ?_
            rw [up_n (b := 48) _ _ (by decide)]
            refine ih (k + 1) _ _ (by omega) (by omega) (fun y y0 y1 => by rw [up_n _ _ y0, up_n _ _ y1]; exact q1 y y0 y1) (fun j hj => by rw [up_s, iu_n _ _ hj]; exact q2 j hj) (by rw [up_s, iu_s]; omega) (fun y => ?_)
            rw [up_n _ _ (by decide), up_s, q3]
            by_cases ey : y = p + k
            · rw [ey, iu_s, if_pos (by omega)]
              unfold fd
              rw [show p + k - p = k by omega]
              rw [if_neg (by omega), if_neg (by omega), if_pos (by omega)]; congr 2; omega
            · rw [iu_n _ _ ey, q4 y]
              by_cases h : p ≤ y ∧ y < p + k
              · rw [if_pos h, if_pos (by omega)]
              · rw [if_neg h, if_neg (by omega)]
        · refine ms_iload_n dX7_feed_47 rfl ?_
          refine ms_goto (tgt := 76) dX7_feed_48 (by decide) ?_
          refine ms_istore dX7_feed_76 (by decide) rfl ?_
          dsimp only [List.set, Nat.reduceAdd]
          refine ms_aload_n dX7_feed_78 rfl ?_
          refine ms_getR dX7_feed_79 (fo_X7_70 rfl) (by first | rfl | assumption) rfl (by first | assumption | exact rf_48_14 hR ) ?_
          refine ms_aload_n dX7_feed_82 rfl ?_
          refine ms_getI (z := 15) dX7_feed_83 (fo_X7_138 rfl) (by first | rfl | assumption) rfl rfl ?_
          refine ms_iload dX7_feed_86 rfl ?_
          refine mi_bipush dX7_feed_88 (by decide) ?_
          refine mi_bipush dX7_feed_90 (by decide) ?_
          refine ms_iload dX7_feed_92 rfl ?_
          refine mi_iconst dX7_feed_94 ?_
          refine mi_irem dX7_feed_95 ?_
          refine mi_imul dX7_feed_96 ?_
          have hs4 : 24 - 8 * (k % 4) = 0 ∨ 24 - 8 * (k % 4) = 8 ∨ 24 - 8 * (k % 4) = 16 ∨ 24 - 8 * (k % 4) = 24 := by omega
          refine mi_isub dX7_feed_97 ?_
          refine mi_ishr ((iI b >>> (iI (24 - 8 * (k % 4)) &&& 31)).toInt) dX7_feed_98 (iI_ti _).symm ?_
          refine mi_sipush dX7_feed_99 (by decide) ?_
          refine mi_iand (by32 (iI b) (24 - 8 * (k % 4))) dX7_feed_102 (by rw [iI_ti]; exact by_sar _ hs4) ?_
          refine ms_iast dX7_feed_103 (by first | rfl | assumption) ?_
          refine ms_aload_n dX7_feed_104 rfl ?_
          refine ms_dup dX7_feed_105 rfl ?_
          refine ms_getI (z := 15) dX7_feed_106 (fo_X7_138 rfl) (by first | rfl | assumption) rfl rfl ?_
          refine mi_iconst dX7_feed_109 ?_
          refine mi_iadd dX7_feed_110 ?_
          refine ms_putI (z := 15) dX7_feed_111 (fo_X7_138 rfl) (by first | rfl | assumption) rfl rfl rfl ?_
          refine mi_iinc dX7_feed_114 rfl (by decide) rfl ?_
          dsimp only [List.set, Nat.reduceAdd]
          refine ms_goto (tgt := 23) dX7_feed_117 (by decide) ?_
          rw [up_n (b := 48) _ _ (by decide)]
          refine ih (k + 1) _ _ (by omega) (by omega) (fun y y0 y1 => by rw [up_n _ _ y0, up_n _ _ y1]; exact q1 y y0 y1) (fun j hj => by rw [up_s, iu_n _ _ hj]; exact q2 j hj) (by rw [up_s, iu_s]; omega) (fun y => ?_)
          rw [up_n _ _ (by decide), up_s, q3]
          by_cases ey : y = p + k
          · rw [ey, iu_s, if_pos (by omega)]
            unfold fd
            rw [show p + k - p = k by omega]
            rw [if_neg (by omega), if_pos (by omega)]; congr 2; omega
          · rw [iu_n _ _ ey, q4 y]
            by_cases h : p ≤ y ∧ y < p + k
            · rw [if_pos h, if_pos (by omega)]
            · rw [if_neg h, if_neg (by omega)]
      · refine ms_iload_n dX7_feed_36 rfl ?_
        refine ms_goto (tgt := 76) dX7_feed_37 (by decide) ?_
        refine ms_istore dX7_feed_76 (by decide) rfl ?_
        dsimp only [List.set, Nat.reduceAdd]
        refine ms_aload_n dX7_feed_78 rfl ?_
        refine ms_getR dX7_feed_79 (fo_X7_70 rfl) (by first | rfl | assumption) rfl (by first | assumption | exact rf_48_14 hR ) ?_
        refine ms_aload_n dX7_feed_82 rfl ?_
        refine ms_getI (z := 15) dX7_feed_83 (fo_X7_138 rfl) (by first | rfl | assumption) rfl rfl ?_
        refine ms_iload dX7_feed_86 rfl ?_
        refine mi_bipush dX7_feed_88 (by decide) ?_
        refine mi_bipush dX7_feed_90 (by decide) ?_
        refine ms_iload dX7_feed_92 rfl ?_
        refine mi_iconst dX7_feed_94 ?_
        refine mi_irem dX7_feed_95 ?_
        refine mi_imul dX7_feed_96 ?_
        have hs4 : 24 - 8 * (k % 4) = 0 ∨ 24 - 8 * (k % 4) = 8 ∨ 24 - 8 * (k % 4) = 16 ∨ 24 - 8 * (k % 4) = 24 := by omega
        refine mi_isub dX7_feed_97 ?_
        refine mi_ishr ((iI a >>> (iI (24 - 8 * (k % 4)) &&& 31)).toInt) dX7_feed_98 (iI_ti _).symm ?_
        refine mi_sipush dX7_feed_99 (by decide) ?_
        refine mi_iand (by32 (iI a) (24 - 8 * (k % 4))) dX7_feed_102 (by rw [iI_ti]; exact by_sar _ hs4) ?_
        refine ms_iast dX7_feed_103 (by first | rfl | assumption) ?_
        refine ms_aload_n dX7_feed_104 rfl ?_
        refine ms_dup dX7_feed_105 rfl ?_
        refine ms_getI (z := 15) dX7_feed_106 (fo_X7_138 rfl) (by first | rfl | assumption) rfl rfl ?_
        refine mi_iconst dX7_feed_109 ?_
        refine mi_iadd dX7_feed_110 ?_
        refine ms_putI (z := 15) dX7_feed_111 (fo_X7_138 rfl) (by first | rfl | assumption) rfl rfl rfl ?_
        refine mi_iinc dX7_feed_114 rfl (by decide) rfl ?_
        dsimp only [List.set, Nat.reduceAdd]
        refine ms_goto (tgt := 23) dX7_feed_117 (by decide) ?_
        rw [up_n (b := 48) _ _ (by decide)]
        refine ih (k + 1) _ _ (by omega) (by omega) (fun y y0 y1 => by rw [up_n _ _ y0, up_n _ _ y1]; exact q1 y y0 y1) (fun j hj => by rw [up_s, iu_n _ _ hj]; exact q2 j hj) (by rw [up_s, iu_s]; omega) (fun y => ?_)
        rw [up_n _ _ (by decide), up_s, q3]
        by_cases ey : y = p + k
        · rw [ey, iu_s, if_pos (by omega)]
          unfold fd
          rw [show p + k - p = k by omega]
          rw [if_pos (by omega)]; congr 2; omega
        · rw [iu_n _ _ ey, q4 y]
          by_cases h : p ≤ y ∧ y < p + k
          · rw [if_pos h, if_pos (by omega)]
          · rw [if_neg h, if_neg (by omega)]

set_option maxHeartbeats 4000000 in
set_option maxRecDepth 100000 in
theorem k_X7_feed {S : mx_Sc} {f : Bool} {M : Nat → Int → Int} {L : Nat → Nat → Int64} {Rf : Nat → Nat → Option Nat} (hR : mx_rf Rf) {p a b c d e : Int} (hp : 0 ≤ p ∧ p ≤ 500) (hpp : M 48 15 = p) : mx_C S mX7_feed [.ref 48, .int (iI a), .int (iI b), .int (iI c), .int (iI d), .int (iI e)] (f, mx_SH, M, L, Rf) 0 0 (fun v9 h9 => (480 < p ∧ ∃ N, h9 = (f, mx_SH, N, L, Rf) ∧ cdP M N 0 ∧ v9 = some (.int (iI (-1)))) ∨ (p ≤ 480 ∧ ∃ N, h9 = (f, mx_SH, N, L, Rf) ∧ v9 = some (.int (iI (p + 20))) ∧ (∀ y, y ≠ 48 → y ≠ 62 → N y = M y) ∧ N 48 4 = 0 ∧ (∀ j, j ≠ 4 → j ≠ 15 → N 48 j = M 48 j) ∧ N 48 15 = p + 20 ∧ ∀ y, N 62 y = if p ≤ y ∧ y < p + 20 then fd a b c d e (y - p) else M 62 y)) (fun _ _ => False) := by
  refine mx_C_of (by decide) (by simp [Value.category]) (Nat.le_of_ble_eq_true rfl) rfl ?_
  show mx_E S mX7_feed 0 [some (.ref 48), some (.int (iI a)), some (.int (iI b)), some (.int (iI c)), some (.int (iI d)), some (.int (iI e)), none, none] [] (f, mx_SH, M, L, Rf) 0 0 _ _
  refine ms_aload_n dX7_feed_0 rfl ?_
  refine mi_iconst dX7_feed_1 ?_
  refine ms_putI (z := 4) dX7_feed_2 (fo_X7_131 rfl) (by first | rfl | assumption) rfl rfl rfl ?_
  refine mx_gen (fun N => cdP M N 0) cdP.mk' (fun N hN => ?_)
  have e53 : N 53 = M 53 := hN.1 53 (by decide)
  have e63 : N 63 = M 63 := hN.1 63 (by decide)
  have eTR : sp_tR N = sp_tR M := by simp only [sp_tR, hN.1 53 (by decide), hN.1 54 (by decide), hN.1 55 (by decide), hN.1 58 (by decide), hN.1 59 (by decide), hN.1 60 (by decide)]
  have e15 : N 48 15 = p := (hN.2.2 15 (by decide)).trans hpp
  refine ms_aload_n dX7_feed_5 rfl ?_
  refine ms_getI (z := 15) dX7_feed_6 (fo_X7_138 rfl) (by first | rfl | assumption) rfl rfl ?_
  refine mi_bipush dX7_feed_9 (by decide) ?_
  refine mi_iadd dX7_feed_11 ?_
  refine mi_sipush dX7_feed_12 (by decide) ?_
  refine mi_icmp_le (tgt := 20) dX7_feed_15 (by decide) (fun c_15 => ?_) (fun c_15 => ?_)
  · refine mi_iconst dX7_feed_20 ?_
    refine ms_istore dX7_feed_21 (by decide) rfl ?_
    dsimp only [List.set, Nat.reduceAdd]
    refine ms_conseq (fun v9 h9 hp => ?_) (fun _ _ z => z) (l_X7_feed (S := S) (f := f) (L := L) (M := N) (p := p) (a := a) (b := b) (c := c) (d := d) (e := e) hR (by omega) 20 0 N none (by omega) (by omega) (fun _ _ _ => rfl) (fun _ _ => rfl) (by omega) (fun y => by rw [if_neg (by omega)]))
    obtain ⟨N2, y1, y2, y3, y4, y5, y6⟩ := hp
    exact Or.inr ⟨by omega, N2, y1, y2, fun y y0 z0 => by rw [y3 y y0 z0]; exact hN.1 y y0, by rw [y4 4 (by decide)]; exact hN.2.1, fun j j0 j1 => by rw [y4 j j1]; exact hN.2.2 j j0, y5, fun y => by rw [y6 y, hN.1 62 (by decide)]⟩
  · refine mi_iconst dX7_feed_18 ?_
    refine ms_ret dX7_feed_19 rfl (Or.inl ⟨by omega, N, rfl, hN, rfl⟩) (by simp)

set_option maxHeartbeats 4000000 in
set_option maxRecDepth 100000 in
theorem k_X7_give {S : mx_Sc} {f : Bool} {M : Nat → Int → Int} {L : Nat → Nat → Int64} {Rf : Nat → Nat → Option Nat} {r : Nat} (hr9 : r < 900) (hs : mx_SH[r]? = some (0, 30)) {l d : Int} (hl : 0 ≤ l ∧ l < 6) (hd : 0 ≤ d ∧ d < 9) : mx_C S mX7_give [.ref r, .int (iI l), .int (iI d)] (f, mx_SH, M, L, Rf) 0 0 (fun v9 h9 => h9 = (f, mx_SH, va_up M r (sp_give (M r) l (d / 3) (d % 3)), L, Rf) ∧ v9 = none) (fun _ _ => False) := by
  refine mx_C_of (by decide) (by simp [Value.category]) (Nat.le_of_ble_eq_true rfl) rfl ?_
  show mx_E S mX7_give 0 [some (.ref r), some (.int (iI l)), some (.int (iI d))] [] (f, mx_SH, M, L, Rf) 0 0 _ _
  refine ms_aload_n dX7_give_0 rfl ?_
  refine mi_iconst dX7_give_1 ?_
  refine ms_iload_n dX7_give_2 rfl ?_
  refine mi_imul dX7_give_3 ?_
  refine ms_iload_n dX7_give_4 rfl ?_
  refine mi_iconst dX7_give_5 ?_
  refine mi_idiv dX7_give_6 ?_
  refine mi_iadd dX7_give_7 ?_
  refine ms_dup2 dX7_give_8 rfl rfl ?_
  refine ms_iald dX7_give_9 (by first | rfl | assumption) ?_
  refine mi_iconst dX7_give_10 ?_
  refine mi_isub dX7_give_11 ?_
  refine ms_iast dX7_give_12 (by first | rfl | assumption) ?_
  refine ms_aload_n dX7_give_13 rfl ?_
  refine mi_iconst dX7_give_14 ?_
  refine ms_iload_n dX7_give_15 rfl ?_
  refine mi_imul dX7_give_16 ?_
  refine ms_iload_n dX7_give_17 rfl ?_
  refine mi_iconst dX7_give_18 ?_
  refine mi_irem dX7_give_19 ?_
  refine mi_iadd dX7_give_20 ?_
  refine ms_dup2 dX7_give_21 rfl rfl ?_
  refine ms_iald dX7_give_22 (by first | rfl | assumption) ?_
  refine mi_iconst dX7_give_23 ?_
  refine mi_iadd dX7_give_24 ?_
  refine ms_iast dX7_give_25 (by first | rfl | assumption) ?_
  refine ms_retV dX7_give_26 rfl ⟨by simp only [up_s, bx_uu]; rfl, rfl⟩ (by simp)

set_option maxHeartbeats 4000000 in
set_option maxRecDepth 100000 in
theorem k_X7_drop {S : mx_Sc} {f : Bool} {M : Nat → Int → Int} {L : Nat → Nat → Int64} {Rf : Nat → Nat → Option Nat} (hR : mx_rf Rf) (hT : sp_tok (sp_tR M)) (hv : sp_vok (sp_tR M) (M 63)) (hrf : 0 ≤ M 61 1 ∧ M 61 1 ≤ 1000000) {l : Int} (hl32 : -2147483648 ≤ l ∧ l ≤ 2147483647) {i : Int} (hi32 : -2147483648 ≤ i ∧ i ≤ 2147483647) {j : Int} (hj32 : -2147483648 ≤ j ∧ j ≤ 2147483647) (hc : (0 ≤ l ∧ l < M 53 1) ∧ (0 ≤ i ∧ i < 3) ∧ (0 ≤ j ∧ j < 3) ∧ i ≠ j) : mx_C S mX7_drop [.ref 48, .int (iI l), .int (iI i), .int (iI j)] (f, mx_SH, M, L, Rf) 0 0 (fun v9 h9 => ∃ N, h9 = (f, mx_SH, N, L, Rf) ∧ N 48 4 = 0 ∧ (∀ k, k ≠ 4 → N 48 k = M 48 k) ∧ v9 = some (.int (iI (bI (decide (sp_out (M 63) l = false ∧ M 63 (3 * l + i) ≠ 0))))) ∧ (((sp_out (M 63) l = false ∧ M 63 (3 * l + i) ≠ 0) ∧ (∀ x, x ≠ 48 → x ≠ 63 → N x = M x) ∧ N 63 = sp_give (M 63) l i j) ∨ (¬ (sp_out (M 63) l = false ∧ M 63 (3 * l + i) ≠ 0) ∧ (∀ x, x ≠ 48 → x ≠ 61 → N x = M x) ∧ N 61 = iu (M 61) 1 (M 61 1 + 1)))) (fun _ _ => False) := by
  refine mx_C_of (by decide) (by simp [Value.category]) (Nat.le_of_ble_eq_true rfl) rfl ?_
  show mx_E S mX7_drop 0 [some (.ref 48), some (.int (iI l)), some (.int (iI i)), some (.int (iI j))] [] (f, mx_SH, M, L, Rf) 0 0 _ _
  have hT0 : 1 ≤ M 53 0 ∧ M 53 0 ≤ 30 := hT.1
  have hT1 : 0 ≤ M 53 1 ∧ M 53 1 ≤ 6 := hT.2.1
  have hT5 : 1 ≤ M 53 5 ∧ M 53 5 ≤ 99 := hT.2.2.2.2.2.1
  have hT6 : 0 ≤ M 53 6 ∧ M 53 6 ≤ 10 := hT.2.2.2.2.2.2.1
  refine ms_aload_n dX7_drop_0 rfl ?_
  refine mi_iconst dX7_drop_1 ?_
  refine ms_putI (z := 4) dX7_drop_2 (fo_X7_131 rfl) (by first | rfl | assumption) rfl rfl rfl ?_
  refine mx_gen (fun N => cdP M N 0) cdP.mk' (fun N hN => ?_)
  have e53 : N 53 = M 53 := hN.1 53 (by decide)
  have e63 : N 63 = M 63 := hN.1 63 (by decide)
  have eTR : sp_tR N = sp_tR M := by simp only [sp_tR, hN.1 53 (by decide), hN.1 54 (by decide), hN.1 55 (by decide), hN.1 58 (by decide), hN.1 59 (by decide), hN.1 60 (by decide)]
  refine ms_aload_n dX7_drop_5 rfl ?_
  refine ms_iload_n dX7_drop_6 rfl ?_
  refine ms_callV1 (ci := 7) (r := (RX7, TX7, 48)) dX7_drop_7 cv_X7_drop_X7_isLamp (k_X7_isLamp (M := N) hR (by rw [e53]; exact hT1) hl32) rfl rfl (by first | rfl | assumption) (Nat.le_of_ble_eq_true rfl) rfl (fun _ _ z => z.elim) (fun v9 h9 hp9 => ?_)
  obtain ⟨rfl, rfl⟩ := hp9
  rw [e53]
  refine mi_if_eqB (tgt := 36) dX7_drop_10 (by decide) (fun c_10 => ?_) (fun c_10 => ?_)
  · exact absurd (of_decide_eq_false c_10) (by omega)
  · refine ms_iload_n dX7_drop_13 rfl ?_
    refine mi_iconst dX7_drop_14 ?_
    refine mi_iconst dX7_drop_15 ?_
    refine ms_callS3 dX7_drop_16 cv_X7_drop_X7_isIn (k_X7_isIn (f := f) (M := N) (L := L) (Rf := Rf) hi32 (a := 0) (b := 2) (by decide) (by decide)) (Nat.le_of_ble_eq_true rfl) rfl (fun _ _ z => z.elim) (fun v9 h9 hp9 => ?_)
    obtain ⟨rfl, rfl⟩ := hp9
    refine mi_if_eqB (tgt := 36) dX7_drop_19 (by decide) (fun c_19 => ?_) (fun c_19 => ?_)
    · exact absurd (of_decide_eq_false c_19) (by omega)
    · refine ms_iload_n dX7_drop_22 rfl ?_
      refine mi_iconst dX7_drop_23 ?_
      refine mi_iconst dX7_drop_24 ?_
      refine ms_callS3 dX7_drop_25 cv_X7_drop_X7_isIn (k_X7_isIn (f := f) (M := N) (L := L) (Rf := Rf) hj32 (a := 0) (b := 2) (by decide) (by decide)) (Nat.le_of_ble_eq_true rfl) rfl (fun _ _ z => z.elim) (fun v9 h9 hp9 => ?_)
      obtain ⟨rfl, rfl⟩ := hp9
      refine mi_if_eqB (tgt := 36) dX7_drop_28 (by decide) (fun c_28 => ?_) (fun c_28 => ?_)
      · exact absurd (of_decide_eq_false c_28) (by omega)
      · refine ms_iload_n dX7_drop_31 rfl ?_
        refine ms_iload_n dX7_drop_32 rfl ?_
        refine mi_icmp_ne (tgt := 43) dX7_drop_33 (by decide) (fun c_33 => ?_) (fun c_33 => ?_)
        · refine ms_aload_n dX7_drop_43 rfl ?_
          refine ms_getR dX7_drop_44 (fo_X7_77 rfl) (by first | rfl | assumption) rfl (by first | assumption | exact rf_48_25 hR ) ?_
          refine ms_iload_n dX7_drop_47 rfl ?_
          refine ms_callS2 dX7_drop_48 cv_X7_drop_X7_isOut (k_X7_isOut (M := N) (r := 63) (by decide) rfl (l := l) (by omega) (by rw [e63]; exact (hv.2 l (by omega) (by omega)).1)) (Nat.le_of_ble_eq_true rfl) rfl (fun _ _ z => z.elim) (fun v9 h9 hp9 => ?_)
          obtain ⟨rfl, rfl⟩ := hp9
          rw [e63]
          refine mi_if_neB (tgt := 67) dX7_drop_51 (by decide) (fun c_51 => ?_) (fun c_51 => ?_)
          · refine ms_aload_n dX7_drop_67 rfl ?_
            refine ms_getR dX7_drop_68 (fo_X7_67 rfl) (by first | rfl | assumption) rfl (by first | assumption | exact rf_48_13 hR ) ?_
            refine mi_iconst dX7_drop_71 ?_
            refine ms_dup2 dX7_drop_72 rfl rfl ?_
            refine ms_iald dX7_drop_73 (by first | rfl | assumption) ?_
            refine mi_iconst dX7_drop_74 ?_
            refine mi_iadd dX7_drop_75 ?_
            refine ms_iast dX7_drop_76 (by first | rfl | assumption) ?_
            refine mi_iconst dX7_drop_77 ?_
            refine ms_retZ dX7_drop_78 rfl (by first | exact Or.inl rfl | exact Or.inr rfl) ?_ (by simp)
            have hno : ¬ (sp_out (M 63) l = false ∧ M 63 (3 * l + i) ≠ 0) := fun z => by rw [c_51] at z; exact absurd z.1 (by decide)
            refine ⟨_, rfl, by rw [up_n _ _ (by decide)]; exact hN.2.1, fun k hk => by rw [up_n _ _ (by decide)]; exact hN.2.2 k hk, by rw [decide_eq_false hno]; rfl, Or.inr ⟨hno, fun x x0 x1 => by rw [up_n _ _ x1]; exact hN.1 x x0, by rw [up_s, hN.1 61 (by decide)]⟩⟩
          · have hvb := hv.1 l hc.1.1 hc.1.2
            simp only at hvb
            have hvi : 0 ≤ M 63 (3 * l + i) ∧ M 63 (3 * l + i) ≤ 30 := by
              rcases (show i = 0 ∨ i = 1 ∨ i = 2 by omega) with rfl | rfl | rfl
              · rw [Int.add_zero]; omega
              · omega
              · omega
            refine ms_aload_n dX7_drop_54 rfl ?_
            refine ms_getR dX7_drop_55 (fo_X7_77 rfl) (by first | rfl | assumption) rfl (by first | assumption | exact rf_48_25 hR ) ?_
            refine mi_iconst dX7_drop_58 ?_
            refine ms_iload_n dX7_drop_59 rfl ?_
            refine mi_imul dX7_drop_60 ?_
            refine ms_iload_n dX7_drop_61 rfl ?_
            refine mi_iadd dX7_drop_62 ?_
            refine ms_iald dX7_drop_63 (by first | rfl | assumption) ?_
            rw [e63]
            refine mi_if_ne (tgt := 79) dX7_drop_64 (by decide) (fun c_64 => ?_) (fun c_64 => ?_)
            · refine ms_aload_n dX7_drop_79 rfl ?_
              refine ms_getR dX7_drop_80 (fo_X7_77 rfl) (by first | rfl | assumption) rfl (by first | assumption | exact rf_48_25 hR ) ?_
              refine ms_iload_n dX7_drop_83 rfl ?_
              refine mi_iconst dX7_drop_84 ?_
              refine ms_iload_n dX7_drop_85 rfl ?_
              refine mi_imul dX7_drop_86 ?_
              refine ms_iload_n dX7_drop_87 rfl ?_
              refine mi_iadd dX7_drop_88 ?_
              refine ms_callS3 dX7_drop_89 cv_X7_drop_X7_give (k_X7_give (M := N) (r := 63) (by decide) rfl (l := l) (d := 3 * i + j) (by omega) (by omega)) (Nat.le_of_ble_eq_true rfl) rfl (fun _ _ z => z.elim) (fun v9 h9 hp9 => ?_)
              obtain ⟨rfl, rfl⟩ := hp9
              refine mi_iconst dX7_drop_92 ?_
              refine ms_retZ dX7_drop_93 rfl (by first | exact Or.inl rfl | exact Or.inr rfl) ?_ (by simp)
              refine ⟨_, rfl, by rw [up_n _ _ (by decide)]; exact hN.2.1, fun k hk => by rw [up_n _ _ (by decide)]; exact hN.2.2 k hk, by rw [decide_eq_true ⟨c_51, c_64⟩]; rfl, Or.inl ⟨⟨c_51, c_64⟩, fun x x0 x1 => by rw [up_n _ _ x1]; exact hN.1 x x0, ?_⟩⟩
              rw [up_s, e63, show (3 * i + j) / 3 = i by omega, show (3 * i + j) % 3 = j by omega]
            · refine ms_aload_n dX7_drop_67 rfl ?_
              refine ms_getR dX7_drop_68 (fo_X7_67 rfl) (by first | rfl | assumption) rfl (by first | assumption | exact rf_48_13 hR ) ?_
              refine mi_iconst dX7_drop_71 ?_
              refine ms_dup2 dX7_drop_72 rfl rfl ?_
              refine ms_iald dX7_drop_73 (by first | rfl | assumption) ?_
              refine mi_iconst dX7_drop_74 ?_
              refine mi_iadd dX7_drop_75 ?_
              refine ms_iast dX7_drop_76 (by first | rfl | assumption) ?_
              refine mi_iconst dX7_drop_77 ?_
              refine ms_retZ dX7_drop_78 rfl (by first | exact Or.inl rfl | exact Or.inr rfl) ?_ (by simp)
              have hno : ¬ (sp_out (M 63) l = false ∧ M 63 (3 * l + i) ≠ 0) := fun z => z.2 c_64
              refine ⟨_, rfl, by rw [up_n _ _ (by decide)]; exact hN.2.1, fun k hk => by rw [up_n _ _ (by decide)]; exact hN.2.2 k hk, by rw [decide_eq_false hno]; rfl, Or.inr ⟨hno, fun x x0 x1 => by rw [up_n _ _ x1]; exact hN.1 x x0, by rw [up_s, hN.1 61 (by decide)]⟩⟩
        · exact absurd c_33 hc.2.2.2

set_option maxHeartbeats 4000000 in
set_option maxRecDepth 100000 in
theorem k_X7_drop_x {S : mx_Sc} {f : Bool} {M : Nat → Int → Int} {L : Nat → Nat → Int64} {Rf : Nat → Nat → Option Nat} (hR : mx_rf Rf) (hT : sp_tok (sp_tR M)) {l : Int} (hl32 : -2147483648 ≤ l ∧ l ≤ 2147483647) {i : Int} (hi32 : -2147483648 ≤ i ∧ i ≤ 2147483647) {j : Int} (hj32 : -2147483648 ≤ j ∧ j ≤ 2147483647) (hc : ¬ ((0 ≤ l ∧ l < M 53 1) ∧ (0 ≤ i ∧ i < 3) ∧ (0 ≤ j ∧ j < 3) ∧ i ≠ j)) : mx_C S mX7_drop [.ref 48, .int (iI l), .int (iI i), .int (iI j)] (f, mx_SH, M, L, Rf) 0 0 (fun v9 h9 => ∃ N, h9 = (f, mx_SH, N, L, Rf) ∧ cdP M N 1 ∧ v9 = some (.int (iI (0)))) (fun _ _ => False) := by
  refine mx_C_of (by decide) (by simp [Value.category]) (Nat.le_of_ble_eq_true rfl) rfl ?_
  show mx_E S mX7_drop 0 [some (.ref 48), some (.int (iI l)), some (.int (iI i)), some (.int (iI j))] [] (f, mx_SH, M, L, Rf) 0 0 _ _
  have hT0 : 1 ≤ M 53 0 ∧ M 53 0 ≤ 30 := hT.1
  have hT1 : 0 ≤ M 53 1 ∧ M 53 1 ≤ 6 := hT.2.1
  have hT5 : 1 ≤ M 53 5 ∧ M 53 5 ≤ 99 := hT.2.2.2.2.2.1
  have hT6 : 0 ≤ M 53 6 ∧ M 53 6 ≤ 10 := hT.2.2.2.2.2.2.1
  refine ms_aload_n dX7_drop_0 rfl ?_
  refine mi_iconst dX7_drop_1 ?_
  refine ms_putI (z := 4) dX7_drop_2 (fo_X7_131 rfl) (by first | rfl | assumption) rfl rfl rfl ?_
  refine mx_gen (fun N => cdP M N 0) cdP.mk' (fun N hN => ?_)
  have e53 : N 53 = M 53 := hN.1 53 (by decide)
  have e63 : N 63 = M 63 := hN.1 63 (by decide)
  have eTR : sp_tR N = sp_tR M := by simp only [sp_tR, hN.1 53 (by decide), hN.1 54 (by decide), hN.1 55 (by decide), hN.1 58 (by decide), hN.1 59 (by decide), hN.1 60 (by decide)]
  refine ms_aload_n dX7_drop_5 rfl ?_
  refine ms_iload_n dX7_drop_6 rfl ?_
  refine ms_callV1 (ci := 7) (r := (RX7, TX7, 48)) dX7_drop_7 cv_X7_drop_X7_isLamp (k_X7_isLamp (M := N) hR (by rw [e53]; exact hT1) hl32) rfl rfl (by first | rfl | assumption) (Nat.le_of_ble_eq_true rfl) rfl (fun _ _ z => z.elim) (fun v9 h9 hp9 => ?_)
  obtain ⟨rfl, rfl⟩ := hp9
  rw [e53]
  refine mi_if_eqB (tgt := 36) dX7_drop_10 (by decide) (fun c_10 => ?_) (fun c_10 => ?_)
  · refine ms_aload_n dX7_drop_36 rfl ?_
    refine mi_iconst dX7_drop_37 ?_
    refine ms_putI (z := 4) dX7_drop_38 (fo_X7_131 rfl) (by first | rfl | assumption) rfl rfl rfl ?_
    refine mi_iconst dX7_drop_41 ?_
    refine ms_retZ dX7_drop_42 rfl (by first | exact Or.inl rfl | exact Or.inr rfl) ⟨_, rfl, hN.set, rfl⟩ (by simp)
  · refine ms_iload_n dX7_drop_13 rfl ?_
    refine mi_iconst dX7_drop_14 ?_
    refine mi_iconst dX7_drop_15 ?_
    refine ms_callS3 dX7_drop_16 cv_X7_drop_X7_isIn (k_X7_isIn (f := f) (M := N) (L := L) (Rf := Rf) hi32 (a := 0) (b := 2) (by decide) (by decide)) (Nat.le_of_ble_eq_true rfl) rfl (fun _ _ z => z.elim) (fun v9 h9 hp9 => ?_)
    obtain ⟨rfl, rfl⟩ := hp9
    refine mi_if_eqB (tgt := 36) dX7_drop_19 (by decide) (fun c_19 => ?_) (fun c_19 => ?_)
    · refine ms_aload_n dX7_drop_36 rfl ?_
      refine mi_iconst dX7_drop_37 ?_
      refine ms_putI (z := 4) dX7_drop_38 (fo_X7_131 rfl) (by first | rfl | assumption) rfl rfl rfl ?_
      refine mi_iconst dX7_drop_41 ?_
      refine ms_retZ dX7_drop_42 rfl (by first | exact Or.inl rfl | exact Or.inr rfl) ⟨_, rfl, hN.set, rfl⟩ (by simp)
    · refine ms_iload_n dX7_drop_22 rfl ?_
      refine mi_iconst dX7_drop_23 ?_
      refine mi_iconst dX7_drop_24 ?_
      refine ms_callS3 dX7_drop_25 cv_X7_drop_X7_isIn (k_X7_isIn (f := f) (M := N) (L := L) (Rf := Rf) hj32 (a := 0) (b := 2) (by decide) (by decide)) (Nat.le_of_ble_eq_true rfl) rfl (fun _ _ z => z.elim) (fun v9 h9 hp9 => ?_)
      obtain ⟨rfl, rfl⟩ := hp9
      refine mi_if_eqB (tgt := 36) dX7_drop_28 (by decide) (fun c_28 => ?_) (fun c_28 => ?_)
      · refine ms_aload_n dX7_drop_36 rfl ?_
        refine mi_iconst dX7_drop_37 ?_
        refine ms_putI (z := 4) dX7_drop_38 (fo_X7_131 rfl) (by first | rfl | assumption) rfl rfl rfl ?_
        refine mi_iconst dX7_drop_41 ?_
        refine ms_retZ dX7_drop_42 rfl (by first | exact Or.inl rfl | exact Or.inr rfl) ⟨_, rfl, hN.set, rfl⟩ (by simp)
      · refine ms_iload_n dX7_drop_31 rfl ?_
        refine ms_iload_n dX7_drop_32 rfl ?_
        refine mi_icmp_ne (tgt := 43) dX7_drop_33 (by decide) (fun c_33 => ?_) (fun c_33 => ?_)
        · exact absurd ⟨of_decide_eq_true c_10, by have := of_decide_eq_true c_19; omega, by have := of_decide_eq_true c_28; omega, c_33⟩ hc
        · refine ms_aload_n dX7_drop_36 rfl ?_
          refine mi_iconst dX7_drop_37 ?_
          refine ms_putI (z := 4) dX7_drop_38 (fo_X7_131 rfl) (by first | rfl | assumption) rfl rfl rfl ?_
          refine mi_iconst dX7_drop_41 ?_
          refine ms_retZ dX7_drop_42 rfl (by first | exact Or.inl rfl | exact Or.inr rfl) ⟨_, rfl, hN.set, rfl⟩ (by simp)

