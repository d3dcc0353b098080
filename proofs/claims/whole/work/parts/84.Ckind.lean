theorem bit1 (u x : Int32) (s : Nat) (h : u.toBitVec = x.toBitVec >>> s) : u &&& iI 1 = iI (bI (x.toBitVec.getLsbD s)) := by
  apply Int32.toBitVec_inj.mp
  have h1 : (u &&& iI 1).toBitVec = u.toBitVec &&& 1#32 := rfl
  rw [h1, h]
  cases e : x.toBitVec.getLsbD s
  · show _ = 0#32
    apply BitVec.eq_of_getLsbD_eq
    intro i hi
    rw [BitVec.getLsbD_and, BitVec.getLsbD_ushiftRight, BitVec.getLsbD_one]
    by_cases z : i = 0
    · subst z
      simp [e]
    · simp [z]
  · show _ = 1#32
    apply BitVec.eq_of_getLsbD_eq
    intro i hi
    rw [BitVec.getLsbD_and, BitVec.getLsbD_ushiftRight, BitVec.getLsbD_one]
    by_cases z : i = 0
    · subst z
      simp [e]
    · simp [z]
theorem bit_ush (x : Int32) {w : Int} (hw : 0 ≤ w ∧ w < 12) : (x.toUInt32 >>> ((iI w).toUInt32 &&& Int32.toUInt32 31)).toInt32 &&& iI 1 = iI (bI (x.toBitVec.getLsbD w.toNat)) := by
  rcases (show w = 0 ∨ w = 1 ∨ w = 2 ∨ w = 3 ∨ w = 4 ∨ w = 5 ∨ w = 6 ∨ w = 7 ∨ w = 8 ∨ w = 9 ∨ w = 10 ∨ w = 11 by omega) with rfl | rfl | rfl | rfl | rfl | rfl | rfl | rfl | rfl | rfl | rfl | rfl <;> exact bit1 _ _ _ rfl
theorem bit_or (x : Int32) {w k : Int} (hw : 0 ≤ w ∧ w < 12) (hk : 0 ≤ k ∧ k < 12) : (x ||| iI (2 ^ w.toNat)).toBitVec.getLsbD k.toNat = (x.toBitVec.getLsbD k.toNat || decide (k = w)) := by
  have h1 : (x ||| iI (2 ^ w.toNat)).toBitVec = x.toBitVec ||| (iI (2 ^ w.toNat)).toBitVec := rfl
  have h2 : (iI (2 ^ w.toNat)).toBitVec.getLsbD k.toNat = decide (k = w) := fin_of (n := 12) (P := fun w => (iI (2 ^ w.toNat)).toBitVec.getLsbD k.toNat = decide (k = w)) (fun i => fin_of (n := 12) (P := fun k => (iI (2 ^ ((i.val : Int)).toNat)).toBitVec.getLsbD k.toNat = decide (k = (i.val : Int))) (fun j => (by decide +kernel : ∀ i j : Fin 12, (iI (2 ^ ((i.val : Int)).toNat)).toBitVec.getLsbD ((j.val : Int)).toNat = decide ((j.val : Int) = (i.val : Int))) i j) hk.1 hk.2) hw.1 hw.2
  rw [h1, BitVec.getLsbD_or, h2]
theorem bit_shl {w : Int} (hw : 0 ≤ w ∧ w < 12) : iI 1 <<< (iI w &&& 31) = iI (2 ^ w.toNat) := fin_of (n := 12) (P := fun w => iI 1 <<< (iI w &&& 31) = iI (2 ^ w.toNat)) (by decide +kernel) hw.1 hw.2
def snP (N : Nat → Int → Int) (sn : Int → Bool) : Prop := ∀ w, 0 ≤ w → w < 12 → sn w = (iI (N 45 8)).toBitVec.getLsbD w.toNat
set_option maxHeartbeats 4000000 in
set_option maxRecDepth 100000 in
theorem k_X1_judge {S : mx_Sc} {f : Bool} {M : Nat → Int → Int} {L : Nat → Nat → Int64} {Rf : Nat → Nat → Option Nat} (hR : mx_rf Rf) {t : Nat} (ht : t = 29 ∨ t = 37) {n : Int} (hn : 0 ≤ n ∧ n ≤ 500) (hB : ∀ i, 0 ≤ i → i < 500 → 0 ≤ M 1 i ∧ M 1 i ≤ 255) (hin : Rf 45 9 = some t) {p : Int} {T : td_T} (hG : rdG M t n p T) {w ln : Int} (hw : -1 ≤ w ∧ w < 12) (hln : 0 ≤ ln ∧ ln ≤ 1000) {sn : Int → Bool} (hsn : snP M sn) : mx_C S mX1_judgeWord [.ref 45, .int (iI w), .int (iI ln)] (f, mx_SH, M, L, Rf) 0 0 (fun v9 h9 => h9 = (f, mx_SH, M, L, Rf) ∧ v9 = some (.int (iI (jdg T w sn (decide (ln = 0)))))) (fun _ _ => False) := by
  refine mx_C_of (by decide) (by simp [Value.category]) (Nat.le_of_ble_eq_true rfl) rfl ?_
  show mx_E S mX1_judgeWord 0 [some (.ref 45), some (.int (iI w)), some (.int (iI ln)), none] [] (f, mx_SH, M, L, Rf) 0 0 _ _
  have e00 : M t 0 = T 0 0 := hG.2.2.2.1.1 0 (by decide) (by decide)
  have e01 : M t 1 = T 0 1 := hG.2.2.2.1.1 1 (by decide) (by decide)
  have e06 : M t 6 = T 0 6 := hG.2.2.2.1.1 6 (by decide) (by decide)
  have o0 : 1 ≤ T 0 0 ∧ T 0 0 ≤ 30 := hG.2.2.2.2.1.1.1
  have o1 : 0 ≤ T 0 1 ∧ T 0 1 ≤ 6 := hG.2.2.2.2.1.1.2.1
  have o6 : 0 ≤ T 0 6 ∧ T 0 6 ≤ 10 := hG.2.2.2.2.1.1.2.2.2.2.2.2.1
  have hs0 : mx_SH[t]? = some (7, 14) := by rcases ht with rfl | rfl <;> rfl
  refine ms_iload_n dX1_judgeWord_0 rfl ?_
  refine mi_iconst dX1_judgeWord_1 ?_
  refine mi_icmp_ne (tgt := 7) dX1_judgeWord_2 (by decide) (fun c_2 => ?_) (fun c_2 => ?_)
  · refine ms_iload_n dX1_judgeWord_7 rfl ?_
    refine mi_iconst dX1_judgeWord_8 ?_
    refine mi_icmp_gt (tgt := 30) dX1_judgeWord_9 (by decide) (fun c_9 => ?_) (fun c_9 => ?_)
    · refine ms_iload_n dX1_judgeWord_30 rfl ?_
      refine mi_bipush dX1_judgeWord_31 (by decide) ?_
      refine mi_icmp_ne (tgt := 54) dX1_judgeWord_33 (by decide) (fun c_33 => ?_) (fun c_33 => ?_)
      · refine ms_iload_n dX1_judgeWord_54 rfl ?_
        refine mi_bipush dX1_judgeWord_55 (by decide) ?_
        refine mi_icmp_ne (tgt := 62) dX1_judgeWord_57 (by decide) (fun c_57 => ?_) (fun c_57 => ?_)
        · refine ms_iload_n dX1_judgeWord_62 rfl ?_
          refine mi_iconst dX1_judgeWord_63 ?_
          refine mi_icmp_ne (tgt := 79) dX1_judgeWord_64 (by decide) (fun c_64 => ?_) (fun c_64 => ?_)
          · refine ms_aload_n dX1_judgeWord_79 rfl ?_
            refine ms_getI (z := 8) dX1_judgeWord_80 (fo_X1_43 rfl) (by first | rfl | assumption) rfl rfl ?_
            refine ms_iload_n dX1_judgeWord_83 rfl ?_
            refine mi_iushr (((iI (M 45 8)).toUInt32 >>> ((iI w).toUInt32 &&& Int32.toUInt32 31)).toInt32.toInt) dX1_judgeWord_84 (iI_ti _).symm ?_
            refine mi_iconst dX1_judgeWord_85 ?_
            refine mi_iand (bI (sn w)) dX1_judgeWord_86 (by rw [iI_ti, bit_ush _ (by omega), hsn w (by omega) (by omega)]) ?_
            refine mi_if_eqB (tgt := 94) dX1_judgeWord_87 (by decide) (fun c_87 => ?_) (fun c_87 => ?_)
            · refine mi_iconst dX1_judgeWord_94 ?_
              refine ms_istore_n dX1_judgeWord_95 (by decide) rfl ?_
              dsimp only [List.set, Nat.reduceAdd]
              refine ms_iload_n dX1_judgeWord_96 rfl ?_
              refine mi_if_eq (tgt := 104) dX1_judgeWord_97 (by decide) (fun c_97 => ?_) (fun c_97 => ?_)
              · refine mi_iconst dX1_judgeWord_104 ?_
                refine ms_ret dX1_judgeWord_105 rfl ⟨rfl, by unfold jdg; rw [if_neg (by omega), if_neg (by omega), if_neg (by omega), if_neg (by omega), if_neg (by omega), if_neg (by rw [c_87]; decide)]⟩ (by simp)
              · exact absurd rfl c_97
            · refine mi_iconst dX1_judgeWord_90 ?_
              refine ms_goto (tgt := 95) dX1_judgeWord_91 (by decide) ?_
              refine ms_istore_n dX1_judgeWord_95 (by decide) rfl ?_
              dsimp only [List.set, Nat.reduceAdd]
              refine ms_iload_n dX1_judgeWord_96 rfl ?_
              refine mi_if_eq (tgt := 104) dX1_judgeWord_97 (by decide) (fun c_97 => ?_) (fun c_97 => ?_)
              · exact absurd c_97 (by omega)
              · refine mi_iconst dX1_judgeWord_100 ?_
                refine ms_goto (tgt := 105) dX1_judgeWord_101 (by decide) ?_
                refine ms_ret dX1_judgeWord_105 rfl ⟨rfl, by unfold jdg; rw [if_neg (by omega), if_neg (by omega), if_neg (by omega), if_neg (by omega), if_neg (by omega), if_pos c_87]⟩ (by simp)
          · refine ms_iload_n dX1_judgeWord_67 rfl ?_
            refine mi_if_le (tgt := 75) dX1_judgeWord_68 (by decide) (fun c_68 => ?_) (fun c_68 => ?_)
            · refine mi_iconst dX1_judgeWord_75 ?_
              refine ms_goto (tgt := 95) dX1_judgeWord_76 (by decide) ?_
              refine ms_istore_n dX1_judgeWord_95 (by decide) rfl ?_
              dsimp only [List.set, Nat.reduceAdd]
              refine ms_iload_n dX1_judgeWord_96 rfl ?_
              refine mi_if_eq (tgt := 104) dX1_judgeWord_97 (by decide) (fun c_97 => ?_) (fun c_97 => ?_)
              · refine mi_iconst dX1_judgeWord_104 ?_
                refine ms_ret dX1_judgeWord_105 rfl ⟨rfl, by unfold jdg; rw [if_neg (by omega), if_neg (by omega), if_neg (by omega), if_neg (by omega), if_pos (by omega), if_pos (decide_eq_true (by omega))]⟩ (by simp)
              · exact absurd rfl c_97
            · refine mi_iconst dX1_judgeWord_71 ?_
              refine ms_goto (tgt := 95) dX1_judgeWord_72 (by decide) ?_
              refine ms_istore_n dX1_judgeWord_95 (by decide) rfl ?_
              dsimp only [List.set, Nat.reduceAdd]
              refine ms_iload_n dX1_judgeWord_96 rfl ?_
              refine mi_if_eq (tgt := 104) dX1_judgeWord_97 (by decide) (fun c_97 => ?_) (fun c_97 => ?_)
              · exact absurd c_97 (by omega)
              · refine mi_iconst dX1_judgeWord_100 ?_
                refine ms_goto (tgt := 105) dX1_judgeWord_101 (by decide) ?_
                refine ms_ret dX1_judgeWord_105 rfl ⟨rfl, by unfold jdg; rw [if_neg (by omega), if_neg (by omega), if_neg (by omega), if_neg (by omega), if_pos (by omega), if_neg (by rw [decide_eq_false (by omega)]; decide)]⟩ (by simp)
        · refine mi_iconst dX1_judgeWord_60 ?_
          refine ms_ret dX1_judgeWord_61 rfl ⟨rfl, by unfold jdg; rw [if_neg (by omega), if_neg (by omega), if_neg (by omega), if_pos (by omega)]⟩ (by simp)
      · refine ms_aload_n dX1_judgeWord_36 rfl ?_
        refine ms_getR dX1_judgeWord_37 (fo_X1_15 rfl) (by first | rfl | assumption) rfl (by first | assumption ) ?_
        refine ms_getI (z := 6) dX1_judgeWord_40 (fo_X1_106 rfl) (by first | rfl | assumption) rfl rfl ?_
        refine mi_bipush dX1_judgeWord_43 (by decide) ?_
        refine mi_icmp_lt (tgt := 52) dX1_judgeWord_45 (by decide) (fun c_45 => ?_) (fun c_45 => ?_)
        · refine mi_iconst dX1_judgeWord_52 ?_
          refine ms_ret dX1_judgeWord_53 rfl ⟨rfl, by unfold jdg; rw [if_neg (by omega), if_neg (by omega), if_pos (by omega)]; first | (rw [if_pos (by omega)]; done) | (rw [if_neg (by omega)]; done)⟩ (by simp)
        · refine mi_iconst dX1_judgeWord_48 ?_
          refine ms_goto (tgt := 53) dX1_judgeWord_49 (by decide) ?_
          refine ms_ret dX1_judgeWord_53 rfl ⟨rfl, by unfold jdg; rw [if_neg (by omega), if_neg (by omega), if_pos (by omega)]; first | (rw [if_pos (by omega)]; done) | (rw [if_neg (by omega)]; done)⟩ (by simp)
    · refine ms_aload_n dX1_judgeWord_12 rfl ?_
      refine ms_getR dX1_judgeWord_13 (fo_X1_15 rfl) (by first | rfl | assumption) rfl (by first | assumption ) ?_
      refine ms_getI (z := 1) dX1_judgeWord_16 (fo_X1_103 rfl) (by first | rfl | assumption) rfl rfl ?_
      refine mi_bipush dX1_judgeWord_19 (by decide) ?_
      refine mi_icmp_lt (tgt := 28) dX1_judgeWord_21 (by decide) (fun c_21 => ?_) (fun c_21 => ?_)
      · refine mi_iconst dX1_judgeWord_28 ?_
        refine ms_ret dX1_judgeWord_29 rfl ⟨rfl, by unfold jdg; rw [if_neg (by omega), if_pos (by omega)]; first | (rw [if_pos (by omega)]; done) | (rw [if_neg (by omega)]; done)⟩ (by simp)
      · refine mi_iconst dX1_judgeWord_24 ?_
        refine ms_goto (tgt := 29) dX1_judgeWord_25 (by decide) ?_
        refine ms_ret dX1_judgeWord_29 rfl ⟨rfl, by unfold jdg; rw [if_neg (by omega), if_pos (by omega)]; first | (rw [if_pos (by omega)]; done) | (rw [if_neg (by omega)]; done)⟩ (by simp)
  · refine mi_iconst dX1_judgeWord_5 ?_
    refine ms_ret dX1_judgeWord_6 rfl ⟨rfl, by unfold jdg; rw [if_pos (by omega)]⟩ (by simp)

set_option maxHeartbeats 4000000 in
set_option maxRecDepth 100000 in
theorem k_X1_rl {S : mx_Sc} {f : Bool} {M : Nat → Int → Int} {L : Nat → Nat → Int64} {Rf : Nat → Nat → Option Nat} (hR : mx_rf Rf) {t : Nat} (ht : t = 29 ∨ t = 37) {n : Int} (hn : 0 ≤ n ∧ n ≤ 500) (hB : ∀ i, 0 ≤ i → i < 500 → 0 ≤ M 1 i ∧ M 1 i ≤ 255) (hin : Rf 45 9 = some t) {p : Int} {T : td_T} (hG : rdG M t n p T) : mx_C S mX1_readLamp [.ref 45] (f, mx_SH, M, L, Rf) 0 0 (fun v9 h9 => ∃ N x, h9 = (f, mx_SH, N, L, Rf) ∧ v9 = some (.int (iI x)) ∧ rfP M N t ∧ ((nC (M 1) n p 0 (T 0 1 - 1) 3 ≠ 0 ∧ rdF N t n (nC (M 1) n p 0 (T 0 1 - 1) 3) p ∧ x = 0) ∨ (nC (M 1) n p 0 (T 0 1 - 1) 3 = 0 ∧ rdG N t n (nx (M 1) n p) T ∧ N 45 7 = p ∧ x = nV (M 1) n p))) (fun _ _ => False) := by
  refine mx_C_of (by decide) (by simp [Value.category]) (Nat.le_of_ble_eq_true rfl) rfl ?_
  show mx_E S mX1_readLamp 0 [some (.ref 45)] [] (f, mx_SH, M, L, Rf) 0 0 _ _
  have e00 : M t 0 = T 0 0 := hG.2.2.2.1.1 0 (by decide) (by decide)
  have e01 : M t 1 = T 0 1 := hG.2.2.2.1.1 1 (by decide) (by decide)
  have e06 : M t 6 = T 0 6 := hG.2.2.2.1.1 6 (by decide) (by decide)
  have o0 : 1 ≤ T 0 0 ∧ T 0 0 ≤ 30 := hG.2.2.2.2.1.1.1
  have o1 : 0 ≤ T 0 1 ∧ T 0 1 ≤ 6 := hG.2.2.2.2.1.1.2.1
  have o6 : 0 ≤ T 0 6 ∧ T 0 6 ≤ 10 := hG.2.2.2.2.1.1.2.2.2.2.2.2.1
  have hs0 : mx_SH[t]? = some (7, 14) := by rcases ht with rfl | rfl <;> rfl
  refine ms_aload_n dX1_readLamp_0 rfl ?_
  refine mi_iconst dX1_readLamp_1 ?_
  refine ms_aload_n dX1_readLamp_2 rfl ?_
  refine ms_getR dX1_readLamp_3 (fo_X1_15 rfl) (by first | rfl | assumption) rfl (by first | assumption ) ?_
  refine ms_getI (z := 1) dX1_readLamp_6 (fo_X1_103 rfl) (by first | rfl | assumption) rfl rfl ?_
  refine mi_iconst dX1_readLamp_9 ?_
  refine mi_isub dX1_readLamp_10 ?_
  rw [e01]
  refine mi_iconst dX1_readLamp_11 ?_
  refine ms_callV3 (ci := 1) (r := (RX1, TX1, 10)) dX1_readLamp_12 cv_X1_readLamp_X1_readNumber (k_X1_rn hR ht hn hB (a := 0) (b := T 0 1 - 1) (e := 3) (by omega) (by omega) (by omega) hG) rfl rfl (by first | rfl | assumption) (Nat.le_of_ble_eq_true rfl) rfl (fun _ _ z => z.elim) (fun v9 h9 hp9 => ?_)
  obtain ⟨N, x, rfl, rfl, h1, h2⟩ := hp9
  refine ms_ret dX1_readLamp_15 rfl ⟨N, x, rfl, rfl, h1, h2⟩ (by simp)

set_option maxHeartbeats 4000000 in
set_option maxRecDepth 100000 in
theorem k_X1_rlF {S : mx_Sc} {f : Bool} {M : Nat → Int → Int} {L : Nat → Nat → Int64} {Rf : Nat → Nat → Option Nat} (hR : mx_rf Rf) {t : Nat} (ht : t = 29 ∨ t = 37) {n : Int} (hn : 0 ≤ n ∧ n ≤ 500) (hB : ∀ i, 0 ≤ i → i < 500 → 0 ≤ M 1 i ∧ M 1 i ≤ 255) (hin : Rf 45 9 = some t) {c q : Int} (hF : rdF M t n c q) : mx_C S mX1_readLamp [.ref 45] (f, mx_SH, M, L, Rf) 0 0 (fun v9 h9 => h9 = (f, mx_SH, M, L, Rf) ∧ v9 = some (.int (iI 0))) (fun _ _ => False) := by
  refine mx_C_of (by decide) (by simp [Value.category]) (Nat.le_of_ble_eq_true rfl) rfl ?_
  show mx_E S mX1_readLamp 0 [some (.ref 45)] [] (f, mx_SH, M, L, Rf) 0 0 _ _
  have hw0 := hF.2.1
  have hcc := hF.2.2.2.1
  have hfm := hF.2.2.2.2.2
  unfold fm at hfm
  have hs0 : mx_SH[t]? = some (7, 14) := by rcases ht with rfl | rfl <;> rfl
  refine ms_aload_n dX1_readLamp_0 rfl ?_
  refine mi_iconst dX1_readLamp_1 ?_
  refine ms_aload_n dX1_readLamp_2 rfl ?_
  refine ms_getR dX1_readLamp_3 (fo_X1_15 rfl) (by first | rfl | assumption) rfl (by first | assumption ) ?_
  refine ms_getI (z := 1) dX1_readLamp_6 (fo_X1_103 rfl) (by first | rfl | assumption) rfl rfl ?_
  refine mi_iconst dX1_readLamp_9 ?_
  refine mi_isub dX1_readLamp_10 ?_
  refine mi_iconst dX1_readLamp_11 ?_
  refine ms_callV3 (ci := 1) (r := (RX1, TX1, 10)) dX1_readLamp_12 cv_X1_readLamp_X1_readNumber (k_X1_rnF hR ht hn hB (a := 0) (b := M t 1 - 1) (e := 3) (by omega) (by omega) (by omega) hF) rfl rfl (by first | rfl | assumption) (Nat.le_of_ble_eq_true rfl) rfl (fun _ _ z => z.elim) (fun v9 h9 hp9 => ?_)
  obtain ⟨rfl, rfl⟩ := hp9
  refine ms_ret dX1_readLamp_15 rfl ⟨rfl, rfl⟩ (by simp)

set_option maxHeartbeats 4000000 in
theorem l_X1_kF7 {S : mx_Sc} {f : Bool} {M : Nat → Int → Int} {L : Nat → Nat → Int64} {Rf : Nat → Nat → Option Nat} (hR : mx_rf Rf) {t : Nat} (ht : t = 29 ∨ t = 37) {n : Int} (hn : 0 ≤ n ∧ n ≤ 500) (hB : ∀ i, 0 ≤ i → i < 500 → 0 ≤ M 1 i ∧ M 1 i ≤ 255) (hin : Rf 45 9 = some t) {c q : Int} (hF : rdF M t n c q)  {kd : Int} : mx_E S mX1_readKind 7 [some (.ref 45), some (.int (iI kd)), none, none, none] [.int (iI 0)] (f, mx_SH, M, L, Rf) 0 0 (fun v9 h9 => h9 = (f, mx_SH, M, L, Rf) ∧ v9 = none) (fun _ _ => False) := by
  have hw0 := hF.2.1
  have hcc := hF.2.2.2.1
  have hfm := hF.2.2.2.2.2
  unfold fm at hfm
  have hs0 : mx_SH[t]? = some (7, 14) := by rcases ht with rfl | rfl <;> rfl
  refine ms_istore_n dX1_readKind_7 (by decide) rfl ?_
  dsimp only [List.set, Nat.reduceAdd]
  refine ms_aload_n dX1_readKind_8 rfl ?_
  refine mi_iconst dX1_readKind_9 ?_
  refine ms_aload_n dX1_readKind_10 rfl ?_
  refine ms_getR dX1_readKind_11 (fo_X1_15 rfl) (by first | rfl | assumption) rfl (by first | assumption ) ?_
  refine ms_getI (z := 0) dX1_readKind_14 (fo_X1_113 rfl) (by first | rfl | assumption) rfl rfl ?_
  refine mi_iconst dX1_readKind_17 ?_
  refine ms_callV3 (ci := 1) (r := (RX1, TX1, 10)) dX1_readKind_18 cv_X1_readKind_X1_readNumber (k_X1_rnF hR ht hn hB (a := 0) (b := M t 0) (e := 2) (by omega) (by omega) (by omega) hF) rfl rfl (by first | rfl | assumption) (Nat.le_of_ble_eq_true rfl) rfl (fun _ _ z => z.elim) (fun v9 h9 hp9 => ?_)
  obtain ⟨rfl, rfl⟩ := hp9
  refine ms_istore_n dX1_readKind_21 (by decide) rfl ?_
  dsimp only [List.set, Nat.reduceAdd]
  refine ms_aload_n dX1_readKind_22 rfl ?_
  refine mi_iconst dX1_readKind_23 ?_
  refine ms_aload_n dX1_readKind_24 rfl ?_
  refine ms_getR dX1_readKind_25 (fo_X1_15 rfl) (by first | rfl | assumption) rfl (by first | assumption ) ?_
  refine ms_getI (z := 0) dX1_readKind_28 (fo_X1_113 rfl) (by first | rfl | assumption) rfl rfl ?_
  refine ms_iload_n dX1_readKind_31 rfl ?_
  refine mi_isub dX1_readKind_32 ?_
  refine mi_iconst dX1_readKind_33 ?_
  refine ms_callV3 (ci := 1) (r := (RX1, TX1, 10)) dX1_readKind_34 cv_X1_readKind_X1_readNumber (k_X1_rnF hR ht hn hB (a := 0) (b := M t 0 - 0) (e := 2) (by omega) (by omega) (by omega) hF) rfl rfl (by first | rfl | assumption) (Nat.le_of_ble_eq_true rfl) rfl (fun _ _ z => z.elim) (fun v9 h9 hp9 => ?_)
  obtain ⟨rfl, rfl⟩ := hp9
  refine ms_istore dX1_readKind_37 (by decide) rfl ?_
  dsimp only [List.set, Nat.reduceAdd]
  refine ms_aload_n dX1_readKind_39 rfl ?_
  refine ms_getI (z := 0) dX1_readKind_40 (fo_X1_34 rfl) (by first | rfl | assumption) rfl rfl ?_
  refine mi_if_ne (tgt := 58) dX1_readKind_43 (by decide) (fun c_43 => ?_) (fun c_43 => ?_)
  · refine ms_retV dX1_readKind_58 rfl ⟨rfl, rfl⟩ (by simp)
  · exact absurd c_43 (by omega)
set_option maxHeartbeats 4000000 in
theorem l_X1_kF21 {S : mx_Sc} {f : Bool} {M : Nat → Int → Int} {L : Nat → Nat → Int64} {Rf : Nat → Nat → Option Nat} (hR : mx_rf Rf) {t : Nat} (ht : t = 29 ∨ t = 37) {n : Int} (hn : 0 ≤ n ∧ n ≤ 500) (hB : ∀ i, 0 ≤ i → i < 500 → 0 ≤ M 1 i ∧ M 1 i ≤ 255) (hin : Rf 45 9 = some t) {c q : Int} (hF : rdF M t n c q)  {kd x2 : Int} : mx_E S mX1_readKind 21 [some (.ref 45), some (.int (iI kd)), some (.int (iI x2)), none, none] [.int (iI 0)] (f, mx_SH, M, L, Rf) 0 0 (fun v9 h9 => h9 = (f, mx_SH, M, L, Rf) ∧ v9 = none) (fun _ _ => False) := by
  have hw0 := hF.2.1
  have hcc := hF.2.2.2.1
  have hfm := hF.2.2.2.2.2
  unfold fm at hfm
  have hs0 : mx_SH[t]? = some (7, 14) := by rcases ht with rfl | rfl <;> rfl
  refine ms_istore_n dX1_readKind_21 (by decide) rfl ?_
  dsimp only [List.set, Nat.reduceAdd]
  refine ms_aload_n dX1_readKind_22 rfl ?_
  refine mi_iconst dX1_readKind_23 ?_
  refine ms_aload_n dX1_readKind_24 rfl ?_
  refine ms_getR dX1_readKind_25 (fo_X1_15 rfl) (by first | rfl | assumption) rfl (by first | assumption ) ?_
  refine ms_getI (z := 0) dX1_readKind_28 (fo_X1_113 rfl) (by first | rfl | assumption) rfl rfl ?_
  refine ms_iload_n dX1_readKind_31 rfl ?_
  refine mi_isub dX1_readKind_32 ?_
  refine mi_iconst dX1_readKind_33 ?_
  refine ms_callV3 (ci := 1) (r := (RX1, TX1, 10)) dX1_readKind_34 cv_X1_readKind_X1_readNumber (k_X1_rnF hR ht hn hB (a := 0) (b := M t 0 - 0) (e := 2) (by omega) (by omega) (by omega) hF) rfl rfl (by first | rfl | assumption) (Nat.le_of_ble_eq_true rfl) rfl (fun _ _ z => z.elim) (fun v9 h9 hp9 => ?_)
  obtain ⟨rfl, rfl⟩ := hp9
  refine ms_istore dX1_readKind_37 (by decide) rfl ?_
  dsimp only [List.set, Nat.reduceAdd]
  refine ms_aload_n dX1_readKind_39 rfl ?_
  refine ms_getI (z := 0) dX1_readKind_40 (fo_X1_34 rfl) (by first | rfl | assumption) rfl rfl ?_
  refine mi_if_ne (tgt := 58) dX1_readKind_43 (by decide) (fun c_43 => ?_) (fun c_43 => ?_)
  · refine ms_retV dX1_readKind_58 rfl ⟨rfl, rfl⟩ (by simp)
  · exact absurd c_43 (by omega)
set_option maxHeartbeats 4000000 in
theorem l_X1_kF37 {S : mx_Sc} {f : Bool} {M : Nat → Int → Int} {L : Nat → Nat → Int64} {Rf : Nat → Nat → Option Nat} (hR : mx_rf Rf) {t : Nat} (ht : t = 29 ∨ t = 37) {n : Int} (hn : 0 ≤ n ∧ n ≤ 500) (hB : ∀ i, 0 ≤ i → i < 500 → 0 ≤ M 1 i ∧ M 1 i ≤ 255) (hin : Rf 45 9 = some t) {c q : Int} (hF : rdF M t n c q)  {kd x2 x3 : Int} : mx_E S mX1_readKind 37 [some (.ref 45), some (.int (iI kd)), some (.int (iI x2)), some (.int (iI x3)), none] [.int (iI 0)] (f, mx_SH, M, L, Rf) 0 0 (fun v9 h9 => h9 = (f, mx_SH, M, L, Rf) ∧ v9 = none) (fun _ _ => False) := by
  have hw0 := hF.2.1
  have hcc := hF.2.2.2.1
  have hfm := hF.2.2.2.2.2
  unfold fm at hfm
  have hs0 : mx_SH[t]? = some (7, 14) := by rcases ht with rfl | rfl <;> rfl
  refine ms_istore dX1_readKind_37 (by decide) rfl ?_
  dsimp only [List.set, Nat.reduceAdd]
  refine ms_aload_n dX1_readKind_39 rfl ?_
  refine ms_getI (z := 0) dX1_readKind_40 (fo_X1_34 rfl) (by first | rfl | assumption) rfl rfl ?_
  refine mi_if_ne (tgt := 58) dX1_readKind_43 (by decide) (fun c_43 => ?_) (fun c_43 => ?_)
  · refine ms_retV dX1_readKind_58 rfl ⟨rfl, rfl⟩ (by simp)
  · exact absurd c_43 (by omega)
set_option maxHeartbeats 4000000 in
set_option maxRecDepth 100000 in
theorem k_X1_readKind {S : mx_Sc} {f : Bool} {M : Nat → Int → Int} {L : Nat → Nat → Int64} {Rf : Nat → Nat → Option Nat} (hR : mx_rf Rf) {t : Nat} (ht : t = 29 ∨ t = 37) {n : Int} (hn : 0 ≤ n ∧ n ≤ 500) (hB : ∀ i, 0 ≤ i → i < 500 → 0 ≤ M 1 i ∧ M 1 i ≤ 255) (hin : Rf 45 9 = some t) {p : Int} {T : td_T} (hG : rdG M t n p T) {kd : Int} (hL6 : T 0 1 < 6) (hkd : 0 ≤ kd ∧ kd ≤ 4) : mx_C S mX1_readKind [.ref 45, .int (iI kd)] (f, mx_SH, M, L, Rf) 0 0 (fun v9 h9 => ∃ N, h9 = (f, mx_SH, N, L, Rf) ∧ v9 = none ∧ rfP M N t ∧ rdR N t n (pKind (M 1) n p T kd)) (fun _ _ => False) := by
  refine mx_C_of (by decide) (by simp [Value.category]) (Nat.le_of_ble_eq_true rfl) rfl ?_
  show mx_E S mX1_readKind 0 [some (.ref 45), some (.int (iI kd)), none, none, none] [] (f, mx_SH, M, L, Rf) 0 0 _ _
  have e00 : M t 0 = T 0 0 := hG.2.2.2.1.1 0 (by decide) (by decide)
  have e01 : M t 1 = T 0 1 := hG.2.2.2.1.1 1 (by decide) (by decide)
  have e06 : M t 6 = T 0 6 := hG.2.2.2.1.1 6 (by decide) (by decide)
  have o0 : 1 ≤ T 0 0 ∧ T 0 0 ≤ 30 := hG.2.2.2.2.1.1.1
  have o1 : 0 ≤ T 0 1 ∧ T 0 1 ≤ 6 := hG.2.2.2.2.1.1.2.1
  have o6 : 0 ≤ T 0 6 ∧ T 0 6 ≤ 10 := hG.2.2.2.2.1.1.2.2.2.2.2.2.1
  have hs0 : mx_SH[t]? = some (7, 14) := by rcases ht with rfl | rfl <;> rfl
  have hp9n := hG.1.2.2.2.2
  refine ms_aload_n dX1_readKind_0 rfl ?_
  refine mi_iconst dX1_readKind_1 ?_
  refine mi_iconst dX1_readKind_2 ?_
  refine mi_iconst dX1_readKind_3 ?_
  refine ms_callV3 (ci := 1) (r := (RX1, TX1, 10)) dX1_readKind_4 cv_X1_readKind_X1_readNumber (k_X1_rn hR ht hn hB (a := 0) (b := 1) (e := 2) (by omega) (by omega) (by omega) hG) rfl rfl (by first | rfl | assumption) (Nat.le_of_ble_eq_true rfl) rfl (fun _ _ z => z.elim) (fun v9 h9 hp9 => ?_)
  obtain ⟨N1, x1, rfl, rfl, f1, h1⟩ := hp9
  have g1 : N1 1 = M 1 := (f1.1 1 (by decide) (by omega))
  
  rcases h1 with ⟨z1, zF, rfl⟩ | ⟨z1, zG1, zl1, rfl⟩
  · refine ms_conseq (fun v9 h9 hp => ?_) (fun _ _ z => z) (l_X1_kF7 (S := S) (f := f) (L := L) (M := N1) hR ht hn (by rw [g1]; exact hB) hin zF)
    obtain ⟨rfl, rfl⟩ := hp
    exact ⟨N1, rfl, rfl, f1, by unfold pKind; rw [if_pos z1]; exact zF⟩
  have en00 : N1 t 0 = T 0 0 := zG1.2.2.2.1.1 0 (by decide) (by decide)
  have en01 : N1 t 1 = T 0 1 := zG1.2.2.2.1.1 1 (by decide) (by decide)
  have v1 := nC_0 (by decide) z1
  refine ms_istore_n dX1_readKind_7 (by decide) rfl ?_
  dsimp only [List.set, Nat.reduceAdd]
  refine ms_aload_n dX1_readKind_8 rfl ?_
  refine mi_iconst dX1_readKind_9 ?_
  refine ms_aload_n dX1_readKind_10 rfl ?_
  refine ms_getR dX1_readKind_11 (fo_X1_15 rfl) (by first | rfl | assumption) rfl (by first | assumption ) ?_
  refine ms_getI (z := 0) dX1_readKind_14 (fo_X1_113 rfl) (by first | rfl | assumption) rfl rfl ?_
  refine mi_iconst dX1_readKind_17 ?_
  rw [en00]
  refine ms_callV3 (ci := 1) (r := (RX1, TX1, 10)) dX1_readKind_18 cv_X1_readKind_X1_readNumber (k_X1_rn (M := N1) hR ht hn (by rw [g1]; exact hB) (a := 0) (b := T 0 0) (e := 2) (by omega) (by omega) (by omega) zG1) rfl rfl (by first | rfl | assumption) (Nat.le_of_ble_eq_true rfl) rfl (fun _ _ z => z.elim) (fun v9 h9 hp9 => ?_)
  obtain ⟨N2, x2, rfl, rfl, f2, h2⟩ := hp9
  have g2 : N2 1 = M 1 := (f2.1 1 (by decide) (by omega)).trans g1
  rw [g1] at h2
  rcases h2 with ⟨z2, zF, rfl⟩ | ⟨z2, zG2, zl2, rfl⟩
  · refine ms_conseq (fun v9 h9 hp => ?_) (fun _ _ z => z) (l_X1_kF21 (S := S) (f := f) (L := L) (M := N2) hR ht hn (by rw [g2]; exact hB) hin zF)
    obtain ⟨rfl, rfl⟩ := hp
    exact ⟨N2, rfl, rfl, f1.tr f2, by unfold pKind; rw [if_neg (by omega), if_pos z2]; exact zF⟩
  have en00 : N2 t 0 = T 0 0 := zG2.2.2.2.1.1 0 (by decide) (by decide)
  have en01 : N2 t 1 = T 0 1 := zG2.2.2.2.1.1 1 (by decide) (by decide)
  have v2 := nC_0 (by decide) z2
  refine ms_istore_n dX1_readKind_21 (by decide) rfl ?_
  dsimp only [List.set, Nat.reduceAdd]
  refine ms_aload_n dX1_readKind_22 rfl ?_
  refine mi_iconst dX1_readKind_23 ?_
  refine ms_aload_n dX1_readKind_24 rfl ?_
  refine ms_getR dX1_readKind_25 (fo_X1_15 rfl) (by first | rfl | assumption) rfl (by first | assumption ) ?_
  refine ms_getI (z := 0) dX1_readKind_28 (fo_X1_113 rfl) (by first | rfl | assumption) rfl rfl ?_
  refine ms_iload_n dX1_readKind_31 rfl ?_
  refine mi_isub dX1_readKind_32 ?_
  rw [en00]
  refine mi_iconst dX1_readKind_33 ?_
  refine ms_callV3 (ci := 1) (r := (RX1, TX1, 10)) dX1_readKind_34 cv_X1_readKind_X1_readNumber (k_X1_rn (M := N2) hR ht hn (by rw [g2]; exact hB) (a := 0) (b := T 0 0 - nV (M 1) n (nx (M 1) n p)) (e := 2) (by omega) (by omega) (by omega) zG2) rfl rfl (by first | rfl | assumption) (Nat.le_of_ble_eq_true rfl) rfl (fun _ _ z => z.elim) (fun v9 h9 hp9 => ?_)
  obtain ⟨N3, x3, rfl, rfl, f3, h3⟩ := hp9
  have g3 : N3 1 = M 1 := (f3.1 1 (by decide) (by omega)).trans g2
  rw [g2] at h3
  rcases h3 with ⟨z3, zF, rfl⟩ | ⟨z3, zG3, zl3, rfl⟩
  · refine ms_conseq (fun v9 h9 hp => ?_) (fun _ _ z => z) (l_X1_kF37 (S := S) (f := f) (L := L) (M := N3) hR ht hn (by rw [g3]; exact hB) hin zF)
    obtain ⟨rfl, rfl⟩ := hp
    exact ⟨N3, rfl, rfl, (f1.tr f2).tr f3, by unfold pKind; rw [if_neg (by omega), if_neg (by omega), if_pos z3]; exact zF⟩
  have en00 : N3 t 0 = T 0 0 := zG3.2.2.2.1.1 0 (by decide) (by decide)
  have en01 : N3 t 1 = T 0 1 := zG3.2.2.2.1.1 1 (by decide) (by decide)
  have v3 := nC_0 (by decide) z3
  have w0 := zG3.2.1
  refine ms_istore dX1_readKind_37 (by decide) rfl ?_
  dsimp only [List.set, Nat.reduceAdd]
  refine ms_aload_n dX1_readKind_39 rfl ?_
  refine ms_getI (z := 0) dX1_readKind_40 (fo_X1_34 rfl) (by first | rfl | assumption) rfl rfl ?_
  refine mi_if_ne (tgt := 58) dX1_readKind_43 (by decide) (fun c_43 => ?_) (fun c_43 => ?_)
  · exact absurd w0 c_43
  · refine ms_aload_n dX1_readKind_46 rfl ?_
    refine ms_getR dX1_readKind_47 (fo_X1_15 rfl) (by first | rfl | assumption) rfl (by first | assumption ) ?_
    refine ms_iload_n dX1_readKind_50 rfl ?_
    refine ms_iload_n dX1_readKind_51 rfl ?_
    refine ms_iload_n dX1_readKind_52 rfl ?_
    refine ms_iload dX1_readKind_53 rfl ?_
    refine ms_callV4 (ci := 4) (r := (RX4, TX4, 14)) dX1_readKind_55 cv_X1_readKind_X4_addLamp (k_X4_addLamp (M := N3) hR ht zG3.2.2.2.1 zG3.2.2.2.2.1 (by omega) (by omega) (by omega)) rfl rfl (by first | rfl | assumption) (Nat.le_of_ble_eq_true rfl) rfl (fun _ _ z => z.elim) (fun v9 h9 hp9 => ?_)
    obtain ⟨N4, rfl, rfl, a1, a2, a3⟩ := hp9
    have a45 : N4 45 = N3 45 := a1 45 (by omega)
    refine ms_retV dX1_readKind_58 rfl ⟨N4, rfl, rfl, ((f1.tr f2).tr f3).tr ⟨fun x _ hx => a1 x hx, by rw [a45]⟩, by
    unfold pKind
    rw [if_neg (by omega), if_neg (by omega), if_neg (by omega)]
    exact ⟨zG3.1.fr (a1 1 (by omega)) (by rw [a45]) (by rw [a45]) (by rw [a45]) (by rw [a45]), by rw [a45]; exact w0, by rw [a45]; exact zG3.2.2.1, a2, tdL_ok hG.2.2.2.2.1 hL6 hkd (by omega) (by omega) (by omega), a3 zG3.2.2.2.2.2⟩⟩ (by simp)

