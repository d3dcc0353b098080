theorem wt_522 : (Jvm.Cond.fieldLink "java/lang/String" (38 : Nat) "java/lang/String" "COMPACT_STRINGS" "Z") ∈ mx_T := mx_in (List.mem_of_getElem? (i := 522) (by decide +kernel)) (by decide +kernel)
theorem wt_538 : (Jvm.Cond.fieldLink "java/lang/String" (1053 : Nat) "jdk/internal/util/Preconditions" "SIOOBE_FORMATTER" "Ljava/util/function/BiFunction;") ∈ mx_T := mx_in (List.mem_of_getElem? (i := 538) (by decide +kernel)) (by decide +kernel)
theorem wt_1400 : (Jvm.Cond.fieldLink "java/lang/String" (9 : Nat) "java/lang/String" "value" "[B") ∈ mx_T := mx_in (List.mem_of_getElem? (i := 1400) (by decide +kernel)) (by decide +kernel)
theorem wt_1401 : (Jvm.Cond.fieldLink "java/lang/String" (15 : Nat) "java/lang/String" "coder" "B") ∈ mx_T := mx_in (List.mem_of_getElem? (i := 1401) (by decide +kernel)) (by decide +kernel)
/-- the j-th letter of a String -/
def sbz (i : Nat) (j : Int) : Int := ((mx_sb.getD i []).getD j.toNat 0).toInt
theorem sbz_0 : ∀ i : Fin 13, ∀ j : Fin 66, (iI (sbz i.val (j.val : Int)) &&& iI 255 = iI (sbz i.val (j.val : Int))) ∧ narrow .char (.int (iI (sbz i.val (j.val : Int)))) = .int (iI (sbz i.val (j.val : Int))) ∧ (0 ≤ sbz i.val (j.val : Int) ∧ sbz i.val (j.val : Int) < 128) ∧ ((iI (sbz i.val (j.val : Int))).toUInt32 % 65536).toInt32 = iI (sbz i.val (j.val : Int)) := by decide +kernel
theorem sbz_e {i : Nat} {j : Int} (hi : i < 13) (h0 : 0 ≤ j) (h1 : j < 66) : (iI (sbz i j) &&& iI 255 = iI (sbz i j)) ∧ narrow .char (.int (iI (sbz i j))) = .int (iI (sbz i j)) ∧ (0 ≤ sbz i j ∧ sbz i j < 128) ∧ ((iI (sbz i j)).toUInt32 % 65536).toInt32 = iI (sbz i j) := by
  have h := sbz_0 ⟨i, hi⟩ ⟨j.toNat, by omega⟩
  simp only [show ((j.toNat : Nat) : Int) = j by omega] at h
  exact h
section MXQ
variable {S : mx_Sc} {μ κ : mx_M} {pc : Nat} {ls : List (Option Value)} {st : List Value} {h : mx_H} {bc bs : Nat} {P : Option Value → mx_H → Prop} {PX : String → mx_H → Prop}
/-- a String's bytes -/
theorem ms_strV {i idx : Nat} (hi : i < 13) (hd : decode (mx_b μ) pc = .ok (.getfield idx, 3)) (hw : Cond.fieldLink (mx_y μ).cls idx "java/lang/String" "value" "[B" ∈ mx_T) (kk : mx_E S μ (pc + 3) ls (.ref (1051 + i) :: st) h bc bs P PX) : mx_E S μ pc ls (.ref (1001 + i) :: st) h bc bs P PX := by
  intro X C D p l e R s m args below meth c H locs cells slots mc ms lc f0 hI hL hR hS h1 h2 h3 h4 h5
  have h9 := (kk X C D p l e R s m args below meth c H locs cells slots mc ms lc f0 hI hL hR hS h1 h2 h3 h4 h5)
  have e1 : mx_v X (.ref (1001 + i)) = .ref (X.2.1 (1 + i)) := by simp [mx_v, mx_ad, show ¬ (1001 + i < 1000) by omega, show 1001 + i - 1000 = 1 + i by omega]
  have e2 : mx_v X (.ref (1051 + i)) = .ref (X.2.1 (51 + i)) := by simp [mx_v, mx_ad, show ¬ (1051 + i < 1000) by omega, show 1051 + i - 1000 = 51 + i by omega]
  rw [List.map_cons, e2] at h9
  rw [List.map_cons, e1]
  exact vk_getf (A := mx_A X) hI.1 hI.2.1 (hI.2.2.2.2.2.2.2.2.2.2.1.2.2.2.2.2.2.1.1.1 i hi).2.2.1 hS hI.2.2.2.1 (hI.2.2.2.2.1 _ hw) (fun _ z => z) hd h9
theorem ms_strC {i idx : Nat} (hi : i < 13) (hd : decode (mx_b μ) pc = .ok (.getfield idx, 3)) (hw : Cond.fieldLink (mx_y μ).cls idx "java/lang/String" "coder" "B" ∈ mx_T) (kk : mx_E S μ (pc + 3) ls (.int (iI 0) :: st) h bc bs P PX) : mx_E S μ pc ls (.ref (1001 + i) :: st) h bc bs P PX := by
  intro X C D p l e R s m args below meth c H locs cells slots mc ms lc f0 hI hL hR hS h1 h2 h3 h4 h5
  have h9 := (kk X C D p l e R s m args below meth c H locs cells slots mc ms lc f0 hI hL hR hS h1 h2 h3 h4 h5)
  have e1 : mx_v X (.ref (1001 + i)) = .ref (X.2.1 (1 + i)) := by simp [mx_v, mx_ad, show ¬ (1001 + i < 1000) by omega, show 1001 + i - 1000 = 1 + i by omega]
  rw [List.map_cons, e1]
  exact vk_getf (A := mx_A X) hI.1 hI.2.1 (hI.2.2.2.2.2.2.2.2.2.2.1.2.2.2.2.2.2.1.1.1 i hi).2.1 hS hI.2.2.2.1 (hI.2.2.2.2.1 _ hw) (fun _ z => z) hd h9
theorem ms_getCS {idx : Nat} (hd : decode (mx_b μ) pc = .ok (.getstatic idx, 3)) (hw : Cond.fieldLink (mx_y μ).cls idx "java/lang/String" "COMPACT_STRINGS" "Z" ∈ mx_T) (kk : mx_E S μ (pc + 3) ls (.int (iI 1) :: st) h bc bs P PX) : mx_E S μ pc ls st h bc bs P PX := by
  intro X C D p l e R s m args below meth c H locs cells slots mc ms lc f0 hI hL hR hS h1 h2 h3 h4 h5
  exact va_gets (A := mx_A X) hI.1 hI.2.1 hI.2.2.2.2.2.2.2.2.2.2.1.2.2.2.2.2.1.1 hS hI.2.2.2.1 (hI.2.2.2.2.1 _ hw) (fun _ z => z) hd (kk X C D p l e R s m args below meth c H locs cells slots mc ms lc f0 hI hL hR hS h1 h2 h3 h4 h5)
theorem ms_getSF {idx : Nat} (hd : decode (mx_b μ) pc = .ok (.getstatic idx, 3)) (hw : Cond.fieldLink (mx_y μ).cls idx "jdk/internal/util/Preconditions" "SIOOBE_FORMATTER" "Ljava/util/function/BiFunction;" ∈ mx_T) (kk : ∀ v, v = .null ∨ v = .ref 1100 → mx_E S μ (pc + 3) ls (v :: st) h bc bs P PX) : mx_E S μ pc ls st h bc bs P PX := by
  intro X C D p l e R s m args below meth c H locs cells slots mc ms lc f0 hI hL hR hS h1 h2 h3 h4 h5
  rcases hI.2.2.2.2.2.2.2.2.2.2.1.2.2.2.2.2.1.2 with hz | hz
  · exact va_gets (A := mx_A X) hI.1 hI.2.1 hz hS hI.2.2.2.1 (hI.2.2.2.2.1 _ hw) (fun _ z => z) hd (kk .null (Or.inl rfl) X C D p l e R s m args below meth c H locs cells slots mc ms lc f0 hI hL hR hS h1 h2 h3 h4 h5)
  · exact va_gets (A := mx_A X) hI.1 hI.2.1 hz hS hI.2.2.2.1 (hI.2.2.2.2.1 _ hw) (fun _ z => z) hd (kk (.ref 1100) (Or.inr rfl) X C D p l e R s m args below meth c H locs cells slots mc ms lc f0 hI hL hR hS h1 h2 h3 h4 h5)
/-- how many bytes, and one of them -/
theorem ms_blen {i : Nat} (hi : i < 13) (hd : decode (mx_b μ) pc = .ok (.arraylength, 1)) (kk : mx_E S μ (pc + 1) ls (.int (iI ((mx_sl.getD i 0 : Nat) : Int)) :: st) h bc bs P PX) : mx_E S μ pc ls (.ref (1051 + i) :: st) h bc bs P PX := by
  intro X C D p l e R s m args below meth c H locs cells slots mc ms lc f0 hI hL hR hS h1 h2 h3 h4 h5
  have e2 : mx_v X (.ref (1051 + i)) = .ref (X.2.1 (51 + i)) := by simp [mx_v, mx_ad, show ¬ (1051 + i < 1000) by omega, show 1051 + i - 1000 = 51 + i by omega]
  rw [List.map_cons, e2]
  exact va_tlen (A := mx_A X) hI.1 hI.2.1 (hI.2.2.2.2.2.2.2.2.2.2.1.2.2.2.2.2.2.1.1.1 i hi).2.2.2 hS (v := iI ((mx_sl.getD i 0 : Nat) : Int)) rfl hd (kk X C D p l e R s m args below meth c H locs cells slots mc ms lc f0 hI hL hR hS h1 h2 h3 h4 h5)
theorem ms_bald {i : Nat} {j : Int} (hi : i < 13) (hd : decode (mx_b μ) pc = .ok (.baload, 1)) (hj0 : 0 ≤ j) (hj1 : j < (mx_sl.getD i 0 : Nat)) (kk : mx_E S μ (pc + 1) ls (.int (iI (sbz i j)) :: st) h bc bs P PX) : mx_E S μ pc ls (.int (iI j) :: .ref (1051 + i) :: st) h bc bs P PX := by
  have hsl : mx_sl.getD i 0 ≤ 66 := (by decide : ∀ i : Fin 13, mx_sl.getD i.val 0 ≤ 66) ⟨i, hi⟩
  intro X C D p l e R s m args below meth c H locs cells slots mc ms lc f0 hI hL hR hS h1 h2 h3 h4 h5
  have e2 : mx_v X (.ref (1051 + i)) = .ref (X.2.1 (51 + i)) := by simp [mx_v, mx_ad, show ¬ (1051 + i < 1000) by omega, show 1051 + i - 1000 = 51 + i by omega]
  rw [List.map_cons, List.map_cons, e2]
  exact va_tb (A := mx_A X) hI.1 hI.2.1 (hI.2.2.2.2.2.2.2.2.2.2.1.2.2.2.2.2.2.1.1.1 i hi).2.2.2 hS (iI_in hj0 (by omega) (by omega)) ((congrArg (fun q => Value.int ((mx_sb.getD i []).getD q 0)) (iI_clamp hj0 (by omega))).trans (congrArg Value.int (iI_ti _).symm)) hd (kk X C D p l e R s m args below meth c H locs cells slots mc ms lc f0 hI hL hR hS h1 h2 h3 h4 h5)
/-- a call of a String's method -/
theorem ms_callQ {idx n i : Nat} {As stk : List Value} {Pk : Option Value → mx_H → Prop} (hi : i < 13) (hd : decode (mx_b μ) pc = .ok (.invokevirtual idx, 3)) (hok : mx_cvOK μ κ idx n) (hcn : (mx_y κ).cls = "java/lang/String") (hM : mx_C S κ (.ref (1001 + i) :: As) h 0 0 Pk (fun _ _ => False)) (hst : stk = As.reverse ++ .ref (1001 + i) :: st) (hn : As.length = n) (hw : (st.map fun v => v.category).sum ≤ 8) (htb : mx_tb μ = [])
    (kk : ∀ v h', Pk v h' → mx_E S μ (pc + 3) ls (v.toList ++ st) h' bc bs P PX) : mx_E S μ pc ls stk h bc bs P PX := by
  intro X C D p l e R s m args below meth c H locs cells slots mc ms lc f0 hI hL hR hS h1 h2 h3 h4 h5
  obtain ⟨⟨c1, c2, c3, c4, c5⟩, htk, c6, c7, c8⟩ := hok
  have hts := hI.2.2.2.2.1
  have hfr := hI.2.2.2.2.2.2.2.2.2.2.2.1
  have hlo := hI.2.2.2.2.2.2.2.2.2.2.2.2
  have hv : mx_v X (.ref (1001 + i)) = .ref (X.2.1 (1 + i)) := by simp [mx_v, mx_ad, show ¬ (1001 + i < 1000) by omega, show 1001 + i - 1000 = 1 + i by omega]
  have hcw : mx_cw κ = Cond.code (mx_y κ) (mx_b κ) (mx_nl κ) (mx_rt κ) := by simp only [mx_cw, htk, if_true]
  have hrec := vk_recv hI.2.2.2.2.2.2.2.2.2.2.1.2.2.2.2.2.2.1.1 hi hS
  rw [← hcn] at hrec
  refine mx_call (bc1 := 0) (bs1 := 0) (h := h) (vx_runV (As := As.map (mx_v X)) (b := X.2.1 (1 + i)) (Ts := mx_T) (own := (mx_y μ).cls) (C := (mx_y κ).cls) (n := n) ⟨hI.1, hI.2.1, hI.2.2.1, hI.2.2.2.1, hts⟩ (hM X C D l hI.2.2.2.2.2.2.2.2.2.1) ⟨callB_of n hts (mx_gw c1) (by rw [hcw]) rfl rfl (hts _ c2) (hts _ c6) c3 ⟨Nat.le_trans c4 hfr, Nat.le_trans c5 hlo⟩, hts _ c7, hts _ c8⟩ ⟨mx_blind, hrec, fun U hU hW => ?_⟩ rfl (by rw [List.length_map]; exact hn) hL.1 ?_ ?_ hd ⟨by omega, by omega⟩) hI hL hS (by omega) (by omega) h3 h4 h5 ?_ kk
  · have := mx_pre (av := .ref (1001 + i) :: As) hR hI.2.2.2.2.2.2.2.2.2.2.1 hS U hU hW
    rwa [List.map_cons, hv] at this
  · rw [hst]
    simp [hv]
  · exact lv_room (by rw [mx_cat]; exact hw)
  · intro E h' hp
    exact hp.elim
/-- the script -/
theorem ms_sld {i : Int} (hd : decode (mx_b μ) pc = .ok (.iaload, 1)) (hj0 : 0 ≤ i) (hj1 : i < S.1) (kk : mx_E S μ (pc + 1) ls (.int (S.2 i.toNat) :: st) h bc bs P PX) : mx_E S μ pc ls (.int (iI i) :: .ref 1000 :: st) h bc bs P PX := by
  intro X C D p l e R s m args below meth c H locs cells slots mc ms lc f0 hI hL hR hS h1 h2 h3 h4 h5
  have hs9 := hI.2.2.2.2.2.2.2.2.2.2.1.2.2.2.2.2.2.2
  have e2 : mx_v X (.ref 1000) = .ref (X.2.1 0) := by simp [mx_v, mx_ad]
  have h9 := (kk X C D p l e R s m args below meth c H locs cells slots mc ms lc f0 hI hL hR hS h1 h2 h3 h4 h5)
  have hlt : X.2.1 0 < X.1 := hs9.2.1
  have hle : X.1 ≤ s.heap.size := hs9.2.2.1
  have h30 : X.2.2.1 ≤ 3072 := hs9.2.2.2.1
  have eS : X.2.2 = S := hs9.2.2.2.2.1
  rw [← eS] at h9 hj1
  rw [List.map_cons, List.map_cons, e2]
  refine va_sld (A := mx_A X) hI.1 hI.2.1 hs9.1 (by omega) (by show ¬ X.1 ≤ _; omega) hS (iI_in hj0 hj1 (by omega)) hd ?_
  rw [iI_clamp hj0 (by omega)]
  exact h9
theorem ms_slen (hd : decode (mx_b μ) pc = .ok (.arraylength, 1)) (kk : S.1 ≤ 3072 → mx_E S μ (pc + 1) ls (.int (iI (S.1 : Int)) :: st) h bc bs P PX) : mx_E S μ pc ls (.ref 1000 :: st) h bc bs P PX := by
  intro X C D p l e R s m args below meth c H locs cells slots mc ms lc f0 hI hL hR hS h1 h2 h3 h4 h5
  have hs9 := hI.2.2.2.2.2.2.2.2.2.2.1.2.2.2.2.2.2.2
  have e2 : mx_v X (.ref 1000) = .ref (X.2.1 0) := by simp [mx_v, mx_ad]
  have hlt : X.2.1 0 < X.1 := hs9.2.1
  have hle : X.1 ≤ s.heap.size := hs9.2.2.1
  have h30 : X.2.2.1 ≤ 3072 := hs9.2.2.2.1
  have eS : X.2.2 = S := hs9.2.2.2.2.1
  have h9 := kk (by rw [← eS]; exact h30) X C D p l e R s m args below meth c H locs cells slots mc ms lc f0 hI hL hR hS h1 h2 h3 h4 h5
  rw [← eS] at h9
  rw [List.map_cons, e2]
  exact va_slen (A := mx_A X) hI.1 hI.2.1 hs9.1 (by omega) (by show ¬ X.1 ≤ _; omega) hS hd h9
end MXQ
set_option maxHeartbeats 4000000 in
set_option maxRecDepth 100000 in
theorem k_coder {S : mx_Sc} {h : mx_H} {i : Nat} (hi : i < 13) : mx_C S mJ0_coder_7d493 [.ref (1001 + i)] h 0 0 (fun v9 h9 => h9 = h ∧ v9 = some (.int (iI 0))) (fun _ _ => False) := by
  refine mx_C_of (by decide) (by simp [Value.category]) (Nat.le_of_ble_eq_true rfl) rfl ?_
  show mx_E S mJ0_coder_7d493 0 [some (.ref (1001 + i))] [] h 0 0 _ _
  refine ms_getCS dJ0_coder_7d493_0 wt_522 ?_
  refine mi_if_eq (tgt := 13) dJ0_coder_7d493_3 (by decide) (fun c_3 => ?_) (fun c_3 => ?_)
  · exact absurd c_3 (by omega)
  · refine ms_aload_n dJ0_coder_7d493_6 rfl ?_
    refine ms_strC hi dJ0_coder_7d493_7 wt_1401 ?_
    refine ms_goto (tgt := 14) dJ0_coder_7d493_10 (by decide) ?_
    exact ms_retN dJ0_coder_7d493_14 rfl (by decide) ⟨rfl, rfl⟩ (by simp)

set_option maxHeartbeats 4000000 in
set_option maxRecDepth 100000 in
theorem k_isLatin1 {S : mx_Sc} {h : mx_H} {i : Nat} (hi : i < 13) : mx_C S mJ0_isLatin1_aae02 [.ref (1001 + i)] h 0 0 (fun v9 h9 => h9 = h ∧ v9 = some (.int (iI 1))) (fun _ _ => False) := by
  refine mx_C_of (by decide) (by simp [Value.category]) (Nat.le_of_ble_eq_true rfl) rfl ?_
  show mx_E S mJ0_isLatin1_aae02 0 [some (.ref (1001 + i))] [] h 0 0 _ _
  refine ms_getCS dJ0_isLatin1_aae02_0 wt_522 ?_
  refine mi_if_eq (tgt := 17) dJ0_isLatin1_aae02_3 (by decide) (fun c_3 => ?_) (fun c_3 => ?_)
  · exact absurd c_3 (by omega)
  · refine ms_aload_n dJ0_isLatin1_aae02_6 rfl ?_
    refine ms_strC hi dJ0_isLatin1_aae02_7 wt_1401 ?_
    refine mi_if_ne (tgt := 17) dJ0_isLatin1_aae02_10 (by decide) (fun c_10 => ?_) (fun c_10 => ?_)
    · exact absurd rfl c_10
    · refine mi_iconst dJ0_isLatin1_aae02_13 ?_
      refine ms_goto (tgt := 18) dJ0_isLatin1_aae02_14 (by decide) ?_
      refine ms_retZ dJ0_isLatin1_aae02_18 rfl (by first | exact Or.inl rfl | exact Or.inr rfl) ⟨rfl, rfl⟩ (by simp)

theorem sl_e {i : Nat} (hi : i < 13) : iI ((mx_sl.getD i 0 : Nat) : Int) >>> (iI 0 &&& 31) = iI ((mx_sl.getD i 0 : Nat) : Int) ∧ mx_sl.getD i 0 ≤ 66 := (by decide +kernel : ∀ i : Fin 13, iI ((mx_sl.getD i.val 0 : Nat) : Int) >>> (iI 0 &&& 31) = iI ((mx_sl.getD i.val 0 : Nat) : Int) ∧ mx_sl.getD i.val 0 ≤ 66) ⟨i, hi⟩
set_option maxHeartbeats 4000000 in
set_option maxRecDepth 100000 in
theorem k_strlen {S : mx_Sc} {h : mx_H} {i : Nat} (hi : i < 13) : mx_C S mJ0_length_8abf5 [.ref (1001 + i)] h 0 0 (fun v9 h9 => h9 = h ∧ v9 = some (.int (iI ((mx_sl.getD i 0 : Nat) : Int)))) (fun _ _ => False) := by
  refine mx_C_of (by decide) (by simp [Value.category]) (Nat.le_of_ble_eq_true rfl) rfl ?_
  show mx_E S mJ0_length_8abf5 0 [some (.ref (1001 + i))] [] h 0 0 _ _
  refine ms_aload_n dJ0_length_8abf5_0 rfl ?_
  refine ms_strV hi dJ0_length_8abf5_1 wt_1400 ?_
  refine ms_blen hi dJ0_length_8abf5_4 ?_
  refine ms_aload_n dJ0_length_8abf5_5 rfl ?_
  refine ms_callQ (n := 0) (As := []) hi dJ0_length_8abf5_6 cv_J0_length_8abf5_J0_coder_7d493 rfl (k_coder hi) rfl rfl (Nat.le_of_ble_eq_true rfl) rfl (fun v9 h9 hp9 => ?_)
  obtain ⟨rfl, rfl⟩ := hp9
  refine mi_ishr (((mx_sl.getD i 0 : Nat) : Int)) dJ0_length_8abf5_9 (sl_e hi).1 ?_
  refine ms_ret dJ0_length_8abf5_10 rfl ⟨rfl, rfl⟩ (by simp)

set_option maxHeartbeats 4000000 in
theorem k_pcheck {S : mx_Sc} {h : mx_H} {a b : Int} (ha : 0 ≤ a ∧ a < b) (hb : b ≤ 1000) {v : Value} (hv : v = .null ∨ v = .ref 1100) : mx_C S mJ3_checkIndex_8e157 [.int (iI a), .int (iI b), v] h 0 0 (fun v9 h9 => h9 = h ∧ v9 = some (.int (iI a))) (fun _ _ => False) := by
  refine mx_C_of (by decide) (by rcases hv with rfl | rfl <;> simp [Value.category]) (Nat.le_of_ble_eq_true rfl) rfl ?_
  show mx_E S mJ3_checkIndex_8e157 0 [some (.int (iI a)), some (.int (iI b)), some v] [] h 0 0 _ _
  refine ms_iload_n dJ3_checkIndex_8e157_0 rfl ?_
  refine mi_if_lt (tgt := 9) dJ3_checkIndex_8e157_1 (by decide) (fun c_1 => ?_) (fun c_1 => ?_)
  · exact absurd c_1 (by omega)
  · refine ms_iload_n dJ3_checkIndex_8e157_4 rfl ?_
    refine ms_iload_n dJ3_checkIndex_8e157_5 rfl ?_
    refine mi_icmp_lt (tgt := 16) dJ3_checkIndex_8e157_6 (by decide) (fun c_6 => ?_) (fun c_6 => ?_)
    · refine ms_iload_n dJ3_checkIndex_8e157_16 rfl ?_
      refine ms_ret dJ3_checkIndex_8e157_17 rfl ⟨rfl, rfl⟩ (by simp)
    · exact absurd c_6 (by omega)
set_option maxHeartbeats 4000000 in
set_option maxRecDepth 100000 in
theorem k_scheck {S : mx_Sc} {h : mx_H} {a b : Int} (ha : 0 ≤ a ∧ a < b) (hb : b ≤ 1000) : mx_C S mJ0_checkIndex_df160 [.int (iI a), .int (iI b)] h 0 0 (fun v9 h9 => h9 = h ∧ v9 = none) (fun _ _ => False) := by
  refine mx_C_of (by decide) (by simp [Value.category]) (Nat.le_of_ble_eq_true rfl) rfl ?_
  show mx_E S mJ0_checkIndex_df160 0 [some (.int (iI a)), some (.int (iI b))] [] h 0 0 _ _
  refine ms_iload_n dJ0_checkIndex_df160_0 rfl ?_
  refine ms_iload_n dJ0_checkIndex_df160_1 rfl ?_
  refine ms_getSF dJ0_checkIndex_df160_2 wt_538 (fun v hv => ?_)
  refine ms_callS3 dJ0_checkIndex_df160_5 cv_J0_checkIndex_df160_J3_checkIndex_8e157 (k_pcheck ha hb hv) (Nat.le_of_ble_eq_true rfl) rfl (fun _ _ z => z.elim) (fun v9 h9 hp9 => ?_)
  obtain ⟨rfl, rfl⟩ := hp9
  refine ms_pop dJ0_checkIndex_df160_8 rfl ?_
  refine ms_retV dJ0_checkIndex_df160_9 rfl ⟨rfl, rfl⟩ (by simp)

set_option maxHeartbeats 4000000 in
set_option maxRecDepth 100000 in
theorem k_lcharAt {S : mx_Sc} {h : mx_H} {i : Nat} (hi : i < 13) {j : Int} (hj : 0 ≤ j ∧ j < (mx_sl.getD i 0 : Nat)) : mx_C S mJ1_charAt_3b067 [.ref (1051 + i), .int (iI j)] h 0 0 (fun v9 h9 => h9 = h ∧ v9 = some (.int (iI (sbz i j)))) (fun _ _ => False) := by
  refine mx_C_of (by decide) (by simp [Value.category]) (Nat.le_of_ble_eq_true rfl) rfl ?_
  show mx_E S mJ1_charAt_3b067 0 [some (.ref (1051 + i)), some (.int (iI j))] [] h 0 0 _ _
  have hsl := (sl_e hi).2
  have hsb := sbz_e (j := j) hi hj.1 (by omega)
  refine ms_iload_n dJ1_charAt_3b067_0 rfl ?_
  refine ms_aload_n dJ1_charAt_3b067_1 rfl ?_
  refine ms_blen hi dJ1_charAt_3b067_2 ?_
  refine ms_callS2 dJ1_charAt_3b067_3 cv_J1_charAt_3b067_J0_checkIndex_df160 (k_scheck hj (by omega)) (Nat.le_of_ble_eq_true rfl) rfl (fun _ _ z => z.elim) (fun v9 h9 hp9 => ?_)
  obtain ⟨rfl, rfl⟩ := hp9
  refine ms_aload_n dJ1_charAt_3b067_6 rfl ?_
  refine ms_iload_n dJ1_charAt_3b067_7 rfl ?_
  refine ms_bald hi dJ1_charAt_3b067_8 hj.1 hj.2 ?_
  refine mi_sipush dJ1_charAt_3b067_9 (by decide) ?_
  refine mi_iand (sbz i j) dJ1_charAt_3b067_12 hsb.1 ?_
  refine ms_i2c dJ1_charAt_3b067_13 ?_
  rw [hsb.2.2.2]
  exact ms_retN dJ1_charAt_3b067_14 rfl hsb.2.1 ⟨rfl, rfl⟩ (by simp)

set_option maxHeartbeats 4000000 in
set_option maxRecDepth 100000 in
theorem k_charAt {S : mx_Sc} {h : mx_H} {i : Nat} (hi : i < 13) {j : Int} (hj : 0 ≤ j ∧ j < (mx_sl.getD i 0 : Nat)) : mx_C S mJ0_charAt_5068e [.ref (1001 + i), .int (iI j)] h 0 0 (fun v9 h9 => h9 = h ∧ v9 = some (.int (iI (sbz i j)))) (fun _ _ => False) := by
  refine mx_C_of (by decide) (by simp [Value.category]) (Nat.le_of_ble_eq_true rfl) rfl ?_
  show mx_E S mJ0_charAt_5068e 0 [some (.ref (1001 + i)), some (.int (iI j))] [] h 0 0 _ _
  have hsl := (sl_e hi).2
  have hsb := sbz_e (j := j) hi hj.1 (by omega)
  refine ms_aload_n dJ0_charAt_5068e_0 rfl ?_
  refine ms_callQ (n := 0) (As := []) hi dJ0_charAt_5068e_1 cv_J0_charAt_5068e_J0_isLatin1_aae02 rfl (k_isLatin1 hi) rfl rfl (Nat.le_of_ble_eq_true rfl) rfl (fun v9 h9 hp9 => ?_)
  obtain ⟨rfl, rfl⟩ := hp9
  refine mi_if_eq (tgt := 16) dJ0_charAt_5068e_4 (by decide) (fun c_4 => ?_) (fun c_4 => ?_)
  · exact absurd c_4 (by omega)
  · refine ms_aload_n dJ0_charAt_5068e_7 rfl ?_
    refine ms_strV hi dJ0_charAt_5068e_8 wt_1400 ?_
    refine ms_iload_n dJ0_charAt_5068e_11 rfl ?_
    refine ms_callS2 dJ0_charAt_5068e_12 cv_J0_charAt_5068e_J1_charAt_3b067 (k_lcharAt hi hj) (Nat.le_of_ble_eq_true rfl) rfl (fun _ _ z => z.elim) (fun v9 h9 hp9 => ?_)
    obtain ⟨rfl, rfl⟩ := hp9
    exact ms_retN dJ0_charAt_5068e_15 rfl hsb.2.1 ⟨rfl, rfl⟩ (by simp)

