/-- how far two of a row are -/
def sp_far (v : Int → Int) (a b : Int) : Int := ((v (3 * a) - v (3 * b)).natAbs + (v (3 * a + 1) - v (3 * b + 1)).natAbs + (v (3 * a + 2) - v (3 * b + 2)).natAbs) / 2
/-- a bit of a small number -/
def ob (o l : Int) : Int := o / 2 ^ l.toNat % 2
theorem ob_01 (o l : Int) : ob o l = 0 ∨ ob o l = 1 := by
  unfold ob
  omega
theorem fin_of {P : Int → Prop} {n : Nat} (h : ∀ i : Fin n, P (i.val : Int)) {z : Int} (h0 : 0 ≤ z) (h1 : z < n) : P z := by
  obtain ⟨k, rfl⟩ := Int.eq_ofNat_of_zero_le h0
  exact h ⟨k, by omega⟩
theorem ob_ush0 : ∀ o : Fin 64, ∀ l : Fin 6, ((iI (o.val : Int)).toUInt32 >>> ((iI (l.val : Int)).toUInt32 &&& Int32.toUInt32 31)).toInt32 = iI ((o.val : Int) / 2 ^ ((l.val : Int)).toNat) := by decide +kernel
theorem ob_ush {o l : Int} (h : 0 ≤ o ∧ o < 64) (h2 : 0 ≤ l ∧ l < 6) : ((iI o).toUInt32 >>> ((iI l).toUInt32 &&& Int32.toUInt32 31)).toInt32 = iI (o / 2 ^ l.toNat) := fin_of (n := 64) (P := fun o => ((iI o).toUInt32 >>> ((iI l).toUInt32 &&& Int32.toUInt32 31)).toInt32 = iI (o / 2 ^ l.toNat)) (fun i => fin_of (n := 6) (P := fun l => ((iI (i.val : Int)).toUInt32 >>> ((iI l).toUInt32 &&& Int32.toUInt32 31)).toInt32 = iI ((i.val : Int) / 2 ^ l.toNat)) (fun j => ob_ush0 i j) h2.1 h2.2) h.1 h.2
theorem ob_and10 : ∀ o : Fin 64, iI (o.val : Int) &&& iI 1 = iI ((o.val : Int) % 2) := by decide +kernel
theorem ob_and1 {o : Int} (h : 0 ≤ o ∧ o < 64) : iI o &&& iI 1 = iI (o % 2) := fin_of (n := 64) (P := fun o => iI o &&& iI 1 = iI (o % 2)) ob_and10 h.1 h.2
theorem ob_le {o l : Int} (h : 0 ≤ o ∧ o < 64) : 0 ≤ o / 2 ^ l.toNat ∧ o / 2 ^ l.toNat < 64 := by
  have h1 : (0 : Int) < 2 ^ l.toNat := Int.pow_pos (by omega)
  exact ⟨Int.ediv_nonneg h.1 (by omega), Int.lt_of_le_of_lt (Int.ediv_le_self _ h.1) h.2⟩

set_option maxHeartbeats 4000000 in
set_option maxRecDepth 100000 in
theorem k_X2_isOut {S : mx_Sc} {f : Bool} {sh : List (Nat × Nat)} {M : Nat → Int → Int} {L : Nat → Nat → Int64} {Rf : Nat → Nat → Option Nat} {a : Nat} (ha : a < 900) (hs : sh[a]? = some (5, 6)) {l : Int} (hl : 0 ≤ l ∧ l < 6) (ho : 0 ≤ M a 4 ∧ M a 4 < 64) : mx_C S mX2_isOut [.ref a, .int (iI l)] (f, sh, M, L, Rf) 0 0 (fun v h => h = (f, sh, M, L, Rf) ∧ v = some (.int (iI (ob (M a 4) l)))) (fun _ _ => False) := by
  refine mx_C_of (by decide) (by simp [Value.category]) (Nat.le_of_ble_eq_true rfl) rfl ?_
  show mx_E S mX2_isOut 0 [some (.ref a), some (.int (iI l))] [] (f, sh, M, L, Rf) 0 0 _ _
  refine ms_aload_n dX2_isOut_0 rfl ?_
  refine ms_getI (z := 4) dX2_isOut_1 (fo_X2_34 rfl) (by first | rfl | assumption) rfl rfl ?_
  refine ms_iload_n dX2_isOut_4 rfl ?_
  refine mi_iushr (M a 4 / 2 ^ l.toNat) dX2_isOut_5 (ob_ush ho hl) ?_
  refine mi_iconst dX2_isOut_6 ?_
  refine mi_iand (M a 4 / 2 ^ l.toNat % 2) dX2_isOut_7 (ob_and1 (ob_le ho)) ?_
  refine mi_if_eq (tgt := 15) dX2_isOut_8 (by decide) (fun c_8 => ?_) (fun c_8 => ?_)
  · refine mi_iconst dX2_isOut_15 ?_
    refine ms_retZ dX2_isOut_16 rfl (by first | exact Or.inl rfl | exact Or.inr rfl) ⟨rfl, by first | (rw [show ob (M a 4) l = 0 from c_8]) | (rw [show ob (M a 4) l = 1 from (ob_01 (M a 4) l).resolve_left c_8])⟩ (by simp)
  · refine mi_iconst dX2_isOut_11 ?_
    refine ms_goto (tgt := 16) dX2_isOut_12 (by decide) ?_
    refine ms_retZ dX2_isOut_16 rfl (by first | exact Or.inl rfl | exact Or.inr rfl) ⟨rfl, by first | (rw [show ob (M a 4) l = 0 from c_8]) | (rw [show ob (M a 4) l = 1 from (ob_01 (M a 4) l).resolve_left c_8])⟩ (by simp)

set_option maxHeartbeats 4000000 in
set_option maxRecDepth 100000 in
theorem k_X2_apart {S : mx_Sc} {f : Bool} {sh : List (Nat × Nat)} {M : Nat → Int → Int} {L : Nat → Nat → Int64} {Rf : Nat → Nat → Option Nat} {a : Nat} (ha : a < 900) (hs : sh[a]? = some (5, 6)) (hs1 : sh[a + 1]? = some (0, 18)) (hr : Rf a 0 = some (a + 1)) {l o : Int} (hl : 0 ≤ l ∧ l < 6) (ho : 0 ≤ o ∧ o < 6) (hv : ∀ i, 0 ≤ i → i < 18 → 0 ≤ M (a + 1) i ∧ M (a + 1) i ≤ 1000) : mx_C S mX2_apart [.ref a, .int (iI l), .int (iI o)] (f, sh, M, L, Rf) 0 0 (fun v h => h = (f, sh, M, L, Rf) ∧ v = some (.int (iI (sp_far (M (a + 1)) l o)))) (fun _ _ => False) := by
  refine mx_C_of (by decide) (by simp [Value.category]) (Nat.le_of_ble_eq_true rfl) rfl ?_
  show mx_E S mX2_apart 0 [some (.ref a), some (.int (iI l)), some (.int (iI o)), none, none, none] [] (f, sh, M, L, Rf) 0 0 _ _
  have vl0 := hv (l * 3 + 0) (by omega) (by omega)
  have vl1 := hv (l * 3 + (0 + 1)) (by omega) (by omega)
  have vl2 := hv (l * 3 + (0 + 1 + 1)) (by omega) (by omega)
  have vo0 := hv (o * 3 + 0) (by omega) (by omega)
  have vo1 := hv (o * 3 + (0 + 1)) (by omega) (by omega)
  have vo2 := hv (o * 3 + (0 + 1 + 1)) (by omega) (by omega)
  refine mi_iconst dX2_apart_0 ?_
  refine ms_istore_n dX2_apart_1 (by decide) rfl ?_
  refine mi_iconst dX2_apart_2 ?_
  refine ms_istore dX2_apart_3 (by decide) rfl ?_
  refine ms_iload dX2_apart_5 rfl ?_
  refine mi_iconst dX2_apart_7 ?_
  refine mi_icmp_ge (tgt := 58) dX2_apart_8 (by decide) (fun c_8 => ?_) (fun c_8 => ?_)
  · exact absurd c_8 (by omega)
  · refine ms_aload_n dX2_apart_11 rfl ?_
    refine ms_getR dX2_apart_12 (fo_X2_9 rfl) (by first | rfl | assumption) rfl (by first | rfl | assumption) ?_
    refine ms_iload_n dX2_apart_15 rfl ?_
    refine mi_iconst dX2_apart_16 ?_
    refine mi_imul dX2_apart_17 ?_
    refine ms_iload dX2_apart_18 rfl ?_
    refine mi_iadd dX2_apart_20 ?_
    refine ms_iald dX2_apart_21 (by first | rfl | assumption) ?_
    refine ms_aload_n dX2_apart_22 rfl ?_
    refine ms_getR dX2_apart_23 (fo_X2_9 rfl) (by first | rfl | assumption) rfl (by first | rfl | assumption) ?_
    refine ms_iload_n dX2_apart_26 rfl ?_
    refine mi_iconst dX2_apart_27 ?_
    refine mi_imul dX2_apart_28 ?_
    refine ms_iload dX2_apart_29 rfl ?_
    refine mi_iadd dX2_apart_31 ?_
    refine ms_iald dX2_apart_32 (by first | rfl | assumption) ?_
    refine mi_isub dX2_apart_33 ?_
    refine ms_istore dX2_apart_34 (by decide) rfl ?_
    refine ms_iload_n dX2_apart_36 rfl ?_
    refine ms_iload dX2_apart_37 rfl ?_
    refine mi_if_ge (tgt := 48) dX2_apart_39 (by decide) (fun c_39 => ?_) (fun c_39 => ?_)
    · refine ms_iload dX2_apart_48 rfl ?_
      refine mi_iadd dX2_apart_50 ?_
      refine ms_istore_n dX2_apart_51 (by decide) rfl ?_
      refine mi_iinc dX2_apart_52 rfl (by decide) rfl ?_
      refine ms_goto (tgt := 5) dX2_apart_55 (by decide) ?_
      refine ms_iload dX2_apart_5 rfl ?_
      refine mi_iconst dX2_apart_7 ?_
      refine mi_icmp_ge (tgt := 58) dX2_apart_8 (by decide) (fun c_8 => ?_) (fun c_8 => ?_)
      · exact absurd c_8 (by omega)
      · refine ms_aload_n dX2_apart_11 rfl ?_
        refine ms_getR dX2_apart_12 (fo_X2_9 rfl) (by first | rfl | assumption) rfl (by first | rfl | assumption) ?_
        refine ms_iload_n dX2_apart_15 rfl ?_
        refine mi_iconst dX2_apart_16 ?_
        refine mi_imul dX2_apart_17 ?_
        refine ms_iload dX2_apart_18 rfl ?_
        refine mi_iadd dX2_apart_20 ?_
        refine ms_iald dX2_apart_21 (by first | rfl | assumption) ?_
        refine ms_aload_n dX2_apart_22 rfl ?_
        refine ms_getR dX2_apart_23 (fo_X2_9 rfl) (by first | rfl | assumption) rfl (by first | rfl | assumption) ?_
        refine ms_iload_n dX2_apart_26 rfl ?_
        refine mi_iconst dX2_apart_27 ?_
        refine mi_imul dX2_apart_28 ?_
        refine ms_iload dX2_apart_29 rfl ?_
        refine mi_iadd dX2_apart_31 ?_
        refine ms_iald dX2_apart_32 (by first | rfl | assumption) ?_
        refine mi_isub dX2_apart_33 ?_
        refine ms_istore dX2_apart_34 (by decide) rfl ?_
        refine ms_iload_n dX2_apart_36 rfl ?_
        refine ms_iload dX2_apart_37 rfl ?_
        refine mi_if_ge (tgt := 48) dX2_apart_39 (by decide) (fun c_39 => ?_) (fun c_39 => ?_)
        · refine ms_iload dX2_apart_48 rfl ?_
          refine mi_iadd dX2_apart_50 ?_
          refine ms_istore_n dX2_apart_51 (by decide) rfl ?_
          refine mi_iinc dX2_apart_52 rfl (by decide) rfl ?_
          refine ms_goto (tgt := 5) dX2_apart_55 (by decide) ?_
          refine ms_iload dX2_apart_5 rfl ?_
          refine mi_iconst dX2_apart_7 ?_
          refine mi_icmp_ge (tgt := 58) dX2_apart_8 (by decide) (fun c_8 => ?_) (fun c_8 => ?_)
          · exact absurd c_8 (by omega)
          · refine ms_aload_n dX2_apart_11 rfl ?_
            refine ms_getR dX2_apart_12 (fo_X2_9 rfl) (by first | rfl | assumption) rfl (by first | rfl | assumption) ?_
            refine ms_iload_n dX2_apart_15 rfl ?_
            refine mi_iconst dX2_apart_16 ?_
            refine mi_imul dX2_apart_17 ?_
            refine ms_iload dX2_apart_18 rfl ?_
            refine mi_iadd dX2_apart_20 ?_
            refine ms_iald dX2_apart_21 (by first | rfl | assumption) ?_
            refine ms_aload_n dX2_apart_22 rfl ?_
            refine ms_getR dX2_apart_23 (fo_X2_9 rfl) (by first | rfl | assumption) rfl (by first | rfl | assumption) ?_
            refine ms_iload_n dX2_apart_26 rfl ?_
            refine mi_iconst dX2_apart_27 ?_
            refine mi_imul dX2_apart_28 ?_
            refine ms_iload dX2_apart_29 rfl ?_
            refine mi_iadd dX2_apart_31 ?_
            refine ms_iald dX2_apart_32 (by first | rfl | assumption) ?_
            refine mi_isub dX2_apart_33 ?_
            refine ms_istore dX2_apart_34 (by decide) rfl ?_
            refine ms_iload_n dX2_apart_36 rfl ?_
            refine ms_iload dX2_apart_37 rfl ?_
            refine mi_if_ge (tgt := 48) dX2_apart_39 (by decide) (fun c_39 => ?_) (fun c_39 => ?_)
            · refine ms_iload dX2_apart_48 rfl ?_
              refine mi_iadd dX2_apart_50 ?_
              refine ms_istore_n dX2_apart_51 (by decide) rfl ?_
              refine mi_iinc dX2_apart_52 rfl (by decide) rfl ?_
              refine ms_goto (tgt := 5) dX2_apart_55 (by decide) ?_
              refine ms_iload dX2_apart_5 rfl ?_
              refine mi_iconst dX2_apart_7 ?_
              refine mi_icmp_ge (tgt := 58) dX2_apart_8 (by decide) (fun c_8 => ?_) (fun c_8 => ?_)
              · refine ms_iload_n dX2_apart_58 rfl ?_
                refine mi_iconst dX2_apart_59 ?_
                refine mi_idiv dX2_apart_60 ?_
                refine ms_ret dX2_apart_61 rfl ⟨rfl, congrArg (fun z => some (Value.int (iI z))) (by simp only [sp_far, show 3 * l = l * 3 + 0 by omega, show 3 * o = o * 3 + 0 by omega, show l * 3 + 0 + 1 = l * 3 + (0 + 1) by omega, show l * 3 + 0 + 2 = l * 3 + (0 + 1 + 1) by omega, show o * 3 + 0 + 1 = o * 3 + (0 + 1) by omega, show o * 3 + 0 + 2 = o * 3 + (0 + 1 + 1) by omega]; omega)⟩ (by simp)
              · exact absurd c_8 (by omega)
            · refine ms_iload dX2_apart_42 rfl ?_
              refine mi_ineg dX2_apart_44 ?_
              refine ms_goto (tgt := 50) dX2_apart_45 (by decide) ?_
              refine mi_iadd dX2_apart_50 ?_
              refine ms_istore_n dX2_apart_51 (by decide) rfl ?_
              refine mi_iinc dX2_apart_52 rfl (by decide) rfl ?_
              refine ms_goto (tgt := 5) dX2_apart_55 (by decide) ?_
              refine ms_iload dX2_apart_5 rfl ?_
              refine mi_iconst dX2_apart_7 ?_
              refine mi_icmp_ge (tgt := 58) dX2_apart_8 (by decide) (fun c_8 => ?_) (fun c_8 => ?_)
              · refine ms_iload_n dX2_apart_58 rfl ?_
                refine mi_iconst dX2_apart_59 ?_
                refine mi_idiv dX2_apart_60 ?_
                refine ms_ret dX2_apart_61 rfl ⟨rfl, congrArg (fun z => some (Value.int (iI z))) (by simp only [sp_far, show 3 * l = l * 3 + 0 by omega, show 3 * o = o * 3 + 0 by omega, show l * 3 + 0 + 1 = l * 3 + (0 + 1) by omega, show l * 3 + 0 + 2 = l * 3 + (0 + 1 + 1) by omega, show o * 3 + 0 + 1 = o * 3 + (0 + 1) by omega, show o * 3 + 0 + 2 = o * 3 + (0 + 1 + 1) by omega]; omega)⟩ (by simp)
              · exact absurd c_8 (by omega)
        · refine ms_iload dX2_apart_42 rfl ?_
          refine mi_ineg dX2_apart_44 ?_
          refine ms_goto (tgt := 50) dX2_apart_45 (by decide) ?_
          refine mi_iadd dX2_apart_50 ?_
          refine ms_istore_n dX2_apart_51 (by decide) rfl ?_
          refine mi_iinc dX2_apart_52 rfl (by decide) rfl ?_
          refine ms_goto (tgt := 5) dX2_apart_55 (by decide) ?_
          refine ms_iload dX2_apart_5 rfl ?_
          refine mi_iconst dX2_apart_7 ?_
          refine mi_icmp_ge (tgt := 58) dX2_apart_8 (by decide) (fun c_8 => ?_) (fun c_8 => ?_)
          · exact absurd c_8 (by omega)
          · refine ms_aload_n dX2_apart_11 rfl ?_
            refine ms_getR dX2_apart_12 (fo_X2_9 rfl) (by first | rfl | assumption) rfl (by first | rfl | assumption) ?_
            refine ms_iload_n dX2_apart_15 rfl ?_
            refine mi_iconst dX2_apart_16 ?_
            refine mi_imul dX2_apart_17 ?_
            refine ms_iload dX2_apart_18 rfl ?_
            refine mi_iadd dX2_apart_20 ?_
            refine ms_iald dX2_apart_21 (by first | rfl | assumption) ?_
            refine ms_aload_n dX2_apart_22 rfl ?_
            refine ms_getR dX2_apart_23 (fo_X2_9 rfl) (by first | rfl | assumption) rfl (by first | rfl | assumption) ?_
            refine ms_iload_n dX2_apart_26 rfl ?_
            refine mi_iconst dX2_apart_27 ?_
            refine mi_imul dX2_apart_28 ?_
            refine ms_iload dX2_apart_29 rfl ?_
            refine mi_iadd dX2_apart_31 ?_
            refine ms_iald dX2_apart_32 (by first | rfl | assumption) ?_
            refine mi_isub dX2_apart_33 ?_
            refine ms_istore dX2_apart_34 (by decide) rfl ?_
            refine ms_iload_n dX2_apart_36 rfl ?_
            refine ms_iload dX2_apart_37 rfl ?_
            refine mi_if_ge (tgt := 48) dX2_apart_39 (by decide) (fun c_39 => ?_) (fun c_39 => ?_)
            · refine ms_iload dX2_apart_48 rfl ?_
              refine mi_iadd dX2_apart_50 ?_
              refine ms_istore_n dX2_apart_51 (by decide) rfl ?_
              refine mi_iinc dX2_apart_52 rfl (by decide) rfl ?_
              refine ms_goto (tgt := 5) dX2_apart_55 (by decide) ?_
              refine ms_iload dX2_apart_5 rfl ?_
              refine mi_iconst dX2_apart_7 ?_
              refine mi_icmp_ge (tgt := 58) dX2_apart_8 (by decide) (fun c_8 => ?_) (fun c_8 => ?_)
              · refine ms_iload_n dX2_apart_58 rfl ?_
                refine mi_iconst dX2_apart_59 ?_
                refine mi_idiv dX2_apart_60 ?_
                refine ms_ret dX2_apart_61 rfl ⟨rfl, congrArg (fun z => some (Value.int (iI z))) (by simp only [sp_far, show 3 * l = l * 3 + 0 by omega, show 3 * o = o * 3 + 0 by omega, show l * 3 + 0 + 1 = l * 3 + (0 + 1) by omega, show l * 3 + 0 + 2 = l * 3 + (0 + 1 + 1) by omega, show o * 3 + 0 + 1 = o * 3 + (0 + 1) by omega, show o * 3 + 0 + 2 = o * 3 + (0 + 1 + 1) by omega]; omega)⟩ (by simp)
              · exact absurd c_8 (by omega)
            · refine ms_iload dX2_apart_42 rfl ?_
              refine mi_ineg dX2_apart_44 ?_
              refine ms_goto (tgt := 50) dX2_apart_45 (by decide) ?_
              refine mi_iadd dX2_apart_50 ?_
              refine ms_istore_n dX2_apart_51 (by decide) rfl ?_
              refine mi_iinc dX2_apart_52 rfl (by decide) rfl ?_
              refine ms_goto (tgt := 5) dX2_apart_55 (by decide) ?_
              refine ms_iload dX2_apart_5 rfl ?_
              refine mi_iconst dX2_apart_7 ?_
              refine mi_icmp_ge (tgt := 58) dX2_apart_8 (by decide) (fun c_8 => ?_) (fun c_8 => ?_)
              · refine ms_iload_n dX2_apart_58 rfl ?_
                refine mi_iconst dX2_apart_59 ?_
                refine mi_idiv dX2_apart_60 ?_
                refine ms_ret dX2_apart_61 rfl ⟨rfl, congrArg (fun z => some (Value.int (iI z))) (by simp only [sp_far, show 3 * l = l * 3 + 0 by omega, show 3 * o = o * 3 + 0 by omega, show l * 3 + 0 + 1 = l * 3 + (0 + 1) by omega, show l * 3 + 0 + 2 = l * 3 + (0 + 1 + 1) by omega, show o * 3 + 0 + 1 = o * 3 + (0 + 1) by omega, show o * 3 + 0 + 2 = o * 3 + (0 + 1 + 1) by omega]; omega)⟩ (by simp)
              · exact absurd c_8 (by omega)
    · refine ms_iload dX2_apart_42 rfl ?_
      refine mi_ineg dX2_apart_44 ?_
      refine ms_goto (tgt := 50) dX2_apart_45 (by decide) ?_
      refine mi_iadd dX2_apart_50 ?_
      refine ms_istore_n dX2_apart_51 (by decide) rfl ?_
      refine mi_iinc dX2_apart_52 rfl (by decide) rfl ?_
      refine ms_goto (tgt := 5) dX2_apart_55 (by decide) ?_
      refine ms_iload dX2_apart_5 rfl ?_
      refine mi_iconst dX2_apart_7 ?_
      refine mi_icmp_ge (tgt := 58) dX2_apart_8 (by decide) (fun c_8 => ?_) (fun c_8 => ?_)
      · exact absurd c_8 (by omega)
      · refine ms_aload_n dX2_apart_11 rfl ?_
        refine ms_getR dX2_apart_12 (fo_X2_9 rfl) (by first | rfl | assumption) rfl (by first | rfl | assumption) ?_
        refine ms_iload_n dX2_apart_15 rfl ?_
        refine mi_iconst dX2_apart_16 ?_
        refine mi_imul dX2_apart_17 ?_
        refine ms_iload dX2_apart_18 rfl ?_
        refine mi_iadd dX2_apart_20 ?_
        refine ms_iald dX2_apart_21 (by first | rfl | assumption) ?_
        refine ms_aload_n dX2_apart_22 rfl ?_
        refine ms_getR dX2_apart_23 (fo_X2_9 rfl) (by first | rfl | assumption) rfl (by first | rfl | assumption) ?_
        refine ms_iload_n dX2_apart_26 rfl ?_
        refine mi_iconst dX2_apart_27 ?_
        refine mi_imul dX2_apart_28 ?_
        refine ms_iload dX2_apart_29 rfl ?_
        refine mi_iadd dX2_apart_31 ?_
        refine ms_iald dX2_apart_32 (by first | rfl | assumption) ?_
        refine mi_isub dX2_apart_33 ?_
        refine ms_istore dX2_apart_34 (by decide) rfl ?_
        refine ms_iload_n dX2_apart_36 rfl ?_
        refine ms_iload dX2_apart_37 rfl ?_
        refine mi_if_ge (tgt := 48) dX2_apart_39 (by decide) (fun c_39 => ?_) (fun c_39 => ?_)
        · refine ms_iload dX2_apart_48 rfl ?_
          refine mi_iadd dX2_apart_50 ?_
          refine ms_istore_n dX2_apart_51 (by decide) rfl ?_
          refine mi_iinc dX2_apart_52 rfl (by decide) rfl ?_
          refine ms_goto (tgt := 5) dX2_apart_55 (by decide) ?_
          refine ms_iload dX2_apart_5 rfl ?_
          refine mi_iconst dX2_apart_7 ?_
          refine mi_icmp_ge (tgt := 58) dX2_apart_8 (by decide) (fun c_8 => ?_) (fun c_8 => ?_)
          · exact absurd c_8 (by omega)
          · refine ms_aload_n dX2_apart_11 rfl ?_
            refine ms_getR dX2_apart_12 (fo_X2_9 rfl) (by first | rfl | assumption) rfl (by first | rfl | assumption) ?_
            refine ms_iload_n dX2_apart_15 rfl ?_
            refine mi_iconst dX2_apart_16 ?_
            refine mi_imul dX2_apart_17 ?_
            refine ms_iload dX2_apart_18 rfl ?_
            refine mi_iadd dX2_apart_20 ?_
            refine ms_iald dX2_apart_21 (by first | rfl | assumption) ?_
            refine ms_aload_n dX2_apart_22 rfl ?_
            refine ms_getR dX2_apart_23 (fo_X2_9 rfl) (by first | rfl | assumption) rfl (by first | rfl | assumption) ?_
            refine ms_iload_n dX2_apart_26 rfl ?_
            refine mi_iconst dX2_apart_27 ?_
            refine mi_imul dX2_apart_28 ?_
            refine ms_iload dX2_apart_29 rfl ?_
            refine mi_iadd dX2_apart_31 ?_
            refine ms_iald dX2_apart_32 (by first | rfl | assumption) ?_
            refine mi_isub dX2_apart_33 ?_
            refine ms_istore dX2_apart_34 (by decide) rfl ?_
            refine ms_iload_n dX2_apart_36 rfl ?_
            refine ms_iload dX2_apart_37 rfl ?_
            refine mi_if_ge (tgt := 48) dX2_apart_39 (by decide) (fun c_39 => ?_) (fun c_39 => ?_)
            · refine ms_iload dX2_apart_48 rfl ?_
              refine mi_iadd dX2_apart_50 ?_
              refine ms_istore_n dX2_apart_51 (by decide) rfl ?_
              refine mi_iinc dX2_apart_52 rfl (by decide) rfl ?_
              refine ms_goto (tgt := 5) dX2_apart_55 (by decide) ?_
              refine ms_iload dX2_apart_5 rfl ?_
              refine mi_iconst dX2_apart_7 ?_
              refine mi_icmp_ge (tgt := 58) dX2_apart_8 (by decide) (fun c_8 => ?_) (fun c_8 => ?_)
              · refine ms_iload_n dX2_apart_58 rfl ?_
                refine mi_iconst dX2_apart_59 ?_
                refine mi_idiv dX2_apart_60 ?_
                refine ms_ret dX2_apart_61 rfl ⟨rfl, congrArg (fun z => some (Value.int (iI z))) (by simp only [sp_far, show 3 * l = l * 3 + 0 by omega, show 3 * o = o * 3 + 0 by omega, show l * 3 + 0 + 1 = l * 3 + (0 + 1) by omega, show l * 3 + 0 + 2 = l * 3 + (0 + 1 + 1) by omega, show o * 3 + 0 + 1 = o * 3 + (0 + 1) by omega, show o * 3 + 0 + 2 = o * 3 + (0 + 1 + 1) by omega]; omega)⟩ (by simp)
              · exact absurd c_8 (by omega)
            · refine ms_iload dX2_apart_42 rfl ?_
              refine mi_ineg dX2_apart_44 ?_
              refine ms_goto (tgt := 50) dX2_apart_45 (by decide) ?_
              refine mi_iadd dX2_apart_50 ?_
              refine ms_istore_n dX2_apart_51 (by decide) rfl ?_
              refine mi_iinc dX2_apart_52 rfl (by decide) rfl ?_
              refine ms_goto (tgt := 5) dX2_apart_55 (by decide) ?_
              refine ms_iload dX2_apart_5 rfl ?_
              refine mi_iconst dX2_apart_7 ?_
              refine mi_icmp_ge (tgt := 58) dX2_apart_8 (by decide) (fun c_8 => ?_) (fun c_8 => ?_)
              · refine ms_iload_n dX2_apart_58 rfl ?_
                refine mi_iconst dX2_apart_59 ?_
                refine mi_idiv dX2_apart_60 ?_
                refine ms_ret dX2_apart_61 rfl ⟨rfl, congrArg (fun z => some (Value.int (iI z))) (by simp only [sp_far, show 3 * l = l * 3 + 0 by omega, show 3 * o = o * 3 + 0 by omega, show l * 3 + 0 + 1 = l * 3 + (0 + 1) by omega, show l * 3 + 0 + 2 = l * 3 + (0 + 1 + 1) by omega, show o * 3 + 0 + 1 = o * 3 + (0 + 1) by omega, show o * 3 + 0 + 2 = o * 3 + (0 + 1 + 1) by omega]; omega)⟩ (by simp)
              · exact absurd c_8 (by omega)
        · refine ms_iload dX2_apart_42 rfl ?_
          refine mi_ineg dX2_apart_44 ?_
          refine ms_goto (tgt := 50) dX2_apart_45 (by decide) ?_
          refine mi_iadd dX2_apart_50 ?_
          refine ms_istore_n dX2_apart_51 (by decide) rfl ?_
          refine mi_iinc dX2_apart_52 rfl (by decide) rfl ?_
          refine ms_goto (tgt := 5) dX2_apart_55 (by decide) ?_
          refine ms_iload dX2_apart_5 rfl ?_
          refine mi_iconst dX2_apart_7 ?_
          refine mi_icmp_ge (tgt := 58) dX2_apart_8 (by decide) (fun c_8 => ?_) (fun c_8 => ?_)
          · exact absurd c_8 (by omega)
          · refine ms_aload_n dX2_apart_11 rfl ?_
            refine ms_getR dX2_apart_12 (fo_X2_9 rfl) (by first | rfl | assumption) rfl (by first | rfl | assumption) ?_
            refine ms_iload_n dX2_apart_15 rfl ?_
            refine mi_iconst dX2_apart_16 ?_
            refine mi_imul dX2_apart_17 ?_
            refine ms_iload dX2_apart_18 rfl ?_
            refine mi_iadd dX2_apart_20 ?_
            refine ms_iald dX2_apart_21 (by first | rfl | assumption) ?_
            refine ms_aload_n dX2_apart_22 rfl ?_
            refine ms_getR dX2_apart_23 (fo_X2_9 rfl) (by first | rfl | assumption) rfl (by first | rfl | assumption) ?_
            refine ms_iload_n dX2_apart_26 rfl ?_
            refine mi_iconst dX2_apart_27 ?_
            refine mi_imul dX2_apart_28 ?_
            refine ms_iload dX2_apart_29 rfl ?_
            refine mi_iadd dX2_apart_31 ?_
            refine ms_iald dX2_apart_32 (by first | rfl | assumption) ?_
            refine mi_isub dX2_apart_33 ?_
            refine ms_istore dX2_apart_34 (by decide) rfl ?_
            refine ms_iload_n dX2_apart_36 rfl ?_
            refine ms_iload dX2_apart_37 rfl ?_
            refine mi_if_ge (tgt := 48) dX2_apart_39 (by decide) (fun c_39 => ?_) (fun c_39 => ?_)
            · refine ms_iload dX2_apart_48 rfl ?_
              refine mi_iadd dX2_apart_50 ?_
              refine ms_istore_n dX2_apart_51 (by decide) rfl ?_
              refine mi_iinc dX2_apart_52 rfl (by decide) rfl ?_
              refine ms_goto (tgt := 5) dX2_apart_55 (by decide) ?_
              refine ms_iload dX2_apart_5 rfl ?_
              refine mi_iconst dX2_apart_7 ?_
              refine mi_icmp_ge (tgt := 58) dX2_apart_8 (by decide) (fun c_8 => ?_) (fun c_8 => ?_)
              · refine ms_iload_n dX2_apart_58 rfl ?_
                refine mi_iconst dX2_apart_59 ?_
                refine mi_idiv dX2_apart_60 ?_
                refine ms_ret dX2_apart_61 rfl ⟨rfl, congrArg (fun z => some (Value.int (iI z))) (by simp only [sp_far, show 3 * l = l * 3 + 0 by omega, show 3 * o = o * 3 + 0 by omega, show l * 3 + 0 + 1 = l * 3 + (0 + 1) by omega, show l * 3 + 0 + 2 = l * 3 + (0 + 1 + 1) by omega, show o * 3 + 0 + 1 = o * 3 + (0 + 1) by omega, show o * 3 + 0 + 2 = o * 3 + (0 + 1 + 1) by omega]; omega)⟩ (by simp)
              · exact absurd c_8 (by omega)
            · refine ms_iload dX2_apart_42 rfl ?_
              refine mi_ineg dX2_apart_44 ?_
              refine ms_goto (tgt := 50) dX2_apart_45 (by decide) ?_
              refine mi_iadd dX2_apart_50 ?_
              refine ms_istore_n dX2_apart_51 (by decide) rfl ?_
              refine mi_iinc dX2_apart_52 rfl (by decide) rfl ?_
              refine ms_goto (tgt := 5) dX2_apart_55 (by decide) ?_
              refine ms_iload dX2_apart_5 rfl ?_
              refine mi_iconst dX2_apart_7 ?_
              refine mi_icmp_ge (tgt := 58) dX2_apart_8 (by decide) (fun c_8 => ?_) (fun c_8 => ?_)
              · refine ms_iload_n dX2_apart_58 rfl ?_
                refine mi_iconst dX2_apart_59 ?_
                refine mi_idiv dX2_apart_60 ?_
                refine ms_ret dX2_apart_61 rfl ⟨rfl, congrArg (fun z => some (Value.int (iI z))) (by simp only [sp_far, show 3 * l = l * 3 + 0 by omega, show 3 * o = o * 3 + 0 by omega, show l * 3 + 0 + 1 = l * 3 + (0 + 1) by omega, show l * 3 + 0 + 2 = l * 3 + (0 + 1 + 1) by omega, show o * 3 + 0 + 1 = o * 3 + (0 + 1) by omega, show o * 3 + 0 + 2 = o * 3 + (0 + 1 + 1) by omega]; omega)⟩ (by simp)
              · exact absurd c_8 (by omega)

