/-- a bit more, of seven -/
def oo7 (r b : Int) : Int := if ob r b = 1 then r else r + 2 ^ b.toNat
theorem oo7_0 : ∀ r : Fin 128, ∀ b : Fin 7, (iI (r.val : Int) ||| iI (2 ^ ((b.val : Int)).toNat) = iI (oo7 (r.val : Int) (b.val : Int))) ∧ (0 ≤ oo7 (r.val : Int) (b.val : Int) ∧ oo7 (r.val : Int) (b.val : Int) < 128) ∧ (∀ y : Fin 7, ob (oo7 (r.val : Int) (b.val : Int)) (y.val : Int) = if (y.val : Int) = (b.val : Int) then 1 else ob (r.val : Int) (y.val : Int)) ∧ (iI (r.val : Int) &&& iI (2 ^ ((b.val : Int)).toNat) = iI (if ob (r.val : Int) (b.val : Int) = 1 then 2 ^ ((b.val : Int)).toNat else 0)) := by decide +kernel
theorem oo7_e {r b : Int} (hr : 0 ≤ r ∧ r < 128) (hb : 0 ≤ b ∧ b < 7) : (iI r ||| iI (2 ^ b.toNat) = iI (oo7 r b)) ∧ (0 ≤ oo7 r b ∧ oo7 r b < 128) ∧ (∀ y, 0 ≤ y → y < 7 → ob (oo7 r b) y = if y = b then 1 else ob r y) ∧ (iI r &&& iI (2 ^ b.toNat) = iI (if ob r b = 1 then 2 ^ b.toNat else 0)) := by
  have h := oo7_0 ⟨r.toNat, by omega⟩ ⟨b.toNat, by omega⟩
  simp only [show ((r.toNat : Nat) : Int) = r by omega, show ((b.toNat : Nat) : Int) = b by omega] at h
  refine ⟨h.1, h.2.1, fun y y0 y1 => ?_, h.2.2.2⟩
  have h9 := h.2.2.1 ⟨y.toNat, by omega⟩
  simp only [show ((y.toNat : Nat) : Int) = y by omega] at h9
  exact h9
theorem p2_7 {b : Int} (hb : 0 ≤ b ∧ b < 7) : 0 < (2 : Int) ^ b.toNat ∧ (2 : Int) ^ b.toNat ≤ 64 := fin_of (n := 7) (P := fun b => 0 < (2 : Int) ^ b.toNat ∧ (2 : Int) ^ b.toNat ≤ 64) (by decide +kernel) hb.1 hb.2
/-- the bit of a lamp, or of nobody, by its turn -/
def tn (K k : Int) : Int := if k = K then 6 else k
set_option maxHeartbeats 4000000 in
set_option maxRecDepth 100000 in
theorem l_X7_mo2 {S : mx_Sc} {f : Bool} {M : Nat → Int → Int} {L : Nat → Nat → Int64} {Rf : Nat → Nat → Option Nat} (hR : mx_rf Rf) (hT : sp_tok (sp_tR M)) {n l : Int} (hn : 0 ≤ n ∧ n ≤ 99) (hnn : M 48 29 = n) (hl : 0 ≤ l ∧ l < M 53 1) (hO : ∀ j, 0 ≤ j → j < n → 0 ≤ M 70 j ∧ M 70 j < 64) (hD : ∀ j, 0 ≤ j → j < n → sp_vok (sp_tR M) (bkM (M 68) (M 70) j)) (hW : ∀ i, 0 ≤ i → i < 1800 → -1000 ≤ M 69 i ∧ M 69 i ≤ 1000) (hnk : nk M) : ∀ (kk : Nat) (k : Int) (N : Nat → Int → Int) (r : Int) (o4 : Option Value), 0 ≤ k → k + kk = M 53 1 + 1 → (∀ x, x ≠ 64 → x ≠ 67 → N x = M x) → nk N → (0 ≤ r ∧ r < 128) → (∀ b, 0 ≤ b → b < 7 → ob r b = if ((b < 6 ∧ b < k) ∨ (b = 6 ∧ M 53 1 < k)) ∧ b ≠ l ∧ (b = 6 ∨ b < M 53 1) ∧ mfA (sp_tR M) (M 70) (M 68) (M 69) l n.toNat (if b = 6 then -1 else b) = true then 1 else 0) → mx_E S mX7_mayOf 4 [some (.ref 48), some (.int (iI l)), some (.int (iI r)), some (.int (iI k)), o4] [] (f, mx_SH, N, L, Rf) 0 0 (fun v9 h9 => ∃ N r, h9 = (f, mx_SH, N, L, Rf) ∧ (∀ x, x ≠ 64 → x ≠ 67 → N x = M x) ∧ nk N ∧ v9 = some (.int (iI r)) ∧ (0 ≤ r ∧ r < 128) ∧ ∀ b, 0 ≤ b → b < 7 → ob r b = if b ≠ l ∧ (b = 6 ∨ b < M 53 1) ∧ mfA (sp_tR M) (M 70) (M 68) (M 69) l n.toNat (if b = 6 then -1 else b) = true then (1 : Int) else 0) (fun _ _ => False) := by
  intro kk
  induction kk with
  | zero => 
    intro k N r o4 k0 g1 q1 q3 hr q5
    have hT0 : 1 ≤ M 53 0 ∧ M 53 0 ≤ 30 := hT.1
    have hT1 : 0 ≤ M 53 1 ∧ M 53 1 ≤ 6 := hT.2.1
    have hT5 : 1 ≤ M 53 5 ∧ M 53 5 ≤ 99 := hT.2.2.2.2.2.1
    have hT6 : 0 ≤ M 53 6 ∧ M 53 6 ≤ 10 := hT.2.2.2.2.2.2.1
    have eT : sp_tR N = sp_tR M := by simp only [sp_tR, q1 53 (by decide) (by decide), q1 54 (by decide) (by decide), q1 55 (by decide) (by decide), q1 58 (by decide) (by decide), q1 59 (by decide) (by decide), q1 60 (by decide) (by decide)]
    have x53 : N 53 = M 53 := q1 53 (by decide) (by decide)
    have x48 : N 48 = M 48 := q1 48 (by decide) (by decide)
    have x70 : N 70 = M 70 := q1 70 (by decide) (by decide)
    have x68 : N 68 = M 68 := q1 68 (by decide) (by decide)
    have x69 : N 69 = M 69 := q1 69 (by decide) (by decide)
    refine ms_iload_n dX7_mayOf_4 rfl ?_
    refine ms_aload_n dX7_mayOf_5 rfl ?_
    refine ms_getR dX7_mayOf_6 (fo_X7_43 rfl) (by first | rfl | assumption) rfl (by first | assumption | exact rf_48_5 hR ) ?_
    refine mi_iconst dX7_mayOf_9 ?_
    refine ms_iald dX7_mayOf_10 (by first | rfl | assumption) ?_
    rw [x53]
    refine mi_icmp_gt (tgt := 71) dX7_mayOf_11 (by decide) (fun c_11 => ?_) (fun c_11 => ?_)
    · refine ms_iload_n dX7_mayOf_71 rfl ?_
      refine ms_ret dX7_mayOf_72 rfl ⟨N, r, rfl, q1, q3, rfl, hr, fun b b0 b1 => by rw [q5 b b0 b1]; congr 1; refine propext ⟨fun z => z.2, fun z => ⟨by have := z.2.1; omega, z⟩⟩⟩ (by simp)
    · exact absurd c_11 (by omega)
  | succ kk ih => 
    intro k N r o4 k0 g1 q1 q3 hr q5
    have hT0 : 1 ≤ M 53 0 ∧ M 53 0 ≤ 30 := hT.1
    have hT1 : 0 ≤ M 53 1 ∧ M 53 1 ≤ 6 := hT.2.1
    have hT5 : 1 ≤ M 53 5 ∧ M 53 5 ≤ 99 := hT.2.2.2.2.2.1
    have hT6 : 0 ≤ M 53 6 ∧ M 53 6 ≤ 10 := hT.2.2.2.2.2.2.1
    have eT : sp_tR N = sp_tR M := by simp only [sp_tR, q1 53 (by decide) (by decide), q1 54 (by decide) (by decide), q1 55 (by decide) (by decide), q1 58 (by decide) (by decide), q1 59 (by decide) (by decide), q1 60 (by decide) (by decide)]
    have x53 : N 53 = M 53 := q1 53 (by decide) (by decide)
    have x48 : N 48 = M 48 := q1 48 (by decide) (by decide)
    have x70 : N 70 = M 70 := q1 70 (by decide) (by decide)
    have x68 : N 68 = M 68 := q1 68 (by decide) (by decide)
    have x69 : N 69 = M 69 := q1 69 (by decide) (by decide)
    refine ms_iload_n dX7_mayOf_4 rfl ?_
    refine ms_aload_n dX7_mayOf_5 rfl ?_
    refine ms_getR dX7_mayOf_6 (fo_X7_43 rfl) (by first | rfl | assumption) rfl (by first | assumption | exact rf_48_5 hR ) ?_
    refine mi_iconst dX7_mayOf_9 ?_
    refine ms_iald dX7_mayOf_10 (by first | rfl | assumption) ?_
    rw [x53]
    refine mi_icmp_gt (tgt := 71) dX7_mayOf_11 (by decide) (fun c_11 => ?_) (fun c_11 => ?_)
    · exact absurd c_11 (by omega)
    · refine ms_iload_n dX7_mayOf_14 rfl ?_
      refine ms_aload_n dX7_mayOf_15 rfl ?_
      refine ms_getR dX7_mayOf_16 (fo_X7_43 rfl) (by first | rfl | assumption) rfl (by first | assumption | exact rf_48_5 hR ) ?_
      refine mi_iconst dX7_mayOf_19 ?_
      refine ms_iald dX7_mayOf_20 (by first | rfl | assumption) ?_
      rw [x53]
      refine mi_icmp_ne (tgt := 28) dX7_mayOf_21 (by decide) (fun c_21 => ?_) (fun c_21 => ?_)
      · refine ms_iload_n dX7_mayOf_28 rfl ?_
        have htn : tn (M 53 1) k = k := by unfold tn; rw [if_neg (by omega)]
        have hmf : mfA (sp_tR M) (M 70) (M 68) (M 69) l n.toNat (if tn (M 53 1) k = 6 then -1 else tn (M 53 1) k) = mfA (sp_tR M) (M 70) (M 68) (M 69) l n.toNat (k) := by rw [htn]; rw [if_neg (by omega)]
        refine ms_istore dX7_mayOf_29 (by decide) rfl ?_
        dsimp only [List.set, Nat.reduceAdd]
        refine ms_iload dX7_mayOf_31 rfl ?_
        refine ms_iload_n dX7_mayOf_33 rfl ?_
        refine mi_icmp_eq (tgt := 65) dX7_mayOf_34 (by decide) (fun c_34 => ?_) (fun c_34 => ?_)
        · refine mi_iinc dX7_mayOf_65 rfl (by decide) rfl ?_
          dsimp only [List.set, Nat.reduceAdd]
          refine ms_goto (tgt := 4) dX7_mayOf_68 (by decide) ?_
          refine ih (k + 1) N r _ (by omega) (by omega) q1 q3 (hr) (fun b b0 b1 => ?_)
          rw [q5 b b0 b1]
          by_cases e : b = tn (M 53 1) k
          · rw [if_neg, if_neg]
            · rintro ⟨_, z⟩
              exact z.1 (by omega)
            · rintro ⟨z, _⟩
              unfold tn at e
              split at e <;> omega
          · congr 1
            refine propext ⟨fun z => ⟨?_, z.2⟩, fun z => ⟨?_, z.2⟩⟩
            · have := z.1; omega
            · have := z.1; have h2 := z.2.2.1; unfold tn at e; split at e <;> omega
        · refine ms_aload_n dX7_mayOf_37 rfl ?_
          refine ms_iload_n dX7_mayOf_38 rfl ?_
          refine ms_iload dX7_mayOf_39 rfl ?_
          refine ms_callV2 (ci := 7) (r := (RX7, TX7, 48)) dX7_mayOf_41 cv_X7_mayOf_X7_fitsBook (k_X7_fitsBook (M := N) hR (by rw [eT]; exact hT) (n := n) (l := l) (w := k) hn (by rw [x48]; exact hnn) (by rw [x53]; exact hl) (by rw [x53]; omega) (by rw [x70]; exact hO) (by rw [eT, x68, x70]; exact hD) (by rw [x69]; exact hW) q3) rfl rfl (by first | rfl | assumption) (Nat.le_of_ble_eq_true rfl) rfl (fun _ _ z => z.elim) (fun v9 h9 hp9 => ?_)
          obtain ⟨N2, rfl, y1, y2, rfl⟩ := hp9
          rw [eT, x70, x68, x69]
          have q1' : ∀ x, x ≠ 64 → x ≠ 67 → N2 x = M x := fun x x0 x1 => by rw [y1 x x0 x1]; exact q1 x x0 x1
          refine mi_if_eqB (tgt := 65) dX7_mayOf_44 (by decide) (fun c_44 => ?_) (fun c_44 => ?_)
          · refine mi_iinc dX7_mayOf_65 rfl (by decide) rfl ?_
            dsimp only [List.set, Nat.reduceAdd]
            refine ms_goto (tgt := 4) dX7_mayOf_68 (by decide) ?_
            refine ih (k + 1) N2 r _ (by omega) (by omega) q1' y2 (hr) (fun b b0 b1 => ?_)
            rw [q5 b b0 b1]
            by_cases e : b = tn (M 53 1) k
            · rw [if_neg, if_neg]
              · rintro ⟨_, z⟩
                rw [e, hmf, c_44] at z
                exact absurd z.2.2 (by decide)
              · rintro ⟨z, _⟩
                unfold tn at e
                split at e <;> omega
            · congr 1
              refine propext ⟨fun z => ⟨?_, z.2⟩, fun z => ⟨?_, z.2⟩⟩
              · have := z.1; omega
              · have := z.1; have h2 := z.2.2.1; unfold tn at e; split at e <;> omega
          · have ho := oo7_e (r := r) (b := k) hr (by omega)
            refine ms_iload_n dX7_mayOf_47 rfl ?_
            refine ms_iload dX7_mayOf_48 rfl ?_
            refine mi_iconst dX7_mayOf_50 ?_
            refine mi_icmp_ne (tgt := 59) dX7_mayOf_51 (by decide) (fun c_51 => ?_) (fun c_51 => ?_)
            · refine mi_iconst dX7_mayOf_59 ?_
              refine ms_iload dX7_mayOf_60 rfl ?_
              refine mi_ishl (2 ^ k.toNat) dX7_mayOf_62 (p2_shl (by omega)) ?_
              refine mi_ior (oo7 r (k)) dX7_mayOf_63 (ho.1) ?_
              refine ms_istore_n dX7_mayOf_64 (by decide) rfl ?_
              dsimp only [List.set, Nat.reduceAdd]
              refine mi_iinc dX7_mayOf_65 rfl (by decide) rfl ?_
              dsimp only [List.set, Nat.reduceAdd]
              refine ms_goto (tgt := 4) dX7_mayOf_68 (by decide) ?_
              refine ih (k + 1) N2 (oo7 r (k)) _ (by omega) (by omega) q1' y2 (ho.2.1) (fun b b0 b1 => ?_)
              rw [ho.2.2.1 b b0 b1]
              by_cases e : b = tn (M 53 1) k
              · rw [if_pos (e.trans htn), if_pos]
                refine ⟨?_, ?_, ?_, ?_⟩
                · unfold tn at e; split at e <;> omega
                · omega
                · unfold tn at e; split at e <;> omega
                · rw [e, hmf, c_44]
              · rw [if_neg (fun z => e (z.trans htn.symm)), q5 b b0 b1]
                congr 1
                refine propext ⟨fun z => ⟨?_, z.2⟩, fun z => ⟨?_, z.2⟩⟩
                · have := z.1; omega
                · have := z.1; have h2 := z.2.2.1; unfold tn at e; split at e <;> omega
            · exact absurd c_51 (by omega)
      · refine mi_iconst dX7_mayOf_24 ?_
        refine ms_goto (tgt := 29) dX7_mayOf_25 (by decide) ?_
        have htn : tn (M 53 1) k = 6 := by unfold tn; rw [if_pos (by omega)]
        have hmf : mfA (sp_tR M) (M 70) (M 68) (M 69) l n.toNat (if tn (M 53 1) k = 6 then -1 else tn (M 53 1) k) = mfA (sp_tR M) (M 70) (M 68) (M 69) l n.toNat (-1) := by rw [htn]; rfl
        refine ms_istore dX7_mayOf_29 (by decide) rfl ?_
        dsimp only [List.set, Nat.reduceAdd]
        refine ms_iload dX7_mayOf_31 rfl ?_
        refine ms_iload_n dX7_mayOf_33 rfl ?_
        refine mi_icmp_eq (tgt := 65) dX7_mayOf_34 (by decide) (fun c_34 => ?_) (fun c_34 => ?_)
        · refine mi_iinc dX7_mayOf_65 rfl (by decide) rfl ?_
          dsimp only [List.set, Nat.reduceAdd]
          refine ms_goto (tgt := 4) dX7_mayOf_68 (by decide) ?_
          refine ih (k + 1) N r _ (by omega) (by omega) q1 q3 (hr) (fun b b0 b1 => ?_)
          rw [q5 b b0 b1]
          by_cases e : b = tn (M 53 1) k
          · rw [if_neg, if_neg]
            · rintro ⟨_, z⟩
              exact z.1 (by omega)
            · rintro ⟨z, _⟩
              unfold tn at e
              split at e <;> omega
          · congr 1
            refine propext ⟨fun z => ⟨?_, z.2⟩, fun z => ⟨?_, z.2⟩⟩
            · have := z.1; omega
            · have := z.1; have h2 := z.2.2.1; unfold tn at e; split at e <;> omega
        · refine ms_aload_n dX7_mayOf_37 rfl ?_
          refine ms_iload_n dX7_mayOf_38 rfl ?_
          refine ms_iload dX7_mayOf_39 rfl ?_
          refine ms_callV2 (ci := 7) (r := (RX7, TX7, 48)) dX7_mayOf_41 cv_X7_mayOf_X7_fitsBook (k_X7_fitsBook (M := N) hR (by rw [eT]; exact hT) (n := n) (l := l) (w := -1) hn (by rw [x48]; exact hnn) (by rw [x53]; exact hl) (by rw [x53]; omega) (by rw [x70]; exact hO) (by rw [eT, x68, x70]; exact hD) (by rw [x69]; exact hW) q3) rfl rfl (by first | rfl | assumption) (Nat.le_of_ble_eq_true rfl) rfl (fun _ _ z => z.elim) (fun v9 h9 hp9 => ?_)
          obtain ⟨N2, rfl, y1, y2, rfl⟩ := hp9
          rw [eT, x70, x68, x69]
          have q1' : ∀ x, x ≠ 64 → x ≠ 67 → N2 x = M x := fun x x0 x1 => by rw [y1 x x0 x1]; exact q1 x x0 x1
          refine mi_if_eqB (tgt := 65) dX7_mayOf_44 (by decide) (fun c_44 => ?_) (fun c_44 => ?_)
          · refine mi_iinc dX7_mayOf_65 rfl (by decide) rfl ?_
            dsimp only [List.set, Nat.reduceAdd]
            refine ms_goto (tgt := 4) dX7_mayOf_68 (by decide) ?_
            refine ih (k + 1) N2 r _ (by omega) (by omega) q1' y2 (hr) (fun b b0 b1 => ?_)
            rw [q5 b b0 b1]
            by_cases e : b = tn (M 53 1) k
            · rw [if_neg, if_neg]
              · rintro ⟨_, z⟩
                rw [e, hmf, c_44] at z
                exact absurd z.2.2 (by decide)
              · rintro ⟨z, _⟩
                unfold tn at e
                split at e <;> omega
            · congr 1
              refine propext ⟨fun z => ⟨?_, z.2⟩, fun z => ⟨?_, z.2⟩⟩
              · have := z.1; omega
              · have := z.1; have h2 := z.2.2.1; unfold tn at e; split at e <;> omega
          · have ho := oo7_e (r := r) (b := 6) hr (by omega)
            refine ms_iload_n dX7_mayOf_47 rfl ?_
            refine ms_iload dX7_mayOf_48 rfl ?_
            refine mi_iconst dX7_mayOf_50 ?_
            refine mi_icmp_ne (tgt := 59) dX7_mayOf_51 (by decide) (fun c_51 => ?_) (fun c_51 => ?_)
            · exact absurd rfl c_51
            · refine mi_bipush dX7_mayOf_54 (by decide) ?_
              refine ms_goto (tgt := 63) dX7_mayOf_56 (by decide) ?_
              refine mi_ior (oo7 r (6)) dX7_mayOf_63 (ho.1) ?_
              refine ms_istore_n dX7_mayOf_64 (by decide) rfl ?_
              dsimp only [List.set, Nat.reduceAdd]
              refine mi_iinc dX7_mayOf_65 rfl (by decide) rfl ?_
              dsimp only [List.set, Nat.reduceAdd]
              refine ms_goto (tgt := 4) dX7_mayOf_68 (by decide) ?_
              refine ih (k + 1) N2 (oo7 r (6)) _ (by omega) (by omega) q1' y2 (ho.2.1) (fun b b0 b1 => ?_)
              rw [ho.2.2.1 b b0 b1]
              by_cases e : b = tn (M 53 1) k
              · rw [if_pos (e.trans htn), if_pos]
                refine ⟨?_, ?_, ?_, ?_⟩
                · unfold tn at e; split at e <;> omega
                · omega
                · unfold tn at e; split at e <;> omega
                · rw [e, hmf, c_44]
              · rw [if_neg (fun z => e (z.trans htn.symm)), q5 b b0 b1]
                congr 1
                refine propext ⟨fun z => ⟨?_, z.2⟩, fun z => ⟨?_, z.2⟩⟩
                · have := z.1; omega
                · have := z.1; have h2 := z.2.2.1; unfold tn at e; split at e <;> omega

set_option maxHeartbeats 4000000 in
set_option maxRecDepth 100000 in
theorem k_X7_mayOf {S : mx_Sc} {f : Bool} {M : Nat → Int → Int} {L : Nat → Nat → Int64} {Rf : Nat → Nat → Option Nat} (hR : mx_rf Rf) (hT : sp_tok (sp_tR M)) {n l : Int} (hn : 0 ≤ n ∧ n ≤ 99) (hnn : M 48 29 = n) (hl : 0 ≤ l ∧ l < M 53 1) (hO : ∀ j, 0 ≤ j → j < n → 0 ≤ M 70 j ∧ M 70 j < 64) (hD : ∀ j, 0 ≤ j → j < n → sp_vok (sp_tR M) (bkM (M 68) (M 70) j)) (hW : ∀ i, 0 ≤ i → i < 1800 → -1000 ≤ M 69 i ∧ M 69 i ≤ 1000) (hnk : nk M) : mx_C S mX7_mayOf [.ref 48, .int (iI l)] (f, mx_SH, M, L, Rf) 0 0 (fun v9 h9 => ∃ N r, h9 = (f, mx_SH, N, L, Rf) ∧ (∀ x, x ≠ 64 → x ≠ 67 → N x = M x) ∧ nk N ∧ v9 = some (.int (iI r)) ∧ (0 ≤ r ∧ r < 128) ∧ ∀ b, 0 ≤ b → b < 7 → ob r b = if b ≠ l ∧ (b = 6 ∨ b < M 53 1) ∧ mfA (sp_tR M) (M 70) (M 68) (M 69) l n.toNat (if b = 6 then -1 else b) = true then (1 : Int) else 0) (fun _ _ => False) := by
  refine mx_C_of (by decide) (by simp [Value.category]) (Nat.le_of_ble_eq_true rfl) rfl ?_
  show mx_E S mX7_mayOf 0 [some (.ref 48), some (.int (iI l)), none, none, none] [] (f, mx_SH, M, L, Rf) 0 0 _ _
  have hT0 : 1 ≤ M 53 0 ∧ M 53 0 ≤ 30 := hT.1
  have hT1 : 0 ≤ M 53 1 ∧ M 53 1 ≤ 6 := hT.2.1
  have hT5 : 1 ≤ M 53 5 ∧ M 53 5 ≤ 99 := hT.2.2.2.2.2.1
  have hT6 : 0 ≤ M 53 6 ∧ M 53 6 ≤ 10 := hT.2.2.2.2.2.2.1
  refine mi_iconst dX7_mayOf_0 ?_
  refine ms_istore_n dX7_mayOf_1 (by decide) rfl ?_
  dsimp only [List.set, Nat.reduceAdd]
  refine mi_iconst dX7_mayOf_2 ?_
  refine ms_istore_n dX7_mayOf_3 (by decide) rfl ?_
  dsimp only [List.set, Nat.reduceAdd]
  exact l_X7_mo2 (S := S) (f := f) (L := L) hR hT hn hnn hl hO hD hW hnk ((M 53 1).toNat + 1) 0 M 0 none (by omega) (by omega) (fun _ _ _ => rfl) hnk (by decide) (fun b b0 b1 => by rw [if_neg (by omega)]; unfold ob; rw [Int.zero_ediv]; rfl)

set_option maxHeartbeats 4000000 in
set_option maxRecDepth 100000 in
theorem k_X7_may {S : mx_Sc} {f : Bool} {M : Nat → Int → Int} {L : Nat → Nat → Int64} {Rf : Nat → Nat → Option Nat} (hR : mx_rf Rf) (hT : sp_tok (sp_tR M)) {n l : Int} (hn : 0 ≤ n ∧ n ≤ 99) (hnn : M 48 29 = n) (hl : 0 ≤ l ∧ l < M 53 1) (hO : ∀ j, 0 ≤ j → j < n → 0 ≤ M 70 j ∧ M 70 j < 64) (hD : ∀ j, 0 ≤ j → j < n → sp_vok (sp_tR M) (bkM (M 68) (M 70) j)) (hW : ∀ i, 0 ≤ i → i < 1800 → -1000 ≤ M 69 i ∧ M 69 i ≤ 1000) (hnk : nk M) (hl32 : -2147483648 ≤ l ∧ l ≤ 2147483647) : mx_C S mX7_may [.ref 48, .int (iI l)] (f, mx_SH, M, L, Rf) 0 0 (fun v9 h9 => ∃ N r, h9 = (f, mx_SH, N, L, Rf) ∧ (∀ x, x ≠ 48 → x ≠ 64 → x ≠ 67 → N x = M x) ∧ N 48 4 = 0 ∧ (∀ k, k ≠ 4 → N 48 k = M 48 k) ∧ nk N ∧ v9 = some (.int (iI r)) ∧ (0 ≤ r ∧ r < 128) ∧ ∀ b, 0 ≤ b → b < 7 → ob r b = if b ≠ l ∧ (b = 6 ∨ b < M 53 1) ∧ mfA (sp_tR M) (M 70) (M 68) (M 69) l n.toNat (if b = 6 then -1 else b) = true then (1 : Int) else 0) (fun _ _ => False) := by
  refine mx_C_of (by decide) (by simp [Value.category]) (Nat.le_of_ble_eq_true rfl) rfl ?_
  show mx_E S mX7_may 0 [some (.ref 48), some (.int (iI l))] [] (f, mx_SH, M, L, Rf) 0 0 _ _
  have hT0 : 1 ≤ M 53 0 ∧ M 53 0 ≤ 30 := hT.1
  have hT1 : 0 ≤ M 53 1 ∧ M 53 1 ≤ 6 := hT.2.1
  have hT5 : 1 ≤ M 53 5 ∧ M 53 5 ≤ 99 := hT.2.2.2.2.2.1
  have hT6 : 0 ≤ M 53 6 ∧ M 53 6 ≤ 10 := hT.2.2.2.2.2.2.1
  refine ms_aload_n dX7_may_0 rfl ?_
  refine mi_iconst dX7_may_1 ?_
  refine ms_putI (z := 4) dX7_may_2 (fo_X7_131 rfl) (by first | rfl | assumption) rfl rfl rfl ?_
  refine mx_gen (fun N => cdP M N 0) cdP.mk' (fun N hN => ?_)
  have e53 : N 53 = M 53 := hN.1 53 (by decide)
  have e63 : N 63 = M 63 := hN.1 63 (by decide)
  have eTR : sp_tR N = sp_tR M := by simp only [sp_tR, hN.1 53 (by decide), hN.1 54 (by decide), hN.1 55 (by decide), hN.1 58 (by decide), hN.1 59 (by decide), hN.1 60 (by decide)]
  have e29 : N 48 29 = n := (hN.2.2 29 (by decide)).trans hnn
  have e70 : N 70 = M 70 := hN.1 70 (by decide)
  have e68 : N 68 = M 68 := hN.1 68 (by decide)
  have e69 : N 69 = M 69 := hN.1 69 (by decide)
  have hnk2 : nk N := fun l l0 l1 => by rw [hN.1 64 (by decide)]; exact hnk l l0 l1
  refine ms_aload_n dX7_may_5 rfl ?_
  refine ms_iload_n dX7_may_6 rfl ?_
  refine ms_callV1 (ci := 7) (r := (RX7, TX7, 48)) dX7_may_7 cv_X7_may_X7_isLamp (k_X7_isLamp (M := N) hR (by rw [e53]; exact hT1) hl32) rfl rfl (by first | rfl | assumption) (Nat.le_of_ble_eq_true rfl) rfl (fun _ _ z => z.elim) (fun v9 h9 hp9 => ?_)
  obtain ⟨rfl, rfl⟩ := hp9
  rw [e53]
  refine mi_if_eqB (tgt := 21) dX7_may_10 (by decide) (fun c_10 => ?_) (fun c_10 => ?_)
  · exact absurd (of_decide_eq_false c_10) (by omega)
  · refine ms_aload_n dX7_may_13 rfl ?_
    refine ms_iload_n dX7_may_14 rfl ?_
    refine ms_callV1 (ci := 7) (r := (RX7, TX7, 48)) dX7_may_15 cv_X7_may_X7_mayOf (k_X7_mayOf (M := N) hR (by rw [eTR]; exact hT) (n := n) (l := l) hn e29 (by rw [e53]; exact hl) (by rw [e70]; exact hO) (by rw [eTR, e68, e70]; exact hD) (by rw [e69]; exact hW) hnk2) rfl rfl (by first | rfl | assumption) (Nat.le_of_ble_eq_true rfl) rfl (fun _ _ z => z.elim) (fun v9 h9 hp9 => ?_)
    obtain ⟨N2, r, rfl, y1, y2, rfl, hr, hbits⟩ := hp9
    rw [eTR, e70, e68, e69, e53] at hbits
    refine ms_goto (tgt := 26) dX7_may_18 (by decide) ?_
    refine ms_ret dX7_may_26 rfl ⟨N2, r, rfl, fun x x0 x1 x2 => by rw [y1 x x1 x2]; exact hN.1 x x0, by rw [y1 48 (by decide) (by decide)]; exact hN.2.1, fun k hk => by rw [y1 48 (by decide) (by decide)]; exact hN.2.2 k hk, y2, rfl, hr, hbits⟩ (by simp)

set_option maxHeartbeats 4000000 in
set_option maxRecDepth 100000 in
theorem k_X7_may_x {S : mx_Sc} {f : Bool} {M : Nat → Int → Int} {L : Nat → Nat → Int64} {Rf : Nat → Nat → Option Nat} (hR : mx_rf Rf) (hT : sp_tok (sp_tR M)) {l : Int} (hl32 : -2147483648 ≤ l ∧ l ≤ 2147483647) (hc : ¬ (0 ≤ l ∧ l < M 53 1)) : mx_C S mX7_may [.ref 48, .int (iI l)] (f, mx_SH, M, L, Rf) 0 0 (fun v9 h9 => ∃ N, h9 = (f, mx_SH, N, L, Rf) ∧ cdP M N 1 ∧ v9 = some (.int (iI (0)))) (fun _ _ => False) := by
  refine mx_C_of (by decide) (by simp [Value.category]) (Nat.le_of_ble_eq_true rfl) rfl ?_
  show mx_E S mX7_may 0 [some (.ref 48), some (.int (iI l))] [] (f, mx_SH, M, L, Rf) 0 0 _ _
  have hT0 : 1 ≤ M 53 0 ∧ M 53 0 ≤ 30 := hT.1
  have hT1 : 0 ≤ M 53 1 ∧ M 53 1 ≤ 6 := hT.2.1
  have hT5 : 1 ≤ M 53 5 ∧ M 53 5 ≤ 99 := hT.2.2.2.2.2.1
  have hT6 : 0 ≤ M 53 6 ∧ M 53 6 ≤ 10 := hT.2.2.2.2.2.2.1
  refine ms_aload_n dX7_may_0 rfl ?_
  refine mi_iconst dX7_may_1 ?_
  refine ms_putI (z := 4) dX7_may_2 (fo_X7_131 rfl) (by first | rfl | assumption) rfl rfl rfl ?_
  refine mx_gen (fun N => cdP M N 0) cdP.mk' (fun N hN => ?_)
  have e53 : N 53 = M 53 := hN.1 53 (by decide)
  have e63 : N 63 = M 63 := hN.1 63 (by decide)
  have eTR : sp_tR N = sp_tR M := by simp only [sp_tR, hN.1 53 (by decide), hN.1 54 (by decide), hN.1 55 (by decide), hN.1 58 (by decide), hN.1 59 (by decide), hN.1 60 (by decide)]
  refine ms_aload_n dX7_may_5 rfl ?_
  refine ms_iload_n dX7_may_6 rfl ?_
  refine ms_callV1 (ci := 7) (r := (RX7, TX7, 48)) dX7_may_7 cv_X7_may_X7_isLamp (k_X7_isLamp (M := N) hR (by rw [e53]; exact hT1) hl32) rfl rfl (by first | rfl | assumption) (Nat.le_of_ble_eq_true rfl) rfl (fun _ _ z => z.elim) (fun v9 h9 hp9 => ?_)
  obtain ⟨rfl, rfl⟩ := hp9
  rw [e53]
  refine mi_if_eqB (tgt := 21) dX7_may_10 (by decide) (fun c_10 => ?_) (fun c_10 => ?_)
  · refine ms_aload_n dX7_may_21 rfl ?_
    refine mi_iconst dX7_may_22 ?_
    refine ms_callV1 (ci := 7) (r := (RX7, TX7, 48)) dX7_may_23 cv_X7_may_X7_fail (k_X7_fail (M := N) hR) rfl rfl (by first | rfl | assumption) (Nat.le_of_ble_eq_true rfl) rfl (fun _ _ z => z.elim) (fun v9 h9 hp9 => ?_)
    obtain ⟨rfl, rfl⟩ := hp9
    refine ms_ret dX7_may_26 rfl ⟨_, rfl, hN.set, rfl⟩ (by simp)
  · exact absurd (of_decide_eq_true c_10) hc

