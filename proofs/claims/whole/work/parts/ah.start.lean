/-- the Strings' terms -/
def tmS (i : Nat) : Term := .string (mx_st.getD i ("", 0, "")).1 (mx_st.getD i ("", 0, "")).2.1
def tmP (i : Nat) : Nat := ([39, 109, 119, 128, 139, 152, 166, 180, 195, 213, 232, 250, 270] : List Nat).getD i 0
def tmD (i j : Nat) : Nat := (([[0, 118, 126, 136, 148, 161, 174, 188, 205, 223, 240, 259, 277], [0, 0, 127, 137, 149, 162, 175, 189, 206, 224, 241, 260, 278], [0, 0, 0, 138, 150, 163, 176, 190, 207, 225, 242, 261, 279], [0, 0, 0, 0, 151, 164, 177, 191, 208, 226, 243, 262, 280], [0, 0, 0, 0, 0, 165, 178, 192, 209, 227, 244, 263, 281], [0, 0, 0, 0, 0, 0, 179, 193, 210, 228, 245, 264, 282], [0, 0, 0, 0, 0, 0, 0, 194, 211, 229, 246, 265, 283], [0, 0, 0, 0, 0, 0, 0, 0, 212, 230, 247, 266, 284], [0, 0, 0, 0, 0, 0, 0, 0, 0, 231, 248, 267, 285], [0, 0, 0, 0, 0, 0, 0, 0, 0, 0, 249, 268, 286], [0, 0, 0, 0, 0, 0, 0, 0, 0, 0, 0, 269, 287], [0, 0, 0, 0, 0, 0, 0, 0, 0, 0, 0, 0, 288], [0, 0, 0, 0, 0, 0, 0, 0, 0, 0, 0, 0, 0]] : List (List Nat)).getD i []).getD j 0
def tmR (i : Nat) : Nat := ([513, 945, 946, 947, 948, 949, 950, 951, 952, 953, 1144, 1165, 1174] : List Nat).getD i 0
abbrev gvn : List Cond := flatC (Jvm.Cond.and given_1 narrow_1)
theorem st_ex : ∀ i : Fin 13, gvn[tmP i.val]? = some (Cond.exactly (tmS i.val) "java/lang/String") ∧ gvn[tmP i.val + 1]? = some (Cond.eq (.field (tmS i.val) "java/lang/String" "coder" "B") (.int 0)) ∧ gvn[tmP i.val + 2]? = some (Cond.arrayOf (.field (tmS i.val) "java/lang/String" "value" "[B") .byte) ∧ gvn[tmP i.val + 3]? = some (Cond.eq (.length (.field (tmS i.val) "java/lang/String" "value" "[B")) (.int (Int32.ofNat (mx_sl.getD i.val 0)))) := by decide +kernel
theorem st_el : ∀ i : Fin 13, ∀ j : Fin 66, j.val < mx_sl.getD i.val 0 → gvn[tmP i.val + 4 + j.val]? = some (Cond.eq (.elem (.field (tmS i.val) "java/lang/String" "value" "[B") (.int (Int32.ofNat j.val))) (.int ((mx_sb.getD i.val []).getD j.val 0))) := by decide +kernel
theorem st_ne : ∀ i : Fin 13, ∀ j : Fin 13, i.val < j.val → gvn[tmD i.val j.val]? = some (Cond.not (Cond.eq (tmS i.val) (tmS j.val))) := by decide +kernel
theorem st_rf : ∀ i : Fin 13, lw_tbl[tmR i.val]? = some (Cond.stringRef (mx_st.getD i.val ("", 0, "")).1 (mx_st.getD i.val ("", 0, "")).2.1 (mx_st.getD i.val ("", 0, "")).2.2) := by decide +kernel
theorem st_sl : ∀ i : Fin 13, mx_sl.getD i.val 0 ≤ 66 := by decide
theorem dn_el : ∀ j : Fin 7, gvn[([14, 15, 16, 17, 18, 19, 20] : List Nat).getD j.val 0]? = some (Cond.eq (.elem (.static "LampValley$Council" "DROP_NUMBERS" "[I") (.int (Int32.ofNat j.val))) (.int (mx_dn j.val))) := by decide +kernel
/-- the classes by their numbers -/
theorem st_D {s : State} {args : Array Value} (hT : ∀ w ∈ mx_T, w.before args s = true) : ∃ D : va_G, ∀ (k : Nat) (q : vw_C), vwCl[k]? = some q → u_Kn s q.1 q.2.1 q.2.2 (D.1 k) (D.2 k) := by
  obtain ⟨c0, i0, h0⟩ := u_known (C := RX0) (T := TX0) (N := 5) (n := 5) hT cl_0.2.1 (hT _ nw_X6_init_0.2.1)
  obtain ⟨c1, i1, h1⟩ := u_known (C := RX1) (T := TX1) (N := 10) (n := 10) hT cl_1.2.1 (hT _ nw_X6_init_1.2.1)
  obtain ⟨c2, i2, h2⟩ := u_known (C := RX2) (T := TX2) (N := 6) (n := 6) hT cl_2.2.1 (hT _ nw_X3_init_2.2.1)
  obtain ⟨c3, i3, h3⟩ := u_known (C := RX3) (T := TX3) (N := 4) (n := 4) hT cl_3.2.1 (hT _ nw_X6_init_3.2.1)
  obtain ⟨c4, i4, h4⟩ := u_known (C := RX4) (T := TX4) (N := 14) (n := 14) hT cl_4.2.1 (hT _ nw_X6_init_4.2.1)
  obtain ⟨c5, i5, h5⟩ := u_known (C := RX5) (T := TX5) (N := 5) (n := 5) hT cl_5.2.1 (hT _ nw_X6_init_5.2.1)
  obtain ⟨c6, i6, h6⟩ := u_known (C := RX6) (T := TX6) (N := 15) (n := 15) hT cl_6.2.1 (hT _ nw_L_law_6.2.1)
  obtain ⟨c7, i7, h7⟩ := u_known (C := RX7) (T := TX7) (N := 48) (n := 48) hT cl_7.2.1 (hT _ nw_L_law_7.2.1)
  refine ⟨(fun k => [c0, c1, c2, c3, c4, c5, c6, c7].getD k c0, fun k => [i0, i1, i2, i3, i4, i5, i6, i7].getD k i0), fun k q hq => ?_⟩
  match k, hq with
  | 0, hq => cases hq; exact h0
  | 1, hq => cases hq; exact h1
  | 2, hq => cases hq; exact h2
  | 3, hq => cases hq; exact h3
  | 4, hq => cases hq; exact h4
  | 5, hq => cases hq; exact h5
  | 6, hq => cases hq; exact h6
  | 7, hq => cases hq; exact h7
  | k + 8, hq => cases hq
theorem st_C {s : State} {args : Array Value} (hT : ∀ w ∈ mx_T, w.before args s = true) (hO : (Cond.arrayOver (.object "java/lang/String")).before args s = true) : ∃ C : mx_Cs, ∀ (k : Nat) (q : ClassId × FieldType), (mx_tys C)[k]? = some q → ArrOfT s q.1 q.2 ∧ va_RA s q.1 q.2 := by
  obtain ⟨cI, kI, pI, a1, a2, a3⟩ := Cond.arrayClass_spec (hT _ wt_arrI)
  obtain ⟨cJ, kJ, pJ, b1, b2, b3⟩ := Cond.arrayClass_spec (hT _ wt_arrJ)
  obtain ⟨pS, cS, kS, e1, e2, e3, e4, e5⟩ := Cond.arrayOver_spec hO
  refine ⟨(cI, cJ, cS), fun k q hq => ?_⟩
  match k, hq with
  | 0, hq => cases hq; exact ⟨fun N z => ⟨(fun k h => by cases h), kI, a2, pI, a3⟩, a1⟩
  | 1, hq => cases hq; exact ⟨fun N z => ⟨(fun k h => by cases h), kJ, b2, pJ, b3⟩, b1⟩
  | 2, hq => cases hq; exact ⟨fun N z => ⟨(fun k h => by cases h), kS, e3, pS, e4⟩, kS, pS, e3, e4, e1, e5⟩
  | k + 3, hq => cases hq
