/-- the shapes of all things that the two constructors make, and the law's own row -/
def mx_SH : List (Nat × Nat) := [(9, 15), (0, 500), (6, 4), (5, 6), (0, 18), (0, 6), (0, 6), (0, 1782), (0, 1800), (0, 3), (6, 4), (5, 6), (0, 18), (0, 6), (0, 6), (0, 1782), (0, 1800), (0, 3), (5, 6), (0, 18), (0, 6), (0, 6), (1, 1001), (0, 6), (0, 3), (3, 5), (0, 3), (0, 3), (0, 1029), (7, 14), (0, 6), (0, 6), (0, 6), (0, 18), (0, 10), (0, 10), (0, 10), (7, 14), (0, 6), (0, 6), (0, 6), (0, 18), (0, 10), (0, 10), (0, 10), (4, 10), (8, 5), (0, 18), (10, 48), (2, 5), (2, 4), (0, 4), (0, 4), (0, 14), (0, 12), (0, 12), (0, 36), (0, 12), (0, 20), (0, 20), (0, 20), (0, 3), (0, 500), (0, 30), (0, 30), (0, 30), (0, 6), (0, 3), (0, 1800), (0, 1800), (0, 100), (0, 18018), (0, 1001), (0, 3), (0, 2187), (0, 30), (0, 30), (0, 1800), (0, 1800), (0, 100), (0, 3), (1, 1)]
/-- the references that never change -/
def mx_RT : List (Nat × Nat × Nat) := [(0, 0, 1), (3, 0, 4), (3, 1, 5), (3, 2, 6), (2, 0, 3), (2, 1, 7), (2, 2, 8), (2, 3, 9), (0, 2, 2), (11, 0, 12), (11, 1, 13), (11, 2, 14), (10, 0, 11), (10, 1, 15), (10, 2, 16), (10, 3, 17), (0, 3, 10), (18, 0, 19), (18, 1, 20), (18, 2, 21), (0, 4, 18), (0, 5, 22), (0, 6, 23), (0, 7, 24), (0, 8, 25), (25, 0, 26), (25, 1, 27), (25, 2, 28), (29, 7, 30), (29, 8, 31), (29, 9, 32), (29, 10, 33), (29, 11, 34), (29, 12, 35), (29, 13, 36), (37, 7, 38), (37, 8, 39), (37, 9, 40), (37, 10, 41), (37, 11, 42), (37, 12, 43), (37, 13, 44), (0, 1, 45), (45, 2, 1), (0, 9, 46), (46, 0, 47), (48, 0, 49), (48, 1, 50), (48, 2, 51), (48, 3, 52), (48, 5, 53), (48, 6, 54), (48, 7, 55), (48, 8, 56), (48, 9, 57), (48, 10, 58), (48, 11, 59), (48, 12, 60), (48, 13, 61), (48, 14, 62), (48, 25, 63), (48, 26, 64), (48, 27, 65), (48, 28, 66), (48, 30, 67), (48, 31, 68), (48, 32, 69), (48, 33, 70), (48, 34, 71), (48, 35, 72), (48, 36, 73), (48, 37, 74), (48, 39, 75), (48, 43, 76), (48, 44, 77), (48, 45, 78), (48, 46, 79), (48, 47, 80)]
def mx_rf (Rf : Nat → Nat → Option Nat) : Prop := ∀ q ∈ mx_RT, Rf q.1 q.2.1 = some q.2.2
theorem rf_0_0 {Rf : Nat → Nat → Option Nat} (h : mx_rf Rf) : Rf 0 0 = some 1 := h (0, 0, 1) (by decide +kernel)
theorem rf_3_0 {Rf : Nat → Nat → Option Nat} (h : mx_rf Rf) : Rf 3 0 = some 4 := h (3, 0, 4) (by decide +kernel)
theorem rf_3_1 {Rf : Nat → Nat → Option Nat} (h : mx_rf Rf) : Rf 3 1 = some 5 := h (3, 1, 5) (by decide +kernel)
theorem rf_3_2 {Rf : Nat → Nat → Option Nat} (h : mx_rf Rf) : Rf 3 2 = some 6 := h (3, 2, 6) (by decide +kernel)
theorem rf_2_0 {Rf : Nat → Nat → Option Nat} (h : mx_rf Rf) : Rf 2 0 = some 3 := h (2, 0, 3) (by decide +kernel)
theorem rf_2_1 {Rf : Nat → Nat → Option Nat} (h : mx_rf Rf) : Rf 2 1 = some 7 := h (2, 1, 7) (by decide +kernel)
theorem rf_2_2 {Rf : Nat → Nat → Option Nat} (h : mx_rf Rf) : Rf 2 2 = some 8 := h (2, 2, 8) (by decide +kernel)
theorem rf_2_3 {Rf : Nat → Nat → Option Nat} (h : mx_rf Rf) : Rf 2 3 = some 9 := h (2, 3, 9) (by decide +kernel)
theorem rf_0_2 {Rf : Nat → Nat → Option Nat} (h : mx_rf Rf) : Rf 0 2 = some 2 := h (0, 2, 2) (by decide +kernel)
theorem rf_11_0 {Rf : Nat → Nat → Option Nat} (h : mx_rf Rf) : Rf 11 0 = some 12 := h (11, 0, 12) (by decide +kernel)
theorem rf_11_1 {Rf : Nat → Nat → Option Nat} (h : mx_rf Rf) : Rf 11 1 = some 13 := h (11, 1, 13) (by decide +kernel)
theorem rf_11_2 {Rf : Nat → Nat → Option Nat} (h : mx_rf Rf) : Rf 11 2 = some 14 := h (11, 2, 14) (by decide +kernel)
theorem rf_10_0 {Rf : Nat → Nat → Option Nat} (h : mx_rf Rf) : Rf 10 0 = some 11 := h (10, 0, 11) (by decide +kernel)
theorem rf_10_1 {Rf : Nat → Nat → Option Nat} (h : mx_rf Rf) : Rf 10 1 = some 15 := h (10, 1, 15) (by decide +kernel)
theorem rf_10_2 {Rf : Nat → Nat → Option Nat} (h : mx_rf Rf) : Rf 10 2 = some 16 := h (10, 2, 16) (by decide +kernel)
theorem rf_10_3 {Rf : Nat → Nat → Option Nat} (h : mx_rf Rf) : Rf 10 3 = some 17 := h (10, 3, 17) (by decide +kernel)
theorem rf_0_3 {Rf : Nat → Nat → Option Nat} (h : mx_rf Rf) : Rf 0 3 = some 10 := h (0, 3, 10) (by decide +kernel)
theorem rf_18_0 {Rf : Nat → Nat → Option Nat} (h : mx_rf Rf) : Rf 18 0 = some 19 := h (18, 0, 19) (by decide +kernel)
theorem rf_18_1 {Rf : Nat → Nat → Option Nat} (h : mx_rf Rf) : Rf 18 1 = some 20 := h (18, 1, 20) (by decide +kernel)
theorem rf_18_2 {Rf : Nat → Nat → Option Nat} (h : mx_rf Rf) : Rf 18 2 = some 21 := h (18, 2, 21) (by decide +kernel)
theorem rf_0_4 {Rf : Nat → Nat → Option Nat} (h : mx_rf Rf) : Rf 0 4 = some 18 := h (0, 4, 18) (by decide +kernel)
theorem rf_0_5 {Rf : Nat → Nat → Option Nat} (h : mx_rf Rf) : Rf 0 5 = some 22 := h (0, 5, 22) (by decide +kernel)
theorem rf_0_6 {Rf : Nat → Nat → Option Nat} (h : mx_rf Rf) : Rf 0 6 = some 23 := h (0, 6, 23) (by decide +kernel)
theorem rf_0_7 {Rf : Nat → Nat → Option Nat} (h : mx_rf Rf) : Rf 0 7 = some 24 := h (0, 7, 24) (by decide +kernel)
theorem rf_0_8 {Rf : Nat → Nat → Option Nat} (h : mx_rf Rf) : Rf 0 8 = some 25 := h (0, 8, 25) (by decide +kernel)
theorem rf_25_0 {Rf : Nat → Nat → Option Nat} (h : mx_rf Rf) : Rf 25 0 = some 26 := h (25, 0, 26) (by decide +kernel)
theorem rf_25_1 {Rf : Nat → Nat → Option Nat} (h : mx_rf Rf) : Rf 25 1 = some 27 := h (25, 1, 27) (by decide +kernel)
theorem rf_25_2 {Rf : Nat → Nat → Option Nat} (h : mx_rf Rf) : Rf 25 2 = some 28 := h (25, 2, 28) (by decide +kernel)
theorem rf_29_7 {Rf : Nat → Nat → Option Nat} (h : mx_rf Rf) : Rf 29 7 = some 30 := h (29, 7, 30) (by decide +kernel)
theorem rf_29_8 {Rf : Nat → Nat → Option Nat} (h : mx_rf Rf) : Rf 29 8 = some 31 := h (29, 8, 31) (by decide +kernel)
theorem rf_29_9 {Rf : Nat → Nat → Option Nat} (h : mx_rf Rf) : Rf 29 9 = some 32 := h (29, 9, 32) (by decide +kernel)
theorem rf_29_10 {Rf : Nat → Nat → Option Nat} (h : mx_rf Rf) : Rf 29 10 = some 33 := h (29, 10, 33) (by decide +kernel)
theorem rf_29_11 {Rf : Nat → Nat → Option Nat} (h : mx_rf Rf) : Rf 29 11 = some 34 := h (29, 11, 34) (by decide +kernel)
theorem rf_29_12 {Rf : Nat → Nat → Option Nat} (h : mx_rf Rf) : Rf 29 12 = some 35 := h (29, 12, 35) (by decide +kernel)
theorem rf_29_13 {Rf : Nat → Nat → Option Nat} (h : mx_rf Rf) : Rf 29 13 = some 36 := h (29, 13, 36) (by decide +kernel)
theorem rf_37_7 {Rf : Nat → Nat → Option Nat} (h : mx_rf Rf) : Rf 37 7 = some 38 := h (37, 7, 38) (by decide +kernel)
theorem rf_37_8 {Rf : Nat → Nat → Option Nat} (h : mx_rf Rf) : Rf 37 8 = some 39 := h (37, 8, 39) (by decide +kernel)
theorem rf_37_9 {Rf : Nat → Nat → Option Nat} (h : mx_rf Rf) : Rf 37 9 = some 40 := h (37, 9, 40) (by decide +kernel)
theorem rf_37_10 {Rf : Nat → Nat → Option Nat} (h : mx_rf Rf) : Rf 37 10 = some 41 := h (37, 10, 41) (by decide +kernel)
theorem rf_37_11 {Rf : Nat → Nat → Option Nat} (h : mx_rf Rf) : Rf 37 11 = some 42 := h (37, 11, 42) (by decide +kernel)
theorem rf_37_12 {Rf : Nat → Nat → Option Nat} (h : mx_rf Rf) : Rf 37 12 = some 43 := h (37, 12, 43) (by decide +kernel)
theorem rf_37_13 {Rf : Nat → Nat → Option Nat} (h : mx_rf Rf) : Rf 37 13 = some 44 := h (37, 13, 44) (by decide +kernel)
theorem rf_0_1 {Rf : Nat → Nat → Option Nat} (h : mx_rf Rf) : Rf 0 1 = some 45 := h (0, 1, 45) (by decide +kernel)
theorem rf_45_2 {Rf : Nat → Nat → Option Nat} (h : mx_rf Rf) : Rf 45 2 = some 1 := h (45, 2, 1) (by decide +kernel)
theorem rf_0_9 {Rf : Nat → Nat → Option Nat} (h : mx_rf Rf) : Rf 0 9 = some 46 := h (0, 9, 46) (by decide +kernel)
theorem rf_46_0 {Rf : Nat → Nat → Option Nat} (h : mx_rf Rf) : Rf 46 0 = some 47 := h (46, 0, 47) (by decide +kernel)
theorem rf_48_0 {Rf : Nat → Nat → Option Nat} (h : mx_rf Rf) : Rf 48 0 = some 49 := h (48, 0, 49) (by decide +kernel)
theorem rf_48_1 {Rf : Nat → Nat → Option Nat} (h : mx_rf Rf) : Rf 48 1 = some 50 := h (48, 1, 50) (by decide +kernel)
theorem rf_48_2 {Rf : Nat → Nat → Option Nat} (h : mx_rf Rf) : Rf 48 2 = some 51 := h (48, 2, 51) (by decide +kernel)
theorem rf_48_3 {Rf : Nat → Nat → Option Nat} (h : mx_rf Rf) : Rf 48 3 = some 52 := h (48, 3, 52) (by decide +kernel)
theorem rf_48_5 {Rf : Nat → Nat → Option Nat} (h : mx_rf Rf) : Rf 48 5 = some 53 := h (48, 5, 53) (by decide +kernel)
theorem rf_48_6 {Rf : Nat → Nat → Option Nat} (h : mx_rf Rf) : Rf 48 6 = some 54 := h (48, 6, 54) (by decide +kernel)
theorem rf_48_7 {Rf : Nat → Nat → Option Nat} (h : mx_rf Rf) : Rf 48 7 = some 55 := h (48, 7, 55) (by decide +kernel)
theorem rf_48_8 {Rf : Nat → Nat → Option Nat} (h : mx_rf Rf) : Rf 48 8 = some 56 := h (48, 8, 56) (by decide +kernel)
theorem rf_48_9 {Rf : Nat → Nat → Option Nat} (h : mx_rf Rf) : Rf 48 9 = some 57 := h (48, 9, 57) (by decide +kernel)
theorem rf_48_10 {Rf : Nat → Nat → Option Nat} (h : mx_rf Rf) : Rf 48 10 = some 58 := h (48, 10, 58) (by decide +kernel)
theorem rf_48_11 {Rf : Nat → Nat → Option Nat} (h : mx_rf Rf) : Rf 48 11 = some 59 := h (48, 11, 59) (by decide +kernel)
theorem rf_48_12 {Rf : Nat → Nat → Option Nat} (h : mx_rf Rf) : Rf 48 12 = some 60 := h (48, 12, 60) (by decide +kernel)
theorem rf_48_13 {Rf : Nat → Nat → Option Nat} (h : mx_rf Rf) : Rf 48 13 = some 61 := h (48, 13, 61) (by decide +kernel)
theorem rf_48_14 {Rf : Nat → Nat → Option Nat} (h : mx_rf Rf) : Rf 48 14 = some 62 := h (48, 14, 62) (by decide +kernel)
theorem rf_48_25 {Rf : Nat → Nat → Option Nat} (h : mx_rf Rf) : Rf 48 25 = some 63 := h (48, 25, 63) (by decide +kernel)
theorem rf_48_26 {Rf : Nat → Nat → Option Nat} (h : mx_rf Rf) : Rf 48 26 = some 64 := h (48, 26, 64) (by decide +kernel)
theorem rf_48_27 {Rf : Nat → Nat → Option Nat} (h : mx_rf Rf) : Rf 48 27 = some 65 := h (48, 27, 65) (by decide +kernel)
theorem rf_48_28 {Rf : Nat → Nat → Option Nat} (h : mx_rf Rf) : Rf 48 28 = some 66 := h (48, 28, 66) (by decide +kernel)
theorem rf_48_30 {Rf : Nat → Nat → Option Nat} (h : mx_rf Rf) : Rf 48 30 = some 67 := h (48, 30, 67) (by decide +kernel)
theorem rf_48_31 {Rf : Nat → Nat → Option Nat} (h : mx_rf Rf) : Rf 48 31 = some 68 := h (48, 31, 68) (by decide +kernel)
theorem rf_48_32 {Rf : Nat → Nat → Option Nat} (h : mx_rf Rf) : Rf 48 32 = some 69 := h (48, 32, 69) (by decide +kernel)
theorem rf_48_33 {Rf : Nat → Nat → Option Nat} (h : mx_rf Rf) : Rf 48 33 = some 70 := h (48, 33, 70) (by decide +kernel)
theorem rf_48_34 {Rf : Nat → Nat → Option Nat} (h : mx_rf Rf) : Rf 48 34 = some 71 := h (48, 34, 71) (by decide +kernel)
theorem rf_48_35 {Rf : Nat → Nat → Option Nat} (h : mx_rf Rf) : Rf 48 35 = some 72 := h (48, 35, 72) (by decide +kernel)
theorem rf_48_36 {Rf : Nat → Nat → Option Nat} (h : mx_rf Rf) : Rf 48 36 = some 73 := h (48, 36, 73) (by decide +kernel)
theorem rf_48_37 {Rf : Nat → Nat → Option Nat} (h : mx_rf Rf) : Rf 48 37 = some 74 := h (48, 37, 74) (by decide +kernel)
theorem rf_48_39 {Rf : Nat → Nat → Option Nat} (h : mx_rf Rf) : Rf 48 39 = some 75 := h (48, 39, 75) (by decide +kernel)
theorem rf_48_43 {Rf : Nat → Nat → Option Nat} (h : mx_rf Rf) : Rf 48 43 = some 76 := h (48, 43, 76) (by decide +kernel)
theorem rf_48_44 {Rf : Nat → Nat → Option Nat} (h : mx_rf Rf) : Rf 48 44 = some 77 := h (48, 44, 77) (by decide +kernel)
theorem rf_48_45 {Rf : Nat → Nat → Option Nat} (h : mx_rf Rf) : Rf 48 45 = some 78 := h (48, 45, 78) (by decide +kernel)
theorem rf_48_46 {Rf : Nat → Nat → Option Nat} (h : mx_rf Rf) : Rf 48 46 = some 79 := h (48, 46, 79) (by decide +kernel)
theorem rf_48_47 {Rf : Nat → Nat → Option Nat} (h : mx_rf Rf) : Rf 48 47 = some 80 := h (48, 47, 80) (by decide +kernel)
/-- a truth as a number -/
def bI (b : Bool) : Int := if b = true then 1 else 0
theorem bI_01 (b : Bool) : bI b = 0 ∨ bI b = 1 := by cases b <;> simp [bI]
theorem bI_0 {b : Bool} : bI b = 0 ↔ b = false := by cases b <;> simp [bI]
theorem bI_1 {b : Bool} : bI b = 1 ↔ b = true := by cases b <;> simp [bI]
section MXB
variable {S : mx_Sc} {μ : mx_M} {pc : Nat} {ls : List (Option Value)} {st : List Value} {h : mx_H} {bc bs : Nat} {P : Option Value → mx_H → Prop} {PX : String → mx_H → Prop}
theorem mi_if_eqB {b : Bool} {off : Int} {tgt : Nat} (hd : decode (mx_b μ) pc = .ok (.ifCond .eq off, 3)) (ht : (pc : Int) + off = (tgt : Int)) (kt : b = false → mx_E S μ tgt ls st h bc bs P PX) (kf : b = true → mx_E S μ (pc + 3) ls st h bc bs P PX) : mx_E S μ pc ls (.int (iI (bI b)) :: st) h bc bs P PX := by
  have := bI_01 b
  exact mi_if_eq hd ht (fun q => kt (bI_0.mp q)) (fun q => kf (by cases b; exact absurd rfl q; rfl))
theorem mi_if_neB {b : Bool} {off : Int} {tgt : Nat} (hd : decode (mx_b μ) pc = .ok (.ifCond .ne off, 3)) (ht : (pc : Int) + off = (tgt : Int)) (kt : b = true → mx_E S μ tgt ls st h bc bs P PX) (kf : b = false → mx_E S μ (pc + 3) ls st h bc bs P PX) : mx_E S μ pc ls (.int (iI (bI b)) :: st) h bc bs P PX := by
  have := bI_01 b
  exact mi_if_ne hd ht (fun q => kt (by cases b; exact absurd rfl q; rfl)) (fun q => kf (by cases b; rfl; exact absurd q (by simp [bI])))
theorem mi_mabs {idx : Nat} {x : Int} (hd : decode (mx_b μ) pc = .ok (.invokestatic idx, 3)) (hw : Cond.methodLink (mx_y μ).cls idx Lib.Math.abs.name ∈ mx_T ∧ Cond.static Lib.Math.abs.name ∈ mx_T ∧ Cond.initialized "java/lang/Math" ∈ mx_T ∧ Cond.code Lib.Math.abs.name Lib.Math.abs.code 1 (some .int) ∈ mx_T ∧ 1 ≤ mx_fr μ) (hl : (st.map fun v => v.category).sum + 13 ≤ mx_lo μ) (kk : mx_E S μ (pc + 3) ls (.int (iI (x.natAbs : Int)) :: st) h bc bs P PX) (hr : -2147483647 ≤ x ∧ x ≤ 2147483647 := by omega) : mx_E S μ pc ls (.int (iI x) :: st) h bc bs P PX := by
  refine ms_mabs hd hw hl ?_
  have e : (if 0 ≤ iI x then iI x else 0 - iI x) = iI (x.natAbs : Int) := by
    rw [show (0 : Int32) = iI 0 from rfl, iI_sub]
    by_cases h0 : 0 ≤ x
    · rw [if_pos ((iI_le (by omega)).mpr h0)]
      congr 1
      omega
    · rw [if_neg (fun q => h0 ((iI_le (by omega)).mp q))]
      congr 1
      omega
  rw [e]
  exact kk
theorem mi_mmax {idx : Nat} {x y : Int} (hd : decode (mx_b μ) pc = .ok (.invokestatic idx, 3)) (hw : Cond.methodLink (mx_y μ).cls idx Lib.Math.max.name ∈ mx_T ∧ Cond.static Lib.Math.max.name ∈ mx_T ∧ Cond.initialized "java/lang/Math" ∈ mx_T ∧ Cond.code Lib.Math.max.name Lib.Math.max.code 2 (some .int) ∈ mx_T ∧ 1 ≤ mx_fr μ) (hl : (st.map fun v => v.category).sum + 13 ≤ mx_lo μ) (kk : mx_E S μ (pc + 3) ls (.int (iI (if x < y then y else x)) :: st) h bc bs P PX) (hr : -2147483648 ≤ x ∧ x ≤ 2147483647 ∧ -2147483648 ≤ y ∧ y ≤ 2147483647 := by omega) : mx_E S μ pc ls (.int (iI y) :: .int (iI x) :: st) h bc bs P PX := by
  refine ms_mmax hd hw hl ?_
  have e : (if iI x < iI y then iI y else iI x) = iI (if x < y then y else x) := by
    by_cases h0 : x < y
    · rw [if_pos ((iI_lt hr).mpr h0), if_pos h0]
    · rw [if_neg (fun q => h0 ((iI_lt hr).mp q)), if_neg h0]
  rw [e]
  exact kk
theorem mi_mmin {idx : Nat} {x y : Int} (hd : decode (mx_b μ) pc = .ok (.invokestatic idx, 3)) (hw : Cond.methodLink (mx_y μ).cls idx Lib.Math.min.name ∈ mx_T ∧ Cond.static Lib.Math.min.name ∈ mx_T ∧ Cond.initialized "java/lang/Math" ∈ mx_T ∧ Cond.code Lib.Math.min.name Lib.Math.min.code 2 (some .int) ∈ mx_T ∧ 1 ≤ mx_fr μ) (hl : (st.map fun v => v.category).sum + 13 ≤ mx_lo μ) (kk : mx_E S μ (pc + 3) ls (.int (iI (if y < x then y else x)) :: st) h bc bs P PX) (hr : -2147483648 ≤ x ∧ x ≤ 2147483647 ∧ -2147483648 ≤ y ∧ y ≤ 2147483647 := by omega) : mx_E S μ pc ls (.int (iI y) :: .int (iI x) :: st) h bc bs P PX := by
  refine ms_mmin hd hw hl ?_
  have e : (if iI y < iI x then iI y else iI x) = iI (if y < x then y else x) := by
    have hr2 : -2147483648 ≤ y ∧ y ≤ 2147483647 ∧ -2147483648 ≤ x ∧ x ≤ 2147483647 := by omega
    by_cases h0 : y < x
    · rw [if_pos ((iI_lt hr2).mpr h0), if_pos h0]
    · rw [if_neg (fun q => h0 ((iI_lt hr2).mp q)), if_neg h0]
  rw [e]
  exact kk
theorem mi_iincL {i : Nat} {n x : Int} (z : Int) (hd : decode (mx_b μ) pc = .ok (.iinc i n, 3)) (hl : ls[i]? = some (some (.int (iI x)))) (hn : i < mx_nl μ) (hok : mx_ok1 ls i = true) (hz : x + n = z) (k : mx_E S μ (pc + 3) (ls.set i (some (.int (iI z)))) st h bc bs P PX) : mx_E S μ pc ls st h bc bs P PX := mi_iinc hd hl hn hok (by rw [hz]; exact k)
/-- two ways that come together, one number on the stack -/
theorem mx_j {pc2 : Nat} {st2 : List Value} (φ : Int → Prop) (k : (∀ z, φ z → mx_E S μ pc2 ls (.int (iI z) :: st2) h bc bs P PX) → mx_E S μ pc ls st h bc bs P PX) (J : ∀ z, φ z → mx_E S μ pc2 ls (.int (iI z) :: st2) h bc bs P PX) : mx_E S μ pc ls st h bc bs P PX := k J
end MXB
