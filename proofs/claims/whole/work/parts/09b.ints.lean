section MXI
variable {S : mx_Sc} {μ : mx_M} {pc : Nat} {ls : List (Option Value)} {st : List Value} {h : mx_H} {bc bs : Nat} {P : Option Value → mx_H → Prop} {PX : String → mx_H → Prop}
theorem iI_add (x y : Int) : iI x + iI y = iI (x + y) := (Int32.ofInt_add x y).symm
theorem iI_sub (x y : Int) : iI x - iI y = iI (x - y) := (Int32.ofInt_sub x y).symm
theorem iI_mul (x y : Int) : iI x * iI y = iI (x * y) := (Int32.ofInt_mul x y).symm
theorem iI_neg (x : Int) : -iI x = iI (-x) := (Int32.ofInt_neg x).symm
theorem iI_lt {x y : Int} (h : -2147483648 ≤ x ∧ x ≤ 2147483647 ∧ -2147483648 ≤ y ∧ y ≤ 2147483647) : iI x < iI y ↔ x < y := by
  rw [Int32.lt_iff_toInt_lt, iI_toInt (by omega) (by omega), iI_toInt (by omega) (by omega)]
theorem iI_le {x y : Int} (h : -2147483648 ≤ x ∧ x ≤ 2147483647 ∧ -2147483648 ≤ y ∧ y ≤ 2147483647) : iI x ≤ iI y ↔ x ≤ y := by
  rw [Int32.le_iff_toInt_le, iI_toInt (by omega) (by omega), iI_toInt (by omega) (by omega)]
theorem iI_eq {x y : Int} (h : -2147483648 ≤ x ∧ x ≤ 2147483647 ∧ -2147483648 ≤ y ∧ y ≤ 2147483647) : iI x = iI y ↔ x = y := by
  rw [← Int32.toInt_inj, iI_toInt (by omega) (by omega), iI_toInt (by omega) (by omega)]
theorem iI_zero : iI 0 = 0 := rfl
theorem iI_div {x y : Int} (h : 0 ≤ x ∧ x ≤ 2147483647 ∧ 0 < y ∧ y ≤ 2147483647) : iI x / iI y = iI (x / y) := by
  rw [← Int32.toInt_inj, Int32.toInt_div, iI_toInt (by omega) (by omega), iI_toInt (by omega) (by omega)]
  have h1 : 0 ≤ x / y := Int.ediv_nonneg h.1 (by omega)
  have h2 : x / y ≤ x := Int.ediv_le_self y h.1
  rw [iI_toInt (by omega) (by omega), Int.tdiv_eq_ediv_of_nonneg h.1]
  exact Int.bmod_eq_of_le (by omega) (by omega)
theorem iI_rem {x y : Int} (h : 0 ≤ x ∧ x ≤ 2147483647 ∧ 0 < y ∧ y ≤ 2147483647) : iI x - iI x / iI y * iI y = iI (x % y) := by
  rw [iI_div h, iI_mul, iI_sub]
  congr 1
  have := Int.mul_ediv_add_emod x y
  rw [Int.mul_comm] at this
  omega

theorem mi_iconst {n : Int} (hd : decode (mx_b μ) pc = .ok (.iconst n, 1)) (k : mx_E S μ (pc + 1) ls (.int (iI n) :: st) h bc bs P PX) : mx_E S μ pc ls st h bc bs P PX := ms_iconst hd k
theorem mi_bipush {n : Int} (hd : decode (mx_b μ) pc = .ok (.bipush n, 2)) (hv : (Int8.ofInt n).toInt32 = iI n) (k : mx_E S μ (pc + 2) ls (.int (iI n) :: st) h bc bs P PX) : mx_E S μ pc ls st h bc bs P PX := ms_bipush hd hv k
theorem mi_sipush {n : Int} (hd : decode (mx_b μ) pc = .ok (.sipush n, 3)) (hv : (Int16.ofInt n).toInt32 = iI n) (k : mx_E S μ (pc + 3) ls (.int (iI n) :: st) h bc bs P PX) : mx_E S μ pc ls st h bc bs P PX := ms_sipush hd hv k
theorem mi_iadd {x y : Int} (hd : decode (mx_b μ) pc = .ok (.iadd, 1)) (k : mx_E S μ (pc + 1) ls (.int (iI (x + y)) :: st) h bc bs P PX) : mx_E S μ pc ls (.int (iI y) :: .int (iI x) :: st) h bc bs P PX := ms_iadd hd (by rw [iI_add]; exact k)
theorem mi_isub {x y : Int} (hd : decode (mx_b μ) pc = .ok (.isub, 1)) (k : mx_E S μ (pc + 1) ls (.int (iI (x - y)) :: st) h bc bs P PX) : mx_E S μ pc ls (.int (iI y) :: .int (iI x) :: st) h bc bs P PX := ms_isub hd (by rw [iI_sub]; exact k)
theorem mi_imul {x y : Int} (hd : decode (mx_b μ) pc = .ok (.imul, 1)) (k : mx_E S μ (pc + 1) ls (.int (iI (x * y)) :: st) h bc bs P PX) : mx_E S μ pc ls (.int (iI y) :: .int (iI x) :: st) h bc bs P PX := ms_imul hd (by rw [iI_mul]; exact k)
theorem mi_ineg {x : Int} (hd : decode (mx_b μ) pc = .ok (.ineg, 1)) (k : mx_E S μ (pc + 1) ls (.int (iI (-x)) :: st) h bc bs P PX) : mx_E S μ pc ls (.int (iI x) :: st) h bc bs P PX := ms_ineg hd (by rw [iI_neg]; exact k)
theorem mi_idiv {x y : Int} (hd : decode (mx_b μ) pc = .ok (.idiv, 1)) (k : mx_E S μ (pc + 1) ls (.int (iI (x / y)) :: st) h bc bs P PX) (hr : 0 ≤ x ∧ x ≤ 2147483647 ∧ 0 < y ∧ y ≤ 2147483647 := by omega) : mx_E S μ pc ls (.int (iI y) :: .int (iI x) :: st) h bc bs P PX := ms_idiv hd (fun q => by rw [show (0 : Int32) = iI 0 from rfl, iI_eq (by omega)] at q; omega) (by rw [iI_div hr]; exact k)
theorem mi_irem {x y : Int} (hd : decode (mx_b μ) pc = .ok (.irem, 1)) (k : mx_E S μ (pc + 1) ls (.int (iI (x % y)) :: st) h bc bs P PX) (hr : 0 ≤ x ∧ x ≤ 2147483647 ∧ 0 < y ∧ y ≤ 2147483647 := by omega) : mx_E S μ pc ls (.int (iI y) :: .int (iI x) :: st) h bc bs P PX := ms_irem hd (fun q => by rw [show (0 : Int32) = iI 0 from rfl, iI_eq (by omega)] at q; omega) (by rw [iI_rem hr]; exact k)
theorem mi_iand {x y : Int} (z : Int) (hd : decode (mx_b μ) pc = .ok (.iand, 1)) (hz : iI x &&& iI y = iI z) (k : mx_E S μ (pc + 1) ls (.int (iI z) :: st) h bc bs P PX) : mx_E S μ pc ls (.int (iI y) :: .int (iI x) :: st) h bc bs P PX := ms_iand hd (by rw [hz]; exact k)
theorem mi_ior {x y : Int} (z : Int) (hd : decode (mx_b μ) pc = .ok (.ior, 1)) (hz : iI x ||| iI y = iI z) (k : mx_E S μ (pc + 1) ls (.int (iI z) :: st) h bc bs P PX) : mx_E S μ pc ls (.int (iI y) :: .int (iI x) :: st) h bc bs P PX := ms_ior hd (by rw [hz]; exact k)
theorem mi_ixor {x y : Int} (z : Int) (hd : decode (mx_b μ) pc = .ok (.ixor, 1)) (hz : iI x ^^^ iI y = iI z) (k : mx_E S μ (pc + 1) ls (.int (iI z) :: st) h bc bs P PX) : mx_E S μ pc ls (.int (iI y) :: .int (iI x) :: st) h bc bs P PX := ms_ixor hd (by rw [hz]; exact k)
theorem mi_ishl {x y : Int} (z : Int) (hd : decode (mx_b μ) pc = .ok (.ishl, 1)) (hz : iI x <<< (iI y &&& 31) = iI z) (k : mx_E S μ (pc + 1) ls (.int (iI z) :: st) h bc bs P PX) : mx_E S μ pc ls (.int (iI y) :: .int (iI x) :: st) h bc bs P PX := ms_ishl hd (by rw [hz]; exact k)
theorem mi_ishr {x y : Int} (z : Int) (hd : decode (mx_b μ) pc = .ok (.ishr, 1)) (hz : iI x >>> (iI y &&& 31) = iI z) (k : mx_E S μ (pc + 1) ls (.int (iI z) :: st) h bc bs P PX) : mx_E S μ pc ls (.int (iI y) :: .int (iI x) :: st) h bc bs P PX := ms_ishr hd (by rw [hz]; exact k)
theorem mi_iushr {x y : Int} (z : Int) (hd : decode (mx_b μ) pc = .ok (.iushr, 1)) (hz : ((iI x).toUInt32 >>> ((iI y).toUInt32 &&& Int32.toUInt32 31)).toInt32 = iI z) (k : mx_E S μ (pc + 1) ls (.int (iI z) :: st) h bc bs P PX) : mx_E S μ pc ls (.int (iI y) :: .int (iI x) :: st) h bc bs P PX := ms_iushr hd (by rw [hz]; exact k)
theorem mi_iinc {i : Nat} {n x : Int} (hd : decode (mx_b μ) pc = .ok (.iinc i n, 3)) (hl : ls[i]? = some (some (.int (iI x)))) (hn : i < mx_nl μ) (hok : mx_ok1 ls i = true) (k : mx_E S μ (pc + 3) (ls.set i (some (.int (iI (x + n))))) st h bc bs P PX) : mx_E S μ pc ls st h bc bs P PX := ms_iinc hd hl hn hok (by rw [show Int32.ofInt n = iI n from rfl, iI_add]; exact k)
theorem mi_if_eq {x : Int} {off : Int} {tgt : Nat} (hd : decode (mx_b μ) pc = .ok (.ifCond .eq off, 3)) (ht : (pc : Int) + off = (tgt : Int)) (kt : x = 0 → mx_E S μ tgt ls st h bc bs P PX) (kf : ¬ x = 0 → mx_E S μ (pc + 3) ls st h bc bs P PX) (hr : -2147483648 ≤ x ∧ x ≤ 2147483647 := by omega) : mx_E S μ pc ls (.int (iI x) :: st) h bc bs P PX := by
  have h9 : -2147483648 ≤ x ∧ x ≤ 2147483647 ∧ -2147483648 ≤ (0 : Int) ∧ (0 : Int) ≤ 2147483647 := by omega
  have h8 : -2147483648 ≤ (0 : Int) ∧ (0 : Int) ≤ 2147483647 ∧ -2147483648 ≤ x ∧ x ≤ 2147483647 := by omega
  exact ms_if_eq hd ht (fun q => kt (by simp only [show (0 : Int32) = iI 0 from rfl, iI_lt h9, iI_le h9, iI_eq h9, iI_lt h8, iI_le h8, iI_eq h8] at q; exact q)) (fun q => kf (by simp only [show (0 : Int32) = iI 0 from rfl, iI_lt h9, iI_le h9, iI_eq h9, iI_lt h8, iI_le h8, iI_eq h8] at q; exact q))
theorem mi_icmp_eq {x y : Int} {off : Int} {tgt : Nat} (hd : decode (mx_b μ) pc = .ok (.if_icmp .eq off, 3)) (ht : (pc : Int) + off = (tgt : Int)) (kt : x = y → mx_E S μ tgt ls st h bc bs P PX) (kf : ¬ x = y → mx_E S μ (pc + 3) ls st h bc bs P PX) (hr : -2147483648 ≤ x ∧ x ≤ 2147483647 ∧ -2147483648 ≤ y ∧ y ≤ 2147483647 := by omega) : mx_E S μ pc ls (.int (iI y) :: .int (iI x) :: st) h bc bs P PX := by
  have h9 := hr
  have h8 : -2147483648 ≤ y ∧ y ≤ 2147483647 ∧ -2147483648 ≤ x ∧ x ≤ 2147483647 := by omega
  exact ms_icmp_eq hd ht (fun q => kt (by simp only [show (0 : Int32) = iI 0 from rfl, iI_lt h9, iI_le h9, iI_eq h9, iI_lt h8, iI_le h8, iI_eq h8] at q; exact q)) (fun q => kf (by simp only [show (0 : Int32) = iI 0 from rfl, iI_lt h9, iI_le h9, iI_eq h9, iI_lt h8, iI_le h8, iI_eq h8] at q; exact q))
theorem mi_if_ne {x : Int} {off : Int} {tgt : Nat} (hd : decode (mx_b μ) pc = .ok (.ifCond .ne off, 3)) (ht : (pc : Int) + off = (tgt : Int)) (kt : ¬ x = 0 → mx_E S μ tgt ls st h bc bs P PX) (kf : x = 0 → mx_E S μ (pc + 3) ls st h bc bs P PX) (hr : -2147483648 ≤ x ∧ x ≤ 2147483647 := by omega) : mx_E S μ pc ls (.int (iI x) :: st) h bc bs P PX := by
  have h9 : -2147483648 ≤ x ∧ x ≤ 2147483647 ∧ -2147483648 ≤ (0 : Int) ∧ (0 : Int) ≤ 2147483647 := by omega
  have h8 : -2147483648 ≤ (0 : Int) ∧ (0 : Int) ≤ 2147483647 ∧ -2147483648 ≤ x ∧ x ≤ 2147483647 := by omega
  exact ms_if_ne hd ht (fun q => kt (by simp only [show (0 : Int32) = iI 0 from rfl, iI_lt h9, iI_le h9, iI_eq h9, iI_lt h8, iI_le h8, iI_eq h8] at q; exact q)) (fun q => kf (by simp only [show (0 : Int32) = iI 0 from rfl, iI_lt h9, iI_le h9, iI_eq h9, iI_lt h8, iI_le h8, iI_eq h8] at q; exact q))
theorem mi_icmp_ne {x y : Int} {off : Int} {tgt : Nat} (hd : decode (mx_b μ) pc = .ok (.if_icmp .ne off, 3)) (ht : (pc : Int) + off = (tgt : Int)) (kt : ¬ x = y → mx_E S μ tgt ls st h bc bs P PX) (kf : x = y → mx_E S μ (pc + 3) ls st h bc bs P PX) (hr : -2147483648 ≤ x ∧ x ≤ 2147483647 ∧ -2147483648 ≤ y ∧ y ≤ 2147483647 := by omega) : mx_E S μ pc ls (.int (iI y) :: .int (iI x) :: st) h bc bs P PX := by
  have h9 := hr
  have h8 : -2147483648 ≤ y ∧ y ≤ 2147483647 ∧ -2147483648 ≤ x ∧ x ≤ 2147483647 := by omega
  exact ms_icmp_ne hd ht (fun q => kt (by simp only [show (0 : Int32) = iI 0 from rfl, iI_lt h9, iI_le h9, iI_eq h9, iI_lt h8, iI_le h8, iI_eq h8] at q; exact q)) (fun q => kf (by simp only [show (0 : Int32) = iI 0 from rfl, iI_lt h9, iI_le h9, iI_eq h9, iI_lt h8, iI_le h8, iI_eq h8] at q; exact q))
theorem mi_if_lt {x : Int} {off : Int} {tgt : Nat} (hd : decode (mx_b μ) pc = .ok (.ifCond .lt off, 3)) (ht : (pc : Int) + off = (tgt : Int)) (kt : x < 0 → mx_E S μ tgt ls st h bc bs P PX) (kf : ¬ x < 0 → mx_E S μ (pc + 3) ls st h bc bs P PX) (hr : -2147483648 ≤ x ∧ x ≤ 2147483647 := by omega) : mx_E S μ pc ls (.int (iI x) :: st) h bc bs P PX := by
  have h9 : -2147483648 ≤ x ∧ x ≤ 2147483647 ∧ -2147483648 ≤ (0 : Int) ∧ (0 : Int) ≤ 2147483647 := by omega
  have h8 : -2147483648 ≤ (0 : Int) ∧ (0 : Int) ≤ 2147483647 ∧ -2147483648 ≤ x ∧ x ≤ 2147483647 := by omega
  exact ms_if_lt hd ht (fun q => kt (by simp only [show (0 : Int32) = iI 0 from rfl, iI_lt h9, iI_le h9, iI_eq h9, iI_lt h8, iI_le h8, iI_eq h8] at q; exact q)) (fun q => kf (by simp only [show (0 : Int32) = iI 0 from rfl, iI_lt h9, iI_le h9, iI_eq h9, iI_lt h8, iI_le h8, iI_eq h8] at q; exact q))
theorem mi_icmp_lt {x y : Int} {off : Int} {tgt : Nat} (hd : decode (mx_b μ) pc = .ok (.if_icmp .lt off, 3)) (ht : (pc : Int) + off = (tgt : Int)) (kt : x < y → mx_E S μ tgt ls st h bc bs P PX) (kf : ¬ x < y → mx_E S μ (pc + 3) ls st h bc bs P PX) (hr : -2147483648 ≤ x ∧ x ≤ 2147483647 ∧ -2147483648 ≤ y ∧ y ≤ 2147483647 := by omega) : mx_E S μ pc ls (.int (iI y) :: .int (iI x) :: st) h bc bs P PX := by
  have h9 := hr
  have h8 : -2147483648 ≤ y ∧ y ≤ 2147483647 ∧ -2147483648 ≤ x ∧ x ≤ 2147483647 := by omega
  exact ms_icmp_lt hd ht (fun q => kt (by simp only [show (0 : Int32) = iI 0 from rfl, iI_lt h9, iI_le h9, iI_eq h9, iI_lt h8, iI_le h8, iI_eq h8] at q; exact q)) (fun q => kf (by simp only [show (0 : Int32) = iI 0 from rfl, iI_lt h9, iI_le h9, iI_eq h9, iI_lt h8, iI_le h8, iI_eq h8] at q; exact q))
theorem mi_if_ge {x : Int} {off : Int} {tgt : Nat} (hd : decode (mx_b μ) pc = .ok (.ifCond .ge off, 3)) (ht : (pc : Int) + off = (tgt : Int)) (kt : 0 ≤ x → mx_E S μ tgt ls st h bc bs P PX) (kf : ¬ 0 ≤ x → mx_E S μ (pc + 3) ls st h bc bs P PX) (hr : -2147483648 ≤ x ∧ x ≤ 2147483647 := by omega) : mx_E S μ pc ls (.int (iI x) :: st) h bc bs P PX := by
  have h9 : -2147483648 ≤ x ∧ x ≤ 2147483647 ∧ -2147483648 ≤ (0 : Int) ∧ (0 : Int) ≤ 2147483647 := by omega
  have h8 : -2147483648 ≤ (0 : Int) ∧ (0 : Int) ≤ 2147483647 ∧ -2147483648 ≤ x ∧ x ≤ 2147483647 := by omega
  exact ms_if_ge hd ht (fun q => kt (by simp only [show (0 : Int32) = iI 0 from rfl, iI_lt h9, iI_le h9, iI_eq h9, iI_lt h8, iI_le h8, iI_eq h8] at q; exact q)) (fun q => kf (by simp only [show (0 : Int32) = iI 0 from rfl, iI_lt h9, iI_le h9, iI_eq h9, iI_lt h8, iI_le h8, iI_eq h8] at q; exact q))
theorem mi_icmp_ge {x y : Int} {off : Int} {tgt : Nat} (hd : decode (mx_b μ) pc = .ok (.if_icmp .ge off, 3)) (ht : (pc : Int) + off = (tgt : Int)) (kt : y ≤ x → mx_E S μ tgt ls st h bc bs P PX) (kf : ¬ y ≤ x → mx_E S μ (pc + 3) ls st h bc bs P PX) (hr : -2147483648 ≤ x ∧ x ≤ 2147483647 ∧ -2147483648 ≤ y ∧ y ≤ 2147483647 := by omega) : mx_E S μ pc ls (.int (iI y) :: .int (iI x) :: st) h bc bs P PX := by
  have h9 := hr
  have h8 : -2147483648 ≤ y ∧ y ≤ 2147483647 ∧ -2147483648 ≤ x ∧ x ≤ 2147483647 := by omega
  exact ms_icmp_ge hd ht (fun q => kt (by simp only [show (0 : Int32) = iI 0 from rfl, iI_lt h9, iI_le h9, iI_eq h9, iI_lt h8, iI_le h8, iI_eq h8] at q; exact q)) (fun q => kf (by simp only [show (0 : Int32) = iI 0 from rfl, iI_lt h9, iI_le h9, iI_eq h9, iI_lt h8, iI_le h8, iI_eq h8] at q; exact q))
theorem mi_if_gt {x : Int} {off : Int} {tgt : Nat} (hd : decode (mx_b μ) pc = .ok (.ifCond .gt off, 3)) (ht : (pc : Int) + off = (tgt : Int)) (kt : 0 < x → mx_E S μ tgt ls st h bc bs P PX) (kf : ¬ 0 < x → mx_E S μ (pc + 3) ls st h bc bs P PX) (hr : -2147483648 ≤ x ∧ x ≤ 2147483647 := by omega) : mx_E S μ pc ls (.int (iI x) :: st) h bc bs P PX := by
  have h9 : -2147483648 ≤ x ∧ x ≤ 2147483647 ∧ -2147483648 ≤ (0 : Int) ∧ (0 : Int) ≤ 2147483647 := by omega
  have h8 : -2147483648 ≤ (0 : Int) ∧ (0 : Int) ≤ 2147483647 ∧ -2147483648 ≤ x ∧ x ≤ 2147483647 := by omega
  exact ms_if_gt hd ht (fun q => kt (by simp only [show (0 : Int32) = iI 0 from rfl, iI_lt h9, iI_le h9, iI_eq h9, iI_lt h8, iI_le h8, iI_eq h8] at q; exact q)) (fun q => kf (by simp only [show (0 : Int32) = iI 0 from rfl, iI_lt h9, iI_le h9, iI_eq h9, iI_lt h8, iI_le h8, iI_eq h8] at q; exact q))
theorem mi_icmp_gt {x y : Int} {off : Int} {tgt : Nat} (hd : decode (mx_b μ) pc = .ok (.if_icmp .gt off, 3)) (ht : (pc : Int) + off = (tgt : Int)) (kt : y < x → mx_E S μ tgt ls st h bc bs P PX) (kf : ¬ y < x → mx_E S μ (pc + 3) ls st h bc bs P PX) (hr : -2147483648 ≤ x ∧ x ≤ 2147483647 ∧ -2147483648 ≤ y ∧ y ≤ 2147483647 := by omega) : mx_E S μ pc ls (.int (iI y) :: .int (iI x) :: st) h bc bs P PX := by
  have h9 := hr
  have h8 : -2147483648 ≤ y ∧ y ≤ 2147483647 ∧ -2147483648 ≤ x ∧ x ≤ 2147483647 := by omega
  exact ms_icmp_gt hd ht (fun q => kt (by simp only [show (0 : Int32) = iI 0 from rfl, iI_lt h9, iI_le h9, iI_eq h9, iI_lt h8, iI_le h8, iI_eq h8] at q; exact q)) (fun q => kf (by simp only [show (0 : Int32) = iI 0 from rfl, iI_lt h9, iI_le h9, iI_eq h9, iI_lt h8, iI_le h8, iI_eq h8] at q; exact q))
theorem mi_if_le {x : Int} {off : Int} {tgt : Nat} (hd : decode (mx_b μ) pc = .ok (.ifCond .le off, 3)) (ht : (pc : Int) + off = (tgt : Int)) (kt : x ≤ 0 → mx_E S μ tgt ls st h bc bs P PX) (kf : ¬ x ≤ 0 → mx_E S μ (pc + 3) ls st h bc bs P PX) (hr : -2147483648 ≤ x ∧ x ≤ 2147483647 := by omega) : mx_E S μ pc ls (.int (iI x) :: st) h bc bs P PX := by
  have h9 : -2147483648 ≤ x ∧ x ≤ 2147483647 ∧ -2147483648 ≤ (0 : Int) ∧ (0 : Int) ≤ 2147483647 := by omega
  have h8 : -2147483648 ≤ (0 : Int) ∧ (0 : Int) ≤ 2147483647 ∧ -2147483648 ≤ x ∧ x ≤ 2147483647 := by omega
  exact ms_if_le hd ht (fun q => kt (by simp only [show (0 : Int32) = iI 0 from rfl, iI_lt h9, iI_le h9, iI_eq h9, iI_lt h8, iI_le h8, iI_eq h8] at q; exact q)) (fun q => kf (by simp only [show (0 : Int32) = iI 0 from rfl, iI_lt h9, iI_le h9, iI_eq h9, iI_lt h8, iI_le h8, iI_eq h8] at q; exact q))
theorem mi_icmp_le {x y : Int} {off : Int} {tgt : Nat} (hd : decode (mx_b μ) pc = .ok (.if_icmp .le off, 3)) (ht : (pc : Int) + off = (tgt : Int)) (kt : x ≤ y → mx_E S μ tgt ls st h bc bs P PX) (kf : ¬ x ≤ y → mx_E S μ (pc + 3) ls st h bc bs P PX) (hr : -2147483648 ≤ x ∧ x ≤ 2147483647 ∧ -2147483648 ≤ y ∧ y ≤ 2147483647 := by omega) : mx_E S μ pc ls (.int (iI y) :: .int (iI x) :: st) h bc bs P PX := by
  have h9 := hr
  have h8 : -2147483648 ≤ y ∧ y ≤ 2147483647 ∧ -2147483648 ≤ x ∧ x ≤ 2147483647 := by omega
  exact ms_icmp_le hd ht (fun q => kt (by simp only [show (0 : Int32) = iI 0 from rfl, iI_lt h9, iI_le h9, iI_eq h9, iI_lt h8, iI_le h8, iI_eq h8] at q; exact q)) (fun q => kf (by simp only [show (0 : Int32) = iI 0 from rfl, iI_lt h9, iI_le h9, iI_eq h9, iI_lt h8, iI_le h8, iI_eq h8] at q; exact q))
end MXI
