/-- how many bits -/
def bc1 (x : Int32) : Int32 := x - ((x.toUInt32 >>> ((Int32.ofInt 1).toUInt32 &&& Int32.toUInt32 31)).toInt32 &&& 1431655765)
def bc2 (x : Int32) : Int32 := (x &&& 858993459) + ((x.toUInt32 >>> ((Int32.ofInt 2).toUInt32 &&& Int32.toUInt32 31)).toInt32 &&& 858993459)
def bc3 (x : Int32) : Int32 := (x + (x.toUInt32 >>> ((Int32.ofInt 4).toUInt32 &&& Int32.toUInt32 31)).toInt32) &&& 252645135
def bc4 (x : Int32) (n : Int) : Int32 := x + (x.toUInt32 >>> (((Int8.ofInt n).toInt32).toUInt32 &&& Int32.toUInt32 31)).toInt32
def bc32 (x : Int32) : Int32 := bc4 (bc4 (bc3 (bc2 (bc1 x))) 8) 16 &&& (Int8.ofInt 63).toInt32
def pcn (o : Int) : Int := ob o 0 + ob o 1 + ob o 2 + ob o 3 + ob o 4 + ob o 5 + ob o 6
theorem bc32_0 : ∀ o : Fin 128, bc32 (iI (o.val : Int)) = iI (pcn (o.val : Int)) := by decide +kernel
theorem bc32_e {o : Int} (h : 0 ≤ o ∧ o < 128) : bc32 (iI o) = iI (pcn o) := fin_of (n := 128) (P := fun o => bc32 (iI o) = iI (pcn o)) bc32_0 h.1 h.2
theorem ob6 {o : Int} (h : 0 ≤ o ∧ o < 64) : ob o 6 = 0 := fin_of (n := 64) (P := fun o => ob o 6 = 0) (by decide +kernel) h.1 h.2
theorem k_bitCount {S : mx_Sc} {h : mx_H} {x : Int32} (hb : h.1 = true → (0 : Nat) = 0) : mx_C S mJ6_bitCount_0f7a4 [.int x] h 0 0 (fun v9 h9 => h9 = h ∧ v9 = some (.int (bc32 x))) (fun _ _ => False) := by
  refine mx_C_of (by decide) (by simp [Value.category]) (Nat.le_of_ble_eq_true rfl) rfl ?_
  show mx_E S mJ6_bitCount_0f7a4 0 [some (.int x)] [] h 0 0 _ _
  refine ms_iload_n dJ6_bitCount_0f7a4_0 rfl ?_
  refine ms_iload_n dJ6_bitCount_0f7a4_1 rfl ?_
  refine ms_iconst dJ6_bitCount_0f7a4_2 ?_
  refine ms_iushr dJ6_bitCount_0f7a4_3 ?_
  refine ms_ldcw dJ6_bitCount_0f7a4_4 lc_J6_bitCount_0f7a4_265 ?_
  refine ms_iand dJ6_bitCount_0f7a4_7 ?_
  refine ms_isub dJ6_bitCount_0f7a4_8 ?_
  refine ms_istore_n dJ6_bitCount_0f7a4_9 (by decide) rfl ?_
  dsimp only [List.set, Nat.reduceAdd]
  refine ms_iload_n dJ6_bitCount_0f7a4_10 rfl ?_
  refine ms_ldcw dJ6_bitCount_0f7a4_11 lc_J6_bitCount_0f7a4_266 ?_
  refine ms_iand dJ6_bitCount_0f7a4_14 ?_
  refine ms_iload_n dJ6_bitCount_0f7a4_15 rfl ?_
  refine ms_iconst dJ6_bitCount_0f7a4_16 ?_
  refine ms_iushr dJ6_bitCount_0f7a4_17 ?_
  refine ms_ldcw dJ6_bitCount_0f7a4_18 lc_J6_bitCount_0f7a4_266 ?_
  refine ms_iand dJ6_bitCount_0f7a4_21 ?_
  refine ms_iadd dJ6_bitCount_0f7a4_22 ?_
  refine ms_istore_n dJ6_bitCount_0f7a4_23 (by decide) rfl ?_
  dsimp only [List.set, Nat.reduceAdd]
  refine ms_iload_n dJ6_bitCount_0f7a4_24 rfl ?_
  refine ms_iload_n dJ6_bitCount_0f7a4_25 rfl ?_
  refine ms_iconst dJ6_bitCount_0f7a4_26 ?_
  refine ms_iushr dJ6_bitCount_0f7a4_27 ?_
  refine ms_iadd dJ6_bitCount_0f7a4_28 ?_
  refine ms_ldcw dJ6_bitCount_0f7a4_29 lc_J6_bitCount_0f7a4_267 ?_
  refine ms_iand dJ6_bitCount_0f7a4_32 ?_
  refine ms_istore_n dJ6_bitCount_0f7a4_33 (by decide) rfl ?_
  dsimp only [List.set, Nat.reduceAdd]
  refine ms_iload_n dJ6_bitCount_0f7a4_34 rfl ?_
  refine ms_iload_n dJ6_bitCount_0f7a4_35 rfl ?_
  refine ms_bipush dJ6_bitCount_0f7a4_36 rfl ?_
  refine ms_iushr dJ6_bitCount_0f7a4_38 ?_
  refine ms_iadd dJ6_bitCount_0f7a4_39 ?_
  refine ms_istore_n dJ6_bitCount_0f7a4_40 (by decide) rfl ?_
  dsimp only [List.set, Nat.reduceAdd]
  refine ms_iload_n dJ6_bitCount_0f7a4_41 rfl ?_
  refine ms_iload_n dJ6_bitCount_0f7a4_42 rfl ?_
  refine ms_bipush dJ6_bitCount_0f7a4_43 rfl ?_
  refine ms_iushr dJ6_bitCount_0f7a4_45 ?_
  refine ms_iadd dJ6_bitCount_0f7a4_46 ?_
  refine ms_istore_n dJ6_bitCount_0f7a4_47 (by decide) rfl ?_
  dsimp only [List.set, Nat.reduceAdd]
  refine ms_iload_n dJ6_bitCount_0f7a4_48 rfl ?_
  refine ms_bipush dJ6_bitCount_0f7a4_49 rfl ?_
  refine ms_iand dJ6_bitCount_0f7a4_51 ?_
  exact ms_ret dJ6_bitCount_0f7a4_52 rfl ⟨rfl, rfl⟩ hb
theorem k_bitC {S : mx_Sc} {h : mx_H} {o : Int} (ho : 0 ≤ o ∧ o < 128) : mx_C S mJ6_bitCount_0f7a4 [.int (iI o)] h 0 0 (fun v9 h9 => h9 = h ∧ v9 = some (.int (iI (pcn o)))) (fun _ _ => False) := by
  rw [← bc32_e ho]
  exact k_bitCount (fun _ => rfl)
