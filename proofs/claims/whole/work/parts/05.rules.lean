section MXR
variable {S : mx_Sc} {μ : mx_M} {pc : Nat} {ls : List (Option Value)} {st : List Value} {h : mx_H} {bc bs : Nat} {P : Option Value → mx_H → Prop} {PX : String → mx_H → Prop}
theorem ms_iconst {n : Int} (hd : decode (mx_b μ) pc = .ok (.iconst n, 1)) (k : mx_E S μ (pc + 1) ls (.int (Int32.ofInt n) :: st) h bc bs P PX) : mx_E S μ pc ls st h bc bs P PX := by
  intro X C D p l e R s m args below meth c H locs cells slots mc ms lc f0 hI hL hR hS h1 h2 h3 h4 h5
  exact lv_iconst hI.1 hI.2.1 hd rfl (k X C D p l e R s m args below meth c H locs cells slots mc ms lc f0 hI hL hR hS h1 h2 h3 h4 h5)
theorem ms_bipush {n : Int} {v : Int32} (hd : decode (mx_b μ) pc = .ok (.bipush n, 2)) (hv : (Int8.ofInt n).toInt32 = v) (k : mx_E S μ (pc + 2) ls (.int v :: st) h bc bs P PX) : mx_E S μ pc ls st h bc bs P PX := by
  intro X C D p l e R s m args below meth c H locs cells slots mc ms lc f0 hI hL hR hS h1 h2 h3 h4 h5
  exact lv_bipush hI.1 hI.2.1 hd hv (k X C D p l e R s m args below meth c H locs cells slots mc ms lc f0 hI hL hR hS h1 h2 h3 h4 h5)
theorem ms_sipush {n : Int} {v : Int32} (hd : decode (mx_b μ) pc = .ok (.sipush n, 3)) (hv : (Int16.ofInt n).toInt32 = v) (k : mx_E S μ (pc + 3) ls (.int v :: st) h bc bs P PX) : mx_E S μ pc ls st h bc bs P PX := by
  intro X C D p l e R s m args below meth c H locs cells slots mc ms lc f0 hI hL hR hS h1 h2 h3 h4 h5
  exact lv_sipush hI.1 hI.2.1 hd hv (k X C D p l e R s m args below meth c H locs cells slots mc ms lc f0 hI hL hR hS h1 h2 h3 h4 h5)
theorem ms_lconst {n : Fin 2} {v : Int64} (hd : decode (mx_b μ) pc = .ok (.lconst n, 1)) (hv : Int64.ofNat (n : Nat) = v) (k : mx_E S μ (pc + 1) ls (.long v :: st) h bc bs P PX) : mx_E S μ pc ls st h bc bs P PX := by
  intro X C D p l e R s m args below meth c H locs cells slots mc ms lc f0 hI hL hR hS h1 h2 h3 h4 h5
  exact lv_lconst hI.1 hI.2.1 hd hv (k X C D p l e R s m args below meth c H locs cells slots mc ms lc f0 hI hL hR hS h1 h2 h3 h4 h5)
theorem ms_iload_n {k0 : Fin 4} {x : Int32} (hd : decode (mx_b μ) pc = .ok (.iload_n k0, 1)) (hl : ls[(k0 : Nat)]? = some (some (.int x))) (k : mx_E S μ (pc + 1) ls (.int x :: st) h bc bs P PX) : mx_E S μ pc ls st h bc bs P PX := by
  intro X C D p l e R s m args below meth c H locs cells slots mc ms lc f0 hI hL hR hS h1 h2 h3 h4 h5
  exact lv_iload_n hI.1 hI.2.1 hd rfl (hL.2.2 _ _ hl) (k X C D p l e R s m args below meth c H locs cells slots mc ms lc f0 hI hL hR hS h1 h2 h3 h4 h5)
theorem ms_iload {i : Nat} {x : Int32} (hd : decode (mx_b μ) pc = .ok (.iload i, 2)) (hl : ls[i]? = some (some (.int x))) (k : mx_E S μ (pc + 2) ls (.int x :: st) h bc bs P PX) : mx_E S μ pc ls st h bc bs P PX := by
  intro X C D p l e R s m args below meth c H locs cells slots mc ms lc f0 hI hL hR hS h1 h2 h3 h4 h5
  exact lv_iload hI.1 hI.2.1 hd (hL.2.2 _ _ hl) (k X C D p l e R s m args below meth c H locs cells slots mc ms lc f0 hI hL hR hS h1 h2 h3 h4 h5)
theorem ms_lload_n {k0 : Fin 4} {x : Int64} (hd : decode (mx_b μ) pc = .ok (.lload_n k0, 1)) (hl : ls[(k0 : Nat)]? = some (some (.long x))) (k : mx_E S μ (pc + 1) ls (.long x :: st) h bc bs P PX) : mx_E S μ pc ls st h bc bs P PX := by
  intro X C D p l e R s m args below meth c H locs cells slots mc ms lc f0 hI hL hR hS h1 h2 h3 h4 h5
  exact lv_lload_n hI.1 hI.2.1 hd rfl (hL.2.2 _ _ hl) (k X C D p l e R s m args below meth c H locs cells slots mc ms lc f0 hI hL hR hS h1 h2 h3 h4 h5)
theorem ms_aload_n {k0 : Fin 4} {x : Nat} (hd : decode (mx_b μ) pc = .ok (.aload_n k0, 1)) (hl : ls[(k0 : Nat)]? = some (some (.ref x))) (k : mx_E S μ (pc + 1) ls (.ref x :: st) h bc bs P PX) : mx_E S μ pc ls st h bc bs P PX := by
  intro X C D p l e R s m args below meth c H locs cells slots mc ms lc f0 hI hL hR hS h1 h2 h3 h4 h5
  exact lv_aload_n hI.1 hI.2.1 hd rfl (hL.2.2 _ _ hl) (k X C D p l e R s m args below meth c H locs cells slots mc ms lc f0 hI hL hR hS h1 h2 h3 h4 h5)
theorem ms_aload {i : Nat} {x : Nat} (hd : decode (mx_b μ) pc = .ok (.aload i, 2)) (hl : ls[i]? = some (some (.ref x))) (k : mx_E S μ (pc + 2) ls (.ref x :: st) h bc bs P PX) : mx_E S μ pc ls st h bc bs P PX := by
  intro X C D p l e R s m args below meth c H locs cells slots mc ms lc f0 hI hL hR hS h1 h2 h3 h4 h5
  exact lv_aload hI.1 hI.2.1 hd (hL.2.2 _ _ hl) (k X C D p l e R s m args below meth c H locs cells slots mc ms lc f0 hI hL hR hS h1 h2 h3 h4 h5)
theorem ms_iadd {x y : Int32} (hd : decode (mx_b μ) pc = .ok (.iadd, 1)) (k : mx_E S μ (pc + 1) ls (.int (x + y) :: st) h bc bs P PX) : mx_E S μ pc ls (.int y :: .int x :: st) h bc bs P PX := by
  intro X C D p l e R s m args below meth c H locs cells slots mc ms lc f0 hI hL hR hS h1 h2 h3 h4 h5
  exact lv_iadd hI.1 hI.2.1 hd (k X C D p l e R s m args below meth c H locs cells slots mc ms lc f0 hI hL hR hS h1 h2 h3 h4 h5)
theorem ms_isub {x y : Int32} (hd : decode (mx_b μ) pc = .ok (.isub, 1)) (k : mx_E S μ (pc + 1) ls (.int (x - y) :: st) h bc bs P PX) : mx_E S μ pc ls (.int y :: .int x :: st) h bc bs P PX := by
  intro X C D p l e R s m args below meth c H locs cells slots mc ms lc f0 hI hL hR hS h1 h2 h3 h4 h5
  exact lv_isub hI.1 hI.2.1 hd (k X C D p l e R s m args below meth c H locs cells slots mc ms lc f0 hI hL hR hS h1 h2 h3 h4 h5)
theorem ms_imul {x y : Int32} (hd : decode (mx_b μ) pc = .ok (.imul, 1)) (k : mx_E S μ (pc + 1) ls (.int (x * y) :: st) h bc bs P PX) : mx_E S μ pc ls (.int y :: .int x :: st) h bc bs P PX := by
  intro X C D p l e R s m args below meth c H locs cells slots mc ms lc f0 hI hL hR hS h1 h2 h3 h4 h5
  exact lv_imul hI.1 hI.2.1 hd (k X C D p l e R s m args below meth c H locs cells slots mc ms lc f0 hI hL hR hS h1 h2 h3 h4 h5)
theorem ms_iand {x y : Int32} (hd : decode (mx_b μ) pc = .ok (.iand, 1)) (k : mx_E S μ (pc + 1) ls (.int (x &&& y) :: st) h bc bs P PX) : mx_E S μ pc ls (.int y :: .int x :: st) h bc bs P PX := by
  intro X C D p l e R s m args below meth c H locs cells slots mc ms lc f0 hI hL hR hS h1 h2 h3 h4 h5
  exact lv_iand hI.1 hI.2.1 hd (k X C D p l e R s m args below meth c H locs cells slots mc ms lc f0 hI hL hR hS h1 h2 h3 h4 h5)
theorem ms_ior {x y : Int32} (hd : decode (mx_b μ) pc = .ok (.ior, 1)) (k : mx_E S μ (pc + 1) ls (.int (x ||| y) :: st) h bc bs P PX) : mx_E S μ pc ls (.int y :: .int x :: st) h bc bs P PX := by
  intro X C D p l e R s m args below meth c H locs cells slots mc ms lc f0 hI hL hR hS h1 h2 h3 h4 h5
  exact lv_ior hI.1 hI.2.1 hd (k X C D p l e R s m args below meth c H locs cells slots mc ms lc f0 hI hL hR hS h1 h2 h3 h4 h5)
theorem ms_ixor {x y : Int32} (hd : decode (mx_b μ) pc = .ok (.ixor, 1)) (k : mx_E S μ (pc + 1) ls (.int (x ^^^ y) :: st) h bc bs P PX) : mx_E S μ pc ls (.int y :: .int x :: st) h bc bs P PX := by
  intro X C D p l e R s m args below meth c H locs cells slots mc ms lc f0 hI hL hR hS h1 h2 h3 h4 h5
  exact lv_ixor hI.1 hI.2.1 hd (k X C D p l e R s m args below meth c H locs cells slots mc ms lc f0 hI hL hR hS h1 h2 h3 h4 h5)
theorem ms_ishl {x y : Int32} (hd : decode (mx_b μ) pc = .ok (.ishl, 1)) (k : mx_E S μ (pc + 1) ls (.int (x <<< (y &&& 31)) :: st) h bc bs P PX) : mx_E S μ pc ls (.int y :: .int x :: st) h bc bs P PX := by
  intro X C D p l e R s m args below meth c H locs cells slots mc ms lc f0 hI hL hR hS h1 h2 h3 h4 h5
  exact lv_ishl hI.1 hI.2.1 hd (k X C D p l e R s m args below meth c H locs cells slots mc ms lc f0 hI hL hR hS h1 h2 h3 h4 h5)
theorem ms_ishr {x y : Int32} (hd : decode (mx_b μ) pc = .ok (.ishr, 1)) (k : mx_E S μ (pc + 1) ls (.int (x >>> (y &&& 31)) :: st) h bc bs P PX) : mx_E S μ pc ls (.int y :: .int x :: st) h bc bs P PX := by
  intro X C D p l e R s m args below meth c H locs cells slots mc ms lc f0 hI hL hR hS h1 h2 h3 h4 h5
  exact lv_ishr hI.1 hI.2.1 hd (k X C D p l e R s m args below meth c H locs cells slots mc ms lc f0 hI hL hR hS h1 h2 h3 h4 h5)
theorem ms_idiv {x y : Int32} (hd : decode (mx_b μ) pc = .ok (.idiv, 1)) (hne : ¬ y = 0) (k : mx_E S μ (pc + 1) ls (.int (x / y) :: st) h bc bs P PX) : mx_E S μ pc ls (.int y :: .int x :: st) h bc bs P PX := by
  intro X C D p l e R s m args below meth c H locs cells slots mc ms lc f0 hI hL hR hS h1 h2 h3 h4 h5
  exact lv_idiv hI.1 hI.2.1 hd hne (k X C D p l e R s m args below meth c H locs cells slots mc ms lc f0 hI hL hR hS h1 h2 h3 h4 h5)
theorem ms_irem {x y : Int32} (hd : decode (mx_b μ) pc = .ok (.irem, 1)) (hne : ¬ y = 0) (k : mx_E S μ (pc + 1) ls (.int (x - x / y * y) :: st) h bc bs P PX) : mx_E S μ pc ls (.int y :: .int x :: st) h bc bs P PX := by
  intro X C D p l e R s m args below meth c H locs cells slots mc ms lc f0 hI hL hR hS h1 h2 h3 h4 h5
  exact lv_irem hI.1 hI.2.1 hd hne (k X C D p l e R s m args below meth c H locs cells slots mc ms lc f0 hI hL hR hS h1 h2 h3 h4 h5)
theorem ms_ineg {x : Int32} (hd : decode (mx_b μ) pc = .ok (.ineg, 1)) (k : mx_E S μ (pc + 1) ls (.int (-x) :: st) h bc bs P PX) : mx_E S μ pc ls (.int x :: st) h bc bs P PX := by
  intro X C D p l e R s m args below meth c H locs cells slots mc ms lc f0 hI hL hR hS h1 h2 h3 h4 h5
  exact lv_ineg hI.1 hI.2.1 hd (k X C D p l e R s m args below meth c H locs cells slots mc ms lc f0 hI hL hR hS h1 h2 h3 h4 h5)
theorem ms_iushr {x y : Int32} (hd : decode (mx_b μ) pc = .ok (.iushr, 1)) (k : mx_E S μ (pc + 1) ls (.int ((x.toUInt32 >>> (y.toUInt32 &&& Int32.toUInt32 31)).toInt32) :: st) h bc bs P PX) : mx_E S μ pc ls (.int y :: .int x :: st) h bc bs P PX := by
  intro X C D p l e R s m args below meth c H locs cells slots mc ms lc f0 hI hL hR hS h1 h2 h3 h4 h5
  exact lv_iushr hI.1 hI.2.1 hd rfl (k X C D p l e R s m args below meth c H locs cells slots mc ms lc f0 hI hL hR hS h1 h2 h3 h4 h5)
theorem ms_i2l {x : Int32} (hd : decode (mx_b μ) pc = .ok (.i2l, 1)) (k : mx_E S μ (pc + 1) ls (.long x.toInt64 :: st) h bc bs P PX) : mx_E S μ pc ls (.int x :: st) h bc bs P PX := by
  intro X C D p l e R s m args below meth c H locs cells slots mc ms lc f0 hI hL hR hS h1 h2 h3 h4 h5
  exact lv_i2l hI.1 hI.2.1 hd rfl (k X C D p l e R s m args below meth c H locs cells slots mc ms lc f0 hI hL hR hS h1 h2 h3 h4 h5)
theorem ms_i2c {x : Int32} (hd : decode (mx_b μ) pc = .ok (.i2c, 1)) (k : mx_E S μ (pc + 1) ls (.int ((x.toUInt32 % 65536).toInt32) :: st) h bc bs P PX) : mx_E S μ pc ls (.int x :: st) h bc bs P PX := by
  intro X C D p l e R s m args below meth c H locs cells slots mc ms lc f0 hI hL hR hS h1 h2 h3 h4 h5
  exact lv_i2c hI.1 hI.2.1 hd rfl (k X C D p l e R s m args below meth c H locs cells slots mc ms lc f0 hI hL hR hS h1 h2 h3 h4 h5)
theorem ms_lor {x y : Int64} (hd : decode (mx_b μ) pc = .ok (.lor, 1)) (k : mx_E S μ (pc + 1) ls (.long (x ||| y) :: st) h bc bs P PX) : mx_E S μ pc ls (.long y :: .long x :: st) h bc bs P PX := by
  intro X C D p l e R s m args below meth c H locs cells slots mc ms lc f0 hI hL hR hS h1 h2 h3 h4 h5
  exact lv_lor hI.1 hI.2.1 hd (k X C D p l e R s m args below meth c H locs cells slots mc ms lc f0 hI hL hR hS h1 h2 h3 h4 h5)
theorem ms_lshl {x : Int64} {y : Int32} (hd : decode (mx_b μ) pc = .ok (.lshl, 1)) (k : mx_E S μ (pc + 1) ls (.long (x <<< (y.toInt64 &&& 63)) :: st) h bc bs P PX) : mx_E S μ pc ls (.int y :: .long x :: st) h bc bs P PX := by
  intro X C D p l e R s m args below meth c H locs cells slots mc ms lc f0 hI hL hR hS h1 h2 h3 h4 h5
  exact lv_lshl hI.1 hI.2.1 hd rfl (k X C D p l e R s m args below meth c H locs cells slots mc ms lc f0 hI hL hR hS h1 h2 h3 h4 h5)
theorem ms_lcmp {x y : Int64} (hd : decode (mx_b μ) pc = .ok (.lcmp, 1)) (k : mx_E S μ (pc + 1) ls (.int (lg_cmp x y) :: st) h bc bs P PX) : mx_E S μ pc ls (.long y :: .long x :: st) h bc bs P PX := by
  intro X C D p l e R s m args below meth c H locs cells slots mc ms lc f0 hI hL hR hS h1 h2 h3 h4 h5
  exact W.lcmp hI.1 hI.2.1 hd (k X C D p l e R s m args below meth c H locs cells slots mc ms lc f0 hI hL hR hS h1 h2 h3 h4 h5)
theorem ms_dup {va : Value} (hd : decode (mx_b μ) pc = .ok (.dup, 1)) (hc : va.category = 1) (k : mx_E S μ (pc + 1) ls (va :: va :: st) h bc bs P PX) : mx_E S μ pc ls (va :: st) h bc bs P PX := by
  intro X C D p l e R s m args below meth c H locs cells slots mc ms lc f0 hI hL hR hS h1 h2 h3 h4 h5
  exact lv_dup hI.1 hI.2.1 hd ((mx_v_cat X va).trans hc) (k X C D p l e R s m args below meth c H locs cells slots mc ms lc f0 hI hL hR hS h1 h2 h3 h4 h5)
theorem ms_pop {va : Value} (hd : decode (mx_b μ) pc = .ok (.pop, 1)) (hc : va.category = 1) (k : mx_E S μ (pc + 1) ls st h bc bs P PX) : mx_E S μ pc ls (va :: st) h bc bs P PX := by
  intro X C D p l e R s m args below meth c H locs cells slots mc ms lc f0 hI hL hR hS h1 h2 h3 h4 h5
  exact lv_pop hI.1 hI.2.1 hd ((mx_v_cat X va).trans hc) (k X C D p l e R s m args below meth c H locs cells slots mc ms lc f0 hI hL hR hS h1 h2 h3 h4 h5)
theorem ms_dup2 {va vb : Value} (hd : decode (mx_b μ) pc = .ok (.dup2, 1)) (hc : va.category = 1) (hc2 : vb.category = 1) (k : mx_E S μ (pc + 1) ls (va :: vb :: va :: vb :: st) h bc bs P PX) : mx_E S μ pc ls (va :: vb :: st) h bc bs P PX := by
  intro X C D p l e R s m args below meth c H locs cells slots mc ms lc f0 hI hL hR hS h1 h2 h3 h4 h5
  exact lv_dup2_11 hI.1 hI.2.1 hd ((mx_v_cat X va).trans hc) ((mx_v_cat X vb).trans hc2) (k X C D p l e R s m args below meth c H locs cells slots mc ms lc f0 hI hL hR hS h1 h2 h3 h4 h5)
theorem ms_if_eq {x : Int32} {off : Int} {tgt : Nat} (hd : decode (mx_b μ) pc = .ok (.ifCond .eq off, 3)) (ht : (pc : Int) + off = (tgt : Int)) (kt : x = 0 → mx_E S μ tgt ls st h bc bs P PX) (kf : ¬ x = 0 → mx_E S μ (pc + 3) ls st h bc bs P PX) : mx_E S μ pc ls (.int x :: st) h bc bs P PX := by
  intro X C D p l e R s m args below meth c H locs cells slots mc ms lc f0 hI hL hR hS h1 h2 h3 h4 h5
  exact lv_if_eq hI.1 hI.2.1 hd ht (fun q => (kt q X C D p l e R s m args below meth c H locs cells slots mc ms lc f0 hI hL hR hS h1 h2 h3 h4 h5)) (fun q => (kf q X C D p l e R s m args below meth c H locs cells slots mc ms lc f0 hI hL hR hS h1 h2 h3 h4 h5))
theorem ms_icmp_eq {x y : Int32} {off : Int} {tgt : Nat} (hd : decode (mx_b μ) pc = .ok (.if_icmp .eq off, 3)) (ht : (pc : Int) + off = (tgt : Int)) (kt : x = y → mx_E S μ tgt ls st h bc bs P PX) (kf : ¬ x = y → mx_E S μ (pc + 3) ls st h bc bs P PX) : mx_E S μ pc ls (.int y :: .int x :: st) h bc bs P PX := by
  intro X C D p l e R s m args below meth c H locs cells slots mc ms lc f0 hI hL hR hS h1 h2 h3 h4 h5
  exact lv_icmp_eq hI.1 hI.2.1 hd ht (fun q => (kt q X C D p l e R s m args below meth c H locs cells slots mc ms lc f0 hI hL hR hS h1 h2 h3 h4 h5)) (fun q => (kf q X C D p l e R s m args below meth c H locs cells slots mc ms lc f0 hI hL hR hS h1 h2 h3 h4 h5))
theorem ms_if_ne {x : Int32} {off : Int} {tgt : Nat} (hd : decode (mx_b μ) pc = .ok (.ifCond .ne off, 3)) (ht : (pc : Int) + off = (tgt : Int)) (kt : ¬ x = 0 → mx_E S μ tgt ls st h bc bs P PX) (kf : x = 0 → mx_E S μ (pc + 3) ls st h bc bs P PX) : mx_E S μ pc ls (.int x :: st) h bc bs P PX := by
  intro X C D p l e R s m args below meth c H locs cells slots mc ms lc f0 hI hL hR hS h1 h2 h3 h4 h5
  exact lv_if_ne hI.1 hI.2.1 hd ht (fun q => (kt q X C D p l e R s m args below meth c H locs cells slots mc ms lc f0 hI hL hR hS h1 h2 h3 h4 h5)) (fun q => (kf q X C D p l e R s m args below meth c H locs cells slots mc ms lc f0 hI hL hR hS h1 h2 h3 h4 h5))
theorem ms_icmp_ne {x y : Int32} {off : Int} {tgt : Nat} (hd : decode (mx_b μ) pc = .ok (.if_icmp .ne off, 3)) (ht : (pc : Int) + off = (tgt : Int)) (kt : ¬ x = y → mx_E S μ tgt ls st h bc bs P PX) (kf : x = y → mx_E S μ (pc + 3) ls st h bc bs P PX) : mx_E S μ pc ls (.int y :: .int x :: st) h bc bs P PX := by
  intro X C D p l e R s m args below meth c H locs cells slots mc ms lc f0 hI hL hR hS h1 h2 h3 h4 h5
  exact lv_icmp_ne hI.1 hI.2.1 hd ht (fun q => (kt q X C D p l e R s m args below meth c H locs cells slots mc ms lc f0 hI hL hR hS h1 h2 h3 h4 h5)) (fun q => (kf q X C D p l e R s m args below meth c H locs cells slots mc ms lc f0 hI hL hR hS h1 h2 h3 h4 h5))
theorem ms_if_lt {x : Int32} {off : Int} {tgt : Nat} (hd : decode (mx_b μ) pc = .ok (.ifCond .lt off, 3)) (ht : (pc : Int) + off = (tgt : Int)) (kt : x < 0 → mx_E S μ tgt ls st h bc bs P PX) (kf : ¬ x < 0 → mx_E S μ (pc + 3) ls st h bc bs P PX) : mx_E S μ pc ls (.int x :: st) h bc bs P PX := by
  intro X C D p l e R s m args below meth c H locs cells slots mc ms lc f0 hI hL hR hS h1 h2 h3 h4 h5
  exact lv_if_lt hI.1 hI.2.1 hd ht (fun q => (kt q X C D p l e R s m args below meth c H locs cells slots mc ms lc f0 hI hL hR hS h1 h2 h3 h4 h5)) (fun q => (kf q X C D p l e R s m args below meth c H locs cells slots mc ms lc f0 hI hL hR hS h1 h2 h3 h4 h5))
theorem ms_icmp_lt {x y : Int32} {off : Int} {tgt : Nat} (hd : decode (mx_b μ) pc = .ok (.if_icmp .lt off, 3)) (ht : (pc : Int) + off = (tgt : Int)) (kt : x < y → mx_E S μ tgt ls st h bc bs P PX) (kf : ¬ x < y → mx_E S μ (pc + 3) ls st h bc bs P PX) : mx_E S μ pc ls (.int y :: .int x :: st) h bc bs P PX := by
  intro X C D p l e R s m args below meth c H locs cells slots mc ms lc f0 hI hL hR hS h1 h2 h3 h4 h5
  exact lv_icmp_lt hI.1 hI.2.1 hd ht (fun q => (kt q X C D p l e R s m args below meth c H locs cells slots mc ms lc f0 hI hL hR hS h1 h2 h3 h4 h5)) (fun q => (kf q X C D p l e R s m args below meth c H locs cells slots mc ms lc f0 hI hL hR hS h1 h2 h3 h4 h5))
theorem ms_if_ge {x : Int32} {off : Int} {tgt : Nat} (hd : decode (mx_b μ) pc = .ok (.ifCond .ge off, 3)) (ht : (pc : Int) + off = (tgt : Int)) (kt : 0 ≤ x → mx_E S μ tgt ls st h bc bs P PX) (kf : ¬ 0 ≤ x → mx_E S μ (pc + 3) ls st h bc bs P PX) : mx_E S μ pc ls (.int x :: st) h bc bs P PX := by
  intro X C D p l e R s m args below meth c H locs cells slots mc ms lc f0 hI hL hR hS h1 h2 h3 h4 h5
  exact lv_if_ge hI.1 hI.2.1 hd ht (fun q => (kt q X C D p l e R s m args below meth c H locs cells slots mc ms lc f0 hI hL hR hS h1 h2 h3 h4 h5)) (fun q => (kf q X C D p l e R s m args below meth c H locs cells slots mc ms lc f0 hI hL hR hS h1 h2 h3 h4 h5))
theorem ms_icmp_ge {x y : Int32} {off : Int} {tgt : Nat} (hd : decode (mx_b μ) pc = .ok (.if_icmp .ge off, 3)) (ht : (pc : Int) + off = (tgt : Int)) (kt : y ≤ x → mx_E S μ tgt ls st h bc bs P PX) (kf : ¬ y ≤ x → mx_E S μ (pc + 3) ls st h bc bs P PX) : mx_E S μ pc ls (.int y :: .int x :: st) h bc bs P PX := by
  intro X C D p l e R s m args below meth c H locs cells slots mc ms lc f0 hI hL hR hS h1 h2 h3 h4 h5
  exact lv_icmp_ge hI.1 hI.2.1 hd ht (fun q => (kt q X C D p l e R s m args below meth c H locs cells slots mc ms lc f0 hI hL hR hS h1 h2 h3 h4 h5)) (fun q => (kf q X C D p l e R s m args below meth c H locs cells slots mc ms lc f0 hI hL hR hS h1 h2 h3 h4 h5))
theorem ms_if_gt {x : Int32} {off : Int} {tgt : Nat} (hd : decode (mx_b μ) pc = .ok (.ifCond .gt off, 3)) (ht : (pc : Int) + off = (tgt : Int)) (kt : 0 < x → mx_E S μ tgt ls st h bc bs P PX) (kf : ¬ 0 < x → mx_E S μ (pc + 3) ls st h bc bs P PX) : mx_E S μ pc ls (.int x :: st) h bc bs P PX := by
  intro X C D p l e R s m args below meth c H locs cells slots mc ms lc f0 hI hL hR hS h1 h2 h3 h4 h5
  exact lv_if_gt hI.1 hI.2.1 hd ht (fun q => (kt q X C D p l e R s m args below meth c H locs cells slots mc ms lc f0 hI hL hR hS h1 h2 h3 h4 h5)) (fun q => (kf q X C D p l e R s m args below meth c H locs cells slots mc ms lc f0 hI hL hR hS h1 h2 h3 h4 h5))
theorem ms_icmp_gt {x y : Int32} {off : Int} {tgt : Nat} (hd : decode (mx_b μ) pc = .ok (.if_icmp .gt off, 3)) (ht : (pc : Int) + off = (tgt : Int)) (kt : y < x → mx_E S μ tgt ls st h bc bs P PX) (kf : ¬ y < x → mx_E S μ (pc + 3) ls st h bc bs P PX) : mx_E S μ pc ls (.int y :: .int x :: st) h bc bs P PX := by
  intro X C D p l e R s m args below meth c H locs cells slots mc ms lc f0 hI hL hR hS h1 h2 h3 h4 h5
  exact lv_icmp_gt hI.1 hI.2.1 hd ht (fun q => (kt q X C D p l e R s m args below meth c H locs cells slots mc ms lc f0 hI hL hR hS h1 h2 h3 h4 h5)) (fun q => (kf q X C D p l e R s m args below meth c H locs cells slots mc ms lc f0 hI hL hR hS h1 h2 h3 h4 h5))
theorem ms_if_le {x : Int32} {off : Int} {tgt : Nat} (hd : decode (mx_b μ) pc = .ok (.ifCond .le off, 3)) (ht : (pc : Int) + off = (tgt : Int)) (kt : x ≤ 0 → mx_E S μ tgt ls st h bc bs P PX) (kf : ¬ x ≤ 0 → mx_E S μ (pc + 3) ls st h bc bs P PX) : mx_E S μ pc ls (.int x :: st) h bc bs P PX := by
  intro X C D p l e R s m args below meth c H locs cells slots mc ms lc f0 hI hL hR hS h1 h2 h3 h4 h5
  exact lv_if_le hI.1 hI.2.1 hd ht (fun q => (kt q X C D p l e R s m args below meth c H locs cells slots mc ms lc f0 hI hL hR hS h1 h2 h3 h4 h5)) (fun q => (kf q X C D p l e R s m args below meth c H locs cells slots mc ms lc f0 hI hL hR hS h1 h2 h3 h4 h5))
theorem ms_icmp_le {x y : Int32} {off : Int} {tgt : Nat} (hd : decode (mx_b μ) pc = .ok (.if_icmp .le off, 3)) (ht : (pc : Int) + off = (tgt : Int)) (kt : x ≤ y → mx_E S μ tgt ls st h bc bs P PX) (kf : ¬ x ≤ y → mx_E S μ (pc + 3) ls st h bc bs P PX) : mx_E S μ pc ls (.int y :: .int x :: st) h bc bs P PX := by
  intro X C D p l e R s m args below meth c H locs cells slots mc ms lc f0 hI hL hR hS h1 h2 h3 h4 h5
  exact lv_icmp_le hI.1 hI.2.1 hd ht (fun q => (kt q X C D p l e R s m args below meth c H locs cells slots mc ms lc f0 hI hL hR hS h1 h2 h3 h4 h5)) (fun q => (kf q X C D p l e R s m args below meth c H locs cells slots mc ms lc f0 hI hL hR hS h1 h2 h3 h4 h5))
theorem ms_goto {off : Int} {tgt : Nat} (hd : decode (mx_b μ) pc = .ok (.goto off, 3)) (ht : (pc : Int) + off = (tgt : Int)) (k : mx_E S μ tgt ls st h bc bs P PX) : mx_E S μ pc ls st h bc bs P PX := by
  intro X C D p l e R s m args below meth c H locs cells slots mc ms lc f0 hI hL hR hS h1 h2 h3 h4 h5
  exact lv_goto hI.1 hI.2.1 hd ht (k X C D p l e R s m args below meth c H locs cells slots mc ms lc f0 hI hL hR hS h1 h2 h3 h4 h5)
theorem ms_tabOut {dflt lo hi : Int} {offs : Array Int} {len : Nat} {x : Int32} {tgt : Nat} (hd : decode (mx_b μ) pc = .ok (.tableswitch dflt lo hi offs, len)) (hx : x.toInt < lo ∨ hi < x.toInt) (ht : (pc : Int) + dflt = (tgt : Int)) (k : mx_E S μ tgt ls st h bc bs P PX) : mx_E S μ pc ls (.int x :: st) h bc bs P PX := by
  intro X C D p l e R s m args below meth c H locs cells slots mc ms lc f0 hI hL hR hS h1 h2 h3 h4 h5
  exact lv_tableOut hI.1 hI.2.1 hd hx ht (k X C D p l e R s m args below meth c H locs cells slots mc ms lc f0 hI hL hR hS h1 h2 h3 h4 h5)
theorem ms_tabIn {dflt lo hi : Int} {offs : Array Int} {len : Nat} {x : Int32} {off : Int} {tgt : Nat} (hd : decode (mx_b μ) pc = .ok (.tableswitch dflt lo hi offs, len)) (hx1 : ¬ x.toInt < lo) (hx2 : ¬ hi < x.toInt) (ho : offs[(x.toInt - lo).toNat]? = some off) (ht : (pc : Int) + off = (tgt : Int)) (k : mx_E S μ tgt ls st h bc bs P PX) : mx_E S μ pc ls (.int x :: st) h bc bs P PX := by
  intro X C D p l e R s m args below meth c H locs cells slots mc ms lc f0 hI hL hR hS h1 h2 h3 h4 h5
  exact lv_tableIn hI.1 hI.2.1 hd hx1 hx2 ho ht (k X C D p l e R s m args below meth c H locs cells slots mc ms lc f0 hI hL hR hS h1 h2 h3 h4 h5)
/-- the locals as the kit lists them -/
def mx_al (X : mx_X) (ls : List (Option Value)) : List (Nat × Value) := ls.zipIdx.filterMap (fun q => q.1.map (fun v => (q.2, mx_v X v)))
theorem mx_al_mem {X : mx_X} {ls : List (Option Value)} {i : Nat} {v : Value} (hv : ls[i]? = some (some v)) : (i, mx_v X v) ∈ mx_al X ls :=
  List.mem_filterMap.mpr ⟨(some v, i), List.mem_zipIdx_iff_getElem?.mpr hv, rfl⟩
theorem mx_L.has {X : mx_X} {nL : Nat} {lc : Array Slot} {ls : List (Option Value)} (h : mx_L X nL lc ls) : lv_has lc nL (mx_al X ls) := by
  refine ⟨h.1, h.2.1, fun q hq => ?_⟩
  obtain ⟨⟨o, i⟩, h1, h2⟩ := List.mem_filterMap.mp hq
  cases o with
  | none => cases h2
  | some v =>
    cases h2
    exact h.2.2 i v (List.mem_zipIdx_iff_getElem?.mp h1)
/-- no long ends at i -/
def mx_ok1 (ls : List (Option Value)) (i : Nat) : Bool := match i with
  | 0 => true
  | i + 1 => match ls[i]? with
    | some (some (.long _)) => false
    | some (some (.double _)) => false
    | _ => true
theorem mx_ok1_cat {ls : List (Option Value)} {i : Nat} {v : Value} (h : mx_ok1 ls (i + 1) = true) (hv : ls[i]? = some (some v)) : v.category = 1 := by
  simp only [mx_ok1, hv] at h
  cases v <;> first | rfl | cases h
theorem mx_L.back {X : mx_X} {nL i : Nat} {lc lc2 : Array Slot} {ls : List (Option Value)} {v : Value} (h : mx_L X nL lc ls) (hok : mx_ok1 ls i = true) (h2 : lv_has lc2 nL ((i, mx_v X v) :: (mx_al X ls).filter (fun q => !(q.1 == i) && !(q.1 + 1 == i && q.2.category == 2)))) : mx_L X nL lc2 (ls.set i (some v)) := by
  refine ⟨h2.1, h2.2.1, fun j w hj => ?_⟩
  by_cases hji : j = i
  · subst hji
    by_cases hlt : j < ls.length
    · rw [List.getElem?_set_self hlt] at hj
      cases hj
      exact h2.2.2 _ List.mem_cons_self
    · rw [List.getElem?_eq_none (by rw [List.length_set]; omega)] at hj
      cases hj
  · rw [List.getElem?_set_ne (Ne.symm hji)] at hj
    refine h2.2.2 (j, mx_v X w) (List.mem_cons_of_mem _ (List.mem_filter.mpr ⟨mx_al_mem hj, ?_⟩))
    by_cases hc : j + 1 = i
    · subst hc
      have := mx_ok1_cat hok hj
      simp [mx_v_cat, this]
    · simp [hji, hc]
theorem mx_L.back2 {X : mx_X} {nL i : Nat} {lc lc2 : Array Slot} {ls : List (Option Value)} {v : Value} (h : mx_L X nL lc ls) (hok : mx_ok1 ls i = true) (h2 : lv_has lc2 nL ((i, mx_v X v) :: (mx_al X ls).filter (fun q => !(q.1 == i) && (!(q.1 == i + 1) && !(q.1 + 1 == i && q.2.category == 2))))) : mx_L X nL lc2 ((ls.set i (some v)).set (i + 1) none) := by
  refine ⟨h2.1, h2.2.1, fun j w hj => ?_⟩
  by_cases hj1 : j = i + 1
  · subst hj1
    by_cases hlt : i + 1 < ls.length
    · rw [List.getElem?_set_self (by rw [List.length_set]; exact hlt)] at hj
      cases hj
    · rw [List.getElem?_eq_none (by rw [List.length_set, List.length_set]; omega)] at hj
      cases hj
  · rw [List.getElem?_set_ne (Ne.symm hj1)] at hj
    by_cases hji : j = i
    · subst hji
      by_cases hlt : j < ls.length
      · rw [List.getElem?_set_self hlt] at hj
        cases hj
        exact h2.2.2 _ List.mem_cons_self
      · rw [List.getElem?_eq_none (by rw [List.length_set]; omega)] at hj
        cases hj
    · rw [List.getElem?_set_ne (Ne.symm hji)] at hj
      refine h2.2.2 (j, mx_v X w) (List.mem_cons_of_mem _ (List.mem_filter.mpr ⟨mx_al_mem hj, ?_⟩))
      by_cases hc : j + 1 = i
      · subst hc
        have := mx_ok1_cat hok hj
        simp [mx_v_cat, this, hj1]
      · simp [hji, hc, hj1]
theorem ms_istore_n {k0 : Fin 4} {x : Int32} (hd : decode (mx_b μ) pc = .ok (.istore_n k0, 1)) (hn : (k0 : Nat) < mx_nl μ) (hok : mx_ok1 ls (k0 : Nat) = true) (k : mx_E S μ (pc + 1) (ls.set (k0 : Nat) (some (Value.int x))) st h bc bs P PX) : mx_E S μ pc ls (Value.int x :: st) h bc bs P PX := by
  intro X C D p l e R s m args below meth c H locs cells slots mc ms lc f0 hI hL hR hS h1 h2 h3 h4 h5
  exact lv_istore_n hI.1 hI.2.1 hd rfl hL.has hn rfl (fun lc2 hl2 => (k X C D p l e R s m args below meth c H locs cells slots mc ms lc2 f0 hI (hL.back hok hl2) hR hS h1 h2 h3 h4 h5))
theorem ms_istore {i : Nat} {x : Int32} (hd : decode (mx_b μ) pc = .ok (.istore i, 2)) (hn : i < mx_nl μ) (hok : mx_ok1 ls i = true) (k : mx_E S μ (pc + 2) (ls.set i (some (Value.int x))) st h bc bs P PX) : mx_E S μ pc ls (Value.int x :: st) h bc bs P PX := by
  intro X C D p l e R s m args below meth c H locs cells slots mc ms lc f0 hI hL hR hS h1 h2 h3 h4 h5
  exact lv_istore hI.1 hI.2.1 hd hL.has hn rfl (fun lc2 hl2 => (k X C D p l e R s m args below meth c H locs cells slots mc ms lc2 f0 hI (hL.back hok hl2) hR hS h1 h2 h3 h4 h5))
theorem ms_astore_n {k0 : Fin 4} {x : Nat} (hd : decode (mx_b μ) pc = .ok (.astore_n k0, 1)) (hn : (k0 : Nat) < mx_nl μ) (hok : mx_ok1 ls (k0 : Nat) = true) (k : mx_E S μ (pc + 1) (ls.set (k0 : Nat) (some (Value.ref x))) st h bc bs P PX) : mx_E S μ pc ls (Value.ref x :: st) h bc bs P PX := by
  intro X C D p l e R s m args below meth c H locs cells slots mc ms lc f0 hI hL hR hS h1 h2 h3 h4 h5
  exact lv_astore_n hI.1 hI.2.1 hd rfl hL.has hn rfl (fun lc2 hl2 => (k X C D p l e R s m args below meth c H locs cells slots mc ms lc2 f0 hI (hL.back hok hl2) hR hS h1 h2 h3 h4 h5))
theorem ms_astore {i : Nat} {x : Nat} (hd : decode (mx_b μ) pc = .ok (.astore i, 2)) (hn : i < mx_nl μ) (hok : mx_ok1 ls i = true) (k : mx_E S μ (pc + 2) (ls.set i (some (Value.ref x))) st h bc bs P PX) : mx_E S μ pc ls (Value.ref x :: st) h bc bs P PX := by
  intro X C D p l e R s m args below meth c H locs cells slots mc ms lc f0 hI hL hR hS h1 h2 h3 h4 h5
  exact lv_astore hI.1 hI.2.1 hd hL.has hn rfl (fun lc2 hl2 => (k X C D p l e R s m args below meth c H locs cells slots mc ms lc2 f0 hI (hL.back hok hl2) hR hS h1 h2 h3 h4 h5))
theorem ms_lstore_n {k0 : Fin 4} {x : Int64} (hd : decode (mx_b μ) pc = .ok (.lstore_n k0, 1)) (hn : (k0 : Nat) + 1 < mx_nl μ) (hok : mx_ok1 ls (k0 : Nat) = true) (k : mx_E S μ (pc + 1) ((ls.set (k0 : Nat) (some (Value.long x))).set ((k0 : Nat) + 1) none) st h bc bs P PX) : mx_E S μ pc ls (Value.long x :: st) h bc bs P PX := by
  intro X C D p l e R s m args below meth c H locs cells slots mc ms lc f0 hI hL hR hS h1 h2 h3 h4 h5
  exact lv_lstore_n hI.1 hI.2.1 hd rfl hL.has hn rfl (fun lc2 hl2 => (k X C D p l e R s m args below meth c H locs cells slots mc ms lc2 f0 hI (hL.back2 hok hl2) hR hS h1 h2 h3 h4 h5))
theorem ms_iinc {i : Nat} {n : Int} {x : Int32} (hd : decode (mx_b μ) pc = .ok (.iinc i n, 3)) (hl : ls[i]? = some (some (.int x))) (hn : i < mx_nl μ) (hok : mx_ok1 ls i = true) (k : mx_E S μ (pc + 3) (ls.set i (some (.int (x + Int32.ofInt n)))) st h bc bs P PX) : mx_E S μ pc ls st h bc bs P PX := by
  intro X C D p l e R s m args below meth c H locs cells slots mc ms lc f0 hI hL hR hS h1 h2 h3 h4 h5
  obtain ⟨k9, hk9⟩ := List.getElem?_of_mem (mx_al_mem (X := X) hl)
  exact lv_iinc hI.1 hI.2.1 hd hL.has hk9 rfl hn rfl (fun lc2 hl2 => (k X C D p l e R s m args below meth c H locs cells slots mc ms lc2 f0 hI (hL.back (v := .int (x + Int32.ofInt n)) hok hl2) hR hS h1 h2 h3 h4 h5))
end MXR
