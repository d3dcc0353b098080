section MXN
variable {S : mx_Sc} {μ : mx_M} {pc : Nat} {ls : List (Option Value)} {st : List Value} {bc bs : Nat} {P : Option Value → mx_H → Prop} {PX : String → mx_H → Prop}
variable {M : Nat → Int → Int} {L : Nat → Nat → Int64} {Rf : Nat → Nat → Option Nat}
/-- references by a list, the newest first -/
def rfL : List (Nat × Nat × Nat) → Nat → Nat → Option Nat
  | [], _, _ => none
  | q :: l, a, k => if a = q.1 then (if k = q.2.1 then some q.2.2 else rfL l a k) else rfL l a k
theorem rfL_put (l : List (Nat × Nat × Nat)) (a k b : Nat) : va_up (rfL l) a (va_up (rfL l a) k (some b)) = rfL ((a, k, b) :: l) := by
  funext x y
  simp only [va_up, rfL]
  by_cases hx : x = a
  · subst hx
    rw [if_pos rfl, if_pos rfl]
    rfl
  · rw [if_neg hx, if_neg hx]
theorem rfL_new (n : Nat) : ∀ l : List (Nat × Nat × Nat), (l.all fun q => q.1 != n) = true → rfL l n = fun _ => none
  | [], _ => rfl
  | q :: l, h => by
    rw [List.all_cons, Bool.and_eq_true] at h
    funext y
    simp only [rfL]
    rw [if_neg (by have := h.1; simp only [bne_iff_ne, ne_eq] at this; exact fun z => this z.symm), rfL_new n l h.2]
theorem shx_len {n : Nat} {q : Nat × Nat} (hx : mx_SH[n]? = some q) : (mx_SH.take n).length = n := by
  rw [List.length_take]
  have := (List.getElem?_eq_some_iff.mp hx).1
  omega
theorem shx_s {n : Nat} {q : Nat × Nat} (hx : mx_SH[n]? = some q) : mx_SH.take (n + 1) = mx_SH.take n ++ [q] := by
  rw [List.take_add_one, hx]
  rfl
theorem up_z {α : Type} {M : Nat → α} {n : Nat} {g : α} (hz : M n = g) : va_up M n g = M := by
  rw [← hz, up_id]
theorem shx_lt {n : Nat} {q : Nat × Nat} (hx : mx_SH[n]? = some q) : n < 1000 := by
  have h1 := (List.getElem?_eq_some_iff.mp hx).1
  have h2 : mx_SH.length = 82 := rfl
  omega
theorem ms_new_t (n : Nat) {idx ci : Nat} {r : vw_C} {bs0 : Nat} (hd : decode (mx_b μ) pc = .ok (.new idx, 3)) (hc : mx_clOK ci r) (hw : Cond.classLink (mx_y μ).cls idx r.1 ∈ mx_T ∧ Cond.instantiable r.1 r.2.2 ∈ mx_T ∧ Cond.initialized r.1 ∈ mx_T) (hx : mx_SH[n]? = some (ci + 3, r.2.2)) (hz : M n = fun _ => 0) (hr : Rf n = fun _ => none) (hbs : bs + r.2.2 = bs0)
    (kk : mx_E S μ (pc + 3) ls (.ref n :: st) (true, mx_SH.take (n + 1), M, L, Rf) bc bs P PX) : mx_E S μ pc ls st (true, mx_SH.take n, M, L, Rf) (bc + 1) bs0 P PX := by
  rw [← hbs]
  refine ms_new hd hc hw (by rw [shx_len hx]; exact shx_lt hx) ?_
  rw [shx_len hx, ← shx_s hx, up_z hz, up_z hr]
  exact kk
theorem ms_newi_t (n : Nat) {z : Int} {N : Nat} {bs0 : Nat} (hd : decode (mx_b μ) pc = .ok (.newarray .int, 2)) (hx : mx_SH[n]? = some (0, N)) (hN : (N : Int) = z) (hb : N * 4 ≤ 536870912) (hz : M n = fun _ => 0) (hbs : bs + N = bs0)
    (kk : mx_E S μ (pc + 2) ls (.ref n :: st) (true, mx_SH.take (n + 1), M, L, Rf) bc bs P PX) : mx_E S μ pc ls (.int (iI z) :: st) (true, mx_SH.take n, M, L, Rf) (bc + 1) bs0 P PX := by
  rw [← hbs]
  refine ms_newi hd wt_arrI hN hb (by rw [shx_len hx]; exact shx_lt hx) ?_
  rw [shx_len hx, ← shx_s hx, up_z hz]
  exact kk
theorem ms_newl_t (n : Nat) {z : Int} {N : Nat} {bs0 : Nat} (hd : decode (mx_b μ) pc = .ok (.newarray .long, 2)) (hx : mx_SH[n]? = some (1, N)) (hN : (N : Int) = z) (hb : N * 8 ≤ 536870912) (hbs : bs + N = bs0)
    (kk : mx_E S μ (pc + 2) ls (.ref n :: st) (true, mx_SH.take (n + 1), M, va_up L n (fun _ => 0), Rf) bc bs P PX) : mx_E S μ pc ls (.int (iI z) :: st) (true, mx_SH.take n, M, L, Rf) (bc + 1) bs0 P PX := by
  rw [← hbs]
  refine ms_newl hd wt_arrJ hN hb (by rw [shx_len hx]; exact shx_lt hx) ?_
  rw [shx_len hx, ← shx_s hx]
  exact kk
theorem ms_newq_t (n : Nat) {idx : Nat} {z : Int} {N : Nat} {bs0 : Nat} (hd : decode (mx_b μ) pc = .ok (.anewarray idx, 3)) (hw : Cond.classLink (mx_y μ).cls idx "java/lang/String" ∈ mx_T) (hx : mx_SH[n]? = some (2, N)) (hN : (N : Int) = z) (hb : N * 4 ≤ 536870912) (hr : Rf n = fun _ => none) (hbs : bs + N = bs0)
    (kk : mx_E S μ (pc + 3) ls (.ref n :: st) (true, mx_SH.take (n + 1), M, L, Rf) bc bs P PX) : mx_E S μ pc ls (.int (iI z) :: st) (true, mx_SH.take n, M, L, Rf) (bc + 1) bs0 P PX := by
  rw [← hbs]
  refine ms_newq hd hw hN hb (by rw [shx_len hx]; exact shx_lt hx) ?_
  rw [shx_len hx, ← shx_s hx, up_z hr]
  exact kk
end MXN
theorem wt_str7 : Cond.classLink "LampValleyModel" 7 "java/lang/String" ∈ mx_T := mx_in (List.mem_of_getElem? (i := 943) (by decide +kernel)) (by decide +kernel)
set_option maxHeartbeats 4000000 in
set_option maxRecDepth 100000 in
theorem k_X2_init_3 {S : mx_Sc} {M : Nat → Int → Int} {L : Nat → Nat → Int64} {l : List (Nat × Nat × Nat)} (hz : ∀ x, 3 < x → M x = fun _ => 0) : mx_C S mX2_init [.ref 3] (true, mx_SH.take 4, M, L, rfL l) 3 30 (fun v9 h9 => h9 = (true, mx_SH.take 7, M, L, rfL ((3, 2, 6) :: (3, 1, 5) :: (3, 0, 4) :: l)) ∧ v9 = none) (fun _ _ => False) := by
  refine mx_C_of (by decide) (by simp [Value.category]) (Nat.le_of_ble_eq_true rfl) rfl ?_
  show mx_E S mX2_init 0 [some (.ref 3)] [] (true, mx_SH.take 4, M, L, rfL l) 3 30 _ _
  refine ms_aload_n dX2_init_0 rfl ?_
  refine ms_objInit dX2_init_1 (oi_X2_3 rfl) (Nat.le_of_ble_eq_true rfl) (Nat.le_of_ble_eq_true rfl) ?_
  refine ms_aload_n dX2_init_4 rfl ?_
  refine mi_bipush dX2_init_5 (by decide) ?_
  refine ms_newi_t 4 (N := 18) (bc := 2) (bs := 12) dX2_init_7 rfl rfl (by decide) (hz 4 (by decide)) rfl ?_
  refine ms_putRFa dX2_init_9 (fo_X2_9 rfl) (by first | rfl | assumption) rfl rfl rfl rfl ?_
  rw [rfL_put]
  refine ms_aload_n dX2_init_12 rfl ?_
  refine mi_bipush dX2_init_13 (by decide) ?_
  refine ms_newi_t 5 (N := 6) (bc := 1) (bs := 6) dX2_init_15 rfl rfl (by decide) (hz 5 (by decide)) rfl ?_
  refine ms_putRFa dX2_init_17 (fo_X2_15 rfl) (by first | rfl | assumption) rfl rfl rfl rfl ?_
  rw [rfL_put]
  refine ms_aload_n dX2_init_20 rfl ?_
  refine mi_bipush dX2_init_21 (by decide) ?_
  refine ms_newi_t 6 (N := 6) (bc := 0) (bs := 0) dX2_init_23 rfl rfl (by decide) (hz 6 (by decide)) rfl ?_
  refine ms_putRFa dX2_init_25 (fo_X2_18 rfl) (by first | rfl | assumption) rfl rfl rfl rfl ?_
  rw [rfL_put]
  refine ms_retV dX2_init_28 rfl ⟨rfl, rfl⟩ (by simp)

set_option maxHeartbeats 4000000 in
set_option maxRecDepth 100000 in
theorem k_X2_init_11 {S : mx_Sc} {M : Nat → Int → Int} {L : Nat → Nat → Int64} {l : List (Nat × Nat × Nat)} (hz : ∀ x, 11 < x → M x = fun _ => 0) : mx_C S mX2_init [.ref 11] (true, mx_SH.take 12, M, L, rfL l) 3 30 (fun v9 h9 => h9 = (true, mx_SH.take 15, M, L, rfL ((11, 2, 14) :: (11, 1, 13) :: (11, 0, 12) :: l)) ∧ v9 = none) (fun _ _ => False) := by
  refine mx_C_of (by decide) (by simp [Value.category]) (Nat.le_of_ble_eq_true rfl) rfl ?_
  show mx_E S mX2_init 0 [some (.ref 11)] [] (true, mx_SH.take 12, M, L, rfL l) 3 30 _ _
  refine ms_aload_n dX2_init_0 rfl ?_
  refine ms_objInit dX2_init_1 (oi_X2_3 rfl) (Nat.le_of_ble_eq_true rfl) (Nat.le_of_ble_eq_true rfl) ?_
  refine ms_aload_n dX2_init_4 rfl ?_
  refine mi_bipush dX2_init_5 (by decide) ?_
  refine ms_newi_t 12 (N := 18) (bc := 2) (bs := 12) dX2_init_7 rfl rfl (by decide) (hz 12 (by decide)) rfl ?_
  refine ms_putRFa dX2_init_9 (fo_X2_9 rfl) (by first | rfl | assumption) rfl rfl rfl rfl ?_
  rw [rfL_put]
  refine ms_aload_n dX2_init_12 rfl ?_
  refine mi_bipush dX2_init_13 (by decide) ?_
  refine ms_newi_t 13 (N := 6) (bc := 1) (bs := 6) dX2_init_15 rfl rfl (by decide) (hz 13 (by decide)) rfl ?_
  refine ms_putRFa dX2_init_17 (fo_X2_15 rfl) (by first | rfl | assumption) rfl rfl rfl rfl ?_
  rw [rfL_put]
  refine ms_aload_n dX2_init_20 rfl ?_
  refine mi_bipush dX2_init_21 (by decide) ?_
  refine ms_newi_t 14 (N := 6) (bc := 0) (bs := 0) dX2_init_23 rfl rfl (by decide) (hz 14 (by decide)) rfl ?_
  refine ms_putRFa dX2_init_25 (fo_X2_18 rfl) (by first | rfl | assumption) rfl rfl rfl rfl ?_
  rw [rfL_put]
  refine ms_retV dX2_init_28 rfl ⟨rfl, rfl⟩ (by simp)

set_option maxHeartbeats 4000000 in
set_option maxRecDepth 100000 in
theorem k_X2_init_18 {S : mx_Sc} {M : Nat → Int → Int} {L : Nat → Nat → Int64} {l : List (Nat × Nat × Nat)} (hz : ∀ x, 18 < x → M x = fun _ => 0) : mx_C S mX2_init [.ref 18] (true, mx_SH.take 19, M, L, rfL l) 3 30 (fun v9 h9 => h9 = (true, mx_SH.take 22, M, L, rfL ((18, 2, 21) :: (18, 1, 20) :: (18, 0, 19) :: l)) ∧ v9 = none) (fun _ _ => False) := by
  refine mx_C_of (by decide) (by simp [Value.category]) (Nat.le_of_ble_eq_true rfl) rfl ?_
  show mx_E S mX2_init 0 [some (.ref 18)] [] (true, mx_SH.take 19, M, L, rfL l) 3 30 _ _
  refine ms_aload_n dX2_init_0 rfl ?_
  refine ms_objInit dX2_init_1 (oi_X2_3 rfl) (Nat.le_of_ble_eq_true rfl) (Nat.le_of_ble_eq_true rfl) ?_
  refine ms_aload_n dX2_init_4 rfl ?_
  refine mi_bipush dX2_init_5 (by decide) ?_
  refine ms_newi_t 19 (N := 18) (bc := 2) (bs := 12) dX2_init_7 rfl rfl (by decide) (hz 19 (by decide)) rfl ?_
  refine ms_putRFa dX2_init_9 (fo_X2_9 rfl) (by first | rfl | assumption) rfl rfl rfl rfl ?_
  rw [rfL_put]
  refine ms_aload_n dX2_init_12 rfl ?_
  refine mi_bipush dX2_init_13 (by decide) ?_
  refine ms_newi_t 20 (N := 6) (bc := 1) (bs := 6) dX2_init_15 rfl rfl (by decide) (hz 20 (by decide)) rfl ?_
  refine ms_putRFa dX2_init_17 (fo_X2_15 rfl) (by first | rfl | assumption) rfl rfl rfl rfl ?_
  rw [rfL_put]
  refine ms_aload_n dX2_init_20 rfl ?_
  refine mi_bipush dX2_init_21 (by decide) ?_
  refine ms_newi_t 21 (N := 6) (bc := 0) (bs := 0) dX2_init_23 rfl rfl (by decide) (hz 21 (by decide)) rfl ?_
  refine ms_putRFa dX2_init_25 (fo_X2_18 rfl) (by first | rfl | assumption) rfl rfl rfl rfl ?_
  rw [rfL_put]
  refine ms_retV dX2_init_28 rfl ⟨rfl, rfl⟩ (by simp)

set_option maxHeartbeats 4000000 in
set_option maxRecDepth 100000 in
theorem k_X3_init_2 {S : mx_Sc} {M : Nat → Int → Int} {L : Nat → Nat → Int64} {l : List (Nat × Nat × Nat)} (hz : ∀ x, 2 < x → M x = fun _ => 0) (hf : (l.all fun q => q.1 != 3) = true) : mx_C S mX3_init [.ref 2] (true, mx_SH.take 3, M, L, rfL l) 7 3621 (fun v9 h9 => h9 = (true, mx_SH.take 10, M, L, rfL ((2, 3, 9) :: (2, 2, 8) :: (2, 1, 7) :: (2, 0, 3) :: (3, 2, 6) :: (3, 1, 5) :: (3, 0, 4) :: l)) ∧ v9 = none) (fun _ _ => False) := by
  refine mx_C_of (by decide) (by simp [Value.category]) (Nat.le_of_ble_eq_true rfl) rfl ?_
  show mx_E S mX3_init 0 [some (.ref 2)] [] (true, mx_SH.take 3, M, L, rfL l) 7 3621 _ _
  refine ms_aload_n dX3_init_0 rfl ?_
  refine ms_objInit dX3_init_1 (oi_X3_3 rfl) (Nat.le_of_ble_eq_true rfl) (Nat.le_of_ble_eq_true rfl) ?_
  refine ms_aload_n dX3_init_4 rfl ?_
  refine ms_new_t 3 (bc := 6) (bs := 3615) dX3_init_5 cl_2 nw_X3_init_2 rfl (hz 3 (by decide)) (rfL_new 3 _ hf) rfl ?_
  refine ms_dup dX3_init_8 rfl ?_
  refine ms_callI0 (bc := 3) (bs := 3585) dX3_init_9 cv_X3_init_X2_init (k_X2_init_3 (M := M) (L := L) (fun x hx => hz x (by omega))) rfl rfl (Nat.le_of_ble_eq_true rfl) (fun v9 h9 hp9 => ?_)
  obtain ⟨rfl, rfl⟩ := hp9
  refine ms_putRFo dX3_init_12 (fo_X3_12 rfl) (by first | rfl | assumption) rfl rfl rfl rfl ?_
  rw [rfL_put]
  refine ms_aload_n dX3_init_15 rfl ?_
  refine mi_sipush dX3_init_16 (by decide) ?_
  refine ms_newi_t 7 (N := 1782) (bc := 2) (bs := 1803) dX3_init_19 rfl rfl (by decide) (hz 7 (by decide)) rfl ?_
  refine ms_putRFa dX3_init_21 (fo_X3_18 rfl) (by first | rfl | assumption) rfl rfl rfl rfl ?_
  rw [rfL_put]
  refine ms_aload_n dX3_init_24 rfl ?_
  refine mi_sipush dX3_init_25 (by decide) ?_
  refine ms_newi_t 8 (N := 1800) (bc := 1) (bs := 3) dX3_init_28 rfl rfl (by decide) (hz 8 (by decide)) rfl ?_
  refine ms_putRFa dX3_init_30 (fo_X3_22 rfl) (by first | rfl | assumption) rfl rfl rfl rfl ?_
  rw [rfL_put]
  refine ms_aload_n dX3_init_33 rfl ?_
  refine mi_iconst dX3_init_34 ?_
  refine ms_newi_t 9 (N := 3) (bc := 0) (bs := 0) dX3_init_35 rfl rfl (by decide) (hz 9 (by decide)) rfl ?_
  refine ms_putRFa dX3_init_37 (fo_X3_25 rfl) (by first | rfl | assumption) rfl rfl rfl rfl ?_
  rw [rfL_put]
  refine ms_retV dX3_init_40 rfl ⟨rfl, rfl⟩ (by simp)

set_option maxHeartbeats 4000000 in
set_option maxRecDepth 100000 in
theorem k_X3_init_10 {S : mx_Sc} {M : Nat → Int → Int} {L : Nat → Nat → Int64} {l : List (Nat × Nat × Nat)} (hz : ∀ x, 10 < x → M x = fun _ => 0) (hf : (l.all fun q => q.1 != 11) = true) : mx_C S mX3_init [.ref 10] (true, mx_SH.take 11, M, L, rfL l) 7 3621 (fun v9 h9 => h9 = (true, mx_SH.take 18, M, L, rfL ((10, 3, 17) :: (10, 2, 16) :: (10, 1, 15) :: (10, 0, 11) :: (11, 2, 14) :: (11, 1, 13) :: (11, 0, 12) :: l)) ∧ v9 = none) (fun _ _ => False) := by
  refine mx_C_of (by decide) (by simp [Value.category]) (Nat.le_of_ble_eq_true rfl) rfl ?_
  show mx_E S mX3_init 0 [some (.ref 10)] [] (true, mx_SH.take 11, M, L, rfL l) 7 3621 _ _
  refine ms_aload_n dX3_init_0 rfl ?_
  refine ms_objInit dX3_init_1 (oi_X3_3 rfl) (Nat.le_of_ble_eq_true rfl) (Nat.le_of_ble_eq_true rfl) ?_
  refine ms_aload_n dX3_init_4 rfl ?_
  refine ms_new_t 11 (bc := 6) (bs := 3615) dX3_init_5 cl_2 nw_X3_init_2 rfl (hz 11 (by decide)) (rfL_new 11 _ hf) rfl ?_
  refine ms_dup dX3_init_8 rfl ?_
  refine ms_callI0 (bc := 3) (bs := 3585) dX3_init_9 cv_X3_init_X2_init (k_X2_init_11 (M := M) (L := L) (fun x hx => hz x (by omega))) rfl rfl (Nat.le_of_ble_eq_true rfl) (fun v9 h9 hp9 => ?_)
  obtain ⟨rfl, rfl⟩ := hp9
  refine ms_putRFo dX3_init_12 (fo_X3_12 rfl) (by first | rfl | assumption) rfl rfl rfl rfl ?_
  rw [rfL_put]
  refine ms_aload_n dX3_init_15 rfl ?_
  refine mi_sipush dX3_init_16 (by decide) ?_
  refine ms_newi_t 15 (N := 1782) (bc := 2) (bs := 1803) dX3_init_19 rfl rfl (by decide) (hz 15 (by decide)) rfl ?_
  refine ms_putRFa dX3_init_21 (fo_X3_18 rfl) (by first | rfl | assumption) rfl rfl rfl rfl ?_
  rw [rfL_put]
  refine ms_aload_n dX3_init_24 rfl ?_
  refine mi_sipush dX3_init_25 (by decide) ?_
  refine ms_newi_t 16 (N := 1800) (bc := 1) (bs := 3) dX3_init_28 rfl rfl (by decide) (hz 16 (by decide)) rfl ?_
  refine ms_putRFa dX3_init_30 (fo_X3_22 rfl) (by first | rfl | assumption) rfl rfl rfl rfl ?_
  rw [rfL_put]
  refine ms_aload_n dX3_init_33 rfl ?_
  refine mi_iconst dX3_init_34 ?_
  refine ms_newi_t 17 (N := 3) (bc := 0) (bs := 0) dX3_init_35 rfl rfl (by decide) (hz 17 (by decide)) rfl ?_
  refine ms_putRFa dX3_init_37 (fo_X3_25 rfl) (by first | rfl | assumption) rfl rfl rfl rfl ?_
  rw [rfL_put]
  refine ms_retV dX3_init_40 rfl ⟨rfl, rfl⟩ (by simp)

set_option maxHeartbeats 4000000 in
set_option maxRecDepth 100000 in
theorem k_X0_init {S : mx_Sc} {M : Nat → Int → Int} {L : Nat → Nat → Int64} {l : List (Nat × Nat × Nat)} (hz : ∀ x, 25 < x → M x = fun _ => 0) : mx_C S mX0_init [.ref 25] (true, mx_SH.take 26, M, L, rfL l) 3 1035 (fun v9 h9 => h9 = (true, mx_SH.take 29, M, L, rfL ((25, 2, 28) :: (25, 1, 27) :: (25, 0, 26) :: l)) ∧ v9 = none) (fun _ _ => False) := by
  refine mx_C_of (by decide) (by simp [Value.category]) (Nat.le_of_ble_eq_true rfl) rfl ?_
  show mx_E S mX0_init 0 [some (.ref 25)] [] (true, mx_SH.take 26, M, L, rfL l) 3 1035 _ _
  refine ms_aload_n dX0_init_0 rfl ?_
  refine ms_objInit dX0_init_1 (oi_X0_3 rfl) (Nat.le_of_ble_eq_true rfl) (Nat.le_of_ble_eq_true rfl) ?_
  refine ms_aload_n dX0_init_4 rfl ?_
  refine mi_iconst dX0_init_5 ?_
  refine ms_newi_t 26 (N := 3) (bc := 2) (bs := 1032) dX0_init_6 rfl rfl (by decide) (hz 26 (by decide)) rfl ?_
  refine ms_putRFa dX0_init_8 (fo_X0_11 rfl) (by first | rfl | assumption) rfl rfl rfl rfl ?_
  rw [rfL_put]
  refine ms_aload_n dX0_init_11 rfl ?_
  refine mi_iconst dX0_init_12 ?_
  refine ms_newi_t 27 (N := 3) (bc := 1) (bs := 1029) dX0_init_13 rfl rfl (by decide) (hz 27 (by decide)) rfl ?_
  refine ms_putRFa dX0_init_15 (fo_X0_15 rfl) (by first | rfl | assumption) rfl rfl rfl rfl ?_
  rw [rfL_put]
  refine ms_aload_n dX0_init_18 rfl ?_
  refine mi_sipush dX0_init_19 (by decide) ?_
  refine ms_newi_t 28 (N := 1029) (bc := 0) (bs := 0) dX0_init_22 rfl rfl (by decide) (hz 28 (by decide)) rfl ?_
  refine ms_putRFa dX0_init_24 (fo_X0_18 rfl) (by first | rfl | assumption) rfl rfl rfl rfl ?_
  rw [rfL_put]
  refine ms_retV dX0_init_27 rfl ⟨rfl, rfl⟩ (by simp)

