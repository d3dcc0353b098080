section MXN
variable {S : mx_Sc} {μ κ : mx_M} {pc : Nat} {ls : List (Option Value)} {st : List Value} {h : mx_H} {bc bs : Nat} {P : Option Value → mx_H → Prop} {PX : String → mx_H → Prop}
variable {f : Bool} {sh : List (Nat × Nat)} {M : Nat → Int → Int} {L : Nat → Nat → Int64} {Rf : Nat → Nat → Option Nat}
theorem ms_callS0 {idx : Nat} {Pk : Option Value → mx_H → Prop} {PXk : String → mx_H → Prop} (hd : decode (mx_b μ) pc = .ok (.invokestatic idx, 3)) (hok : mx_ctOK μ κ idx 0) (hM : mx_C S κ [] h 0 0 Pk PXk) (hw : (st.map fun v => v.category).sum ≤ 8) (htb : mx_tb μ = []) (kx : ∀ E h', PXk E h' → PX E h') (kk : ∀ v h', Pk v h' → mx_E S μ (pc + 3) ls (v.toList ++ st) h' bc bs P PX) : mx_E S μ pc ls (st) h bc bs P PX := by
  have := ms_callS (bc := bc) (bs := bs) (stk := st) hd hok hM rfl rfl hw htb kx kk
  rwa [Nat.zero_add, Nat.zero_add] at this
theorem ms_callSx0 {idx bc1 bs1 bc0 bs0 : Nat} {Pk : Option Value → mx_H → Prop} {PXk : String → mx_H → Prop} (hd : decode (mx_b μ) pc = .ok (.invokestatic idx, 3)) (hok : mx_ctOK μ κ idx 0) (hM : mx_C S κ [] h bc1 bs1 Pk PXk) (hc : bc1 + bc = bc0) (hs : bs1 + bs = bs0) (hw : (st.map fun v => v.category).sum ≤ 8) (htb : mx_tb μ = []) (kx : ∀ E h', PXk E h' → PX E h') (kk : ∀ v h', Pk v h' → mx_E S μ (pc + 3) ls (v.toList ++ st) h' bc bs P PX) : mx_E S μ pc ls (st) h bc0 bs0 P PX := by
  subst hc
  subst hs
  exact ms_callS hd hok hM rfl rfl hw htb kx kk
theorem ms_callV0 {idx a ci : Nat} {r : vw_C} {Pk : Option Value → mx_H → Prop} {PXk : String → mx_H → Prop} (hd : decode (mx_b μ) pc = .ok (.invokevirtual idx, 3)) (hok : mx_cvOK μ κ idx 0) (hM : mx_C S κ [.ref a] (f, sh, M, L, Rf) 0 0 Pk PXk) (hci : vwCl[ci]? = some r) (hcn : r.1 = (mx_y κ).cls) (hs : sh[a]? = some (ci + 3, r.2.2)) (hw : (st.map fun v => v.category).sum ≤ 8) (htb : mx_tb μ = []) (kx : ∀ E h', PXk E h' → PX E h') (kk : ∀ v h', Pk v h' → mx_E S μ (pc + 3) ls (v.toList ++ st) h' bc bs P PX) (ha : a < 1000 := by first | decide | omega) : mx_E S μ pc ls (.ref a :: st) (f, sh, M, L, Rf) bc bs P PX := by
  have := ms_callV (bc := bc) (bs := bs) (stk := .ref a :: st) hd hok hM hci hcn hs rfl rfl hw htb kx kk ha
  rwa [Nat.zero_add, Nat.zero_add] at this
theorem ms_callVx0 {idx a ci : Nat} {r : vw_C} {bc1 bs1 bc0 bs0 : Nat} {Pk : Option Value → mx_H → Prop} {PXk : String → mx_H → Prop} (hd : decode (mx_b μ) pc = .ok (.invokevirtual idx, 3)) (hok : mx_cvOK μ κ idx 0) (hM : mx_C S κ [.ref a] (f, sh, M, L, Rf) bc1 bs1 Pk PXk) (hc : bc1 + bc = bc0) (hbs : bs1 + bs = bs0) (hci : vwCl[ci]? = some r) (hcn : r.1 = (mx_y κ).cls) (hs : sh[a]? = some (ci + 3, r.2.2)) (hw : (st.map fun v => v.category).sum ≤ 8) (htb : mx_tb μ = []) (kx : ∀ E h', PXk E h' → PX E h') (kk : ∀ v h', Pk v h' → mx_E S μ (pc + 3) ls (v.toList ++ st) h' bc bs P PX) (ha : a < 1000 := by first | decide | omega) : mx_E S μ pc ls (.ref a :: st) (f, sh, M, L, Rf) bc0 bs0 P PX := by
  subst hc
  subst hbs
  exact ms_callV hd hok hM hci hcn hs rfl rfl hw htb kx kk ha
theorem ms_callI0 {idx a bc1 bs1 bc0 bs0 : Nat} {Pk : Option Value → mx_H → Prop} (hd : decode (mx_b μ) pc = .ok (.invokespecial idx, 3)) (hok : mx_ciOK μ κ idx 0) (hM : mx_C S κ [.ref a] h bc1 bs1 Pk (fun _ _ => False)) (hc : bc1 + bc = bc0) (hbs : bs1 + bs = bs0) (hw : (st.map fun v => v.category).sum ≤ 8) (kk : ∀ v h', Pk v h' → mx_E S μ (pc + 3) ls (v.toList ++ st) h' bc bs P PX) (ha : a < 1000 := by first | decide | omega) : mx_E S μ pc ls (.ref a :: st) h bc0 bs0 P PX := by
  subst hc
  subst hbs
  exact ms_callI hd hok hM rfl rfl hw kk ha
theorem ms_callS1 {x1 : Value} {idx : Nat} {Pk : Option Value → mx_H → Prop} {PXk : String → mx_H → Prop} (hd : decode (mx_b μ) pc = .ok (.invokestatic idx, 3)) (hok : mx_ctOK μ κ idx 1) (hM : mx_C S κ [x1] h 0 0 Pk PXk) (hw : (st.map fun v => v.category).sum ≤ 8) (htb : mx_tb μ = []) (kx : ∀ E h', PXk E h' → PX E h') (kk : ∀ v h', Pk v h' → mx_E S μ (pc + 3) ls (v.toList ++ st) h' bc bs P PX) : mx_E S μ pc ls (x1 :: st) h bc bs P PX := by
  have := ms_callS (bc := bc) (bs := bs) (stk := x1 :: st) hd hok hM rfl rfl hw htb kx kk
  rwa [Nat.zero_add, Nat.zero_add] at this
theorem ms_callSx1 {x1 : Value} {idx bc1 bs1 bc0 bs0 : Nat} {Pk : Option Value → mx_H → Prop} {PXk : String → mx_H → Prop} (hd : decode (mx_b μ) pc = .ok (.invokestatic idx, 3)) (hok : mx_ctOK μ κ idx 1) (hM : mx_C S κ [x1] h bc1 bs1 Pk PXk) (hc : bc1 + bc = bc0) (hs : bs1 + bs = bs0) (hw : (st.map fun v => v.category).sum ≤ 8) (htb : mx_tb μ = []) (kx : ∀ E h', PXk E h' → PX E h') (kk : ∀ v h', Pk v h' → mx_E S μ (pc + 3) ls (v.toList ++ st) h' bc bs P PX) : mx_E S μ pc ls (x1 :: st) h bc0 bs0 P PX := by
  subst hc
  subst hs
  exact ms_callS hd hok hM rfl rfl hw htb kx kk
theorem ms_callV1 {x1 : Value} {idx a ci : Nat} {r : vw_C} {Pk : Option Value → mx_H → Prop} {PXk : String → mx_H → Prop} (hd : decode (mx_b μ) pc = .ok (.invokevirtual idx, 3)) (hok : mx_cvOK μ κ idx 1) (hM : mx_C S κ [.ref a, x1] (f, sh, M, L, Rf) 0 0 Pk PXk) (hci : vwCl[ci]? = some r) (hcn : r.1 = (mx_y κ).cls) (hs : sh[a]? = some (ci + 3, r.2.2)) (hw : (st.map fun v => v.category).sum ≤ 8) (htb : mx_tb μ = []) (kx : ∀ E h', PXk E h' → PX E h') (kk : ∀ v h', Pk v h' → mx_E S μ (pc + 3) ls (v.toList ++ st) h' bc bs P PX) (ha : a < 1000 := by first | decide | omega) : mx_E S μ pc ls (x1 :: .ref a :: st) (f, sh, M, L, Rf) bc bs P PX := by
  have := ms_callV (bc := bc) (bs := bs) (stk := x1 :: .ref a :: st) hd hok hM hci hcn hs rfl rfl hw htb kx kk ha
  rwa [Nat.zero_add, Nat.zero_add] at this
theorem ms_callVx1 {x1 : Value} {idx a ci : Nat} {r : vw_C} {bc1 bs1 bc0 bs0 : Nat} {Pk : Option Value → mx_H → Prop} {PXk : String → mx_H → Prop} (hd : decode (mx_b μ) pc = .ok (.invokevirtual idx, 3)) (hok : mx_cvOK μ κ idx 1) (hM : mx_C S κ [.ref a, x1] (f, sh, M, L, Rf) bc1 bs1 Pk PXk) (hc : bc1 + bc = bc0) (hbs : bs1 + bs = bs0) (hci : vwCl[ci]? = some r) (hcn : r.1 = (mx_y κ).cls) (hs : sh[a]? = some (ci + 3, r.2.2)) (hw : (st.map fun v => v.category).sum ≤ 8) (htb : mx_tb μ = []) (kx : ∀ E h', PXk E h' → PX E h') (kk : ∀ v h', Pk v h' → mx_E S μ (pc + 3) ls (v.toList ++ st) h' bc bs P PX) (ha : a < 1000 := by first | decide | omega) : mx_E S μ pc ls (x1 :: .ref a :: st) (f, sh, M, L, Rf) bc0 bs0 P PX := by
  subst hc
  subst hbs
  exact ms_callV hd hok hM hci hcn hs rfl rfl hw htb kx kk ha
theorem ms_callI1 {x1 : Value} {idx a bc1 bs1 bc0 bs0 : Nat} {Pk : Option Value → mx_H → Prop} (hd : decode (mx_b μ) pc = .ok (.invokespecial idx, 3)) (hok : mx_ciOK μ κ idx 1) (hM : mx_C S κ [.ref a, x1] h bc1 bs1 Pk (fun _ _ => False)) (hc : bc1 + bc = bc0) (hbs : bs1 + bs = bs0) (hw : (st.map fun v => v.category).sum ≤ 8) (kk : ∀ v h', Pk v h' → mx_E S μ (pc + 3) ls (v.toList ++ st) h' bc bs P PX) (ha : a < 1000 := by first | decide | omega) : mx_E S μ pc ls (x1 :: .ref a :: st) h bc0 bs0 P PX := by
  subst hc
  subst hbs
  exact ms_callI hd hok hM rfl rfl hw kk ha
theorem ms_callS2 {x1 x2 : Value} {idx : Nat} {Pk : Option Value → mx_H → Prop} {PXk : String → mx_H → Prop} (hd : decode (mx_b μ) pc = .ok (.invokestatic idx, 3)) (hok : mx_ctOK μ κ idx 2) (hM : mx_C S κ [x1, x2] h 0 0 Pk PXk) (hw : (st.map fun v => v.category).sum ≤ 8) (htb : mx_tb μ = []) (kx : ∀ E h', PXk E h' → PX E h') (kk : ∀ v h', Pk v h' → mx_E S μ (pc + 3) ls (v.toList ++ st) h' bc bs P PX) : mx_E S μ pc ls (x2 :: x1 :: st) h bc bs P PX := by
  have := ms_callS (bc := bc) (bs := bs) (stk := x2 :: x1 :: st) hd hok hM rfl rfl hw htb kx kk
  rwa [Nat.zero_add, Nat.zero_add] at this
theorem ms_callSx2 {x1 x2 : Value} {idx bc1 bs1 bc0 bs0 : Nat} {Pk : Option Value → mx_H → Prop} {PXk : String → mx_H → Prop} (hd : decode (mx_b μ) pc = .ok (.invokestatic idx, 3)) (hok : mx_ctOK μ κ idx 2) (hM : mx_C S κ [x1, x2] h bc1 bs1 Pk PXk) (hc : bc1 + bc = bc0) (hs : bs1 + bs = bs0) (hw : (st.map fun v => v.category).sum ≤ 8) (htb : mx_tb μ = []) (kx : ∀ E h', PXk E h' → PX E h') (kk : ∀ v h', Pk v h' → mx_E S μ (pc + 3) ls (v.toList ++ st) h' bc bs P PX) : mx_E S μ pc ls (x2 :: x1 :: st) h bc0 bs0 P PX := by
  subst hc
  subst hs
  exact ms_callS hd hok hM rfl rfl hw htb kx kk
theorem ms_callV2 {x1 x2 : Value} {idx a ci : Nat} {r : vw_C} {Pk : Option Value → mx_H → Prop} {PXk : String → mx_H → Prop} (hd : decode (mx_b μ) pc = .ok (.invokevirtual idx, 3)) (hok : mx_cvOK μ κ idx 2) (hM : mx_C S κ [.ref a, x1, x2] (f, sh, M, L, Rf) 0 0 Pk PXk) (hci : vwCl[ci]? = some r) (hcn : r.1 = (mx_y κ).cls) (hs : sh[a]? = some (ci + 3, r.2.2)) (hw : (st.map fun v => v.category).sum ≤ 8) (htb : mx_tb μ = []) (kx : ∀ E h', PXk E h' → PX E h') (kk : ∀ v h', Pk v h' → mx_E S μ (pc + 3) ls (v.toList ++ st) h' bc bs P PX) (ha : a < 1000 := by first | decide | omega) : mx_E S μ pc ls (x2 :: x1 :: .ref a :: st) (f, sh, M, L, Rf) bc bs P PX := by
  have := ms_callV (bc := bc) (bs := bs) (stk := x2 :: x1 :: .ref a :: st) hd hok hM hci hcn hs rfl rfl hw htb kx kk ha
  rwa [Nat.zero_add, Nat.zero_add] at this
theorem ms_callVx2 {x1 x2 : Value} {idx a ci : Nat} {r : vw_C} {bc1 bs1 bc0 bs0 : Nat} {Pk : Option Value → mx_H → Prop} {PXk : String → mx_H → Prop} (hd : decode (mx_b μ) pc = .ok (.invokevirtual idx, 3)) (hok : mx_cvOK μ κ idx 2) (hM : mx_C S κ [.ref a, x1, x2] (f, sh, M, L, Rf) bc1 bs1 Pk PXk) (hc : bc1 + bc = bc0) (hbs : bs1 + bs = bs0) (hci : vwCl[ci]? = some r) (hcn : r.1 = (mx_y κ).cls) (hs : sh[a]? = some (ci + 3, r.2.2)) (hw : (st.map fun v => v.category).sum ≤ 8) (htb : mx_tb μ = []) (kx : ∀ E h', PXk E h' → PX E h') (kk : ∀ v h', Pk v h' → mx_E S μ (pc + 3) ls (v.toList ++ st) h' bc bs P PX) (ha : a < 1000 := by first | decide | omega) : mx_E S μ pc ls (x2 :: x1 :: .ref a :: st) (f, sh, M, L, Rf) bc0 bs0 P PX := by
  subst hc
  subst hbs
  exact ms_callV hd hok hM hci hcn hs rfl rfl hw htb kx kk ha
theorem ms_callI2 {x1 x2 : Value} {idx a bc1 bs1 bc0 bs0 : Nat} {Pk : Option Value → mx_H → Prop} (hd : decode (mx_b μ) pc = .ok (.invokespecial idx, 3)) (hok : mx_ciOK μ κ idx 2) (hM : mx_C S κ [.ref a, x1, x2] h bc1 bs1 Pk (fun _ _ => False)) (hc : bc1 + bc = bc0) (hbs : bs1 + bs = bs0) (hw : (st.map fun v => v.category).sum ≤ 8) (kk : ∀ v h', Pk v h' → mx_E S μ (pc + 3) ls (v.toList ++ st) h' bc bs P PX) (ha : a < 1000 := by first | decide | omega) : mx_E S μ pc ls (x2 :: x1 :: .ref a :: st) h bc0 bs0 P PX := by
  subst hc
  subst hbs
  exact ms_callI hd hok hM rfl rfl hw kk ha
theorem ms_callS3 {x1 x2 x3 : Value} {idx : Nat} {Pk : Option Value → mx_H → Prop} {PXk : String → mx_H → Prop} (hd : decode (mx_b μ) pc = .ok (.invokestatic idx, 3)) (hok : mx_ctOK μ κ idx 3) (hM : mx_C S κ [x1, x2, x3] h 0 0 Pk PXk) (hw : (st.map fun v => v.category).sum ≤ 8) (htb : mx_tb μ = []) (kx : ∀ E h', PXk E h' → PX E h') (kk : ∀ v h', Pk v h' → mx_E S μ (pc + 3) ls (v.toList ++ st) h' bc bs P PX) : mx_E S μ pc ls (x3 :: x2 :: x1 :: st) h bc bs P PX := by
  have := ms_callS (bc := bc) (bs := bs) (stk := x3 :: x2 :: x1 :: st) hd hok hM rfl rfl hw htb kx kk
  rwa [Nat.zero_add, Nat.zero_add] at this
theorem ms_callSx3 {x1 x2 x3 : Value} {idx bc1 bs1 bc0 bs0 : Nat} {Pk : Option Value → mx_H → Prop} {PXk : String → mx_H → Prop} (hd : decode (mx_b μ) pc = .ok (.invokestatic idx, 3)) (hok : mx_ctOK μ κ idx 3) (hM : mx_C S κ [x1, x2, x3] h bc1 bs1 Pk PXk) (hc : bc1 + bc = bc0) (hs : bs1 + bs = bs0) (hw : (st.map fun v => v.category).sum ≤ 8) (htb : mx_tb μ = []) (kx : ∀ E h', PXk E h' → PX E h') (kk : ∀ v h', Pk v h' → mx_E S μ (pc + 3) ls (v.toList ++ st) h' bc bs P PX) : mx_E S μ pc ls (x3 :: x2 :: x1 :: st) h bc0 bs0 P PX := by
  subst hc
  subst hs
  exact ms_callS hd hok hM rfl rfl hw htb kx kk
theorem ms_callV3 {x1 x2 x3 : Value} {idx a ci : Nat} {r : vw_C} {Pk : Option Value → mx_H → Prop} {PXk : String → mx_H → Prop} (hd : decode (mx_b μ) pc = .ok (.invokevirtual idx, 3)) (hok : mx_cvOK μ κ idx 3) (hM : mx_C S κ [.ref a, x1, x2, x3] (f, sh, M, L, Rf) 0 0 Pk PXk) (hci : vwCl[ci]? = some r) (hcn : r.1 = (mx_y κ).cls) (hs : sh[a]? = some (ci + 3, r.2.2)) (hw : (st.map fun v => v.category).sum ≤ 8) (htb : mx_tb μ = []) (kx : ∀ E h', PXk E h' → PX E h') (kk : ∀ v h', Pk v h' → mx_E S μ (pc + 3) ls (v.toList ++ st) h' bc bs P PX) (ha : a < 1000 := by first | decide | omega) : mx_E S μ pc ls (x3 :: x2 :: x1 :: .ref a :: st) (f, sh, M, L, Rf) bc bs P PX := by
  have := ms_callV (bc := bc) (bs := bs) (stk := x3 :: x2 :: x1 :: .ref a :: st) hd hok hM hci hcn hs rfl rfl hw htb kx kk ha
  rwa [Nat.zero_add, Nat.zero_add] at this
theorem ms_callVx3 {x1 x2 x3 : Value} {idx a ci : Nat} {r : vw_C} {bc1 bs1 bc0 bs0 : Nat} {Pk : Option Value → mx_H → Prop} {PXk : String → mx_H → Prop} (hd : decode (mx_b μ) pc = .ok (.invokevirtual idx, 3)) (hok : mx_cvOK μ κ idx 3) (hM : mx_C S κ [.ref a, x1, x2, x3] (f, sh, M, L, Rf) bc1 bs1 Pk PXk) (hc : bc1 + bc = bc0) (hbs : bs1 + bs = bs0) (hci : vwCl[ci]? = some r) (hcn : r.1 = (mx_y κ).cls) (hs : sh[a]? = some (ci + 3, r.2.2)) (hw : (st.map fun v => v.category).sum ≤ 8) (htb : mx_tb μ = []) (kx : ∀ E h', PXk E h' → PX E h') (kk : ∀ v h', Pk v h' → mx_E S μ (pc + 3) ls (v.toList ++ st) h' bc bs P PX) (ha : a < 1000 := by first | decide | omega) : mx_E S μ pc ls (x3 :: x2 :: x1 :: .ref a :: st) (f, sh, M, L, Rf) bc0 bs0 P PX := by
  subst hc
  subst hbs
  exact ms_callV hd hok hM hci hcn hs rfl rfl hw htb kx kk ha
theorem ms_callI3 {x1 x2 x3 : Value} {idx a bc1 bs1 bc0 bs0 : Nat} {Pk : Option Value → mx_H → Prop} (hd : decode (mx_b μ) pc = .ok (.invokespecial idx, 3)) (hok : mx_ciOK μ κ idx 3) (hM : mx_C S κ [.ref a, x1, x2, x3] h bc1 bs1 Pk (fun _ _ => False)) (hc : bc1 + bc = bc0) (hbs : bs1 + bs = bs0) (hw : (st.map fun v => v.category).sum ≤ 8) (kk : ∀ v h', Pk v h' → mx_E S μ (pc + 3) ls (v.toList ++ st) h' bc bs P PX) (ha : a < 1000 := by first | decide | omega) : mx_E S μ pc ls (x3 :: x2 :: x1 :: .ref a :: st) h bc0 bs0 P PX := by
  subst hc
  subst hbs
  exact ms_callI hd hok hM rfl rfl hw kk ha
theorem ms_callS4 {x1 x2 x3 x4 : Value} {idx : Nat} {Pk : Option Value → mx_H → Prop} {PXk : String → mx_H → Prop} (hd : decode (mx_b μ) pc = .ok (.invokestatic idx, 3)) (hok : mx_ctOK μ κ idx 4) (hM : mx_C S κ [x1, x2, x3, x4] h 0 0 Pk PXk) (hw : (st.map fun v => v.category).sum ≤ 8) (htb : mx_tb μ = []) (kx : ∀ E h', PXk E h' → PX E h') (kk : ∀ v h', Pk v h' → mx_E S μ (pc + 3) ls (v.toList ++ st) h' bc bs P PX) : mx_E S μ pc ls (x4 :: x3 :: x2 :: x1 :: st) h bc bs P PX := by
  have := ms_callS (bc := bc) (bs := bs) (stk := x4 :: x3 :: x2 :: x1 :: st) hd hok hM rfl rfl hw htb kx kk
  rwa [Nat.zero_add, Nat.zero_add] at this
theorem ms_callSx4 {x1 x2 x3 x4 : Value} {idx bc1 bs1 bc0 bs0 : Nat} {Pk : Option Value → mx_H → Prop} {PXk : String → mx_H → Prop} (hd : decode (mx_b μ) pc = .ok (.invokestatic idx, 3)) (hok : mx_ctOK μ κ idx 4) (hM : mx_C S κ [x1, x2, x3, x4] h bc1 bs1 Pk PXk) (hc : bc1 + bc = bc0) (hs : bs1 + bs = bs0) (hw : (st.map fun v => v.category).sum ≤ 8) (htb : mx_tb μ = []) (kx : ∀ E h', PXk E h' → PX E h') (kk : ∀ v h', Pk v h' → mx_E S μ (pc + 3) ls (v.toList ++ st) h' bc bs P PX) : mx_E S μ pc ls (x4 :: x3 :: x2 :: x1 :: st) h bc0 bs0 P PX := by
  subst hc
  subst hs
  exact ms_callS hd hok hM rfl rfl hw htb kx kk
theorem ms_callV4 {x1 x2 x3 x4 : Value} {idx a ci : Nat} {r : vw_C} {Pk : Option Value → mx_H → Prop} {PXk : String → mx_H → Prop} (hd : decode (mx_b μ) pc = .ok (.invokevirtual idx, 3)) (hok : mx_cvOK μ κ idx 4) (hM : mx_C S κ [.ref a, x1, x2, x3, x4] (f, sh, M, L, Rf) 0 0 Pk PXk) (hci : vwCl[ci]? = some r) (hcn : r.1 = (mx_y κ).cls) (hs : sh[a]? = some (ci + 3, r.2.2)) (hw : (st.map fun v => v.category).sum ≤ 8) (htb : mx_tb μ = []) (kx : ∀ E h', PXk E h' → PX E h') (kk : ∀ v h', Pk v h' → mx_E S μ (pc + 3) ls (v.toList ++ st) h' bc bs P PX) (ha : a < 1000 := by first | decide | omega) : mx_E S μ pc ls (x4 :: x3 :: x2 :: x1 :: .ref a :: st) (f, sh, M, L, Rf) bc bs P PX := by
  have := ms_callV (bc := bc) (bs := bs) (stk := x4 :: x3 :: x2 :: x1 :: .ref a :: st) hd hok hM hci hcn hs rfl rfl hw htb kx kk ha
  rwa [Nat.zero_add, Nat.zero_add] at this
theorem ms_callVx4 {x1 x2 x3 x4 : Value} {idx a ci : Nat} {r : vw_C} {bc1 bs1 bc0 bs0 : Nat} {Pk : Option Value → mx_H → Prop} {PXk : String → mx_H → Prop} (hd : decode (mx_b μ) pc = .ok (.invokevirtual idx, 3)) (hok : mx_cvOK μ κ idx 4) (hM : mx_C S κ [.ref a, x1, x2, x3, x4] (f, sh, M, L, Rf) bc1 bs1 Pk PXk) (hc : bc1 + bc = bc0) (hbs : bs1 + bs = bs0) (hci : vwCl[ci]? = some r) (hcn : r.1 = (mx_y κ).cls) (hs : sh[a]? = some (ci + 3, r.2.2)) (hw : (st.map fun v => v.category).sum ≤ 8) (htb : mx_tb μ = []) (kx : ∀ E h', PXk E h' → PX E h') (kk : ∀ v h', Pk v h' → mx_E S μ (pc + 3) ls (v.toList ++ st) h' bc bs P PX) (ha : a < 1000 := by first | decide | omega) : mx_E S μ pc ls (x4 :: x3 :: x2 :: x1 :: .ref a :: st) (f, sh, M, L, Rf) bc0 bs0 P PX := by
  subst hc
  subst hbs
  exact ms_callV hd hok hM hci hcn hs rfl rfl hw htb kx kk ha
theorem ms_callI4 {x1 x2 x3 x4 : Value} {idx a bc1 bs1 bc0 bs0 : Nat} {Pk : Option Value → mx_H → Prop} (hd : decode (mx_b μ) pc = .ok (.invokespecial idx, 3)) (hok : mx_ciOK μ κ idx 4) (hM : mx_C S κ [.ref a, x1, x2, x3, x4] h bc1 bs1 Pk (fun _ _ => False)) (hc : bc1 + bc = bc0) (hbs : bs1 + bs = bs0) (hw : (st.map fun v => v.category).sum ≤ 8) (kk : ∀ v h', Pk v h' → mx_E S μ (pc + 3) ls (v.toList ++ st) h' bc bs P PX) (ha : a < 1000 := by first | decide | omega) : mx_E S μ pc ls (x4 :: x3 :: x2 :: x1 :: .ref a :: st) h bc0 bs0 P PX := by
  subst hc
  subst hbs
  exact ms_callI hd hok hM rfl rfl hw kk ha
theorem ms_callS5 {x1 x2 x3 x4 x5 : Value} {idx : Nat} {Pk : Option Value → mx_H → Prop} {PXk : String → mx_H → Prop} (hd : decode (mx_b μ) pc = .ok (.invokestatic idx, 3)) (hok : mx_ctOK μ κ idx 5) (hM : mx_C S κ [x1, x2, x3, x4, x5] h 0 0 Pk PXk) (hw : (st.map fun v => v.category).sum ≤ 8) (htb : mx_tb μ = []) (kx : ∀ E h', PXk E h' → PX E h') (kk : ∀ v h', Pk v h' → mx_E S μ (pc + 3) ls (v.toList ++ st) h' bc bs P PX) : mx_E S μ pc ls (x5 :: x4 :: x3 :: x2 :: x1 :: st) h bc bs P PX := by
  have := ms_callS (bc := bc) (bs := bs) (stk := x5 :: x4 :: x3 :: x2 :: x1 :: st) hd hok hM rfl rfl hw htb kx kk
  rwa [Nat.zero_add, Nat.zero_add] at this
theorem ms_callSx5 {x1 x2 x3 x4 x5 : Value} {idx bc1 bs1 bc0 bs0 : Nat} {Pk : Option Value → mx_H → Prop} {PXk : String → mx_H → Prop} (hd : decode (mx_b μ) pc = .ok (.invokestatic idx, 3)) (hok : mx_ctOK μ κ idx 5) (hM : mx_C S κ [x1, x2, x3, x4, x5] h bc1 bs1 Pk PXk) (hc : bc1 + bc = bc0) (hs : bs1 + bs = bs0) (hw : (st.map fun v => v.category).sum ≤ 8) (htb : mx_tb μ = []) (kx : ∀ E h', PXk E h' → PX E h') (kk : ∀ v h', Pk v h' → mx_E S μ (pc + 3) ls (v.toList ++ st) h' bc bs P PX) : mx_E S μ pc ls (x5 :: x4 :: x3 :: x2 :: x1 :: st) h bc0 bs0 P PX := by
  subst hc
  subst hs
  exact ms_callS hd hok hM rfl rfl hw htb kx kk
theorem ms_callV5 {x1 x2 x3 x4 x5 : Value} {idx a ci : Nat} {r : vw_C} {Pk : Option Value → mx_H → Prop} {PXk : String → mx_H → Prop} (hd : decode (mx_b μ) pc = .ok (.invokevirtual idx, 3)) (hok : mx_cvOK μ κ idx 5) (hM : mx_C S κ [.ref a, x1, x2, x3, x4, x5] (f, sh, M, L, Rf) 0 0 Pk PXk) (hci : vwCl[ci]? = some r) (hcn : r.1 = (mx_y κ).cls) (hs : sh[a]? = some (ci + 3, r.2.2)) (hw : (st.map fun v => v.category).sum ≤ 8) (htb : mx_tb μ = []) (kx : ∀ E h', PXk E h' → PX E h') (kk : ∀ v h', Pk v h' → mx_E S μ (pc + 3) ls (v.toList ++ st) h' bc bs P PX) (ha : a < 1000 := by first | decide | omega) : mx_E S μ pc ls (x5 :: x4 :: x3 :: x2 :: x1 :: .ref a :: st) (f, sh, M, L, Rf) bc bs P PX := by
  have := ms_callV (bc := bc) (bs := bs) (stk := x5 :: x4 :: x3 :: x2 :: x1 :: .ref a :: st) hd hok hM hci hcn hs rfl rfl hw htb kx kk ha
  rwa [Nat.zero_add, Nat.zero_add] at this
theorem ms_callVx5 {x1 x2 x3 x4 x5 : Value} {idx a ci : Nat} {r : vw_C} {bc1 bs1 bc0 bs0 : Nat} {Pk : Option Value → mx_H → Prop} {PXk : String → mx_H → Prop} (hd : decode (mx_b μ) pc = .ok (.invokevirtual idx, 3)) (hok : mx_cvOK μ κ idx 5) (hM : mx_C S κ [.ref a, x1, x2, x3, x4, x5] (f, sh, M, L, Rf) bc1 bs1 Pk PXk) (hc : bc1 + bc = bc0) (hbs : bs1 + bs = bs0) (hci : vwCl[ci]? = some r) (hcn : r.1 = (mx_y κ).cls) (hs : sh[a]? = some (ci + 3, r.2.2)) (hw : (st.map fun v => v.category).sum ≤ 8) (htb : mx_tb μ = []) (kx : ∀ E h', PXk E h' → PX E h') (kk : ∀ v h', Pk v h' → mx_E S μ (pc + 3) ls (v.toList ++ st) h' bc bs P PX) (ha : a < 1000 := by first | decide | omega) : mx_E S μ pc ls (x5 :: x4 :: x3 :: x2 :: x1 :: .ref a :: st) (f, sh, M, L, Rf) bc0 bs0 P PX := by
  subst hc
  subst hbs
  exact ms_callV hd hok hM hci hcn hs rfl rfl hw htb kx kk ha
theorem ms_callI5 {x1 x2 x3 x4 x5 : Value} {idx a bc1 bs1 bc0 bs0 : Nat} {Pk : Option Value → mx_H → Prop} (hd : decode (mx_b μ) pc = .ok (.invokespecial idx, 3)) (hok : mx_ciOK μ κ idx 5) (hM : mx_C S κ [.ref a, x1, x2, x3, x4, x5] h bc1 bs1 Pk (fun _ _ => False)) (hc : bc1 + bc = bc0) (hbs : bs1 + bs = bs0) (hw : (st.map fun v => v.category).sum ≤ 8) (kk : ∀ v h', Pk v h' → mx_E S μ (pc + 3) ls (v.toList ++ st) h' bc bs P PX) (ha : a < 1000 := by first | decide | omega) : mx_E S μ pc ls (x5 :: x4 :: x3 :: x2 :: x1 :: .ref a :: st) h bc0 bs0 P PX := by
  subst hc
  subst hbs
  exact ms_callI hd hok hM rfl rfl hw kk ha
theorem ms_callS6 {x1 x2 x3 x4 x5 x6 : Value} {idx : Nat} {Pk : Option Value → mx_H → Prop} {PXk : String → mx_H → Prop} (hd : decode (mx_b μ) pc = .ok (.invokestatic idx, 3)) (hok : mx_ctOK μ κ idx 6) (hM : mx_C S κ [x1, x2, x3, x4, x5, x6] h 0 0 Pk PXk) (hw : (st.map fun v => v.category).sum ≤ 8) (htb : mx_tb μ = []) (kx : ∀ E h', PXk E h' → PX E h') (kk : ∀ v h', Pk v h' → mx_E S μ (pc + 3) ls (v.toList ++ st) h' bc bs P PX) : mx_E S μ pc ls (x6 :: x5 :: x4 :: x3 :: x2 :: x1 :: st) h bc bs P PX := by
  have := ms_callS (bc := bc) (bs := bs) (stk := x6 :: x5 :: x4 :: x3 :: x2 :: x1 :: st) hd hok hM rfl rfl hw htb kx kk
  rwa [Nat.zero_add, Nat.zero_add] at this
theorem ms_callSx6 {x1 x2 x3 x4 x5 x6 : Value} {idx bc1 bs1 bc0 bs0 : Nat} {Pk : Option Value → mx_H → Prop} {PXk : String → mx_H → Prop} (hd : decode (mx_b μ) pc = .ok (.invokestatic idx, 3)) (hok : mx_ctOK μ κ idx 6) (hM : mx_C S κ [x1, x2, x3, x4, x5, x6] h bc1 bs1 Pk PXk) (hc : bc1 + bc = bc0) (hs : bs1 + bs = bs0) (hw : (st.map fun v => v.category).sum ≤ 8) (htb : mx_tb μ = []) (kx : ∀ E h', PXk E h' → PX E h') (kk : ∀ v h', Pk v h' → mx_E S μ (pc + 3) ls (v.toList ++ st) h' bc bs P PX) : mx_E S μ pc ls (x6 :: x5 :: x4 :: x3 :: x2 :: x1 :: st) h bc0 bs0 P PX := by
  subst hc
  subst hs
  exact ms_callS hd hok hM rfl rfl hw htb kx kk
theorem ms_callV6 {x1 x2 x3 x4 x5 x6 : Value} {idx a ci : Nat} {r : vw_C} {Pk : Option Value → mx_H → Prop} {PXk : String → mx_H → Prop} (hd : decode (mx_b μ) pc = .ok (.invokevirtual idx, 3)) (hok : mx_cvOK μ κ idx 6) (hM : mx_C S κ [.ref a, x1, x2, x3, x4, x5, x6] (f, sh, M, L, Rf) 0 0 Pk PXk) (hci : vwCl[ci]? = some r) (hcn : r.1 = (mx_y κ).cls) (hs : sh[a]? = some (ci + 3, r.2.2)) (hw : (st.map fun v => v.category).sum ≤ 8) (htb : mx_tb μ = []) (kx : ∀ E h', PXk E h' → PX E h') (kk : ∀ v h', Pk v h' → mx_E S μ (pc + 3) ls (v.toList ++ st) h' bc bs P PX) (ha : a < 1000 := by first | decide | omega) : mx_E S μ pc ls (x6 :: x5 :: x4 :: x3 :: x2 :: x1 :: .ref a :: st) (f, sh, M, L, Rf) bc bs P PX := by
  have := ms_callV (bc := bc) (bs := bs) (stk := x6 :: x5 :: x4 :: x3 :: x2 :: x1 :: .ref a :: st) hd hok hM hci hcn hs rfl rfl hw htb kx kk ha
  rwa [Nat.zero_add, Nat.zero_add] at this
theorem ms_callVx6 {x1 x2 x3 x4 x5 x6 : Value} {idx a ci : Nat} {r : vw_C} {bc1 bs1 bc0 bs0 : Nat} {Pk : Option Value → mx_H → Prop} {PXk : String → mx_H → Prop} (hd : decode (mx_b μ) pc = .ok (.invokevirtual idx, 3)) (hok : mx_cvOK μ κ idx 6) (hM : mx_C S κ [.ref a, x1, x2, x3, x4, x5, x6] (f, sh, M, L, Rf) bc1 bs1 Pk PXk) (hc : bc1 + bc = bc0) (hbs : bs1 + bs = bs0) (hci : vwCl[ci]? = some r) (hcn : r.1 = (mx_y κ).cls) (hs : sh[a]? = some (ci + 3, r.2.2)) (hw : (st.map fun v => v.category).sum ≤ 8) (htb : mx_tb μ = []) (kx : ∀ E h', PXk E h' → PX E h') (kk : ∀ v h', Pk v h' → mx_E S μ (pc + 3) ls (v.toList ++ st) h' bc bs P PX) (ha : a < 1000 := by first | decide | omega) : mx_E S μ pc ls (x6 :: x5 :: x4 :: x3 :: x2 :: x1 :: .ref a :: st) (f, sh, M, L, Rf) bc0 bs0 P PX := by
  subst hc
  subst hbs
  exact ms_callV hd hok hM hci hcn hs rfl rfl hw htb kx kk ha
theorem ms_callI6 {x1 x2 x3 x4 x5 x6 : Value} {idx a bc1 bs1 bc0 bs0 : Nat} {Pk : Option Value → mx_H → Prop} (hd : decode (mx_b μ) pc = .ok (.invokespecial idx, 3)) (hok : mx_ciOK μ κ idx 6) (hM : mx_C S κ [.ref a, x1, x2, x3, x4, x5, x6] h bc1 bs1 Pk (fun _ _ => False)) (hc : bc1 + bc = bc0) (hbs : bs1 + bs = bs0) (hw : (st.map fun v => v.category).sum ≤ 8) (kk : ∀ v h', Pk v h' → mx_E S μ (pc + 3) ls (v.toList ++ st) h' bc bs P PX) (ha : a < 1000 := by first | decide | omega) : mx_E S μ pc ls (x6 :: x5 :: x4 :: x3 :: x2 :: x1 :: .ref a :: st) h bc0 bs0 P PX := by
  subst hc
  subst hbs
  exact ms_callI hd hok hM rfl rfl hw kk ha
theorem bI_dec (p : Prop) [Decidable p] : bI (decide p) = if p then 1 else 0 := by by_cases h : p <;> simp [bI, h]
theorem bI_z (b : Bool) : iI (bI b) = 0 ∨ iI (bI b) = 1 := by cases b; exact Or.inl rfl; exact Or.inr rfl
end MXN
