/-! the small judgement: a method's walk with all parameters of the machine out of sight -/
/-- an int by a whole number -/
def iI (z : Int) : Int32 := Int32.ofInt z
/-- a row with one place changed -/
def iu (f : Int → Int) (k v : Int) : Int → Int := fun j => if j = k then v else f j
abbrev mx_H : Type := Bool × List (Nat × Nat) × (Nat → Int → Int) × (Nat → Nat → Int64) × (Nat → Nat → Option Nat)
/-- where the program's own cells begin; where the things lie that were there before; the script -/
abbrev mx_X : Type := Nat × (Nat → Nat) × Nat × (Nat → Int32)
abbrev mx_Sc : Type := Nat × (Nat → Int32)
abbrev mx_Cs : Type := ClassId × ClassId × ClassId
/-- a method: name, bytes, locals, what it returns, frames, words, table -/
abbrev mx_M : Type := MethodName × ByteArray × Nat × Option FieldType × Nat × Nat × List (Nat × Nat × Nat × Nat)
abbrev mx_y (μ : mx_M) : MethodName := μ.1
abbrev mx_b (μ : mx_M) : ByteArray := μ.2.1
abbrev mx_nl (μ : mx_M) : Nat := μ.2.2.1
abbrev mx_rt (μ : mx_M) : Option FieldType := μ.2.2.2.1
abbrev mx_fr (μ : mx_M) : Nat := μ.2.2.2.2.1
abbrev mx_lo (μ : mx_M) : Nat := μ.2.2.2.2.2.1
abbrev mx_tb (μ : mx_M) : List (Nat × Nat × Nat × Nat) := μ.2.2.2.2.2.2
def mx_ad (X : mx_X) (k : Nat) : Nat := if k < 1000 then X.1 + k else X.2.1 (k - 1000)
def mx_v (X : mx_X) (v : Value) : Value := match v with
  | .ref k => .ref (mx_ad X k)
  | .int x => .int x
  | .long x => .long x
  | .float x => .float x
  | .double x => .double x
  | .null => .null
  | .retAddr x => .retAddr x
theorem mx_v_cat (X : mx_X) (v : Value) : (mx_v X v).category = v.category := by cases v <;> rfl
def mx_ty (c k : Nat) : FieldType := match c with
  | 0 => tyX0 k
  | 1 => tyX1 k
  | 2 => tyX2 k
  | 3 => tyX3 k
  | 4 => tyX4 k
  | 5 => tyX5 k
  | 6 => tyX6 k
  | _ => tyX7 k
def mx_isI (t : FieldType) : Bool := match t with
  | .int => true
  | .boolean => true
  | _ => false
def mx_fv (X : mx_X) (c : Nat) (h : mx_H) (a i : Nat) : Value := if mx_isI (mx_ty c i) = true then .int (iI (h.2.2.1 a (i : Int))) else va_rf ((h.2.2.2.2 a i).map (mx_ad X))
def mx_cell (X : mx_X) (C : mx_Cs) (h : mx_H) (k : Nat) (q : Nat × Nat) : va_E := match q.1 with
  | 0 => .inl (C.1, q.2, .inl (fun j => iI (h.2.2.1 k (j : Int))))
  | 1 => .inl (C.2.1, q.2, .inr (.inl (h.2.2.2.1 k)))
  | 2 => .inl (C.2.2, q.2, .inr (.inr (.inr (.inr (fun i => (h.2.2.2.2 k i).map (mx_ad X))))))
  | c + 3 => .inr (c, (List.range q.2).map (mx_fv X c h k))
def mx_w (X : mx_X) (C : mx_Cs) (h : mx_H) : va_W := h.2.1.mapIdx (fun k q => (X.1 + k, mx_cell X C h k q))
theorem mx_w_at {X : mx_X} {C : mx_Cs} {h : mx_H} {k : Nat} {q : Nat × Nat} (hk : h.2.1[k]? = some q) : (mx_w X C h)[k]? = some (X.1 + k, mx_cell X C h k q) := by
  simp [mx_w, hk]
theorem mx_w_of {X : mx_X} {C : mx_Cs} {h : mx_H} {k : Nat} {z : Nat × va_E} (hk : (mx_w X C h)[k]? = some z) : z.1 = X.1 + k := by
  simp only [mx_w, List.getElem?_mapIdx, Option.map_eq_some_iff] at hk
  obtain ⟨q, -, rfl⟩ := hk
  rfl
def mx_A (X : mx_X) : Nat → Prop := fun q => X.1 ≤ q
theorem mx_w_D (X : mx_X) (C : mx_Cs) (h : mx_H) : va_D (mx_A X) (mx_w X C h) := by
  refine ⟨fun i j p q hi hj e => ?_, fun k q hk => ?_⟩
  · have e1 := mx_w_of hi
    have e2 := mx_w_of hj
    omega
  · have e1 := mx_w_of hk
    show X.1 ≤ q.1
    omega
/-- the heap holds h -/
def mx_R (X : mx_X) (C : mx_Cs) (D : va_G) (h : mx_H) (H : Heap) : Prop := va_P D vwCl (mx_w X C h) H ∧ (h.1 = true → H.size = X.1 + h.2.1.length) ∧ X.1 ≤ H.size
theorem mx_bok_warm {w : Cond} (g : mx_bok w = true) {s U : State} (hW : s.WarmedH U.vm) (h : va_Nw w s) : va_Nw w U := by
  cases w <;> first | (exact va_Nw.warmM hW h) | (exact va_Nw.warmC hW h) | (exact va_Nw.warmD hW h) | (cases g)
theorem mx_bok_tab {w : Cond} (g : mx_bok w = true) : w.onTables = true := by
  cases w <;> first | rfl | (cases g)
abbrev mx_tys (C : mx_Cs) : List (ClassId × FieldType) := [(C.1, .int), (C.2.1, .long), (C.2.2, .object "java/lang/String")]
/-- what the one static row holds -/
def mx_dn (j : Nat) : Int32 := ([-1, 1, 2, 3, 5, 6, 7] : List Int32).getD j 0
/-- the String constants: owner, place, text -/
def mx_st : List (String × Nat × String) := [("LampValley$Reader", 89, "plain shy bold drunk widow full likes step near fright easter fog "), ("LampValleyModel", 9, "plain"), ("LampValleyModel", 11, "shy"), ("LampValleyModel", 13, "bold"), ("LampValleyModel", 15, "drunk"), ("LampValleyModel", 17, "widow"), ("LampValleyModel", 25, "step"), ("LampValleyModel", 27, "near"), ("LampValleyModel", 29, "fright"), ("LampValleyModel", 31, "easter"), ("LampValleyModel", 217, "full"), ("LampValleyModel", 226, "likes"), ("LampValleyModel", 230, "fog")]
def mx_sl : List Nat := [66, 5, 3, 4, 5, 5, 4, 4, 6, 6, 4, 5, 3]
def mx_sb : List (List Int32) := [[112, 108, 97, 105, 110, 32, 115, 104, 121, 32, 98, 111, 108, 100, 32, 100, 114, 117, 110, 107, 32, 119, 105, 100, 111, 119, 32, 102, 117, 108, 108, 32, 108, 105, 107, 101, 115, 32, 115, 116, 101, 112, 32, 110, 101, 97, 114, 32, 102, 114, 105, 103, 104, 116, 32, 101, 97, 115, 116, 101, 114, 32, 102, 111, 103, 32], [112, 108, 97, 105, 110], [115, 104, 121], [98, 111, 108, 100], [100, 114, 117, 110, 107], [119, 105, 100, 111, 119], [115, 116, 101, 112], [110, 101, 97, 114], [102, 114, 105, 103, 104, 116], [101, 97, 115, 116, 101, 114], [102, 117, 108, 108], [108, 105, 107, 101, 115], [102, 111, 103]]
/-- what is known of the tables and of what lies outside the program's own cells -/
def mx_K (S : mx_Sc) (X : mx_X) (C : mx_Cs) (D : va_G) (U : State) (H : Heap) : Prop :=
  va_K D vwCl (mx_tys C) U ∧ (∀ w ∈ mx_Bd, va_Nw w U) ∧ va_AO "java/lang/String" U ∧
  (vx_Zq Bundle.tN "UNASSIGNED_STACK" Bundle.steD (mx_A X) U H ∧ vx_Zq Bundle.tN "SUPPRESSED_SENTINEL" Bundle.listD (mx_A X) U H) ∧
  (va_Z "LampValley$Council" "DROP_NUMBERS" "[I" (.ref (X.2.1 14)) (mx_A X) U H ∧ va_T .int (X.2.1 14) 7 (fun j => .int (mx_dn j)) (mx_A X) U H) ∧
  (va_Z "java/lang/String" "COMPACT_STRINGS" "Z" (.int 1) (mx_A X) U H ∧ (va_Z "jdk/internal/util/Preconditions" "SIOOBE_FORMATTER" "Ljava/util/function/BiFunction;" .null (mx_A X) U H ∨ va_Z "jdk/internal/util/Preconditions" "SIOOBE_FORMATTER" "Ljava/util/function/BiFunction;" (.ref (X.2.1 100)) (mx_A X) U H)) ∧
  (vk_S 13 mx_sl mx_sb (fun i => X.2.1 (1 + i)) (fun i => X.2.1 (51 + i)) (mx_A X) U H ∧ ∀ (i : Nat) (q : String × Nat × String), mx_st[i]? = some q → vk_R q.1 q.2.1 q.2.2 (X.2.1 (1 + i)) U) ∧
  (va_X (X.2.1 0) X.2.2.1 X.2.2.2 U H ∧ X.2.1 0 < X.1 ∧ X.1 ≤ H.size ∧ X.2.2.1 ≤ 3072 ∧ X.2.2 = S ∧ va_Nc "java/lang/IllegalArgumentException" "java/util/NoSuchElementException" U)
theorem mx_K.go {S : mx_Sc} {X : mx_X} {C : mx_Cs} {D : va_G} {s U : State} {H H1 : Heap} (h : mx_K S X C D s H) (hW : s.WarmedH U.vm) (hz : H.size ≤ H1.size) (hq : ∀ a : Nat, a < H.size → ¬ mx_A X a → H1[a]? = H[a]?) : mx_K S X C D U H1 := by
  obtain ⟨h1, h2, h3, ⟨h4, h5⟩, ⟨h6, h7⟩, ⟨h8, h9⟩, ⟨h10, h11⟩, ⟨h12, h13, h14, h15, h16, h17⟩⟩ := h
  have ha := hW.alike
  refine ⟨va_K.moved ha h1, fun w hw => mx_bok_warm (List.mem_filter.mp hw).2 hW (h2 w hw), va_AO.moved ha h3, ⟨(h4.moved ha).kept hq, (h5.moved ha).kept hq⟩, ⟨(h6.moved ha).kept hq, (h7.moved ha).kept hq⟩, ⟨(h8.moved ha).kept hq, ?_⟩, ⟨(h10.moved ha).kept hq, fun i q hi => (h11 i q hi).warm hW⟩, ⟨(h12.moved ha).kept (hq _ (by omega) (by show ¬ X.1 ≤ _; omega)), h13, by omega, h15, h16, h17.moved ha⟩⟩
  rcases h9 with h9 | h9
  · exact Or.inl ((h9.moved ha).kept hq)
  · exact Or.inr ((h9.moved ha).kept hq)
/-- the same tables, the same heap -/
theorem mx_K.same {S : mx_Sc} {X : mx_X} {C : mx_Cs} {D : va_G} {s U : State} {H : Heap} (h : mx_K S X C D s H) (hv : U.vm = s.vm) : mx_K S X C D U H := by
  obtain ⟨h1, h2, h3, ⟨h4, h5⟩, ⟨h6, h7⟩, ⟨h8, h9⟩, ⟨h10, h11⟩, ⟨h12, h13, h14, h15, h16, h17⟩⟩ := h
  have ha : s.vm.Alike U.vm := by rw [hv]; exact Vm.Alike.refl _
  refine ⟨va_K.moved ha h1, fun w hw => va_Nw.same (mx_bok_tab (List.mem_filter.mp hw).2) hv.symm (h2 w hw), va_AO.moved ha h3, ⟨h4.moved ha, h5.moved ha⟩, ⟨h6.moved ha, h7.moved ha⟩, ⟨h8.moved ha, ?_⟩, ⟨h10.moved ha, fun i q hi => (h11 i q hi).same hv⟩, ⟨h12.moved ha, h13, h14, h15, h16, h17.moved ha⟩⟩
  rcases h9 with h9 | h9
  · exact Or.inl (h9.moved ha)
  · exact Or.inr (h9.moved ha)
/-- the locals -/
def mx_L (X : mx_X) (nL : Nat) (lc : Array Slot) (ls : List (Option Value)) : Prop := lc.size = nL ∧ lv_wf lc ∧ ∀ (i : Nat) (v : Value), ls[i]? = some (some v) → lc[i]? = some (Slot.val (mx_v X v))
/-- what a walk stands on -/
def mx_I (S : mx_Sc) (μ : mx_M) (X : mx_X) (C : mx_Cs) (D : va_G) (p : Program) (l : Launch) (R : Room) (s : State) (m : MethodId) (args : Array Value) (meth : Method) (c : Code) : Prop :=
  p.tables.exec = Jvm.exec ∧ c.code = mx_b μ ∧ c.maxLocals = mx_nl μ ∧ s.vm.findClass (mx_y μ).cls = some m.cls ∧ (∀ w ∈ mx_T, w.before args s = true) ∧ meth.locks = false ∧ meth.sig.returnType = mx_rt μ ∧ meth.name = (mx_y μ).name ∧ c.exceptionTable.toList = tableOf (mx_tb μ) ∧
  l.stackTraces = false ∧ mx_K S X C D s s.heap ∧ mx_fr μ ≤ R.frames ∧ mx_lo μ ≤ R.locals
def mx_Qc (X : mx_X) (C : mx_Cs) (D : va_G) (f0 : Bool) (mc : Nat) (P : Option Value → mx_H → Prop) : Array Value → State → Outcome → State → Prop := fun _ st o t => (∃ v h, o = .returned (v.map (mx_v X)) ∧ P v h ∧ mx_R X C D h t.heap ∧ (h.1 = true → f0 = true ∧ st.heap.size + mc ≤ t.heap.size)) ∧ va_F (mx_A X) st t
def mx_XC (X : mx_X) (C : mx_Cs) (D : va_G) (PX : String → mx_H → Prop) : String → State → State → Prop := fun E st t => (∃ h, PX E h ∧ mx_R X C D h t.heap) ∧ va_F (mx_A X) st t
/-- from here, with at most bc cells of bs slots, the method comes to its end with P, or throws with PX -/
def mx_E (S : mx_Sc) (μ : mx_M) (pc : Nat) (ls : List (Option Value)) (st : List Value) (h : mx_H) (bc bs : Nat) (P : Option Value → mx_H → Prop) (PX : String → mx_H → Prop) : Prop :=
  ∀ (X : mx_X) (C : mx_Cs) (D : va_G) (p : Program) (l : Launch) (e : Env) (R : Room) (s : State) (m : MethodId) (args : Array Value) (below : List Frame) (meth : Method) (c : Code) (H : Heap) (locs : List Loc) (cells slots mc ms : Nat) (lc : Array Slot) (f0 : Bool),
    mx_I S μ X C D p l R s m args meth c → mx_L X (mx_nl μ) lc ls → mx_R X C D h H → va_S (mx_A X) s.heap H locs → cells + bc = mc → slots + bs = ms → mc ≤ R.cells → ms ≤ R.slots → (h.1 = true → f0 = true ∧ s.heap.size + cells ≤ H.size) →
    W p l e R s m args below meth c H locs cells slots (vx_MQ below (mx_Qc X C D f0 mc P) (mx_XC X C D PX) args s mc ms (mx_A X)) (F0 m pc lc (st.map (mx_v X)))
def mx_cw (μ : mx_M) : Cond := if mx_tb μ = [] then .code (mx_y μ) (mx_b μ) (mx_nl μ) (mx_rt μ) else .codeWith (mx_y μ) (mx_b μ) (mx_nl μ) (mx_rt μ) (mx_tb μ)
def mx_Pc (S : mx_Sc) (X : mx_X) (C : mx_Cs) (D : va_G) (av : List Value) (h : mx_H) : Array Value → State → Prop := fun a U => a = (av.map (mx_v X)).toArray ∧ mx_R X C D h U.heap ∧ mx_K S X C D U U.heap
/-- a method's contract: called with av over h it returns with P or throws with PX, with at most bc new cells of bs slots -/
def mx_C (S : mx_Sc) (μ : mx_M) (av : List Value) (h : mx_H) (bc bs : Nat) (P : Option Value → mx_H → Prop) (PX : String → mx_H → Prop) : Prop :=
  ∀ (X : mx_X) (C : mx_Cs) (D : va_G) (l : Launch), l.stackTraces = false → vx_Met l (mx_y μ) (mx_cw μ :: mx_T) ({ frames := mx_fr μ, cells := bc, slots := bs, locals := mx_lo μ } : Room) (mx_Pc S X C D av h) (mx_Qc X C D h.1 bc P) (mx_XC X C D PX) bc bs (mx_A X)
