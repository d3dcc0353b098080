def R_law : String := "LampValleyLaw"
def lw_P (b : Addr) (xs : List Int32) (args : Array Value) (s : State) : Prop := args = #[.ref b] ∧ s.IntsAt b xs ∧ xs.length ≤ 3072 ∧ (Jvm.Cond.and given_1 narrow_1).before args s = true
def lw_Q (_ : Array Value) (s : State) (o : Outcome) (t : State) : Prop := o = .returned (some (.int 1)) ∧ Framed s o t [] 1120 47806
def lw_Z (below : List Frame) (a : Array Value) (s : State) : State → Prop := fun t => ∃ o, t.status = .running ∧ Ended t below o ∧ lw_Q a s o t
def lw_At (p : Program) (s : State) (m : MethodId) (meth : Method) (c : Code) (b L : Nat) (xs : Nat → Int32) : Prop :=
  p.tables.exec = Jvm.exec ∧ c.code = code ∧ meth.sig.returnType = ret ∧ c.maxLocals = 7 ∧ s.vm.findClass R_law = some m.cls ∧ (∀ w ∈ lw_tbl, w.before #[Value.ref b] s = true) ∧ va_X b L xs s s.heap ∧ b < s.heap.size ∧ meth.locks = false ∧ (Jvm.Cond.and given_1 narrow_1).before #[Value.ref b] s = true
set_option maxHeartbeats 4000000 in
set_option maxRecDepth 100000 in
theorem e_L_law {S : mx_Sc} (hS : S.1 ≤ 3072) : mx_E S mL_law 0 ([Value.ref 1000].map some ++ List.replicate (7 - [Value.ref 1000].length) none) [] (true, mx_SH.take 0, zM, zL, rfL []) 594 42602 lwP (fun _ _ => False) := by
  show mx_E S mL_law 0 [some (.ref 1000), none, none, none, none, none, none] [] _ _ _ _ _
  refine ms_new_t 0 (bc := 593) (bs := 42587) dL_law_0 cl_6 nw_L_law_6 rfl rfl rfl rfl ?_
  refine ms_dup dL_law_3 rfl ?_
  refine ms_callI0 (bc := 546) (bs := 32558) dL_law_4 cv_L_law_X6_init (k_X6_init (M := zM) (L := zL) (fun _ => rfl)) rfl rfl (Nat.le_of_ble_eq_true rfl) (fun v9 h9 hp9 => ?_)
  obtain ⟨M, rfl, rfl, q1, q2, q3, q4, q5, q6, q7, q8, q9, q10⟩ := hp9
  refine ms_astore_n dL_law_7 (by decide) rfl ?_
  dsimp only [List.set, Nat.reduceAdd]
  refine ms_new_t 48 (bc := 545) (bs := 32510) dL_law_8 cl_7 nw_L_law_7 rfl (q1 48 (by decide) (by decide) (by decide) (by decide) (by decide) (by decide) (by decide) (by decide) (by decide)) (rfL_new 48 _ rfl) rfl ?_
  refine ms_dup dL_law_11 rfl ?_
  refine ms_callI0 (bc := 513) (bs := 3073) dL_law_12 cv_L_law_X7_init (k_X7_init (M := M) (fun x hx => q1 x (by omega) (by omega) (by omega) (by omega) (by omega) (by omega) (by omega) (by omega) (by omega)) rfl rfl) rfl rfl (Nat.le_of_ble_eq_true rfl) (fun v9 h9 hp9 => ?_)
  obtain ⟨N, rfl, rfl, p1, p2, p3, p4, p5⟩ := hp9
  refine ms_astore_n dL_law_15 (by decide) rfl ?_
  dsimp only [List.set, Nat.reduceAdd]
  refine mi_iconst dL_law_16 ?_
  refine ms_newl_t 81 (N := 1) (bc := 512) (bs := 3072) dL_law_17 rfl rfl (by decide) rfl ?_
  refine ms_astore_n dL_law_19 (by decide) rfl ?_
  dsimp only [List.set, Nat.reduceAdd]
  refine mi_iconst dL_law_20 ?_
  refine ms_istore dL_law_21 (by decide) rfl ?_
  dsimp only [List.set, Nat.reduceAdd]
  refine ms_free ?_
  exact l_law 512 N _ (rfL mx_l0) 0 0 none none (by decide) (by decide) (by decide) (by omega) ⟨29, false, Or.inr (rlZ.born q1 q2 q3 q4 q5 q6 q7 q8 q9 q10 p1 p2 p3 p4 p5)⟩

theorem sb_forget {s t : State} {L : List Loc} {k n : Nat} (h : s.sameButNew t L k n) (hL : ∀ q ∈ L, s.heap.size ≤ q.base) : s.sameButNew t [] k n := by
  obtain ⟨a1, a2, a3, a4, a5, a6⟩ := h
  refine ⟨a1, a2, a3, a4, a5, fun a c hc => ?_⟩
  obtain ⟨c', b1, b2, b3, b4⟩ := a6 a c hc
  exact ⟨c', b1, b2, b3, fun i _ => b4 i (fun hm => absurd (Array.getElem?_eq_some_iff.mp hc).1 (Nat.not_lt.mpr (hL _ hm)))⟩
theorem flags_st {l : Launch} (h : l.flags = flags0) : l.stackTraces = false := by
  unfold Launch.stackTraces
  rw [h]
  decide
set_option maxHeartbeats 4000000 in
/-- all that is known at the start -/
theorem st_K {s : State} {b L : Nat} {xs : Nat → Int32} (hL : L ≤ 3072) (hts : ∀ w ∈ lw_tbl, w.before #[Value.ref b] s = true) (hX : va_X b L xs s s.heap) (hbl : b < s.heap.size) (hgv : (Jvm.Cond.and given_1 narrow_1).before #[Value.ref b] s = true) : ∃ (ad : Nat → Nat) (C : mx_Cs) (D : va_G), ad 0 = b ∧ mx_K (L, xs) (s.heap.size, ad, L, xs) C D s s.heap := by
  have hfl := flat_of_before _ hgv
  have hT : ∀ w ∈ mx_T, w.before #[Value.ref b] s = true := fun w hw => hts w (List.mem_filter.mp hw).1
  obtain ⟨D, hD⟩ := st_D hT
  have hO : (Cond.arrayOver (.object "java/lang/String")).before #[Value.ref b] s = true := (hts _ (List.mem_of_getElem? (i := 944) (by decide +kernel)))
  obtain ⟨C, hC⟩ := st_C hT hO
  have hA : ∀ a : Nat, a < s.heap.size → ¬ (fun q : Nat => s.heap.size ≤ q) a := fun a ha h => absurd ha (Nat.not_lt.mpr h)
  have hAt : ∀ (i : Nat) (w : Cond), gvn[i]? = some w → w.before #[Value.ref b] s = true := fun i w hw => hfl w (List.mem_of_getElem? hw)
  obtain ⟨adK, adV, hS, hev⟩ := vk_Sof (N := 13) (tm := tmS) (len := mx_sl) (byt := mx_sb) (A := fun q : Nat => s.heap.size ≤ q) (args := #[Value.ref b]) (s := s) (fun i hi => by have := st_sl ⟨i, hi⟩; simp only at this; omega) (fun i hi => hAt _ _ (st_ex ⟨i, hi⟩).1) (fun i hi => hAt _ _ (st_ex ⟨i, hi⟩).2.1) (fun i hi => hAt _ _ (st_ex ⟨i, hi⟩).2.2.1) (fun i hi => hAt _ _ (st_ex ⟨i, hi⟩).2.2.2) (fun i hi j hj => hAt _ _ (st_el ⟨i, hi⟩ ⟨j, by have := st_sl ⟨i, hi⟩; simp only at this; omega⟩ hj)) (fun i j hi hj hne => by
    rcases Nat.lt_or_gt_of_ne hne with h | h
    · exact Or.inl (hAt _ _ (st_ne ⟨i, hi⟩ ⟨j, hj⟩ h))
    · exact Or.inr (hAt _ _ (st_ne ⟨j, hj⟩ ⟨i, hi⟩ h))) hA
  obtain ⟨tD, hd1, hd2⟩ := va_Tof (tm := .static "LampValley$Council" "DROP_NUMBERS" "[I") (ty := .int) (N := 7) (f := fun j => .int (mx_dn j)) (A := fun q : Nat => s.heap.size ≤ q) (args := #[Value.ref b]) (s := s) (by decide) (hfl _ (List.mem_of_getElem? (i := 12) (by decide +kernel))) (va_eqt (z := 7) (hfl _ (List.mem_of_getElem? (i := 13) (by decide +kernel)))) (fun j hj => va_eqt (hAt _ _ (dn_el ⟨j, hj⟩))) hA
  have hdZ : va_Z "LampValley$Council" "DROP_NUMBERS" "[I" (.ref tD) (fun q : Nat => s.heap.size ≤ q) s s.heap := va_Zref (hts _ (List.mem_of_getElem? (i := 822) (by decide +kernel))) (hts _ (List.mem_of_getElem? (i := 78) (by decide +kernel))) hd1 hA
  have hcs : va_Z "java/lang/String" "COMPACT_STRINGS" "Z" (.int 1) (fun q : Nat => s.heap.size ≤ q) s s.heap := va_Zof (hts _ (List.mem_of_getElem? (i := 523) (by decide +kernel))) (hts _ (List.mem_of_getElem? (i := 89) (by decide +kernel))) (va_eqi (hfl _ (List.mem_of_getElem? (i := 6) (by decide +kernel)))) hA
  have hsf : va_Zq "jdk/internal/util/Preconditions" "SIOOBE_FORMATTER" "Ljava/util/function/BiFunction;" (fun q : Nat => s.heap.size ≤ q) s s.heap := va_Zqof (hts _ (List.mem_of_getElem? (i := 539) (by decide +kernel))) (hts _ (List.mem_of_getElem? (i := 91) (by decide +kernel))) (hfl _ (List.mem_of_getElem? (i := 7) (by decide +kernel))) hA
  have hus : vx_Zq Bundle.tN "UNASSIGNED_STACK" Bundle.steD (fun q : Nat => s.heap.size ≤ q) s s.heap := vx_Zqof (hts _ (List.mem_of_getElem? (i := 454) (by decide +kernel))) (hts _ (List.mem_of_getElem? (i := 84) (by decide +kernel))) (hfl _ (List.mem_of_getElem? (i := 4) (by decide +kernel))) hA
  have hss : vx_Zq Bundle.tN "SUPPRESSED_SENTINEL" Bundle.listD (fun q : Nat => s.heap.size ≤ q) s s.heap := vx_Zqof (hts _ (List.mem_of_getElem? (i := 456) (by decide +kernel))) (hts _ (List.mem_of_getElem? (i := 84) (by decide +kernel))) (hfl _ (List.mem_of_getElem? (i := 5) (by decide +kernel))) hA
  have hnc : va_Nc "java/lang/IllegalArgumentException" "java/util/NoSuchElementException" s := va_Nc.of (hfl _ (List.mem_of_getElem? (i := 38) (by decide +kernel)))
  obtain ⟨z, hz⟩ : ∃ z : Nat, va_Z "jdk/internal/util/Preconditions" "SIOOBE_FORMATTER" "Ljava/util/function/BiFunction;" .null (fun q : Nat => s.heap.size ≤ q) s s.heap ∨ va_Z "jdk/internal/util/Preconditions" "SIOOBE_FORMATTER" "Ljava/util/function/BiFunction;" (.ref z) (fun q : Nat => s.heap.size ≤ q) s s.heap := by
    rcases hsf with h | ⟨t, h⟩
    · exact ⟨0, Or.inl h⟩
    · exact ⟨t, Or.inr h⟩
  let ad : Nat → Nat := fun k => if k = 0 then b else if k = 14 then tD else if k = 100 then z else if k < 14 then adK (k - 1) else adV (k - 51)
  have eK : ∀ i, i < 13 → ad (1 + i) = adK i := fun i hi => by
    show (if 1 + i = 0 then b else if 1 + i = 14 then tD else if 1 + i = 100 then z else if 1 + i < 14 then adK (1 + i - 1) else adV (1 + i - 51)) = adK i
    rw [if_neg (by omega), if_neg (by omega), if_neg (by omega), if_pos (by omega), show 1 + i - 1 = i by omega]
  have eV : ∀ i, i < 13 → ad (51 + i) = adV i := fun i hi => by
    show (if 51 + i = 0 then b else if 51 + i = 14 then tD else if 51 + i = 100 then z else if 51 + i < 14 then adK (51 + i - 1) else adV (51 + i - 51)) = adV i
    rw [if_neg (by omega), if_neg (by omega), if_neg (by omega), if_neg (by omega), show 51 + i - 51 = i by omega]
  have e14 : ad 14 = tD := rfl
  have e100 : ad 100 = z := rfl
  have e0 : ad 0 = b := rfl
  clear_value ad
  refine ⟨ad, C, D, e0, ⟨hD, hC⟩, fun w hw => va_Nw.of (mx_bok_tab (List.mem_filter.mp hw).2) (hts w (List.mem_filter.mp hw).1), va_AO.of hO, ⟨hus, hss⟩, ⟨?_, ?_⟩, ⟨hcs, ?_⟩, ⟨⟨fun i hi => ?_, fun i j hi hj he => ?_⟩, fun i q hq => ?_⟩, ?_, ?_, Nat.le_refl _, hL, rfl, hnc⟩
  · show va_Z _ _ _ (.ref (ad 14)) _ _ _
    rw [e14]; exact hdZ
  · show va_T _ (ad 14) _ _ _ _ _
    rw [e14]; exact hd2
  · show va_Z _ _ _ .null _ _ _ ∨ va_Z _ _ _ (.ref (ad 100)) _ _ _
    rw [e100]; exact hz
  · show va_O _ (ad (1 + i)) _ _ _ ∧ va_OF _ _ _ _ (ad (1 + i)) _ _ _ ∧ va_OF _ _ _ (.ref (ad (51 + i))) (ad (1 + i)) _ _ _ ∧ va_T _ (ad (51 + i)) _ _ _ _ _
    rw [eK i hi, eV i hi]
    exact hS.1 i hi
  · have he2 : ad (1 + i) = ad (1 + j) := he
    rw [eK i hi, eK j hj] at he2
    exact hS.2 i j hi hj he2
  · have hi : i < 13 := by
      have h1 := (List.getElem?_eq_some_iff.mp hq).1
      have h2 : mx_st.length = 13 := rfl
      omega
    have hq2 : mx_st.getD i ("", 0, "") = q := by rw [List.getD_eq_getElem?_getD, hq]; rfl
    show vk_R _ _ _ (ad (1 + i)) s
    rw [eK i hi, ← hq2]
    exact vk_R.of (A := #[Value.ref b]) (hts _ (List.mem_of_getElem? (st_rf ⟨i, hi⟩))) (hev i hi)
  · show va_X (ad 0) L xs s s.heap
    rw [e0]; exact hX
  · show ad 0 < s.heap.size
    rw [e0]; exact hbl
set_option maxHeartbeats 4000000 in
/-- the law, from its entry -/
theorem whole_start {p : Program} {e : Env} {s : State} {m : MethodId} {below : List Frame} {meth : Method} {c : Code} (l : Launch) (hflags : l.flags = flags0) {b L : Nat} {xs : Nat → Int32} (hL : L ≤ 3072) (C0 : lw_At p s m meth c b L xs) (hnm : meth.name = "law") (htb : c.exceptionTable.toList = []) : W p l e room_1 s m #[Value.ref b] below meth c s.heap [] 0 0 (lw_Z below #[Value.ref b] s) (entryFrame m ([Value.ref b] : List Value).toArray 7) := by
  obtain ⟨hx, hb, hr, hml, hown, hts, hX, hbl, hlocks, hgv⟩ := id C0
  obtain ⟨ad, C, D, e0, hK⟩ := st_K hL hts hX hbl hgv
  have hT : ∀ w ∈ mx_T, w.before #[Value.ref b] s = true := fun w hw => hts w (List.mem_filter.mp hw).1
  have hI : mx_I (L, xs) mL_law (s.heap.size, ad, L, xs) C D p l room_1 s m #[Value.ref b] meth c := ⟨hx, hb, hml, hown, hT, hlocks, hr, hnm, htb, flags_st hflags, hK, Nat.le_of_ble_eq_true rfl, Nat.le_of_ble_eq_true rfl⟩
  have ev : ([Value.ref 1000] : List Value).map (mx_v (s.heap.size, ad, L, xs)) = [Value.ref b] := by
    show [Value.ref (ad 0)] = _
    rw [e0]
  have hl := mx_entry (X := (s.heap.size, ad, L, xs)) (n := 7) (av := [Value.ref 1000]) (by simp [Value.category]) (by decide)
  rw [ev] at hl
  have hR : mx_R (s.heap.size, ad, L, xs) C D (true, mx_SH.take 0, zM, zL, rfL []) s.heap := ⟨fun k q h => (by cases h), fun _ => rfl, Nat.le_refl _⟩
  have key := e_L_law (S := (L, xs)) hL (s.heap.size, ad, L, xs) C D p l e room_1 s m #[Value.ref b] below meth c s.heap [] 0 0 594 42602 _ true hI hl hR va_S.rf rfl rfl (Nat.le_of_ble_eq_true rfl) (Nat.le_of_ble_eq_true rfl) (fun _ => ⟨rfl, Nat.le_refl _⟩)
  rw [lg_entry_eq]
  intro T hT2 X9
  obtain ⟨t, a1, o, b1, b2, b3⟩ := key T hT2 X9
  refine ⟨t, a1, o, b1, b2, ?_⟩
  rcases b3 with ⟨⟨⟨v, h9, ho, hp, -, -⟩, -⟩, Lk, ⟨f1, f2, f3⟩, hfree⟩ | ⟨q, -, E, ce, Lk, ⟨⟨h9, hp, -⟩, -⟩, -⟩
  · have hv : v = some (.int (iI 1)) := hp
    subst hv
    exact ⟨ho, f1, f2, (sb_forget f3 hfree).mono (Nat.le_of_ble_eq_true rfl) (Nat.le_of_ble_eq_true rfl)⟩
  · exact hp.elim
set_option maxHeartbeats 4000000 in
theorem lw_walk (l : Launch) (hflags : l.flags = flags0) (b : Addr) (xs : List Int32) : MetFree l x (headSpec (Jvm.Cond.code x code maxLocals ret :: tables_1) room_1) (lw_P b xs) (fun _ _ _ _ _ => True) lw_Q := by
  refine MetFree.of_bodyS (code := code) (maxLocals := maxLocals) (ret := ret) (by decide) ?_ ?_
  · intro args s m h hn
    obtain ⟨meth, c, h1, h2, h3, h4, h5, h6, -, -⟩ := Cond.code_spec hn (atoms_spec (ws := Jvm.Cond.code x code maxLocals ret :: tables_1) h _ List.mem_cons_self)
    exact ⟨meth, c, h1, h2, h3, h4, h5, h6⟩
  · intro p e s m args below meth c s₁ B hml0 hP _
    obtain ⟨rfl, hx, hbd, hgv⟩ := hP
    obtain ⟨scr, harrAt, hlist, hof, hsmall⟩ := hx
    obtain ⟨hcb, hkn, -, -⟩ := State.arrayAt?_spec harrAt
    have hown : s.vm.findClass R_law = some m.cls := findClass_of_methodNamed B.named
    have hts0 : ∀ c ∈ (Jvm.Cond.code x code maxLocals ret :: tables_1), c.before #[Value.ref b] s = true := atoms_spec (ws := Jvm.Cond.code x code maxLocals ret :: tables_1) B.pre
    have hts : ∀ w ∈ lw_tbl, w.before #[Value.ref b] s = true := k2_hts_sels lw_privs (fun w hw => hts0 w (List.mem_cons_of_mem _ hw)) lw_privs_ok
    have hml : c.maxLocals = 7 := B.maxLocals_eq (hts0 _ List.mem_cons_self)
    have hnm : meth.name = "law" := (name_of_methodNamed B.named B.method).1
    have htb : c.exceptionTable.toList = [] := by
      obtain ⟨meth9, c9, h1, h2, -, -, -, -, h7, -⟩ := Cond.code_spec B.named (hts0 _ List.mem_cons_self)
      cases Option.some.inj (h1.symm.trans B.method)
      cases Option.some.inj (h2.symm.trans (Stand.of_body B).code)
      rw [Array.isEmpty_iff.mp h7]
    have X₀ : Stand p l e room_1 s m #[Value.ref b] below meth c s₁ [] 0 0 := Stand.of_body B
    have hh0 : s₁.heap = s.heap := by rw [B.state]; rfl
    have hsz : scr.slots.size = xs.length := by rw [← Array.length_toList, hlist, List.length_map]
    have hval : ∀ j : Nat, j < xs.length → scr.slots[j]? = some (.int (xs.getD j 0)) := fun j hj => by
      rw [← Array.getElem?_toList, hlist]
      simp [hj]
    have hbl : b < s.heap.size := (Array.getElem?_eq_some_iff.mp hcb).1
    have hX : va_X b xs.length (fun j => xs.getD j 0) s s.heap := ⟨scr, hcb, hof, hkn, hsz, hval⟩
    have K : W p l e room_1 s m #[Value.ref b] below meth c s₁.heap [] 0 0 (lw_Z below #[Value.ref b] s) (entryFrame m ([Value.ref b] : List Value).toArray 7) := by
      rw [hh0]
      exact whole_start l hflags hbd ⟨B.exec, B.bytes, B.returns, hml, hown, hts, hX, hbl, B.notSynchronized, hgv⟩ hnm htb
    obtain ⟨t, a1, o, b1, b2, b3⟩ := K s₁ rfl X₀
    exact ⟨t, o, a1, b1, b2, b3⟩
theorem lw_pre_spec {args : Array Value} {s : State} (h : (Jvm.Cond.and given_1 narrow_1).before args s = true) (hr : rest_1_c.before args s = true) : ∃ (b : Addr) (xs : List Int32), lw_P b xs args s := by
  have hs := flat_of_before _ h
  have hq := flat_of_before _ hr
  have hc : (Cond.count 1).before args s = true := hs _ (by decide +kernel)
  have harr : (Cond.arrayOf (.arg 0) .int).before args s = true := hs _ (by decide +kernel)
  have hle : (Cond.le (.length (.arg 0)) (.int 3072)).before args s = true := hs _ (by decide +kernel)
  have hlen : (Cond.isInt (.length (.arg 0))).before args s = true := hq _ (by decide +kernel)
  have hall : (Cond.all (.arg 0) (.isInt (.elem (.arg 0) (.index 0)))).before args s = true := hq _ (by decide +kernel)
  obtain ⟨b, xs, hb, hx⟩ := State.ints_of_pre rfl harr hlen hall
  have hsm : xs.length < 2 ^ 31 := hx.choose_spec.2.2.2
  have hev : (Term.length (.arg 0)).eval args s none [] s = some (.int xs.length.toInt32) := hx.length_eval hb
  have hv := Cond.le_ints hev (show (Term.int 3072).eval args s none [] s = some (.int 3072) from rfl)
  have hd : xs.length.toInt32 ≤ 3072 := by
    simpa [Cond.before, Cond.holds, hv] using hle
  have hN : xs.length ≤ 3072 := (Int32.ofNat_le_ofNat hsm (by decide)).mp (show Int32.ofNat xs.length ≤ Int32.ofNat 3072 from hd)
  exact ⟨b, xs, Cond.one_arg hc (show args[0]? = some (.ref b) from hb), hx, hN, h⟩
theorem lw_comes (l : Launch) (hflags : l.flags = flags0) : Comes l x (Jvm.Cond.code x code maxLocals ret :: tables_1) room_1 (fun tb e args s => Calls_1 tb e args s ∧ rest_1 tb e args s ∧ Pre_1 tb e args s)
    (fun _ _ args s o t => lw_Q args s o t) := by
  intro p e ha hc hk s m args below hf hfit hheap happ hpre
  obtain ⟨b, xs, hP⟩ := lw_pre_spec hpre.2.2 hpre.2.1
  obtain ⟨k, o, h1, h2, h3, hQ⟩ := lw_walk l hflags b xs p e ha hc hk s m args below hf ((Spec.applies_iff_loose hf).mp happ).1 hP trivial
  exact ⟨k, o, h1, h2, h3, hQ⟩
theorem lw_frame {s t : State} {o : Outcome} {args : Array Value} (h : Framed s o t [] 1120 47806) :
    Framed s o t (fieldLocs frame_1_writes args s ++ arrayLocs frame_1_arrays args s ++ staticLocs frame_1_statics s) 1120 47806 := h
theorem lw_limb (L : Cond) (hL : ∀ (args : Array Value) (s t : State), L.after args s (.returned (some (.int 1))) t = true) :
    ArmFor flags0 classFile x code maxLocals ret World_1 tables_1 room_1 Calls_1 rest_1 Pre_1
      (fun tb e a s o t => postC L tb e a s o t ∧ Framed s o t (fieldLocs frame_1_writes a s ++ arrayLocs frame_1_arrays a s ++ staticLocs frame_1_statics s) 1120 47806) := by
  intro l hflags _ _ p e ha hc hk s m args below hf hfit hheap happ hpre
  obtain ⟨k, o, h1, h2, h3, rfl, hF⟩ := lw_comes l hflags p e ha hc hk s m args below hf hfit hheap happ hpre
  exact ⟨k, _, h1, h2, h3, hL args s _, lw_frame hF⟩
theorem i_vc : Claimed_1_1 ∧ Claimed_1_2 := ⟨lw_limb limb_1_1 (fun args s t => by simp [limb_1_1, Cond.after, Cond.holds, Cond.value]), lw_limb limb_1_2 (fun args s t => Cond.after_iff.mpr (by
  first | (rw [show limb_1_2 = Cond.eq .result (.int 1) from rfl, Cond.eq_ints (x := 1) (y := 1) rfl rfl]; simp; done) | (simp [limb_1_2, Cond.value, Term.eval]; done)))⟩

