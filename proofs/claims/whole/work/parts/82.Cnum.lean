def oj (N : Nat → Int → Int) (t : Nat) : Prop := ∀ i, 0 ≤ i → i < 18 → 0 ≤ N (t + 4) i ∧ N (t + 4) i < 32
/-- the reader is well, before p, and has told T -/
def rdG (N : Nat → Int → Int) (t : Nat) (n p : Int) (T : td_T) : Prop := rdS N n p ∧ N 45 0 = 0 ∧ N 45 1 = -1 ∧ tq T (fun j => N (t + j)) ∧ td_ok T ∧ oj N t
/-- something is wrong -/
def fm (N : Nat → Int → Int) (t : Nat) : Prop := (0 ≤ N t 0 ∧ N t 0 ≤ 30) ∧ (0 ≤ N t 1 ∧ N t 1 ≤ 6)
def rdF (N : Nat → Int → Int) (t : Nat) (n c q : Int) : Prop := (∃ p, rdS N n p) ∧ N 45 0 = c ∧ N 45 1 = q ∧ (1 ≤ c ∧ c ≤ 5) ∧ oj N t ∧ fm N t
def rfP (M N : Nat → Int → Int) (t : Nat) : Prop := (∀ x, x ≠ 45 → (x < t ∨ t + 8 ≤ x) → N x = M x) ∧ N 45 8 = M 45 8
def rdR (N : Nat → Int → Int) (t : Nat) (n : Int) : pR → Prop
  | .inl (c, q) => rdF N t n c q
  | .inr (p, T) => rdG N t n p T
theorem rfP.rf {M : Nat → Int → Int} {t : Nat} : rfP M M t := ⟨fun _ _ _ => rfl, rfl⟩
theorem rfP.tr {M N O : Nat → Int → Int} {t : Nat} (h1 : rfP M N t) (h2 : rfP N O t) : rfP M O t := ⟨fun x a b => (h2.1 x a b).trans (h1.1 x a b), h2.2.trans h1.2⟩
theorem nC_b {g : Int → Int} {n p a b e : Int} (he : 1 ≤ e ∧ e ≤ 5) (h : nC g n p a b e ≠ 0) : 1 ≤ nC g n p a b e ∧ nC g n p a b e ≤ 5 := by
  unfold nC at h ⊢
  split
  · omega
  · split
    · omega
    · split
      · omega
      · rename_i h1 h2 h3
        rw [if_neg h1, if_neg h2, if_neg h3] at h
        omega
theorem adP.G {M N : Nat → Int → Int} {t : Nat} (ht : t = 29 ∨ t = 37) {n p q : Int} {T : td_T} (hG : rdG M t n p T) (h : adP M N n) (h2 : rdS N n q) : rdG N t n q T ∧ rfP M N t ∧ N 45 7 = p := by
  have e : ∀ j : Nat, j < 8 → N (t + j) = M (t + j) := fun j hj => h.1 _ (by omega)
  refine ⟨⟨h2, h.2.1.trans hG.2.1, h.2.2.1.trans hG.2.2.1, ?_, hG.2.2.2.2.1, ?_⟩, ⟨fun x a _ => h.1 x a, h.2.2.2.1⟩, h.2.2.2.2.1.trans hG.1.2.1⟩
  · obtain ⟨a1, a2, a3, a4⟩ := hG.2.2.2.1
    refine ⟨fun k k0 k1 => ?_, fun l l0 l1 => ?_, fun i i0 i1 => ?_, fun f f0 f1 => ?_⟩
    · show N (t + 0) k = _; rw [e 0 (by omega)]; exact a1 k k0 k1
    · show N (t + 1) l = _ ∧ N (t + 2) l = _ ∧ N (t + 3) l = _; rw [e 1 (by omega), e 2 (by omega), e 3 (by omega)]; exact a2 l l0 l1
    · show N (t + 4) i = _; rw [e 4 (by omega)]; exact a3 i i0 i1
    · show N (t + 5) f = _ ∧ N (t + 6) f = _ ∧ N (t + 7) f = _; rw [e 5 (by omega), e 6 (by omega), e 7 (by omega)]; exact a4 f f0 f1
  · intro i i0 i1
    rw [e 4 (by omega)]
    exact hG.2.2.2.2.2 i i0 i1
theorem rdS.fr {M N : Nat → Int → Int} {n p : Int} (h : rdS M n p) (h1 : N 1 = M 1) (h3 : N 45 3 = M 45 3) (h4 : N 45 4 = M 45 4) (h5 : N 45 5 = M 45 5) (h6 : N 45 6 = M 45 6) : rdS N n p := by
  unfold rdS
  rw [h1, h3, h4, h5, h6]
  exact h
/-- a fault is written down -/
theorem rdG.F {M : Nat → Int → Int} {t : Nat} (ht : t = 29 ∨ t = 37) {n p c q : Int} {T : td_T} (hG : rdG M t n p T) (hc : 1 ≤ c ∧ c ≤ 5) : rdF (va_up M 45 (iu (iu (M 45) 0 c) 1 q)) t n c q ∧ rfP M (va_up M 45 (iu (iu (M 45) 0 c) 1 q)) t := by
  refine ⟨⟨⟨p, hG.1.fr (by rw [up_n _ _ (by decide)]) ?_ ?_ ?_ ?_⟩, ?_, ?_, hc, fun i i0 i1 => ?_, ?_⟩, fun x a _ => by rw [up_n _ _ a], ?_⟩
  · simp [va_up, iu]
  · simp [va_up, iu]
  · simp [va_up, iu]
  · simp [va_up, iu]
  · simp [va_up, iu]
  · simp [va_up, iu]
  · rw [up_n _ _ (by omega)]
    exact hG.2.2.2.2.2 i i0 i1
  · unfold fm
    rw [up_n _ _ (by omega)]
    have e0 : M t 0 = T 0 0 := hG.2.2.2.1.1 0 (by decide) (by decide)
    have e1 : M t 1 = T 0 1 := hG.2.2.2.1.1 1 (by decide) (by decide)
    have o0 : 1 ≤ T 0 0 ∧ T 0 0 ≤ 30 := hG.2.2.2.2.1.1.1
    have o1 : 0 ≤ T 0 1 ∧ T 0 1 ≤ 6 := hG.2.2.2.2.1.1.2.1
    omega
  · simp [va_up, iu]
set_option maxHeartbeats 4000000 in
set_option maxRecDepth 100000 in
theorem l_X1_rn {S : mx_Sc} {f : Bool} {M : Nat → Int → Int} {L : Nat → Nat → Int64} {Rf : Nat → Nat → Option Nat} (hR : mx_rf Rf) {n : Int} (hn : 0 ≤ n ∧ n ≤ 500) (hB : ∀ i, 0 ≤ i → i < 500 → 0 ≤ M 1 i ∧ M 1 i ≤ 255) {P : Option Value → mx_H → Prop} {PX : String → mx_H → Prop} {bc bs : Nat} {p a b e : Int} (hS : rdS M n p) : ∀ (kk : Nat) (k : Nat), p + k + kk = te (M 1) n p → (∀ z4 z5, (tk (M 1) n p = 1 → z4 = nV (M 1) n p) → mx_E S mX1_readNumber 50 [some (.ref 45), some (.int (iI a)), some (.int (iI b)), some (.int (iI e)), some (.int (iI z4)), some (.int (iI z5))] [] (f, mx_SH, M, L, Rf) bc bs P PX) → mx_E S mX1_readNumber 9 [some (.ref 45), some (.int (iI a)), some (.int (iI b)), some (.int (iI e)), some (.int (iI (nb (M 1) p k))), some (.int (iI (p + k)))] [] (f, mx_SH, M, L, Rf) bc bs P PX := by
  intro kk
  induction kk with
  | zero => 
    intro k g1 hK
    have ht9 := te_b (g := M 1) hS.2.2.2.2.2
    have h6 := hS.2.2.1
    have h0 := hS.2.2.2.2
    refine ms_iload dX1_readNumber_9 rfl ?_
    refine ms_aload_n dX1_readNumber_11 rfl ?_
    refine ms_getI (z := 6) dX1_readNumber_12 (fo_X1_40 rfl) (by first | rfl | assumption) rfl rfl ?_
    refine mi_icmp_ge (tgt := 50) dX1_readNumber_15 (by decide) (fun c_15 => ?_) (fun c_15 => ?_)
    · exact hK _ _ (fun _ => by unfold nV; congr 1; omega)
    · exact absurd c_15 (by omega)
  | succ kk ih => 
    intro k g1 hK
    have ht9 := te_b (g := M 1) hS.2.2.2.2.2
    have h6 := hS.2.2.1
    have h4 := hS.2.2.2.1
    have htb := tk_b (M 1) n p
    have h0 := hS.2.2.2.2
    refine ms_iload dX1_readNumber_9 rfl ?_
    refine ms_aload_n dX1_readNumber_11 rfl ?_
    refine ms_getI (z := 6) dX1_readNumber_12 (fo_X1_40 rfl) (by first | rfl | assumption) rfl rfl ?_
    refine mi_icmp_ge (tgt := 50) dX1_readNumber_15 (by decide) (fun c_15 => ?_) (fun c_15 => ?_)
    · exact absurd c_15 (by omega)
    · refine ms_aload_n dX1_readNumber_18 rfl ?_
      refine ms_getI (z := 4) dX1_readNumber_19 (fo_X1_49 rfl) (by first | rfl | assumption) rfl rfl ?_
      refine mi_iconst dX1_readNumber_22 ?_
      refine mi_icmp_ne (tgt := 50) dX1_readNumber_23 (by decide) (fun c_23 => ?_) (fun c_23 => ?_)
      · exact hK _ _ (fun q => absurd (h4.trans q) c_23)
      · refine ms_iload dX1_readNumber_26 rfl ?_
        refine mi_bipush dX1_readNumber_28 (by decide) ?_
        refine mi_imul dX1_readNumber_30 ?_
        refine ms_aload_n dX1_readNumber_31 rfl ?_
        refine ms_getR dX1_readNumber_32 (fo_X1_9 rfl) (by first | rfl | assumption) rfl (by first | assumption | exact rf_45_2 hR ) ?_
        refine ms_iload dX1_readNumber_35 rfl ?_
        refine ms_iald dX1_readNumber_37 (by first | rfl | assumption) ?_
        refine mi_iadd dX1_readNumber_38 ?_
        refine mi_bipush dX1_readNumber_39 (by decide) ?_
        refine mi_isub dX1_readNumber_41 ?_
        refine ms_istore dX1_readNumber_42 (by decide) rfl ?_
        dsimp only [List.set, Nat.reduceAdd]
        refine mi_iinc dX1_readNumber_44 rfl (by decide) rfl ?_
        dsimp only [List.set, Nat.reduceAdd]
        refine ms_goto (tgt := 9) dX1_readNumber_47 (by decide) ?_
        have i9 := ih (k + 1) (by omega) hK
        rw [show p + ((k + 1 : Nat) : Int) = p + k + 1 by omega] at i9
        exact i9

set_option maxHeartbeats 4000000 in
set_option maxRecDepth 100000 in
theorem k_X1_rn {S : mx_Sc} {f : Bool} {M : Nat → Int → Int} {L : Nat → Nat → Int64} {Rf : Nat → Nat → Option Nat} (hR : mx_rf Rf) {t : Nat} (ht : t = 29 ∨ t = 37) {n : Int} (hn : 0 ≤ n ∧ n ≤ 500) (hB : ∀ i, 0 ≤ i → i < 500 → 0 ≤ M 1 i ∧ M 1 i ≤ 255) {p : Int} {a b e : Int} (ha : 0 ≤ a ∧ a ≤ 1) (hb : -1 ≤ b ∧ b ≤ 1000) (he : 1 ≤ e ∧ e ≤ 5) {T : td_T} (hG : rdG M t n p T) : mx_C S mX1_readNumber [.ref 45, .int (iI a), .int (iI b), .int (iI e)] (f, mx_SH, M, L, Rf) 0 0 (fun v9 h9 => ∃ N x, h9 = (f, mx_SH, N, L, Rf) ∧ v9 = some (.int (iI x)) ∧ rfP M N t ∧ ((nC (M 1) n p a b e ≠ 0 ∧ rdF N t n (nC (M 1) n p a b e) p ∧ x = a) ∨ (nC (M 1) n p a b e = 0 ∧ rdG N t n (nx (M 1) n p) T ∧ N 45 7 = p ∧ x = nV (M 1) n p))) (fun _ _ => False) := by
  refine mx_C_of (by decide) (by simp [Value.category]) (Nat.le_of_ble_eq_true rfl) rfl ?_
  show mx_E S mX1_readNumber 0 [some (.ref 45), some (.int (iI a)), some (.int (iI b)), some (.int (iI e)), none, none] [] (f, mx_SH, M, L, Rf) 0 0 _ _
  have hw0 : M 45 0 = 0 := hG.2.1
  have hS := hG.1
  have hp5 : M 45 5 = p := hS.2.1
  have h3 := hS.1
  have h4 := hS.2.2.2.1
  have h6 := hS.2.2.1
  have h0 := hS.2.2.2.2
  have htb := tk_b (M 1) n p
  have ht9 := te_b (g := M 1) hS.2.2.2.2.2
  refine mi_iconst dX1_readNumber_0 ?_
  refine ms_istore dX1_readNumber_1 (by decide) rfl ?_
  dsimp only [List.set, Nat.reduceAdd]
  refine ms_aload_n dX1_readNumber_3 rfl ?_
  refine ms_getI (z := 5) dX1_readNumber_4 (fo_X1_56 rfl) (by first | rfl | assumption) rfl rfl ?_
  refine ms_istore dX1_readNumber_7 (by decide) rfl ?_
  dsimp only [List.set, Nat.reduceAdd]
  have i9 := l_X1_rn (S := S) (f := f) (L := L) (P := (fun v9 h9 => ∃ N x, h9 = (f, mx_SH, N, L, Rf) ∧ v9 = some (.int (iI x)) ∧ rfP M N t ∧ ((nC (M 1) n p a b e ≠ 0 ∧ rdF N t n (nC (M 1) n p a b e) p ∧ x = a) ∨ (nC (M 1) n p a b e = 0 ∧ rdG N t n (nx (M 1) n p) T ∧ N 45 7 = p ∧ x = nV (M 1) n p)))) (PX := fun _ _ => False) (bc := 0) (bs := 0) (a := a) (b := b) (e := e) hR hn hB hS (te (M 1) n p - p).toNat 0 (by omega) (fun z4 z5 hz => ?_)
  · rw [show p + ((0 : Nat) : Int) = M 45 5 by omega] at i9
    exact i9
  · refine ms_aload_n dX1_readNumber_50 rfl ?_
    refine ms_getI (z := 4) dX1_readNumber_51 (fo_X1_49 rfl) (by first | rfl | assumption) rfl rfl ?_
    refine mi_iconst dX1_readNumber_54 ?_
    refine mi_icmp_eq (tgt := 70) dX1_readNumber_55 (by decide) (fun c_55 => ?_) (fun c_55 => ?_)
    · refine ms_aload_n dX1_readNumber_70 rfl ?_
      refine ms_getI (z := 6) dX1_readNumber_71 (fo_X1_40 rfl) (by first | rfl | assumption) rfl rfl ?_
      refine ms_aload_n dX1_readNumber_74 rfl ?_
      refine ms_getI (z := 5) dX1_readNumber_75 (fo_X1_56 rfl) (by first | rfl | assumption) rfl rfl ?_
      refine mi_isub dX1_readNumber_78 ?_
      refine mi_iconst dX1_readNumber_79 ?_
      refine mi_icmp_le (tgt := 95) dX1_readNumber_80 (by decide) (fun c_80 => ?_) (fun c_80 => ?_)
      · have hnv := nV_b (g := M 1) (n := n) (p := p) (by omega) (by omega)
        have hz4 := hz (by omega)
        refine ms_iload dX1_readNumber_95 rfl ?_
        refine ms_iload_n dX1_readNumber_97 rfl ?_
        refine mi_icmp_lt (tgt := 107) dX1_readNumber_98 (by decide) (fun c_98 => ?_) (fun c_98 => ?_)
        · refine ms_aload_n dX1_readNumber_107 rfl ?_
          refine ms_iload_n dX1_readNumber_108 rfl ?_
          refine ms_aload_n dX1_readNumber_109 rfl ?_
          refine ms_getI (z := 5) dX1_readNumber_110 (fo_X1_56 rfl) (by first | rfl | assumption) rfl rfl ?_
          refine ms_callV2 (ci := 1) (r := (RX1, TX1, 10)) dX1_readNumber_113 cv_X1_readNumber_X1_refuse (k_X1_refuse (e := e) (p := M 45 5) hR (by omega)) rfl rfl (by first | rfl | assumption) (Nat.le_of_ble_eq_true rfl) rfl (fun _ _ z => z.elim) (fun v9 h9 hp9 => ?_)
          obtain ⟨rfl, rfl⟩ := hp9
          have hcc : nC (M 1) n p a b e = e := by
            unfold nC
            rw [if_neg (by omega), if_neg (by omega), if_pos (by omega)]
          rw [if_pos hw0]
          have hFF := hG.F ht (c := e) (q := M 45 5) (by omega)
          refine ms_aload_n dX1_readNumber_116 rfl ?_
          refine ms_getI (z := 0) dX1_readNumber_117 (fo_X1_34 rfl) (by first | rfl | assumption) rfl rfl ?_
          have hv9 : va_up M 45 (iu (iu (M 45) 0 (nC (M 1) n p a b e)) 1 (M 45 5)) 45 0 = nC (M 1) n p a b e := by rw [up_s, iu_n _ _ (by decide), iu_s]
          rw [hcc] at hv9
          refine mi_if_eq (tgt := 125) dX1_readNumber_120 (by decide) (fun c_120 => ?_) (fun c_120 => ?_)
          · exact absurd c_120 (by rw [up_s, iu_n _ _ (by decide), iu_s]; omega)
          · refine ms_iload_n dX1_readNumber_123 rfl ?_
            refine ms_ret dX1_readNumber_124 rfl ⟨_, a, rfl, rfl, hFF.2, Or.inl ⟨by omega, by rw [hcc]; have := hFF.1; rw [hp5] at this ⊢; exact this, rfl⟩⟩ (by simp)
        · refine ms_iload dX1_readNumber_101 rfl ?_
          refine ms_iload_n dX1_readNumber_103 rfl ?_
          refine mi_icmp_le (tgt := 116) dX1_readNumber_104 (by decide) (fun c_104 => ?_) (fun c_104 => ?_)
          · refine ms_aload_n dX1_readNumber_116 rfl ?_
            refine ms_getI (z := 0) dX1_readNumber_117 (fo_X1_34 rfl) (by first | rfl | assumption) rfl rfl ?_
            refine mi_if_eq (tgt := 125) dX1_readNumber_120 (by decide) (fun c_120 => ?_) (fun c_120 => ?_)
            · refine ms_aload_n dX1_readNumber_125 rfl ?_
              refine ms_callV0 (ci := 1) (r := (RX1, TX1, 10)) dX1_readNumber_126 cv_X1_readNumber_X1_advance (k_X1_advance hR hn hB h3 (by omega)) rfl rfl (by first | rfl | assumption) (Nat.le_of_ble_eq_true rfl) rfl (fun _ _ z => z.elim) (fun v9 h9 hp9 => ?_)
              obtain ⟨N, rfl, rfl, q1, q2⟩ := hp9
              rw [h6] at q2
              obtain ⟨r1, r2, r3⟩ := q1.G ht hG q2
              refine ms_iload dX1_readNumber_129 rfl ?_
              refine ms_ret dX1_readNumber_131 rfl ⟨N, _, rfl, rfl, r2, Or.inr ⟨by unfold nC; rw [if_neg (by omega), if_neg (by omega), if_neg (by omega)], r1, r3, by rw [hz4]⟩⟩ (by simp)
            · exact absurd hw0 c_120
          · refine ms_aload_n dX1_readNumber_107 rfl ?_
            refine ms_iload_n dX1_readNumber_108 rfl ?_
            refine ms_aload_n dX1_readNumber_109 rfl ?_
            refine ms_getI (z := 5) dX1_readNumber_110 (fo_X1_56 rfl) (by first | rfl | assumption) rfl rfl ?_
            refine ms_callV2 (ci := 1) (r := (RX1, TX1, 10)) dX1_readNumber_113 cv_X1_readNumber_X1_refuse (k_X1_refuse (e := e) (p := M 45 5) hR (by omega)) rfl rfl (by first | rfl | assumption) (Nat.le_of_ble_eq_true rfl) rfl (fun _ _ z => z.elim) (fun v9 h9 hp9 => ?_)
            obtain ⟨rfl, rfl⟩ := hp9
            have hcc : nC (M 1) n p a b e = e := by
              unfold nC
              rw [if_neg (by omega), if_neg (by omega), if_pos (by omega)]
            rw [if_pos hw0]
            have hFF := hG.F ht (c := e) (q := M 45 5) (by omega)
            refine ms_aload_n dX1_readNumber_116 rfl ?_
            refine ms_getI (z := 0) dX1_readNumber_117 (fo_X1_34 rfl) (by first | rfl | assumption) rfl rfl ?_
            have hv9 : va_up M 45 (iu (iu (M 45) 0 (nC (M 1) n p a b e)) 1 (M 45 5)) 45 0 = nC (M 1) n p a b e := by rw [up_s, iu_n _ _ (by decide), iu_s]
            rw [hcc] at hv9
            refine mi_if_eq (tgt := 125) dX1_readNumber_120 (by decide) (fun c_120 => ?_) (fun c_120 => ?_)
            · exact absurd c_120 (by rw [up_s, iu_n _ _ (by decide), iu_s]; omega)
            · refine ms_iload_n dX1_readNumber_123 rfl ?_
              refine ms_ret dX1_readNumber_124 rfl ⟨_, a, rfl, rfl, hFF.2, Or.inl ⟨by omega, by rw [hcc]; have := hFF.1; rw [hp5] at this ⊢; exact this, rfl⟩⟩ (by simp)
      · refine ms_aload_n dX1_readNumber_83 rfl ?_
        refine mi_iconst dX1_readNumber_84 ?_
        refine ms_aload_n dX1_readNumber_85 rfl ?_
        refine ms_getI (z := 5) dX1_readNumber_86 (fo_X1_56 rfl) (by first | rfl | assumption) rfl rfl ?_
        refine ms_callV2 (ci := 1) (r := (RX1, TX1, 10)) dX1_readNumber_89 cv_X1_readNumber_X1_refuse (k_X1_refuse (e := 2) (p := M 45 5) hR (by omega)) rfl rfl (by first | rfl | assumption) (Nat.le_of_ble_eq_true rfl) rfl (fun _ _ z => z.elim) (fun v9 h9 hp9 => ?_)
        obtain ⟨rfl, rfl⟩ := hp9
        have hcc : nC (M 1) n p a b e = 2 := by
          unfold nC
          rw [if_neg (by omega), if_pos (by omega)]
        rw [if_pos hw0]
        have hFF := hG.F ht (c := 2) (q := M 45 5) (by omega)
        refine ms_goto (tgt := 116) dX1_readNumber_92 (by decide) ?_
        refine ms_aload_n dX1_readNumber_116 rfl ?_
        refine ms_getI (z := 0) dX1_readNumber_117 (fo_X1_34 rfl) (by first | rfl | assumption) rfl rfl ?_
        have hv9 : va_up M 45 (iu (iu (M 45) 0 (nC (M 1) n p a b e)) 1 (M 45 5)) 45 0 = nC (M 1) n p a b e := by rw [up_s, iu_n _ _ (by decide), iu_s]
        rw [hcc] at hv9
        refine mi_if_eq (tgt := 125) dX1_readNumber_120 (by decide) (fun c_120 => ?_) (fun c_120 => ?_)
        · exact absurd c_120 (by rw [up_s, iu_n _ _ (by decide), iu_s]; omega)
        · refine ms_iload_n dX1_readNumber_123 rfl ?_
          refine ms_ret dX1_readNumber_124 rfl ⟨_, a, rfl, rfl, hFF.2, Or.inl ⟨by omega, by rw [hcc]; have := hFF.1; rw [hp5] at this ⊢; exact this, rfl⟩⟩ (by simp)
    · refine ms_aload_n dX1_readNumber_58 rfl ?_
      refine mi_iconst dX1_readNumber_59 ?_
      refine ms_aload_n dX1_readNumber_60 rfl ?_
      refine ms_getI (z := 5) dX1_readNumber_61 (fo_X1_56 rfl) (by first | rfl | assumption) rfl rfl ?_
      refine ms_callV2 (ci := 1) (r := (RX1, TX1, 10)) dX1_readNumber_64 cv_X1_readNumber_X1_refuse (k_X1_refuse (e := 1) (p := M 45 5) hR (by omega)) rfl rfl (by first | rfl | assumption) (Nat.le_of_ble_eq_true rfl) rfl (fun _ _ z => z.elim) (fun v9 h9 hp9 => ?_)
      obtain ⟨rfl, rfl⟩ := hp9
      have hcc : nC (M 1) n p a b e = 1 := by
        unfold nC
        rw [if_pos (by omega)]
      rw [if_pos hw0]
      have hFF := hG.F ht (c := 1) (q := M 45 5) (by omega)
      refine ms_goto (tgt := 116) dX1_readNumber_67 (by decide) ?_
      refine ms_aload_n dX1_readNumber_116 rfl ?_
      refine ms_getI (z := 0) dX1_readNumber_117 (fo_X1_34 rfl) (by first | rfl | assumption) rfl rfl ?_
      have hv9 : va_up M 45 (iu (iu (M 45) 0 (nC (M 1) n p a b e)) 1 (M 45 5)) 45 0 = nC (M 1) n p a b e := by rw [up_s, iu_n _ _ (by decide), iu_s]
      rw [hcc] at hv9
      refine mi_if_eq (tgt := 125) dX1_readNumber_120 (by decide) (fun c_120 => ?_) (fun c_120 => ?_)
      · exact absurd c_120 (by rw [up_s, iu_n _ _ (by decide), iu_s]; omega)
      · refine ms_iload_n dX1_readNumber_123 rfl ?_
        refine ms_ret dX1_readNumber_124 rfl ⟨_, a, rfl, rfl, hFF.2, Or.inl ⟨by omega, by rw [hcc]; have := hFF.1; rw [hp5] at this ⊢; exact this, rfl⟩⟩ (by simp)

set_option maxHeartbeats 4000000 in
set_option maxRecDepth 100000 in
theorem k_X1_rnF {S : mx_Sc} {f : Bool} {M : Nat → Int → Int} {L : Nat → Nat → Int64} {Rf : Nat → Nat → Option Nat} (hR : mx_rf Rf) {t : Nat} (ht : t = 29 ∨ t = 37) {n : Int} (hn : 0 ≤ n ∧ n ≤ 500) (hB : ∀ i, 0 ≤ i → i < 500 → 0 ≤ M 1 i ∧ M 1 i ≤ 255) {a b e : Int} (ha : 0 ≤ a ∧ a ≤ 1) (hb : -1 ≤ b ∧ b ≤ 1000) (he : 1 ≤ e ∧ e ≤ 5) {c q : Int} (hF : rdF M t n c q) : mx_C S mX1_readNumber [.ref 45, .int (iI a), .int (iI b), .int (iI e)] (f, mx_SH, M, L, Rf) 0 0 (fun v9 h9 => h9 = (f, mx_SH, M, L, Rf) ∧ v9 = some (.int (iI a))) (fun _ _ => False) := by
  refine mx_C_of (by decide) (by simp [Value.category]) (Nat.le_of_ble_eq_true rfl) rfl ?_
  show mx_E S mX1_readNumber 0 [some (.ref 45), some (.int (iI a)), some (.int (iI b)), some (.int (iI e)), none, none] [] (f, mx_SH, M, L, Rf) 0 0 _ _
  obtain ⟨⟨p, hS⟩, hw0, hw1, hc, hj⟩ := hF
  have hp5 : M 45 5 = p := hS.2.1
  have h3 := hS.1
  have h4 := hS.2.2.2.1
  have h6 := hS.2.2.1
  have h0 := hS.2.2.2.2
  have htb := tk_b (M 1) n p
  have ht9 := te_b (g := M 1) hS.2.2.2.2.2
  refine mi_iconst dX1_readNumber_0 ?_
  refine ms_istore dX1_readNumber_1 (by decide) rfl ?_
  dsimp only [List.set, Nat.reduceAdd]
  refine ms_aload_n dX1_readNumber_3 rfl ?_
  refine ms_getI (z := 5) dX1_readNumber_4 (fo_X1_56 rfl) (by first | rfl | assumption) rfl rfl ?_
  refine ms_istore dX1_readNumber_7 (by decide) rfl ?_
  dsimp only [List.set, Nat.reduceAdd]
  have i9 := l_X1_rn (S := S) (f := f) (L := L) (P := (fun v9 h9 => h9 = (f, mx_SH, M, L, Rf) ∧ v9 = some (.int (iI a)))) (PX := fun _ _ => False) (bc := 0) (bs := 0) (a := a) (b := b) (e := e) hR hn hB hS (te (M 1) n p - p).toNat 0 (by omega) (fun z4 z5 hz => ?_)
  · rw [show p + ((0 : Nat) : Int) = M 45 5 by omega] at i9
    exact i9
  · refine ms_aload_n dX1_readNumber_50 rfl ?_
    refine ms_getI (z := 4) dX1_readNumber_51 (fo_X1_49 rfl) (by first | rfl | assumption) rfl rfl ?_
    refine mi_iconst dX1_readNumber_54 ?_
    refine mi_icmp_eq (tgt := 70) dX1_readNumber_55 (by decide) (fun c_55 => ?_) (fun c_55 => ?_)
    · refine ms_aload_n dX1_readNumber_70 rfl ?_
      refine ms_getI (z := 6) dX1_readNumber_71 (fo_X1_40 rfl) (by first | rfl | assumption) rfl rfl ?_
      refine ms_aload_n dX1_readNumber_74 rfl ?_
      refine ms_getI (z := 5) dX1_readNumber_75 (fo_X1_56 rfl) (by first | rfl | assumption) rfl rfl ?_
      refine mi_isub dX1_readNumber_78 ?_
      refine mi_iconst dX1_readNumber_79 ?_
      refine mi_icmp_le (tgt := 95) dX1_readNumber_80 (by decide) (fun c_80 => ?_) (fun c_80 => ?_)
      · have hnv := nV_b (g := M 1) (n := n) (p := p) (by omega) (by omega)
        have hz4 := hz (by omega)
        refine ms_iload dX1_readNumber_95 rfl ?_
        refine ms_iload_n dX1_readNumber_97 rfl ?_
        refine mi_icmp_lt (tgt := 107) dX1_readNumber_98 (by decide) (fun c_98 => ?_) (fun c_98 => ?_)
        · refine ms_aload_n dX1_readNumber_107 rfl ?_
          refine ms_iload_n dX1_readNumber_108 rfl ?_
          refine ms_aload_n dX1_readNumber_109 rfl ?_
          refine ms_getI (z := 5) dX1_readNumber_110 (fo_X1_56 rfl) (by first | rfl | assumption) rfl rfl ?_
          refine ms_callV2 (ci := 1) (r := (RX1, TX1, 10)) dX1_readNumber_113 cv_X1_readNumber_X1_refuse (k_X1_refuse (e := e) (p := M 45 5) hR (by omega)) rfl rfl (by first | rfl | assumption) (Nat.le_of_ble_eq_true rfl) rfl (fun _ _ z => z.elim) (fun v9 h9 hp9 => ?_)
          obtain ⟨rfl, rfl⟩ := hp9
          rw [if_neg (show ¬ M 45 0 = 0 by omega)]
          refine ms_aload_n dX1_readNumber_116 rfl ?_
          refine ms_getI (z := 0) dX1_readNumber_117 (fo_X1_34 rfl) (by first | rfl | assumption) rfl rfl ?_
          refine mi_if_eq (tgt := 125) dX1_readNumber_120 (by decide) (fun c_120 => ?_) (fun c_120 => ?_)
          · exact absurd c_120 (by omega)
          · refine ms_iload_n dX1_readNumber_123 rfl ?_
            refine ms_ret dX1_readNumber_124 rfl ⟨rfl, rfl⟩ (by simp)
        · refine ms_iload dX1_readNumber_101 rfl ?_
          refine ms_iload_n dX1_readNumber_103 rfl ?_
          refine mi_icmp_le (tgt := 116) dX1_readNumber_104 (by decide) (fun c_104 => ?_) (fun c_104 => ?_)
          · refine ms_aload_n dX1_readNumber_116 rfl ?_
            refine ms_getI (z := 0) dX1_readNumber_117 (fo_X1_34 rfl) (by first | rfl | assumption) rfl rfl ?_
            refine mi_if_eq (tgt := 125) dX1_readNumber_120 (by decide) (fun c_120 => ?_) (fun c_120 => ?_)
            · exact absurd c_120 (by omega)
            · refine ms_iload_n dX1_readNumber_123 rfl ?_
              refine ms_ret dX1_readNumber_124 rfl ⟨rfl, rfl⟩ (by simp)
          · refine ms_aload_n dX1_readNumber_107 rfl ?_
            refine ms_iload_n dX1_readNumber_108 rfl ?_
            refine ms_aload_n dX1_readNumber_109 rfl ?_
            refine ms_getI (z := 5) dX1_readNumber_110 (fo_X1_56 rfl) (by first | rfl | assumption) rfl rfl ?_
            refine ms_callV2 (ci := 1) (r := (RX1, TX1, 10)) dX1_readNumber_113 cv_X1_readNumber_X1_refuse (k_X1_refuse (e := e) (p := M 45 5) hR (by omega)) rfl rfl (by first | rfl | assumption) (Nat.le_of_ble_eq_true rfl) rfl (fun _ _ z => z.elim) (fun v9 h9 hp9 => ?_)
            obtain ⟨rfl, rfl⟩ := hp9
            rw [if_neg (show ¬ M 45 0 = 0 by omega)]
            refine ms_aload_n dX1_readNumber_116 rfl ?_
            refine ms_getI (z := 0) dX1_readNumber_117 (fo_X1_34 rfl) (by first | rfl | assumption) rfl rfl ?_
            refine mi_if_eq (tgt := 125) dX1_readNumber_120 (by decide) (fun c_120 => ?_) (fun c_120 => ?_)
            · exact absurd c_120 (by omega)
            · refine ms_iload_n dX1_readNumber_123 rfl ?_
              refine ms_ret dX1_readNumber_124 rfl ⟨rfl, rfl⟩ (by simp)
      · refine ms_aload_n dX1_readNumber_83 rfl ?_
        refine mi_iconst dX1_readNumber_84 ?_
        refine ms_aload_n dX1_readNumber_85 rfl ?_
        refine ms_getI (z := 5) dX1_readNumber_86 (fo_X1_56 rfl) (by first | rfl | assumption) rfl rfl ?_
        refine ms_callV2 (ci := 1) (r := (RX1, TX1, 10)) dX1_readNumber_89 cv_X1_readNumber_X1_refuse (k_X1_refuse (e := 2) (p := M 45 5) hR (by omega)) rfl rfl (by first | rfl | assumption) (Nat.le_of_ble_eq_true rfl) rfl (fun _ _ z => z.elim) (fun v9 h9 hp9 => ?_)
        obtain ⟨rfl, rfl⟩ := hp9
        rw [if_neg (show ¬ M 45 0 = 0 by omega)]
        refine ms_goto (tgt := 116) dX1_readNumber_92 (by decide) ?_
        refine ms_aload_n dX1_readNumber_116 rfl ?_
        refine ms_getI (z := 0) dX1_readNumber_117 (fo_X1_34 rfl) (by first | rfl | assumption) rfl rfl ?_
        refine mi_if_eq (tgt := 125) dX1_readNumber_120 (by decide) (fun c_120 => ?_) (fun c_120 => ?_)
        · exact absurd c_120 (by omega)
        · refine ms_iload_n dX1_readNumber_123 rfl ?_
          refine ms_ret dX1_readNumber_124 rfl ⟨rfl, rfl⟩ (by simp)
    · refine ms_aload_n dX1_readNumber_58 rfl ?_
      refine mi_iconst dX1_readNumber_59 ?_
      refine ms_aload_n dX1_readNumber_60 rfl ?_
      refine ms_getI (z := 5) dX1_readNumber_61 (fo_X1_56 rfl) (by first | rfl | assumption) rfl rfl ?_
      refine ms_callV2 (ci := 1) (r := (RX1, TX1, 10)) dX1_readNumber_64 cv_X1_readNumber_X1_refuse (k_X1_refuse (e := 1) (p := M 45 5) hR (by omega)) rfl rfl (by first | rfl | assumption) (Nat.le_of_ble_eq_true rfl) rfl (fun _ _ z => z.elim) (fun v9 h9 hp9 => ?_)
      obtain ⟨rfl, rfl⟩ := hp9
      rw [if_neg (show ¬ M 45 0 = 0 by omega)]
      refine ms_goto (tgt := 116) dX1_readNumber_67 (by decide) ?_
      refine ms_aload_n dX1_readNumber_116 rfl ?_
      refine ms_getI (z := 0) dX1_readNumber_117 (fo_X1_34 rfl) (by first | rfl | assumption) rfl rfl ?_
      refine mi_if_eq (tgt := 125) dX1_readNumber_120 (by decide) (fun c_120 => ?_) (fun c_120 => ?_)
      · exact absurd c_120 (by omega)
      · refine ms_iload_n dX1_readNumber_123 rfl ?_
        refine ms_ret dX1_readNumber_124 rfl ⟨rfl, rfl⟩ (by simp)

