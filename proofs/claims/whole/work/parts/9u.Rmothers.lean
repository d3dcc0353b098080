set_option maxHeartbeats 4000000 in
set_option maxRecDepth 100000 in
theorem l_X7_ms1 {S : mx_Sc} {f : Bool} {M : Nat → Int → Int} {L : Nat → Nat → Int64} {Rf : Nat → Nat → Option Nat} (hR : mx_rf Rf) (hT : sp_tok (sp_tR M)) (hv : sp_vok (sp_tR M) (M 63)) (hlk : sp_lok (sp_tR M) (M 57)) {n : Int} (hn : 0 ≤ n ∧ n ≤ 99) (hnn : M 48 29 = n) (hne : n ≤ M 53 5) (hwI : wdI (M 63)) {m : Nat} {c : Nat → Int} (hm3 : m ≤ 3) (hmm : M 48 38 = (m : Int)) (hch : ∀ j : Nat, j < m → M 73 ((m : Int) - 1 - (j : Int)) = c j ∧ 0 ≤ c j ∧ c j < M 53 1) (hdd : ∀ i j : Nat, i < j → j < m → c i ≠ c j) {x k : Int} {P : Option Value → mx_H → Prop} {PX : String → mx_H → Prop} : ∀ (kk : Nat) (w : Int) (N : Nat → Int → Int), 0 ≤ w → w + kk = 9 ^ m → (∀ y, y ≠ 64 → y ≠ 65 → y ≠ 67 → y ≠ 74 → N y = M y) → nk N → (∀ w2, 0 ≤ w2 → w2 < w → irP (M 63) c m w2 → ∀ j : Nat, j < m → N 74 (3 * w2 + ((m : Int) - 1 - (j : Int))) = vmR (sp_tR M) (M 57) n (M 63) c m w2 j) → (∀ (N : Nat → Int → Int), (∀ y, y ≠ 64 → y ≠ 65 → y ≠ 67 → y ≠ 74 → N y = M y) → nk N → (∀ w2, 0 ≤ w2 → w2 < 9 ^ m → irP (M 63) c m w2 → ∀ j : Nat, j < m → N 74 (3 * w2 + ((m : Int) - 1 - (j : Int))) = vmR (sp_tR M) (M 57) n (M 63) c m w2 j) → mx_E S mX7_mothers 190 [some (.ref 48), some (.int (iI x)), some (.int (iI k)), some (.int (iI 1)), some (.int (iI ((9 : Int) ^ m))), some (.int (iI ((9 : Int) ^ m))), none, none] [] (f, mx_SH, N, L, Rf) 0 0 P PX) → mx_E S mX7_mothers 162 [some (.ref 48), some (.int (iI x)), some (.int (iI k)), some (.int (iI 1)), some (.int (iI ((9 : Int) ^ m))), some (.int (iI w)), none, none] [] (f, mx_SH, N, L, Rf) 0 0 P PX := by
  intro kk
  induction kk with
  | zero => 
    intro w N g0 g1 q1 q3 q2 hK
    have hT0 : 1 ≤ M 53 0 ∧ M 53 0 ≤ 30 := hT.1
    have hT1 : 0 ≤ M 53 1 ∧ M 53 1 ≤ 6 := hT.2.1
    have hT5 : 1 ≤ M 53 5 ∧ M 53 5 ≤ 99 := hT.2.2.2.2.2.1
    have hT6 : 0 ≤ M 53 6 ∧ M 53 6 ≤ 10 := hT.2.2.2.2.2.2.1
    have h9 := p9_3 hm3
    have eT : sp_tR N = sp_tR M := by simp only [sp_tR, q1 53 (by decide) (by decide) (by decide) (by decide), q1 54 (by decide) (by decide) (by decide) (by decide), q1 55 (by decide) (by decide) (by decide) (by decide), q1 58 (by decide) (by decide) (by decide) (by decide), q1 59 (by decide) (by decide) (by decide) (by decide), q1 60 (by decide) (by decide) (by decide) (by decide)]
    have x63 : N 63 = M 63 := q1 63 (by decide) (by decide) (by decide) (by decide)
    have x57 : N 57 = M 57 := q1 57 (by decide) (by decide) (by decide) (by decide)
    have x53 : N 53 = M 53 := q1 53 (by decide) (by decide) (by decide) (by decide)
    have x48 : N 48 = M 48 := q1 48 (by decide) (by decide) (by decide) (by decide)
    have x73 : N 73 = M 73 := q1 73 (by decide) (by decide) (by decide) (by decide)
    refine ms_iload dX7_mothers_162 rfl ?_
    refine ms_iload dX7_mothers_164 rfl ?_
    refine mi_icmp_ge (tgt := 190) dX7_mothers_166 (by decide) (fun c_166 => ?_) (fun c_166 => ?_)
    · have ew : w = 9 ^ m := by omega
      rw [ew] at q2 ⊢
      exact hK N q1 q3 q2
    · exact absurd c_166 (by omega)
  | succ kk ih => 
    intro w N g0 g1 q1 q3 q2 hK
    have hT0 : 1 ≤ M 53 0 ∧ M 53 0 ≤ 30 := hT.1
    have hT1 : 0 ≤ M 53 1 ∧ M 53 1 ≤ 6 := hT.2.1
    have hT5 : 1 ≤ M 53 5 ∧ M 53 5 ≤ 99 := hT.2.2.2.2.2.1
    have hT6 : 0 ≤ M 53 6 ∧ M 53 6 ≤ 10 := hT.2.2.2.2.2.2.1
    have h9 := p9_3 hm3
    have eT : sp_tR N = sp_tR M := by simp only [sp_tR, q1 53 (by decide) (by decide) (by decide) (by decide), q1 54 (by decide) (by decide) (by decide) (by decide), q1 55 (by decide) (by decide) (by decide) (by decide), q1 58 (by decide) (by decide) (by decide) (by decide), q1 59 (by decide) (by decide) (by decide) (by decide), q1 60 (by decide) (by decide) (by decide) (by decide)]
    have x63 : N 63 = M 63 := q1 63 (by decide) (by decide) (by decide) (by decide)
    have x57 : N 57 = M 57 := q1 57 (by decide) (by decide) (by decide) (by decide)
    have x53 : N 53 = M 53 := q1 53 (by decide) (by decide) (by decide) (by decide)
    have x48 : N 48 = M 48 := q1 48 (by decide) (by decide) (by decide) (by decide)
    have x73 : N 73 = M 73 := q1 73 (by decide) (by decide) (by decide) (by decide)
    refine ms_iload dX7_mothers_162 rfl ?_
    refine ms_iload dX7_mothers_164 rfl ?_
    refine mi_icmp_ge (tgt := 190) dX7_mothers_166 (by decide) (fun c_166 => ?_) (fun c_166 => ?_)
    · exact absurd c_166 (by omega)
    · refine ms_aload_n dX7_mothers_169 rfl ?_
      refine ms_iload dX7_mothers_170 rfl ?_
      refine ms_callV1 (ci := 7) (r := (RX7, TX7, 48)) dX7_mothers_172 cv_X7_mothers_X7_isRow (k_X7_isRow (M := N) hR (by rw [eT]; exact hT) (by rw [eT, x63]; exact hv) (m := m) (c := c) hm3 (by rw [x48]; exact hmm) (by rw [x73, x53]; exact hch) (w := w) ⟨by omega, by omega⟩) rfl rfl (by first | rfl | assumption) (Nat.le_of_ble_eq_true rfl) rfl (fun _ _ z => z.elim) (fun v9 h9 hp9 => ?_)
      obtain ⟨rfl, rfl⟩ := hp9
      rw [x63]
      refine mi_if_eqB (tgt := 184) dX7_mothers_175 (by decide) (fun c_175 => ?_) (fun c_175 => ?_)
      · refine mi_iinc dX7_mothers_184 rfl (by decide) rfl ?_
        dsimp only [List.set, Nat.reduceAdd]
        refine ms_goto (tgt := 162) dX7_mothers_187 (by decide) ?_
        exact ih (w + 1) N (by omega) (by omega) q1 q3 (fun w2 a b d j hj => by by_cases e : w2 = w; (subst e; exact absurd d (irB_n c_175)); exact q2 w2 a (by omega) d j hj) hK
      · refine ms_aload_n dX7_mothers_178 rfl ?_
        refine ms_iload dX7_mothers_179 rfl ?_
        refine ms_callV1 (ci := 7) (r := (RX7, TX7, 48)) dX7_mothers_181 cv_X7_mothers_X7_tellRow (k_X7_tellRow (M := N) hR (by rw [eT]; exact hT) (by rw [eT, x63]; exact hv) (by rw [eT, x57]; exact hlk) (n := n) hn (by rw [x48]; exact hnn) (by rw [x53]; exact hne) (by rw [x63]; exact hwI) (m := m) (c := c) hm3 (by rw [x48]; exact hmm) (by rw [x73, x53]; exact hch) hdd (w := w) ⟨by omega, by omega⟩ (by rw [x63]; exact irB_i c_175)) rfl rfl (by first | rfl | assumption) (Nat.le_of_ble_eq_true rfl) rfl (fun _ _ z => z.elim) (fun v9 h9 hp9 => ?_)
        obtain ⟨N2, rfl, rfl, y1, y2, y3⟩ := hp9
        rw [eT, x57, x63] at y3
        refine mi_iinc dX7_mothers_184 rfl (by decide) rfl ?_
        dsimp only [List.set, Nat.reduceAdd]
        refine ms_goto (tgt := 162) dX7_mothers_187 (by decide) ?_
        refine ih (w + 1) N2 (by omega) (by omega) (fun y a b d e => by rw [y1 y a b d e]; exact q1 y a b d e) y2 (fun w2 a b d j hj => ?_) hK
        rw [y3]
        by_cases e : w2 = w
        · subst e
          rw [if_pos (by omega), show ((m : Int) - 1 - (3 * w2 + ((m : Int) - 1 - (j : Int)) - 3 * w2)).toNat = j by omega]
        · rw [if_neg (by omega)]
          exact q2 w2 a (by omega) d j hj

theorem fq_n {v : Int → Int} {c : Nat → Int} {m : Nat} {V : Int → Nat → Int} {w : Nat} {fr : Int} (h : fqP v c m V w fr) (hn : ¬ (irB v c m w = true ∧ rqB v c m V w = true)) : fqP v c m V ((w + 1 : Nat) : Int) fr := by
  rcases h with ⟨h1, h2⟩ | ⟨h1, h2, h3, h4⟩
  · exact Or.inl ⟨h1, fun w2 a b => by by_cases e : w2 = (w : Int); (rw [e]; exact hn); exact h2 w2 a (by omega)⟩
  · exact Or.inr ⟨h1, by omega, h3, h4⟩
theorem p9c {m : Nat} : ((9 ^ m : Nat) : Int) = (9 : Int) ^ m := by
  rw [Int.natCast_pow]
  rfl
set_option maxHeartbeats 4000000 in
set_option maxRecDepth 100000 in
theorem l_X7_ms2 {S : mx_Sc} {f : Bool} {M : Nat → Int → Int} {L : Nat → Nat → Int64} {Rf : Nat → Nat → Option Nat} (hR : mx_rf Rf) (hT : sp_tok (sp_tR M)) (hv : sp_vok (sp_tR M) (M 63)) {m : Nat} {c : Nat → Int} (hm3 : m ≤ 3) (hmm : M 48 38 = (m : Int)) (hch : ∀ j : Nat, j < m → M 73 ((m : Int) - 1 - (j : Int)) = c j ∧ 0 ≤ c j ∧ c j < M 53 1) {V : Int → Nat → Int} (hV : ∀ w, 0 ≤ w → w < 9 ^ m → irP (M 63) c m w → ∀ j : Nat, j < m → M 74 (3 * w + ((m : Int) - 1 - (j : Int))) = V w j ∧ 0 ≤ V w j ∧ V w j ≤ 1200) {x k : Int} (hk : 0 ≤ k ∧ k < 2) : ∀ (kk : Nat) (w : Nat) (fr : Int), (w : Int) + kk = 9 ^ m → fqP (M 63) c m V w fr → mx_E S mX7_mothers 199 [some (.ref 48), some (.int (iI x)), some (.int (iI k)), some (.int (iI 1)), some (.int (iI ((9 : Int) ^ m))), some (.int (iI (rqC (M 63) c m V w))), some (.int (iI fr)), some (.int (iI (w : Int)))] [] (f, mx_SH, M, L, Rf) 0 0 (fun v9 h9 => h9 = (f, mx_SH, M, L, Rf) ∧ ∃ y, v9 = some (.int (iI y)) ∧ ((k = 0 ∧ y = rqC (M 63) c m V (9 ^ m)) ∨ (k = 1 ∧ ∃ fr, fqP (M 63) c m V (9 ^ m) fr ∧ y = if fr = -1 then -1 else btR m fr m))) (fun _ _ => False) := by
  intro kk
  induction kk with
  | zero => 
    intro w fr g1 q1
    have hT0 : 1 ≤ M 53 0 ∧ M 53 0 ≤ 30 := hT.1
    have hT1 : 0 ≤ M 53 1 ∧ M 53 1 ≤ 6 := hT.2.1
    have hT5 : 1 ≤ M 53 5 ∧ M 53 5 ≤ 99 := hT.2.2.2.2.2.1
    have hT6 : 0 ≤ M 53 6 ∧ M 53 6 ≤ 10 := hT.2.2.2.2.2.2.1
    have h9 := p9_3 hm3
    have ew : w = 9 ^ m := by have := p9c (m := m); omega
    have hfb : -1 ≤ fr ∧ fr < 9 ^ m := by rcases q1 with ⟨a, _⟩ | ⟨a, b, _⟩ <;> omega
    rw [show ((w : Nat) : Int) = 9 ^ m by omega] at q1
    refine ms_iload dX7_mothers_199 rfl ?_
    refine ms_iload dX7_mothers_201 rfl ?_
    refine mi_icmp_ge (tgt := 251) dX7_mothers_203 (by decide) (fun c_203 => ?_) (fun c_203 => ?_)
    · refine ms_iload_n dX7_mothers_251 rfl ?_
      refine mi_if_ne (tgt := 260) dX7_mothers_252 (by decide) (fun c_252 => ?_) (fun c_252 => ?_)
      · refine ms_iload dX7_mothers_260 rfl ?_
        refine mi_iconst dX7_mothers_262 ?_
        refine mi_icmp_ne (tgt := 270) dX7_mothers_263 (by decide) (fun c_263 => ?_) (fun c_263 => ?_)
        · refine ms_aload_n dX7_mothers_270 rfl ?_
          refine ms_iload dX7_mothers_271 rfl ?_
          refine ms_callV1 (ci := 7) (r := (RX7, TX7, 48)) dX7_mothers_273 cv_X7_mothers_X7_byTens (k_X7_byTens hR hm3 hmm (w := fr) ⟨by omega, by omega⟩) rfl rfl (by first | rfl | assumption) (Nat.le_of_ble_eq_true rfl) rfl (fun _ _ z => z.elim) (fun v9 h9 hp9 => ?_)
          obtain ⟨rfl, rfl⟩ := hp9
          refine ms_ret dX7_mothers_276 rfl ⟨rfl, _, rfl, Or.inr ⟨by omega, fr, q1, by rw [if_neg c_263]⟩⟩ (by simp)
        · refine mi_iconst dX7_mothers_266 ?_
          refine ms_goto (tgt := 276) dX7_mothers_267 (by decide) ?_
          refine ms_ret dX7_mothers_276 rfl ⟨rfl, _, rfl, Or.inr ⟨by omega, fr, q1, by rw [if_pos c_263]⟩⟩ (by simp)
      · refine ms_iload dX7_mothers_255 rfl ?_
        refine ms_goto (tgt := 276) dX7_mothers_257 (by decide) ?_
        refine ms_ret dX7_mothers_276 rfl ⟨rfl, _, rfl, Or.inl ⟨by omega, by rw [ew]⟩⟩ (by simp)
    · exact absurd c_203 (by omega)
  | succ kk ih => 
    intro w fr g1 q1
    have hT0 : 1 ≤ M 53 0 ∧ M 53 0 ≤ 30 := hT.1
    have hT1 : 0 ≤ M 53 1 ∧ M 53 1 ≤ 6 := hT.2.1
    have hT5 : 1 ≤ M 53 5 ∧ M 53 5 ≤ 99 := hT.2.2.2.2.2.1
    have hT6 : 0 ≤ M 53 6 ∧ M 53 6 ≤ 10 := hT.2.2.2.2.2.2.1
    have h9 := p9_3 hm3
    have hfb : -1 ≤ fr ∧ fr < w := by rcases q1 with ⟨a, _⟩ | ⟨a, b, _⟩ <;> omega
    refine ms_iload dX7_mothers_199 rfl ?_
    refine ms_iload dX7_mothers_201 rfl ?_
    refine mi_icmp_ge (tgt := 251) dX7_mothers_203 (by decide) (fun c_203 => ?_) (fun c_203 => ?_)
    · exact absurd c_203 (by omega)
    · refine ms_aload_n dX7_mothers_206 rfl ?_
      refine ms_iload dX7_mothers_207 rfl ?_
      refine ms_callV1 (ci := 7) (r := (RX7, TX7, 48)) dX7_mothers_209 cv_X7_mothers_X7_isRow (k_X7_isRow hR hT hv hm3 hmm hch (w := (w : Int)) ⟨by omega, by omega⟩) rfl rfl (by first | rfl | assumption) (Nat.le_of_ble_eq_true rfl) rfl (fun _ _ z => z.elim) (fun v9 h9 hp9 => ?_)
      obtain ⟨rfl, rfl⟩ := hp9
      refine mi_if_eqB (tgt := 245) dX7_mothers_212 (by decide) (fun c_212 => ?_) (fun c_212 => ?_)
      · refine mi_iinc dX7_mothers_245 rfl (by decide) rfl ?_
        dsimp only [List.set, Nat.reduceAdd]
        refine ms_goto (tgt := 199) dX7_mothers_248 (by decide) ?_
        have hno : ¬ (irB (M 63) c m (w : Int) = true ∧ rqB (M 63) c m V (w : Int) = true) := fun z => by rw [c_212] at z; exact absurd z.1 (by decide)
        have i9 := ih (w + 1) fr (by omega) (fq_n q1 hno)
        rw [show rqC (M 63) c m V (w + 1) = rqC (M 63) c m V w from by simp only [rqC]; rw [show (irB (M 63) c m (w : Int) && rqB (M 63) c m V (w : Int)) = false from by cases h1 : irB (M 63) c m (w : Int) <;> cases h2 : rqB (M 63) c m V (w : Int) <;> simp_all]; exact Int.add_zero _] at i9
        exact i9
      · refine ms_aload_n dX7_mothers_215 rfl ?_
        refine ms_iload dX7_mothers_216 rfl ?_
        refine ms_callV1 (ci := 7) (r := (RX7, TX7, 48)) dX7_mothers_218 cv_X7_mothers_X7_rests (k_X7_rests hR hT hv hm3 hmm hch hV (w := (w : Int)) ⟨by omega, by omega⟩ (irB_i c_212)) rfl rfl (by first | rfl | assumption) (Nat.le_of_ble_eq_true rfl) rfl (fun _ _ z => z.elim) (fun v9 h9 hp9 => ?_)
        obtain ⟨rfl, rfl⟩ := hp9
        refine mi_if_neB (tgt := 227) dX7_mothers_221 (by decide) (fun c_221 => ?_) (fun c_221 => ?_)
        · refine mi_iinc dX7_mothers_227 rfl (by decide) rfl ?_
          dsimp only [List.set, Nat.reduceAdd]
          refine ms_iload dX7_mothers_230 rfl ?_
          refine mi_iconst dX7_mothers_232 ?_
          refine mi_icmp_ne (tgt := 241) dX7_mothers_233 (by decide) (fun c_233 => ?_) (fun c_233 => ?_)
          · refine ms_iload dX7_mothers_241 rfl ?_
            refine ms_istore dX7_mothers_243 (by decide) rfl ?_
            dsimp only [List.set, Nat.reduceAdd]
            refine mi_iinc dX7_mothers_245 rfl (by decide) rfl ?_
            dsimp only [List.set, Nat.reduceAdd]
            refine ms_goto (tgt := 199) dX7_mothers_248 (by decide) ?_
            have i9 := ih (w + 1) (fr) (by omega) (by rcases q1 with ⟨z, _⟩ | ⟨z1, z2, z3, z4⟩; exact absurd z c_233; exact Or.inr ⟨z1, by omega, z3, z4⟩)
            rw [show rqC (M 63) c m V (w + 1) = rqC (M 63) c m V w + 1 from by simp only [rqC]; rw [c_212, c_221]; rfl] at i9
            exact i9
          · refine ms_iload dX7_mothers_236 rfl ?_
            refine ms_goto (tgt := 243) dX7_mothers_238 (by decide) ?_
            refine ms_istore dX7_mothers_243 (by decide) rfl ?_
            dsimp only [List.set, Nat.reduceAdd]
            refine mi_iinc dX7_mothers_245 rfl (by decide) rfl ?_
            dsimp only [List.set, Nat.reduceAdd]
            refine ms_goto (tgt := 199) dX7_mothers_248 (by decide) ?_
            have i9 := ih (w + 1) ((w : Int)) (by omega) (Or.inr ⟨by omega, by omega, ⟨c_212, c_221⟩, by rcases q1 with ⟨_, z⟩ | ⟨z, _⟩; exact z; omega⟩)
            rw [show rqC (M 63) c m V (w + 1) = rqC (M 63) c m V w + 1 from by simp only [rqC]; rw [c_212, c_221]; rfl] at i9
            exact i9
        · refine ms_goto (tgt := 245) dX7_mothers_224 (by decide) ?_
          refine mi_iinc dX7_mothers_245 rfl (by decide) rfl ?_
          dsimp only [List.set, Nat.reduceAdd]
          refine ms_goto (tgt := 199) dX7_mothers_248 (by decide) ?_
          have hno : ¬ (irB (M 63) c m (w : Int) = true ∧ rqB (M 63) c m V (w : Int) = true) := fun z => by rw [c_221] at z; exact absurd z.2 (by decide)
          have i9 := ih (w + 1) fr (by omega) (fq_n q1 hno)
          rw [show rqC (M 63) c m V (w + 1) = rqC (M 63) c m V w from by simp only [rqC]; rw [show (irB (M 63) c m (w : Int) && rqB (M 63) c m V (w : Int)) = false from by cases h1 : irB (M 63) c m (w : Int) <;> cases h2 : rqB (M 63) c m V (w : Int) <;> simp_all]; exact Int.add_zero _] at i9
          exact i9

set_option maxHeartbeats 4000000 in
set_option maxRecDepth 100000 in
theorem k_X7_mothers {S : mx_Sc} {f : Bool} {M : Nat → Int → Int} {L : Nat → Nat → Int64} {Rf : Nat → Nat → Option Nat} (hR : mx_rf Rf) (hT : sp_tok (sp_tR M)) (hv : sp_vok (sp_tR M) (M 63)) (hlk : sp_lok (sp_tR M) (M 57)) {n : Int} (hn : 0 ≤ n ∧ n ≤ 99) (hnn : M 48 29 = n) (hne : n ≤ M 53 5) (hwI : wdI (M 63)) (hnk : nk M) {x : Int} (hx32 : -2147483648 ≤ x ∧ x ≤ 2147483647) {k : Int} (hk32 : -2147483648 ≤ k ∧ k ≤ 2147483647) (hk : 0 ≤ k ∧ k < 2) (hch : chP (M 53 1) (M 63) x) : mx_C S mX7_mothers [.ref 48, .int (iI x), .int (iI k)] (f, mx_SH, M, L, Rf) 0 0 (fun v9 h9 => ∃ N y, h9 = (f, mx_SH, N, L, Rf) ∧ (∀ y, y ≠ 48 → y ≠ 64 → y ≠ 65 → y ≠ 67 → y ≠ 73 → y ≠ 74 → N y = M y) ∧ N 48 4 = 0 ∧ (∀ j, j ≠ 4 → j ≠ 38 → N 48 j = M 48 j) ∧ nk N ∧ v9 = some (.int (iI y)) ∧ ((k = 0 ∧ y = rqC (M 63) (fun j => (bl x).getD j 0) (bl x).length (vmR (sp_tR M) (M 57) n (M 63) (fun j => (bl x).getD j 0) (bl x).length) (9 ^ (bl x).length)) ∨ (k = 1 ∧ ∃ fr, fqP (M 63) (fun j => (bl x).getD j 0) (bl x).length (vmR (sp_tR M) (M 57) n (M 63) (fun j => (bl x).getD j 0) (bl x).length) (9 ^ (bl x).length) fr ∧ y = if fr = -1 then -1 else btR (bl x).length fr (bl x).length))) (fun _ _ => False) := by
  refine mx_C_of (by decide) (by simp [Value.category]) (Nat.le_of_ble_eq_true rfl) rfl ?_
  show mx_E S mX7_mothers 0 [some (.ref 48), some (.int (iI x)), some (.int (iI k)), none, none, none, none, none] [] (f, mx_SH, M, L, Rf) 0 0 _ _
  have hT0 : 1 ≤ M 53 0 ∧ M 53 0 ≤ 30 := hT.1
  have hT1 : 0 ≤ M 53 1 ∧ M 53 1 ≤ 6 := hT.2.1
  have hT5 : 1 ≤ M 53 5 ∧ M 53 5 ≤ 99 := hT.2.2.2.2.2.1
  have hT6 : 0 ≤ M 53 6 ∧ M 53 6 ≤ 10 := hT.2.2.2.2.2.2.1
  refine ms_aload_n dX7_mothers_0 rfl ?_
  refine mi_iconst dX7_mothers_1 ?_
  refine ms_putI (z := 4) dX7_mothers_2 (fo_X7_131 rfl) (by first | rfl | assumption) rfl rfl rfl ?_
  refine mx_gen (fun N => cdP M N 0) cdP.mk' (fun N hN => ?_)
  have e53 : N 53 = M 53 := hN.1 53 (by decide)
  have e63 : N 63 = M 63 := hN.1 63 (by decide)
  have eTR : sp_tR N = sp_tR M := by simp only [sp_tR, hN.1 53 (by decide), hN.1 54 (by decide), hN.1 55 (by decide), hN.1 58 (by decide), hN.1 59 (by decide), hN.1 60 (by decide)]
  have e29 : N 48 29 = n := (hN.2.2 29 (by decide)).trans hnn
  refine ms_iload_n dX7_mothers_5 rfl ?_
  refine mi_if_lt (tgt := 14) dX7_mothers_6 (by decide) (fun c_6 => ?_) (fun c_6 => ?_)
  · exact absurd c_6 (by omega)
  · refine ms_iload_n dX7_mothers_9 rfl ?_
    refine mi_iconst dX7_mothers_10 ?_
    refine mi_icmp_le (tgt := 20) dX7_mothers_11 (by decide) (fun c_11 => ?_) (fun c_11 => ?_)
    · refine ms_aload_n dX7_mothers_20 rfl ?_
      refine mi_iconst dX7_mothers_21 ?_
      refine ms_putI (z := 38) dX7_mothers_22 (fo_X7_329 rfl) (by first | rfl | assumption) rfl rfl rfl ?_
      refine mx_gen (fun N1 => (∀ y, y ≠ 48 → N1 y = M y) ∧ N1 48 4 = 0 ∧ N1 48 38 = 0 ∧ ∀ j, j ≠ 4 → j ≠ 38 → N1 48 j = M 48 j) ⟨fun y hy => by rw [up_n _ _ hy]; exact hN.1 y hy, by rw [up_s, iu_n _ _ (by decide)]; exact hN.2.1, by rw [up_s, iu_s], fun j a b => by rw [up_s, iu_n _ _ b]; exact hN.2.2 j a⟩ (fun N1 hN1 => ?_)
      obtain ⟨m1, m4, m38, mj⟩ := hN1
      have f53 : N1 53 = M 53 := m1 53 (by decide)
      have f63 : N1 63 = M 63 := m1 63 (by decide)
      have fT : sp_tR N1 = sp_tR M := by simp only [sp_tR, m1 53 (by decide), m1 54 (by decide), m1 55 (by decide), m1 58 (by decide), m1 59 (by decide), m1 60 (by decide)]
      have hal := al_lt (l := M 53 1) (by omega)
      refine ms_iload_n dX7_mothers_25 rfl ?_
      refine mi_iconst dX7_mothers_26 ?_
      refine mi_iconst dX7_mothers_27 ?_
      refine ms_aload_n dX7_mothers_28 rfl ?_
      refine ms_getR dX7_mothers_29 (fo_X7_43 rfl) (by first | rfl | assumption) rfl (by first | assumption | exact rf_48_5 hR ) ?_
      refine mi_iconst dX7_mothers_32 ?_
      refine ms_iald dX7_mothers_33 (by first | rfl | assumption) ?_
      rw [f53]
      refine mi_ishl (2 ^ (M 53 1).toNat) dX7_mothers_34 (p2_shl (by omega)) ?_
      refine mi_iconst dX7_mothers_35 ?_
      refine mi_isub dX7_mothers_36 ?_
      refine ms_callS3 dX7_mothers_37 cv_X7_mothers_X7_isIn (k_X7_isIn (f := f) (M := N1) (L := L) (Rf := Rf) hx32 (a := 1) (b := 2 ^ (M 53 1).toNat - 1) (by decide) (by omega)) (Nat.le_of_ble_eq_true rfl) rfl (fun _ _ z => z.elim) (fun v9 h9 hp9 => ?_)
      obtain ⟨rfl, rfl⟩ := hp9
      refine mi_if_eqB (tgt := 60) dX7_mothers_40 (by decide) (fun c_40 => ?_) (fun c_40 => ?_)
      · exact absurd (of_decide_eq_false c_40) (by have := hch.1; omega)
      · refine ms_iload_n dX7_mothers_43 rfl ?_
        refine ms_aload_n dX7_mothers_44 rfl ?_
        refine ms_aload_n dX7_mothers_45 rfl ?_
        refine ms_getR dX7_mothers_46 (fo_X7_77 rfl) (by first | rfl | assumption) rfl (by first | assumption | exact rf_48_25 hR ) ?_
        refine ms_callV1 (ci := 7) (r := (RX7, TX7, 48)) dX7_mothers_49 cv_X7_mothers_X7_outOf (k_X7_outOf (M := N1) hR (by rw [fT]; exact hT) (r := 63) (by decide) rfl (by rw [fT, f63]; exact hv)) rfl rfl (by first | rfl | assumption) (Nat.le_of_ble_eq_true rfl) rfl (fun _ _ z => z.elim) (fun v9 h9 hp9 => ?_)
        obtain ⟨rfl, rfl⟩ := hp9
        rw [f63, f53]
        have hin := of_decide_eq_true c_40
        have hx64 : 0 ≤ x ∧ x < 64 := by omega
        have hoN := ooN_b (M 63) (M 53 1).toNat (by omega)
        have hoa := oan_e hx64 hoN.1
        refine mi_iand (oan x (ooN (M 63) (M 53 1).toNat)) dX7_mothers_52 hoa.1 ?_
        refine mi_if_ne (tgt := 60) dX7_mothers_53 (by decide) (fun c_53 => ?_) (fun c_53 => ?_)
        · exact absurd (hoa.2.2.mpr (fun l hl => by rw [hoN.2 _ (by omega) (by omega)]; split; (rw [hch.2.1 _ (by omega) (by omega) hl]; rfl); rfl)) c_53
        · refine mi_iconst dX7_mothers_56 ?_
          refine ms_goto (tgt := 61) dX7_mothers_57 (by decide) ?_
          refine ms_istore_n dX7_mothers_61 (by decide) rfl ?_
          dsimp only [List.set, Nat.reduceAdd]
          refine mi_iconst dX7_mothers_62 ?_
          refine ms_istore dX7_mothers_63 (by decide) rfl ?_
          dsimp only [List.set, Nat.reduceAdd]
          refine l_X7_msA (S := S) (f := f) (L := L) (M := N1) (x := x) (k := k) hR (by rw [fT]; exact hT) hx64 hch.2.2 (M 53 1).toNat 0 N1 (by rw [f53]; omega) (fun _ _ _ => rfl) (fun _ _ => rfl) m38 (fun i hi => by exact absurd hi (Nat.not_lt_zero _)) (fun N2 z9 r1 r2 r3 r4 => ?_)
          rw [f53] at r3 r4
          have hae := asc_e hx64
          have hKs : asc x (M 53 1).toNat = asc x 6 := hae.2.2.2.1 ⟨(M 53 1).toNat, by omega⟩ (by show x < 2 ^ (M 53 1).toNat; omega)
          rw [hKs] at r3 r4
          rw [hae.1] at r3
          have hbk : ∀ k, 0 ≤ k → k < 6 → ob x k = 1 → k < M 53 1 := fun k k0 k1 k2 => by
            refine Classical.byContradiction fun q => ?_
            have h1 : (2 : Int) ^ (M 53 1).toNat ≤ 2 ^ k.toNat := by
              have := Nat.pow_le_pow_right (n := 2) (by omega) (show (M 53 1).toNat ≤ k.toNat by omega)
              exact_mod_cast this
            unfold ob at k2
            rw [Int.ediv_eq_zero_of_lt (by omega) (by omega)] at k2
            exact absurd k2 (by decide)
          have g53 : N2 53 = M 53 := by rw [r1 53 (by decide) (by decide)]; exact f53
          have g63 : N2 63 = M 63 := by rw [r1 63 (by decide) (by decide)]; exact f63
          have g57 : N2 57 = M 57 := by rw [r1 57 (by decide) (by decide)]; exact m1 57 (by decide)
          have gT : sp_tR N2 = sp_tR M := by rw [← fT]; simp only [sp_tR, r1 53 (by decide) (by decide), r1 54 (by decide) (by decide), r1 55 (by decide) (by decide), r1 58 (by decide) (by decide), r1 59 (by decide) (by decide), r1 60 (by decide) (by decide)]
          have g29 : N2 48 29 = n := by rw [r2 29 (by decide), mj 29 (by decide) (by decide)]; exact hnn
          have hchN : ∀ j : Nat, j < (bl x).length → N2 73 (((bl x).length : Int) - 1 - (j : Int)) = (bl x).getD j 0 ∧ 0 ≤ (bl x).getD j 0 ∧ (bl x).getD j 0 < N2 53 1 := fun j hj => by
            have h1 := r4 ((bl x).length - 1 - j) (by rw [hae.1]; omega)
            rw [hae.2.1 ⟨j, by omega⟩ hj] at h1
            rw [show (((bl x).length - 1 - j : Nat) : Int) = ((bl x).length : Int) - 1 - (j : Int) by omega] at h1
            have h2 := bl_at hj
            exact ⟨h1, h2.2.1, by rw [g53]; exact hbk _ h2.2.1 h2.2.2 h2.1⟩
          have hdd : ∀ i j : Nat, i < j → j < (bl x).length → (bl x).getD i 0 ≠ (bl x).getD j 0 := fun i j hij hj => hae.2.2.1 ⟨i, by omega⟩ ⟨j, by omega⟩ hij hj
          refine ms_iload_n dX7_mothers_140 rfl ?_
          refine mi_if_ne (tgt := 150) dX7_mothers_141 (by decide) (fun c_141 => ?_) (fun c_141 => ?_)
          · refine ms_aload_n dX7_mothers_150 rfl ?_
            refine ms_getI (z := 38) dX7_mothers_151 (fo_X7_329 rfl) (by first | rfl | assumption) rfl rfl ?_
            rw [r3]
            refine ms_callS1 dX7_mothers_154 cv_X7_mothers_X7_powerOf9 (k_X7_powerOf9 (m := (bl x).length) hch.2.2) (Nat.le_of_ble_eq_true rfl) rfl (fun _ _ z => z.elim) (fun v9 h9 hp9 => ?_)
            obtain ⟨rfl, rfl⟩ := hp9
            refine ms_istore dX7_mothers_157 (by decide) rfl ?_
            dsimp only [List.set, Nat.reduceAdd]
            refine mi_iconst dX7_mothers_159 ?_
            refine ms_istore dX7_mothers_160 (by decide) rfl ?_
            dsimp only [List.set, Nat.reduceAdd]
            refine l_X7_ms1 (S := S) (f := f) (L := L) (M := N2) (m := (bl x).length) (c := (fun j => (bl x).getD j 0)) (n := n) (x := x) (k := k) hR (by rw [gT]; exact hT) (by rw [gT, g63]; exact hv) (by rw [gT, g57]; exact hlk) hn g29 (by rw [g53]; exact hne) (by rw [g63]; exact hwI) hch.2.2 r3 hchN hdd ((9 : Int) ^ (bl x).length).toNat 0 N2 (by omega) (by have := p9_3 hch.2.2; omega) (fun _ _ _ _ _ => rfl) (fun a a0 a1 => by rw [r1 64 (by decide) (by decide), m1 64 (by decide)]; exact hnk a a0 a1) (fun w2 a b => by omega) (fun N3 t1 t2 t3 => ?_)
            rw [gT, g57, g63] at t3
            have h63 : N3 63 = M 63 := by rw [t1 63 (by decide) (by decide) (by decide) (by decide)]; exact g63
            have h53 : N3 53 = M 53 := by rw [t1 53 (by decide) (by decide) (by decide) (by decide)]; exact g53
            have hT3 : sp_tR N3 = sp_tR M := by rw [← gT]; simp only [sp_tR, t1 53 (by decide) (by decide) (by decide) (by decide), t1 54 (by decide) (by decide) (by decide) (by decide), t1 55 (by decide) (by decide) (by decide) (by decide), t1 58 (by decide) (by decide) (by decide) (by decide), t1 59 (by decide) (by decide) (by decide) (by decide), t1 60 (by decide) (by decide) (by decide) (by decide)]
            have x48 : N3 48 = N2 48 := t1 48 (by decide) (by decide) (by decide) (by decide)
            have hc6 : ∀ j, j < (bl x).length → 0 ≤ (bl x).getD j 0 ∧ (bl x).getD j 0 < 6 := fun j hj => (bl_at hj).2
            refine mi_iconst dX7_mothers_190 ?_
            refine ms_istore dX7_mothers_191 (by decide) rfl ?_
            dsimp only [List.set, Nat.reduceAdd]
            refine mi_iconst dX7_mothers_193 ?_
            refine ms_istore dX7_mothers_194 (by decide) rfl ?_
            dsimp only [List.set, Nat.reduceAdd]
            refine mi_iconst dX7_mothers_196 ?_
            refine ms_istore dX7_mothers_197 (by decide) rfl ?_
            dsimp only [List.set, Nat.reduceAdd]
            refine ms_conseq (fun v9 h9 hp => ?_) (fun _ _ z => z) (l_X7_ms2 (S := S) (f := f) (L := L) (M := N3) (m := (bl x).length) (c := (fun j => (bl x).getD j 0)) (V := (vmR (sp_tR M) (M 57) n (M 63) (fun j => (bl x).getD j 0) (bl x).length)) (x := x) (k := k) hR (by rw [hT3]; exact hT) (by rw [hT3, h63]; exact hv) hch.2.2 (by rw [x48]; exact r3) (by rw [t1 73 (by decide) (by decide) (by decide) (by decide), h53, ← g53]; exact hchN) (fun w w0 w1 w2 j hj => ⟨t3 w w0 w1 (by rw [h63] at w2; exact w2) j hj, ?_⟩) hk (9 ^ (bl x).length) 0 (-1) (by rw [p9c]; omega) (Or.inl ⟨rfl, fun w a b => by omega⟩))
            · obtain ⟨y1, y, y2, y3⟩ := hp
              rw [h63] at y3
              refine ⟨N3, y, y1, fun y a b c d e f => by rw [t1 y b c d f, r1 y a e]; exact m1 y a, by rw [x48, r2 4 (by decide)]; exact m4, fun j a b => by rw [x48, r2 j b]; exact mj j a b, t2, y2, y3⟩
            · rw [h63] at w2
              have hvg := gvM_ok hT hv (m := (bl x).length) (c := (fun j => (bl x).getD j 0)) (w := w) (fun j hj => by have := hchN j hj; rw [g53] at this; exact this.2) hdd w2 (bl x).length (Nat.le_refl _)
              unfold vmR
              exact wv_b hT (run_vok hT hlk false false hn.1 hvg _ (by simp only; omega)) (wdI.run hT (gvM_w hwI hc6 (bl x).length (Nat.le_refl _)) false false hn.1 _) (hc6 j hj)
          · exact absurd c_141 (by omega)
    · exact absurd c_11 (by omega)

set_option maxHeartbeats 4000000 in
set_option maxRecDepth 100000 in
theorem k_X7_mothers_y {S : mx_Sc} {f : Bool} {M : Nat → Int → Int} {L : Nat → Nat → Int64} {Rf : Nat → Nat → Option Nat} (hR : mx_rf Rf) (hT : sp_tok (sp_tR M)) (hv : sp_vok (sp_tR M) (M 63)) {x : Int} (hx32 : -2147483648 ≤ x ∧ x ≤ 2147483647) {k : Int} (hk32 : -2147483648 ≤ k ∧ k ≤ 2147483647) (hk : 0 ≤ k ∧ k < 2) (hch : ¬ chP (M 53 1) (M 63) x) : mx_C S mX7_mothers [.ref 48, .int (iI x), .int (iI k)] (f, mx_SH, M, L, Rf) 0 0 (fun v9 h9 => ∃ N, h9 = (f, mx_SH, N, L, Rf) ∧ v9 = some (.int (iI 0)) ∧ (∀ y, y ≠ 48 → y ≠ 73 → N y = M y) ∧ N 48 4 = 2 ∧ ∀ j, j ≠ 4 → j ≠ 38 → N 48 j = M 48 j) (fun _ _ => False) := by
  refine mx_C_of (by decide) (by simp [Value.category]) (Nat.le_of_ble_eq_true rfl) rfl ?_
  show mx_E S mX7_mothers 0 [some (.ref 48), some (.int (iI x)), some (.int (iI k)), none, none, none, none, none] [] (f, mx_SH, M, L, Rf) 0 0 _ _
  have hT0 : 1 ≤ M 53 0 ∧ M 53 0 ≤ 30 := hT.1
  have hT1 : 0 ≤ M 53 1 ∧ M 53 1 ≤ 6 := hT.2.1
  have hT5 : 1 ≤ M 53 5 ∧ M 53 5 ≤ 99 := hT.2.2.2.2.2.1
  have hT6 : 0 ≤ M 53 6 ∧ M 53 6 ≤ 10 := hT.2.2.2.2.2.2.1
  refine ms_aload_n dX7_mothers_0 rfl ?_
  refine mi_iconst dX7_mothers_1 ?_
  refine ms_putI (z := 4) dX7_mothers_2 (fo_X7_131 rfl) (by first | rfl | assumption) rfl rfl rfl ?_
  refine mx_gen (fun N => cdP M N 0) cdP.mk' (fun N hN => ?_)
  have e53 : N 53 = M 53 := hN.1 53 (by decide)
  have e63 : N 63 = M 63 := hN.1 63 (by decide)
  have eTR : sp_tR N = sp_tR M := by simp only [sp_tR, hN.1 53 (by decide), hN.1 54 (by decide), hN.1 55 (by decide), hN.1 58 (by decide), hN.1 59 (by decide), hN.1 60 (by decide)]
  refine ms_iload_n dX7_mothers_5 rfl ?_
  refine mi_if_lt (tgt := 14) dX7_mothers_6 (by decide) (fun c_6 => ?_) (fun c_6 => ?_)
  · exact absurd c_6 (by omega)
  · refine ms_iload_n dX7_mothers_9 rfl ?_
    refine mi_iconst dX7_mothers_10 ?_
    refine mi_icmp_le (tgt := 20) dX7_mothers_11 (by decide) (fun c_11 => ?_) (fun c_11 => ?_)
    · refine ms_aload_n dX7_mothers_20 rfl ?_
      refine mi_iconst dX7_mothers_21 ?_
      refine ms_putI (z := 38) dX7_mothers_22 (fo_X7_329 rfl) (by first | rfl | assumption) rfl rfl rfl ?_
      refine mx_gen (fun N1 => (∀ y, y ≠ 48 → N1 y = M y) ∧ N1 48 4 = 0 ∧ N1 48 38 = 0 ∧ ∀ j, j ≠ 4 → j ≠ 38 → N1 48 j = M 48 j) ⟨fun y hy => by rw [up_n _ _ hy]; exact hN.1 y hy, by rw [up_s, iu_n _ _ (by decide)]; exact hN.2.1, by rw [up_s, iu_s], fun j a b => by rw [up_s, iu_n _ _ b]; exact hN.2.2 j a⟩ (fun N1 hN1 => ?_)
      obtain ⟨m1, m4, m38, mj⟩ := hN1
      have f53 : N1 53 = M 53 := m1 53 (by decide)
      have f63 : N1 63 = M 63 := m1 63 (by decide)
      have fT : sp_tR N1 = sp_tR M := by simp only [sp_tR, m1 53 (by decide), m1 54 (by decide), m1 55 (by decide), m1 58 (by decide), m1 59 (by decide), m1 60 (by decide)]
      have hal := al_lt (l := M 53 1) (by omega)
      refine ms_iload_n dX7_mothers_25 rfl ?_
      refine mi_iconst dX7_mothers_26 ?_
      refine mi_iconst dX7_mothers_27 ?_
      refine ms_aload_n dX7_mothers_28 rfl ?_
      refine ms_getR dX7_mothers_29 (fo_X7_43 rfl) (by first | rfl | assumption) rfl (by first | assumption | exact rf_48_5 hR ) ?_
      refine mi_iconst dX7_mothers_32 ?_
      refine ms_iald dX7_mothers_33 (by first | rfl | assumption) ?_
      rw [f53]
      refine mi_ishl (2 ^ (M 53 1).toNat) dX7_mothers_34 (p2_shl (by omega)) ?_
      refine mi_iconst dX7_mothers_35 ?_
      refine mi_isub dX7_mothers_36 ?_
      refine ms_callS3 dX7_mothers_37 cv_X7_mothers_X7_isIn (k_X7_isIn (f := f) (M := N1) (L := L) (Rf := Rf) hx32 (a := 1) (b := 2 ^ (M 53 1).toNat - 1) (by decide) (by omega)) (Nat.le_of_ble_eq_true rfl) rfl (fun _ _ z => z.elim) (fun v9 h9 hp9 => ?_)
      obtain ⟨rfl, rfl⟩ := hp9
      refine mi_if_eqB (tgt := 60) dX7_mothers_40 (by decide) (fun c_40 => ?_) (fun c_40 => ?_)
      · refine mi_iconst dX7_mothers_60 ?_
        refine ms_istore_n dX7_mothers_61 (by decide) rfl ?_
        dsimp only [List.set, Nat.reduceAdd]
        refine mi_iconst dX7_mothers_62 ?_
        refine ms_istore dX7_mothers_63 (by decide) rfl ?_
        dsimp only [List.set, Nat.reduceAdd]
        refine ms_iload dX7_mothers_65 rfl ?_
        refine ms_aload_n dX7_mothers_67 rfl ?_
        refine ms_getR dX7_mothers_68 (fo_X7_43 rfl) (by first | rfl | assumption) rfl (by first | assumption | exact rf_48_5 hR ) ?_
        refine mi_iconst dX7_mothers_71 ?_
        refine ms_iald dX7_mothers_72 (by first | rfl | assumption) ?_
        rw [f53]
        refine mi_icmp_ge (tgt := 140) dX7_mothers_73 (by decide) (fun c_73 => ?_) (fun c_73 => ?_)
        · refine ms_iload_n dX7_mothers_140 rfl ?_
          refine mi_if_ne (tgt := 150) dX7_mothers_141 (by decide) (fun c_141 => ?_) (fun c_141 => ?_)
          · exact absurd rfl c_141
          · refine ms_aload_n dX7_mothers_144 rfl ?_
            refine mi_iconst dX7_mothers_145 ?_
            refine ms_callV1 (ci := 7) (r := (RX7, TX7, 48)) dX7_mothers_146 cv_X7_mothers_X7_fail (k_X7_fail hR) rfl rfl (by first | rfl | assumption) (Nat.le_of_ble_eq_true rfl) rfl (fun _ _ z => z.elim) (fun v9 h9 hp9 => ?_)
            obtain ⟨rfl, rfl⟩ := hp9
            refine ms_ret dX7_mothers_149 rfl ?_ (by simp)
            refine ⟨_, rfl, rfl, fun y a b => ?_, by rw [up_s, iu_s], fun j a b => ?_⟩
            · rw [up_n _ _ a]; exact m1 y a
            · rw [up_s, iu_n _ _ a]; exact mj j a b
        · refine ms_iload_n dX7_mothers_76 rfl ?_
          refine mi_if_eq (tgt := 140) dX7_mothers_77 (by decide) (fun c_77 => ?_) (fun c_77 => ?_)
          · refine ms_iload_n dX7_mothers_140 rfl ?_
            refine mi_if_ne (tgt := 150) dX7_mothers_141 (by decide) (fun c_141 => ?_) (fun c_141 => ?_)
            · exact absurd rfl c_141
            · refine ms_aload_n dX7_mothers_144 rfl ?_
              refine mi_iconst dX7_mothers_145 ?_
              refine ms_callV1 (ci := 7) (r := (RX7, TX7, 48)) dX7_mothers_146 cv_X7_mothers_X7_fail (k_X7_fail hR) rfl rfl (by first | rfl | assumption) (Nat.le_of_ble_eq_true rfl) rfl (fun _ _ z => z.elim) (fun v9 h9 hp9 => ?_)
              obtain ⟨rfl, rfl⟩ := hp9
              refine ms_ret dX7_mothers_149 rfl ?_ (by simp)
              refine ⟨_, rfl, rfl, fun y a b => ?_, by rw [up_s, iu_s], fun j a b => ?_⟩
              · rw [up_n _ _ a]; exact m1 y a
              · rw [up_s, iu_n _ _ a]; exact mj j a b
          · exact absurd rfl c_77
      · refine ms_iload_n dX7_mothers_43 rfl ?_
        refine ms_aload_n dX7_mothers_44 rfl ?_
        refine ms_aload_n dX7_mothers_45 rfl ?_
        refine ms_getR dX7_mothers_46 (fo_X7_77 rfl) (by first | rfl | assumption) rfl (by first | assumption | exact rf_48_25 hR ) ?_
        refine ms_callV1 (ci := 7) (r := (RX7, TX7, 48)) dX7_mothers_49 cv_X7_mothers_X7_outOf (k_X7_outOf (M := N1) hR (by rw [fT]; exact hT) (r := 63) (by decide) rfl (by rw [fT, f63]; exact hv)) rfl rfl (by first | rfl | assumption) (Nat.le_of_ble_eq_true rfl) rfl (fun _ _ z => z.elim) (fun v9 h9 hp9 => ?_)
        obtain ⟨rfl, rfl⟩ := hp9
        rw [f63, f53]
        have hin := of_decide_eq_true c_40
        have hx64 : 0 ≤ x ∧ x < 64 := by omega
        have hoN := ooN_b (M 63) (M 53 1).toNat (by omega)
        have hoa := oan_e hx64 hoN.1
        refine mi_iand (oan x (ooN (M 63) (M 53 1).toNat)) dX7_mothers_52 hoa.1 ?_
        refine mi_if_ne (tgt := 60) dX7_mothers_53 (by decide) (fun c_53 => ?_) (fun c_53 => ?_)
        · refine mi_iconst dX7_mothers_60 ?_
          refine ms_istore_n dX7_mothers_61 (by decide) rfl ?_
          dsimp only [List.set, Nat.reduceAdd]
          refine mi_iconst dX7_mothers_62 ?_
          refine ms_istore dX7_mothers_63 (by decide) rfl ?_
          dsimp only [List.set, Nat.reduceAdd]
          refine ms_iload dX7_mothers_65 rfl ?_
          refine ms_aload_n dX7_mothers_67 rfl ?_
          refine ms_getR dX7_mothers_68 (fo_X7_43 rfl) (by first | rfl | assumption) rfl (by first | assumption | exact rf_48_5 hR ) ?_
          refine mi_iconst dX7_mothers_71 ?_
          refine ms_iald dX7_mothers_72 (by first | rfl | assumption) ?_
          rw [f53]
          refine mi_icmp_ge (tgt := 140) dX7_mothers_73 (by decide) (fun c_73 => ?_) (fun c_73 => ?_)
          · refine ms_iload_n dX7_mothers_140 rfl ?_
            refine mi_if_ne (tgt := 150) dX7_mothers_141 (by decide) (fun c_141 => ?_) (fun c_141 => ?_)
            · exact absurd rfl c_141
            · refine ms_aload_n dX7_mothers_144 rfl ?_
              refine mi_iconst dX7_mothers_145 ?_
              refine ms_callV1 (ci := 7) (r := (RX7, TX7, 48)) dX7_mothers_146 cv_X7_mothers_X7_fail (k_X7_fail hR) rfl rfl (by first | rfl | assumption) (Nat.le_of_ble_eq_true rfl) rfl (fun _ _ z => z.elim) (fun v9 h9 hp9 => ?_)
              obtain ⟨rfl, rfl⟩ := hp9
              refine ms_ret dX7_mothers_149 rfl ?_ (by simp)
              refine ⟨_, rfl, rfl, fun y a b => ?_, by rw [up_s, iu_s], fun j a b => ?_⟩
              · rw [up_n _ _ a]; exact m1 y a
              · rw [up_s, iu_n _ _ a]; exact mj j a b
          · refine ms_iload_n dX7_mothers_76 rfl ?_
            refine mi_if_eq (tgt := 140) dX7_mothers_77 (by decide) (fun c_77 => ?_) (fun c_77 => ?_)
            · refine ms_iload_n dX7_mothers_140 rfl ?_
              refine mi_if_ne (tgt := 150) dX7_mothers_141 (by decide) (fun c_141 => ?_) (fun c_141 => ?_)
              · exact absurd rfl c_141
              · refine ms_aload_n dX7_mothers_144 rfl ?_
                refine mi_iconst dX7_mothers_145 ?_
                refine ms_callV1 (ci := 7) (r := (RX7, TX7, 48)) dX7_mothers_146 cv_X7_mothers_X7_fail (k_X7_fail hR) rfl rfl (by first | rfl | assumption) (Nat.le_of_ble_eq_true rfl) rfl (fun _ _ z => z.elim) (fun v9 h9 hp9 => ?_)
                obtain ⟨rfl, rfl⟩ := hp9
                refine ms_ret dX7_mothers_149 rfl ?_ (by simp)
                refine ⟨_, rfl, rfl, fun y a b => ?_, by rw [up_s, iu_s], fun j a b => ?_⟩
                · rw [up_n _ _ a]; exact m1 y a
                · rw [up_s, iu_n _ _ a]; exact mj j a b
            · exact absurd rfl c_77
        · refine mi_iconst dX7_mothers_56 ?_
          refine ms_goto (tgt := 61) dX7_mothers_57 (by decide) ?_
          refine ms_istore_n dX7_mothers_61 (by decide) rfl ?_
          dsimp only [List.set, Nat.reduceAdd]
          refine mi_iconst dX7_mothers_62 ?_
          refine ms_istore dX7_mothers_63 (by decide) rfl ?_
          dsimp only [List.set, Nat.reduceAdd]
          have hb3 : 3 < (bl x).length := by
            refine Classical.byContradiction fun q => hch ⟨⟨by omega, by omega⟩, fun l l0 l1 l2 => ?_, by omega⟩
            have h1 := hoa.2.2.mp c_53 ⟨l.toNat, by omega⟩
            rw [show ((l.toNat : Nat) : Int) = l by omega] at h1
            have h2 := h1 l2
            rw [hoN.2 l l0 l1] at h2
            have hbk : l < M 53 1 := by
              refine Classical.byContradiction fun q => ?_
              have h1 : (2 : Int) ^ (M 53 1).toNat ≤ 2 ^ l.toNat := by
                have := Nat.pow_le_pow_right (n := 2) (by omega) (show (M 53 1).toNat ≤ l.toNat by omega)
                exact_mod_cast this
              unfold ob at l2
              rw [Int.ediv_eq_zero_of_lt (by omega) (by omega)] at l2
              exact absurd l2 (by decide)
            rw [if_pos (by omega)] at h2
            cases e : sp_out (M 63) l
            · rfl
            · rw [e] at h2
              exact absurd h2 (by decide)
          refine l_X7_msX (S := S) (f := f) (L := L) (M := N1) (x := x) (k := k) hR (by rw [fT]; exact hT) hx64 (by rw [f53]; omega) hb3 (M 53 1).toNat 0 N1 (by rw [f53]; omega) (by exact Nat.zero_le _) (fun _ _ _ => rfl) (fun _ _ => rfl) m38 (fun i hi => by exact absurd hi (Nat.not_lt_zero _)) (fun N2 z9 r1 r2 => ?_)
          refine ms_iload_n dX7_mothers_140 rfl ?_
          refine mi_if_ne (tgt := 150) dX7_mothers_141 (by decide) (fun c_141 => ?_) (fun c_141 => ?_)
          · exact absurd rfl c_141
          · refine ms_aload_n dX7_mothers_144 rfl ?_
            refine mi_iconst dX7_mothers_145 ?_
            refine ms_callV1 (ci := 7) (r := (RX7, TX7, 48)) dX7_mothers_146 cv_X7_mothers_X7_fail (k_X7_fail hR) rfl rfl (by first | rfl | assumption) (Nat.le_of_ble_eq_true rfl) rfl (fun _ _ z => z.elim) (fun v9 h9 hp9 => ?_)
            obtain ⟨rfl, rfl⟩ := hp9
            refine ms_ret dX7_mothers_149 rfl ?_ (by simp)
            refine ⟨_, rfl, rfl, fun y a b => ?_, by rw [up_s, iu_s], fun j a b => ?_⟩
            · rw [up_n _ _ a]; rw [r1 y a b]; exact m1 y a
            · rw [up_s, iu_n _ _ a]; rw [r2 j b]; exact mj j a b
    · exact absurd c_11 (by omega)

set_option maxHeartbeats 4000000 in
set_option maxRecDepth 100000 in
theorem k_X7_mothers_x {S : mx_Sc} {f : Bool} {M : Nat → Int → Int} {L : Nat → Nat → Int64} {Rf : Nat → Nat → Option Nat} (hR : mx_rf Rf) {x : Int} (hx32 : -2147483648 ≤ x ∧ x ≤ 2147483647) {k : Int} (hk32 : -2147483648 ≤ k ∧ k ≤ 2147483647) (hc : ¬ (0 ≤ k ∧ k < 2)) : mx_C S mX7_mothers [.ref 48, .int (iI x), .int (iI k)] (f, mx_SH, M, L, Rf) 0 0 (fun v9 h9 => ∃ N, h9 = (f, mx_SH, N, L, Rf) ∧ cdP M N 1 ∧ v9 = some (.int (iI (0)))) (fun _ _ => False) := by
  refine mx_C_of (by decide) (by simp [Value.category]) (Nat.le_of_ble_eq_true rfl) rfl ?_
  show mx_E S mX7_mothers 0 [some (.ref 48), some (.int (iI x)), some (.int (iI k)), none, none, none, none, none] [] (f, mx_SH, M, L, Rf) 0 0 _ _
  refine ms_aload_n dX7_mothers_0 rfl ?_
  refine mi_iconst dX7_mothers_1 ?_
  refine ms_putI (z := 4) dX7_mothers_2 (fo_X7_131 rfl) (by first | rfl | assumption) rfl rfl rfl ?_
  refine mx_gen (fun N => cdP M N 0) cdP.mk' (fun N hN => ?_)
  have e53 : N 53 = M 53 := hN.1 53 (by decide)
  have e63 : N 63 = M 63 := hN.1 63 (by decide)
  have eTR : sp_tR N = sp_tR M := by simp only [sp_tR, hN.1 53 (by decide), hN.1 54 (by decide), hN.1 55 (by decide), hN.1 58 (by decide), hN.1 59 (by decide), hN.1 60 (by decide)]
  refine ms_iload_n dX7_mothers_5 rfl ?_
  refine mi_if_lt (tgt := 14) dX7_mothers_6 (by decide) (fun c_6 => ?_) (fun c_6 => ?_)
  · refine ms_aload_n dX7_mothers_14 rfl ?_
    refine mi_iconst dX7_mothers_15 ?_
    refine ms_callV1 (ci := 7) (r := (RX7, TX7, 48)) dX7_mothers_16 cv_X7_mothers_X7_fail (k_X7_fail (M := N) hR) rfl rfl (by first | rfl | assumption) (Nat.le_of_ble_eq_true rfl) rfl (fun _ _ z => z.elim) (fun v9 h9 hp9 => ?_)
    obtain ⟨rfl, rfl⟩ := hp9
    refine ms_ret dX7_mothers_19 rfl ⟨_, rfl, hN.set, rfl⟩ (by simp)
  · refine ms_iload_n dX7_mothers_9 rfl ?_
    refine mi_iconst dX7_mothers_10 ?_
    refine mi_icmp_le (tgt := 20) dX7_mothers_11 (by decide) (fun c_11 => ?_) (fun c_11 => ?_)
    · exact absurd c_11 (by omega)
    · refine ms_aload_n dX7_mothers_14 rfl ?_
      refine mi_iconst dX7_mothers_15 ?_
      refine ms_callV1 (ci := 7) (r := (RX7, TX7, 48)) dX7_mothers_16 cv_X7_mothers_X7_fail (k_X7_fail (M := N) hR) rfl rfl (by first | rfl | assumption) (Nat.le_of_ble_eq_true rfl) rfl (fun _ _ z => z.elim) (fun v9 h9 hp9 => ?_)
      obtain ⟨rfl, rfl⟩ := hp9
      refine ms_ret dX7_mothers_19 rfl ⟨_, rfl, hN.set, rfl⟩ (by simp)

