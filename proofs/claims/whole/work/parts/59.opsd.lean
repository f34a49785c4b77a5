theorem sub_toInt {a b : Nat} (ha : a < 2 ^ 31) (hb : b < 2 ^ 31) : (nI a - nI b).toInt = (a : Int) - (b : Int) := by
  rw [Int32.toInt_sub, nI_toInt ha, nI_toInt hb]
  apply Int.bmod_eq_of_le <;> omega
theorem mv_in {i n : Int32} {sp : Nat} (h24 : sp ≤ 24) (hi : ¬ i < 0) (hn : ¬ n < 0) (h : ¬ nI sp - n < i) : ∃ i' n' : Nat, i = nI i' ∧ n = nI n' ∧ i' + n' ≤ sp := by
  obtain ⟨i', i1, rfl⟩ := zI_of (Int32.not_lt.mp hi)
  obtain ⟨n', n1, rfl⟩ := zI_of (Int32.not_lt.mp hn)
  refine ⟨i', n', rfl, rfl, ?_⟩
  have hq := Int32.le_iff_toInt_le.mp (Int32.not_lt.mp h)
  rw [nI_toInt i1, sub_toInt (by omega) n1] at hq
  omega
/-- the places and the number of a move are within both sheets -/
def mvP (i j n : Int32) (sp sq : Nat) : Prop := ∃ i' j' n' : Nat, i = nI i' ∧ j = nI j' ∧ n = nI n' ∧ i' + n' ≤ sp ∧ j' + n' ≤ sq
theorem mv_of {i j n : Int32} {sp sq : Nat} (h1 : sp ≤ 24) (h2 : sq ≤ 24) (hi : ¬ i < 0) (hj : ¬ j < 0) (hn : ¬ n < 0) (ha : ¬ nI sp - n < i) (hb : ¬ nI sq - n < j) : mvP i j n sp sq := by
  obtain ⟨i', n', e1, e2, e3⟩ := mv_in h1 hi hn ha
  obtain ⟨j', m', f1, f2, f3⟩ := mv_in h2 hj hn hb
  have e : n' = m' := by
    have a1 : n' ≤ 24 := by omega
    exact b8_inj (by omega) (by omega) (e2.symm.trans f2)
  exact ⟨i', j', n', e1, f1, e2, e3, by omega⟩
theorem cpy_24 {f : Nat → Int32} {fp fq : Nat → Int32} {p q i j n k sp sq : Nat} (hi : i + n ≤ sp) (hj : j + n ≤ sq) (h1 : sp ≤ 24) (h2 : sq ≤ 24) (hk : k < 24) (ep : ∀ x, x < 24 → fp x = f (24 * p + x)) (eq : ∀ x, x < 24 → fq x = f (24 * q + x)) : va_cpy fp fq i j n k = va_cpy f f (24 * p + i) (24 * q + j) n (24 * q + k) := by
  unfold va_cpy
  by_cases c : j ≤ k ∧ k < j + n
  · rw [if_pos c, if_pos ⟨by omega, by omega⟩, ep _ (by omega), show 24 * p + (i + (k - j)) = 24 * p + i + (24 * q + k - (24 * q + j)) by omega]
  · rw [if_neg c, if_neg (by omega)]
    exact eq k hk
theorem op_move {g : GT} {σ : S_} (h : IN σ) {p i q j n : Int32} : OP g σ M_X7_move M_X8_move [.int p, .int i, .int q, .int j, .int n] := by
  obtain ⟨nf, h7, e7, e8⟩ := h.nf
  obtain ⟨nc, h4, q7, q8⟩ := h.nc
  have hC := h.c
  have hB := h.b
  by_cases c : (0 ≤ p ∧ p ≤ 3) ∧ (0 ≤ q ∧ q ≤ 3)
  · obtain ⟨c1, c2⟩ := c
    obtain ⟨p, hp0, rfl⟩ := zI_in (b := 3) (by decide) c1
    obtain ⟨q, hq0, rfl⟩ := zI_in (b := 3) (by decide) c2
    have hp : p < 4 := by omega
    have hq : q < 4 := by omega
    obtain ⟨s1, s2, ⟨sp, h24, z1, z2⟩, s3⟩ := h.2.2.2.2.2 p hp
    obtain ⟨r1, r2, ⟨sq, k24, y1, y2⟩, r3⟩ := h.2.2.2.2.2 q hq
    by_cases g0 : σ 83 p = 0 ∨ σ 83 q = 0
    · exact OP.rf h (by decide) (by decide) (ct_X7_move_gone hp hq (by rw [s1, r1]; exact g0)) (by decide) (ct_X8_move_gone (σ := rfz σ 2) hp hq g0)
    · have gp : ¬ σ 83 p = 0 := fun e => g0 (.inl e)
      have gq : ¬ σ 83 q = 0 := fun e => g0 (.inr e)
      have gp7 : ¬ σ (62 + 2 * p) 1 = 0 := by rw [s1]; exact gp
      have gq7 : ¬ σ (62 + 2 * q) 1 = 0 := by rw [r1]; exact gq
      by_cases b : σ 83 p = σ 83 q
      · have b7 : σ (62 + 2 * p) 1 = σ (62 + 2 * q) 1 := by rw [s1, r1]; exact b
        by_cases f : mvP i j n sp sq
        · obtain ⟨i, j, n, rfl, rfl, rfl, f1, f2⟩ := f
          refine OP.mk (by decide) (ct_X7_move_ok hp hq f1 f2 h24 k24 gp7 gq7 b7 z1 y1) (fun r τ hz => ?_)
          obtain ⟨a1, rfl⟩ := hz
          have hx : ∀ x, 70 ≤ x → upR σ (63 + 2 * q) (va_cpy (σ (63 + 2 * p)) (σ (63 + 2 * q)) i j n) x = σ x := fun x a => if_neg (by omega)
          have r8 := ct_X8_move_ok (g := g) (σ := upR σ (63 + 2 * q) (va_cpy (σ (63 + 2 * p)) (σ (63 + 2 * q)) i j n)) (p := p) (q := q) hp hq f1 f2 h24 k24 (by rw [hx 83 (by decide)]; exact gp) (by rw [hx 83 (by decide)]; exact gq) (by rw [hx 83 (by decide)]; exact b) (by rw [hx 84 (by decide)]; exact z2) (by rw [hx 84 (by decide)]; exact y2)
          refine ⟨_, 2, _, a1, by decide, r8, fun r' τ' hz' => ?_⟩
          obtain ⟨d1, d2, d3⟩ := hz'
          rw [hx 85 (by decide)] at d2
          have e83 : τ' 83 = σ 83 := (d3 83 (by decide) (by decide)).trans (hx 83 (by decide))
          have e84 : τ' 84 = σ 84 := (d3 84 (by decide) (by decide)).trans (hx 84 (by decide))
          have hq62 : upR σ (63 + 2 * q) (va_cpy (σ (63 + 2 * p)) (σ (63 + 2 * q)) i j n) (62 + 2 * q) = σ (62 + 2 * q) := if_neg (by omega)
          refine ⟨d1, IN.of (IN.sheet (τ := upR σ (63 + 2 * q) (va_cpy (σ (63 + 2 * p)) (σ (63 + 2 * q)) i j n)) (ρ := τ') h hq ⟨?_, ?_, ⟨sq, k24, ?_, ?_⟩, fun k hk => ?_⟩ (fun c a b d => if_neg d) (fun c a a3 a4 a5 a6 => (d3 c a5 a6).trans (hx c a)) (fun k _ => by rw [e83]) (fun k _ => by rw [e84]) (fun k hk => ?_)) (fun c hc => d3 c (by omega) (by omega)) (fun c hc => rfl)⟩
          · rw [hq62, e83]; exact r1
          · rw [e83]; exact r2
          · rw [hq62]; exact y1
          · rw [e84]; exact y2
          · rw [d2, show upR σ (63 + 2 * q) (va_cpy (σ (63 + 2 * p)) (σ (63 + 2 * q)) i j n) (63 + 2 * q) = va_cpy (σ (63 + 2 * p)) (σ (63 + 2 * q)) i j n from if_pos rfl]
            exact cpy_24 f1 f2 h24 k24 hk s3 r3
          · rw [d2]
            unfold va_cpy
            rw [if_neg (by omega)]
        · refine OP.rf (k := 1) h (by decide) (by decide) (ct_X7_move_far hp hq gp7 gq7 b7 (fun w => f ?_)) (by decide) (ct_X8_move_far (σ := rfz σ 1) hp hq gp gq b (fun w => f ?_))
          · obtain ⟨⟨w1, w2, w3, w4⟩, w5, w6, w7, w8⟩ := w
            rw [z1] at w4
            rw [y1] at w8
            exact mv_of h24 k24 w1 w5 w2 w4 w8
          · obtain ⟨w1, w2, w3, w4, w5⟩ := w
            have w4' : ¬ nI sp - n < i := by rw [← z2]; exact w4
            have w5' : ¬ nI sq - n < j := by rw [← y2]; exact Int32.not_lt.mpr w5
            exact mv_of h24 k24 w2 w3 w1 w4' w5'
      · exact OP.rf h (by decide) (by decide) (ct_X7_move_odd hp hq gp7 gq7 (by rw [s1, r1]; exact b)) (by decide) (ct_X8_move_odd (σ := rfz σ 5) hp hq gp gq b)
  · exact OP.rf h (by decide) (by decide) (ct_X7_move_no c) (by decide) (ct_X8_move_no (σ := rfz σ 1) c)
/-- two traces that are the same as far as there is room -/
def VE (T T' : VT) : Prop := T.1 = T'.1 ∧ T.2.2 = T'.2.2 ∧ ∀ j, j < 30 → T.2.1 j = T'.2.1 j
def VQ (q q' : Int32 × VT) : Prop := q.1 = q'.1 ∧ VE q.2 q'.2
theorem VE_st {b : Nat} {T T' : VT} (h : VE T T') : VE (stT b T) (stT b T') := by
  obtain ⟨h1, h2, h3⟩ := h
  unfold stT
  rw [← h1]
  by_cases c : T.1 < 30
  · rw [if_pos c, if_pos c]
    refine ⟨rfl, h2, fun j hj => ?_⟩
    show upd T.2.1 T.1 (nI b) j = upd T'.2.1 T.1 (nI b) j
    unfold upd
    rw [h3 j hj]
  · rw [if_neg c, if_neg c]
    exact ⟨h1, h2, h3⟩
theorem VE_B {f : Nat → Nat → Int32 → VT → Int32 × VT} (hf : ∀ w a x T T', VE T T' → VQ (f w a x T) (f w a x T')) {K k : Nat} {m : Int32} {b ab : Nat} {x : Int32} {T T' : VT} (h : VE T T') : VQ (vB f K k m b ab x T) (vB f K k m b ab x T') := by
  have hq : ∀ {w a x} {g : Int32 → Int32}, VQ (g (f w a x T).1, (f w a x T).2) (g (f w a x T').1, (f w a x T').2) := fun {w a x g} => ⟨congrArg g (hf w a x T T' h).1, (hf w a x T T' h).2⟩
  unfold vB
  by_cases c1 : b = 10
  · rw [if_pos c1, if_pos c1]; exact ⟨rfl, h⟩
  rw [if_neg c1, if_neg c1]
  by_cases c2 : b = 11
  · rw [if_pos c2, if_pos c2]; exact hq (g := fun v => v * 2)
  rw [if_neg c2, if_neg c2]
  by_cases c3 : b = 12
  · rw [if_pos c3, if_pos c3]; exact hq (g := fun v => v - m)
  rw [if_neg c3, if_neg c3]
  by_cases c4 : b = 13
  · rw [if_pos c4, if_pos c4]
    by_cases d : m - nI k = 0
    · rw [if_pos d, if_pos d]; exact ⟨rfl, h.1, rfl, h.2.2⟩
    · rw [if_neg d, if_neg d]; exact ⟨rfl, h⟩
  rw [if_neg c4, if_neg c4]
  by_cases c5 : b = 20
  · rw [if_pos c5, if_pos c5]; exact hq (g := fun v => v - 4)
  rw [if_neg c5, if_neg c5]
  by_cases c6 : b = 21
  · rw [if_pos c6, if_pos c6]
    have h3 := hf 3 ab x T T' h
    rw [← h3.2.2.1]
    by_cases d : (f 3 ab x T).2.2.2 = 0
    · rw [if_pos d, if_pos d]
      have h4 := hf 1 K 1 _ _ h3.2
      exact ⟨by show (f 3 ab x T).1 + (f 1 K 1 (f 3 ab x T).2).1 = (f 3 ab x T').1 + (f 1 K 1 (f 3 ab x T').2).1; rw [h3.1, h4.1], h4.2⟩
    · rw [if_neg d, if_neg d]; exact ⟨rfl, h3.2⟩
  rw [if_neg c6, if_neg c6]
  by_cases c7 : b = 30
  · rw [if_pos c7, if_pos c7]; exact hq (g := fun v => 0 - v)
  rw [if_neg c7, if_neg c7]
  by_cases c8 : b = 40
  · rw [if_pos c8, if_pos c8]; exact hf _ _ _ _ _ h
  rw [if_neg c8, if_neg c8]
  by_cases c9 : b = 50
  · rw [if_pos c9, if_pos c9]; exact hq (g := fun v => v * 3)
  rw [if_neg c9, if_neg c9]
  by_cases d1 : b = 51
  · rw [if_pos d1, if_pos d1]; exact hq (g := fun v => v ^^^ nI k)
  rw [if_neg d1, if_neg d1]
  by_cases d2 : b = 60
  · rw [if_pos d2, if_pos d2]; exact hf _ _ _ _ _ h
  rw [if_neg d2, if_neg d2]
  by_cases d3 : b = 70
  · rw [if_pos d3, if_pos d3]; exact ⟨rfl, h⟩
  rw [if_neg d3, if_neg d3]
  by_cases d4 : b = 71
  · rw [if_pos d4, if_pos d4]; exact hq (g := fun v => v + m)
  rw [if_neg d4, if_neg d4]
  exact ⟨rfl, h⟩
theorem VE_S {K k : Nat} {m : Int32} : ∀ (n w a : Nat) (x : Int32) (T T' : VT), VE T T' → VQ (vS K k m n w a x T) (vS K k m n w a x T') := by
  intro n
  induction n with
  | zero => intro w a x T T' h; exact ⟨rfl, h⟩
  | succ n ih => intro w a x T T' h; exact VE_B ih (VE_st h)
/-- only the trace changed -/
theorem IN.trace {σ τ ρ : S_} (h : IN σ) (ht : TC τ ρ) (e : ∀ c, c < 70 → c ≠ 60 → c ≠ 61 → τ c = σ c) (r : ∀ c, 70 ≤ c → c ≠ 70 → c ≠ 82 → ρ c = σ c) (r3 : ρ 70 3 = σ 70 3) : I2 τ ρ := by
  obtain ⟨h1, h2, h3, h4, h5, h6⟩ := h
  have r71 := r 71 (by decide) (by decide) (by decide)
  refine ⟨by rw [r71]; exact h1.frame (fun c a _ _ => e (8 + c) (by omega) (by omega) (by omega)), by rw [r71]; exact h2, h3.fr (fun c a b _ _ => e c (by omega) (by omega) (by omega)) (congrFun (e 0 (by omega) (by omega) (by omega)) 7) r3 (r 72 (by decide) (by decide) (by decide)), fun k hk => ?_, ht, fun s hs => (h6 s hs).fr (e _ (by omega) (by omega) (by omega)) (e _ (by omega) (by omega) (by omega)) (congrFun (r 83 (by decide) (by decide) (by decide)) s) (congrFun (r 84 (by decide) (by decide) (by decide)) s) (fun j _ => congrFun (r 85 (by decide) (by decide) (by decide)) _)⟩
  rw [e 2 (by omega) (by omega) (by omega), r 74 (by decide) (by decide) (by decide)]
  exact h4 k hk
theorem op_voice {g : GT} {σ : S_} (h : IN σ) {f v x : Int32} : OP g σ M_X7_voice M_X8_voice [.int f, .int v, .int x] := by
  obtain ⟨nf, h7, e7, e8⟩ := h.nf
  obtain ⟨nc, h4, q7, q8⟩ := h.nc
  have hC := h.c
  have hB := h.b
  by_cases c : (0 ≤ f ∧ f ≤ nI nf - 1) ∧ (0 ≤ v ∧ v ≤ 3)
  · obtain ⟨c1, c2⟩ := c
    obtain ⟨f, hf, rfl⟩ := nI_below (b := nf) (by omega) c1
    obtain ⟨v, hv0, rfl⟩ := zI_in (b := 3) (by decide) c2
    have hv : v < 4 := by omega
    obtain ⟨K, hK0, eK⟩ := zI_in (b := 6) (by decide) (hB.fb (n := f) (by omega)).1
    have hK : K < 7 := by omega
    obtain ⟨b, hb, b1, b2, b3⟩ := h.2.2.2.2.1
    have hV : VQ (vS K f (σ 71 (10 + 6 * f + 1)) 21 v K x (vT0 (σ 61))) (vS K f (σ 71 (10 + 6 * f + 1)) 21 v K x (vT0 (σ 82))) := VE_S 21 v K x _ _ ⟨rfl, rfl, b3⟩
    have e1 := hC.farm (n := f) (k := 1) (by omega) (by decide)
    have e0 := (hC.farm (n := f) (k := 0) (by omega) (by decide)).trans eK
    generalize hQ7 : (vS K f (σ 71 (10 + 6 * f + 1)) 21 v K x (vT0 (σ 61))) = Q7 at hV
    generalize hQ8 : (vS K f (σ 71 (10 + 6 * f + 1)) 21 v K x (vT0 (σ 82))) = Q8 at hV
    have TCof : ∀ τ ρ : S_, VI K f (σ 71 (10 + 6 * f + 1)) τ Q7.2 → VJ K f (σ 71 (10 + 6 * f + 1)) ρ Q8.2 → TC τ ρ := fun τ ρ a d => by
      obtain ⟨a1, a2, a3, a4, _⟩ := a
      obtain ⟨d1, d2, d3, d4, _⟩ := d
      exact ⟨Q7.2.1, a2, a1, d1.trans (by rw [hV.2.1]), fun j hj => (a4 j hj).trans ((hV.2.2.2 j hj).trans (d4 j hj).symm)⟩
    by_cases hp : Q7.2.2.2 = 0
    · have r7 := ct_X7_voice_ok (g := g) hf h7 e7 hK hv e1 e0 (x := x) (by rw [hQ7]; exact hp)
      rw [hQ7] at r7
      refine OP.mk (by decide) r7 (fun r τ hz => ?_)
      obtain ⟨a1, a2, a3⟩ := hz
      have t71 : τ 71 = σ 71 := a3 71 (by decide) (by decide)
      have t82 : τ 82 = σ 82 := a3 82 (by decide) (by decide)
      have r8 := ct_X8_voice_ok (g := g) (σ := τ) (k := f) (nf := nf) (K := K) (v := v) (m := σ 71 (10 + 6 * f + 1)) (x := x) hf h7 (by rw [t71]; exact e8) hK hv (by rw [t71]) (by rw [t71]; exact eK) (by rw [t82, hQ8]; exact hV.2.2.1.symm.trans hp)
      rw [t82, hQ8] at r8
      refine ⟨_, 10, _, a1, by decide, r8, fun r' τ' hz' => ?_⟩
      obtain ⟨d1, d2, d3⟩ := hz'
      exact ⟨by rw [d1, hV.1], IN.of (h.trace (τ := τ) (ρ := τ') (TCof τ τ' a2 d2) (fun c _ u1 u2 => a3 c u1 u2) (fun c _ u1 u2 => (d3.1 c u1 u2).trans (a3 c (by omega) (by omega))) (by rw [d3.2, a3 70 (by decide) (by decide)])) (fun c hc => d3.1 c (by omega) (by omega)) (fun c hc => rfl)⟩
    · have r7 := ct_X7_voice_par (g := g) hf h7 e7 hK hv e1 e0 (x := x) (by rw [hQ7]; exact hp)
      rw [hQ7] at r7
      refine OP.mk (by decide) r7 (fun r τ hz => ?_)
      obtain ⟨a1, τ1, a2, a3, rfl⟩ := hz
      have tt : ∀ c, c ≠ 2 → c ≠ 60 → c ≠ 61 → rfz τ1 6 c = σ c := fun c u u1 u2 => (up_row u).trans (a3 c u1 u2)
      have t71 := tt 71 (by decide) (by decide) (by decide)
      have t82 := tt 82 (by decide) (by decide) (by decide)
      have r8 := ct_X8_voice_par (g := g) (σ := rfz τ1 6) (k := f) (nf := nf) (K := K) (v := v) (m := σ 71 (10 + 6 * f + 1)) (x := x) hf h7 (by rw [t71]; exact e8) hK hv (by rw [t71]) (by rw [t71]; exact eK) (by rw [t82, hQ8]; exact fun z => hp (hV.2.2.1.trans z))
      rw [t82, hQ8] at r8
      refine ⟨_, 10, _, a1, by decide, r8, fun r' τ' hz' => ?_⟩
      obtain ⟨d1, τ2, d2, d3, rfl⟩ := hz'
      refine ⟨d1, ?_⟩
      have hU : IN (fun c => if c < 70 then τ1 c else τ2 c) := by
        refine IN.of (h.trace (τ := τ1) (ρ := τ2) (TCof τ1 τ2 a2 d2) (fun c _ u1 u2 => a3 c u1 u2) (fun c u0 u1 u2 => (d3.1 c u1 u2).trans (tt c (by omega) (by omega) (by omega))) (by rw [d3.2, tt 70 (by decide) (by decide) (by decide)])) (fun c hc => if_pos hc) (fun c hc => if_neg (by omega))
      refine IN.of (show I2 _ _ from hU.rf (k := 6) (by decide)) (fun c hc => ?_) (fun c hc => ?_)
      · show up τ2 74 6 (τ2 74 6 + 1) c = up (up (fun c => if c < 70 then τ1 c else τ2 c) 2 6 (τ1 2 6 + 1)) 74 6 _ c
        rw [up_row (by omega), up_row (by omega), d3.1 c (by omega) (by omega)]
        exact up_same (if_pos hc).symm
      · show up τ2 74 6 (τ2 74 6 + 1) c = up (up (fun c => if c < 70 then τ1 c else τ2 c) 2 6 _) 74 6 (τ2 74 6 + 1) c
        refine up_same ?_
        rw [up_row (by omega)]
        exact (if_neg (by omega)).symm
  · exact OP.rf h (by decide) (by decide) (ct_X7_voice_no (by rw [e7]; exact c)) (by decide) (ct_X8_voice_no (σ := rfz σ 1) (by show ¬ ((0 ≤ f ∧ f ≤ σ 71 5 - 1) ∧ (0 ≤ v ∧ v ≤ 3)); rw [e8]; exact c))
theorem a255 (x : Int32) : ∃ n, n < 256 ∧ x &&& 255 = nI n := by
  have e : (x &&& 255).toBitVec = x.toBitVec &&& 255#32 := Int32.toBitVec_and x 255
  refine ⟨(x.toBitVec &&& 255#32).toNat, ?_, ?_⟩
  · rw [BitVec.toNat_and]
    have : x.toBitVec.toNat &&& (255#32).toNat ≤ (255#32).toNat := Nat.and_le_right
    have h2 : (255#32).toNat = 255 := rfl
    omega
  · apply Int32.toBitVec_inj.mp
    rw [e]
    show _ = BitVec.ofNat 32 _
    rw [BitVec.ofNat_toNat, BitVec.setWidth_eq]
theorem CW_text {σ τ : S_} {t t' : Nat → Int32} {u : Nat} (hu : u < 2) (h : CW σ 8 t) (e : ∀ c, c < 23 → c ≠ 15 + 4 * u → c ≠ 16 + 4 * u → c ≠ 17 + 4 * u → c ≠ 18 → c ≠ 22 → τ (8 + c) = σ (8 + c)) (r : ∀ k, k < 60 + 125 * u ∨ 60 + 125 * u + 125 ≤ k → t' k = t k) (hx : TXR τ t' (23 + 4 * u) u) : CW τ 8 t' := by
  refine ⟨fun x hx => ?_, fun i hi => ?_, ?_, ?_⟩
  · have hA := LM_away x hx
    rw [e x.1 (by omega) (by omega) (by omega) (by omega) (by omega) (by omega), r _ (by omega)]
    exact h.1 x hx
  · rw [e 5 (by omega) (by omega) (by omega) (by omega) (by omega) (by omega), r _ (by omega)]
    exact h.2.1 i hi
  · by_cases q : u = 0
    · subst q; exact hx
    · exact (h.2.2.1.cells (e 15 (by omega) (by omega) (by omega) (by omega) (by omega) (by omega)) (e 16 (by omega) (by omega) (by omega) (by omega) (by omega) (by omega)) (e 17 (by omega) (by omega) (by omega) (by omega) (by omega) (by omega))).row (fun k k1 k2 => (r k (by omega)).symm)
  · by_cases q : u = 1
    · subst q; exact hx
    · exact (h.2.2.2.cells (e 19 (by omega) (by omega) (by omega) (by omega) (by omega) (by omega)) (e 20 (by omega) (by omega) (by omega) (by omega) (by omega) (by omega)) (e 21 (by omega) (by omega) (by omega) (by omega) (by omega) (by omega))).row (fun k k1 k2 => (r k (by omega)).symm)
theorem BD_text {t t' : Nat → Int32} {u : Nat} (hu : u < 2) (h : BD t) (r : ∀ k, k < 60 + 125 * u ∨ 60 + 125 * u + 125 ≤ k → t' k = t k) (hT : TOK t' u) : BD t' := by
  have h0 : TOK t' 0 := by
    by_cases q : u = 0
    · rw [q] at hT; exact hT
    · exact h.t0.row (fun k k1 k2 => (r k (by omega)).symm)
  have h1 : TOK t' 1 := by
    by_cases q : u = 1
    · rw [q] at hT; exact hT
    · exact h.t1.row (fun k k1 k2 => (r k (by omega)).symm)
  obtain ⟨b1, b2, b3, b4, b6, b7, b8, b9, b10, b11⟩ := h
  unfold FB at b9
  have e : ∀ j, j < 60 → t' j = t j := fun j hj => r j (by omega)
  refine ⟨by rw [e 5 (by omega)]; exact b1, by rw [e 6 (by omega)]; exact b2, by rw [e 3 (by omega)]; exact b3, by rw [e 4 (by omega)]; exact b4, by rw [e 1 (by omega)]; exact b6, fun p hp => by rw [e _ (by omega)]; exact b7 p hp, fun c hc => by rw [e _ (by omega), e _ (by omega)]; exact b8 c hc, fun n hn => ?_, h0, h1⟩
  unfold FB
  rw [e _ (by omega), e _ (by omega), e _ (by omega), e _ (by omega), e _ (by omega), e _ (by omega)]
  exact b9 n hn
theorem op_text {g : GT} {σ : S_} (h : IN σ) {u : Int32} : OP g σ M_X7_text M_X8_text [.int u] := by
  obtain ⟨L, hL, t7, t8⟩ := h.nt
  by_cases c : u = 0 ∨ u = 1
  · obtain ⟨u, hu, rfl⟩ : ∃ n, n < 2 ∧ u = nI n := by
      rcases c with rfl | rfl
      · exact ⟨0, by decide, rfl⟩
      · exact ⟨1, by decide, rfl⟩
    obtain ⟨B, hBq⟩ : ∃ B : Nat → Nat, ∀ j, B j < 256 ∧ (σ 13 j).toInt8.toInt32 &&& 255 = nI (B j) := ⟨fun j => (a255 (σ 13 j).toInt8.toInt32).choose, fun j => (a255 (σ 13 j).toInt8.toInt32).choose_spec⟩
    have hB : ∀ j, j < L → B j < 256 := fun j _ => (hBq j).1
    have hT7 : ∀ j, j < L → (σ 13 j).toInt8.toInt32 &&& 255 = nI (B j) := fun j _ => (hBq j).2
    have hT8 : ∀ j, j < L → σ 71 (310 + j) = nI (B j) := fun j hj => (h.c.2.1 j (by omega)).symm.trans (hT7 j hj)
    have base : I2 (up σ 8 10 0) (up σ 71 3 0) := I2.ntv (σ := σ) (ρ := σ) h (n := 0) (v := 0) (by decide) rfl
    have b71 : up σ 71 3 0 71 = upd (σ 71) 3 0 := up_own
    have bC : CW (up σ 8 10 0) 8 (upd (σ 71) 3 0) := by rw [← b71]; exact base.1
    have bB : BD (upd (σ 71) 3 0) := by rw [← b71]; exact base.2.1
    have hPQ := QX_q (B := B) (L := L) hu
    by_cases hg : (QX B L u).1 = true ∧ (QX B L u).2.1 = L
    · refine OP.mk (by decide) (ct_X7_text_good hL hB hu t7 hT7 hg) (fun r τ hz => ?_)
      obtain ⟨a1, τ1, hR, hF, rfl⟩ := hz
      have E : ∀ x, x ≠ 8 → x ≠ 54 → x ≠ 55 → x ≠ 56 → x ≠ 57 → x ≠ 58 → x ≠ 23 + 4 * u → x ≠ 24 + 4 * u → x ≠ 25 + 4 * u → txcp (up τ1 8 10 0) (23 + 4 * u) 56 x = σ x := fun x a0 a1 a2 a3 a4 a5 a6 a7 a8 => (txcp_row a6 (by omega) (by omega)).trans ((up_row a0).trans (hF x a1 a2 a3 a4 a5))
      have E8 : txcp (up τ1 8 10 0) (23 + 4 * u) 56 8 = up σ 8 10 0 8 := (txcp_row (by omega) (by omega) (by omega)).trans (up_same (hF 8 (by decide) (by decide) (by decide) (by decide) (by decide)))
      generalize hτ : txcp (up τ1 8 10 0) (23 + 4 * u) 56 = τ at E E8
      have e71 : τ 71 = σ 71 := E 71 (by decide) (by decide) (by decide) (by decide) (by decide) (by decide) (by omega) (by omega) (by omega)
      have hq4 := hPQ.1.2.2.2.1
      replace hq4 : (QX B L u).2.2.1 + 0 ≤ (QX B L u).2.1 + 0 := hq4
      have hn60 : (QX B L u).2.2.1 ≤ 60 := by omega
      refine ⟨1, 54, _, a1, by decide, ct_X8_text_good (σ := τ) hL hB hu (by rw [e71]; exact t8) (by rw [e71]; exact hT8) hg, fun r' τ' hz' => ?_⟩
      obtain ⟨τ2, hK, f1, f2, d1, d2, d3, d4⟩ := hz'
      refine ⟨d1, ?_⟩
      have e71' : τ2 71 = σ 71 := (f1 71 (by decide) (by decide)).trans e71
      rw [e71'] at d4
      obtain ⟨k1, k2, k3, k4, k5, k6⟩ := hK
      obtain ⟨i1, i2, i3, i4, i5, i6⟩ := hR
      generalize hqq : (QX B L u) = q at *
      have row : ∀ k, k < 60 + 125 * u ∨ 60 + 125 * u + 125 ≤ k → τ' 71 k = upd (σ 71) 3 0 k := fun k hk => (d4 k (by omega)).trans (upd_ne (by omega))
      have rn : τ' 71 (60 + 125 * u) = nI q.2.2.1 := (d4 _ (by omega)).trans upd_at
      have rs : ∀ j, j < q.2.2.1 → τ' 71 (60 + 125 * u + 1 + 2 * j) = q.2.2.2.1 j ∧ τ' 71 (60 + 125 * u + 2 + 2 * j) = q.2.2.2.2 j := fun j hj => by
        refine ⟨(d3 (2 * j) (by omega)).trans (k5 j hj).1, ?_⟩
        rw [show 60 + 125 * u + 2 + 2 * j = 60 + 125 * u + 1 + (2 * j + 1) by omega]
        exact (d3 (2 * j + 1) (by omega)).trans (k5 j hj).2
      have sgE : ∀ j, j < q.2.2.1 → sgP q.2 j = sgR (τ' 71) u j ∧ vlP q.2 j = vlR (τ' 71) u j := fun j hj => by
        unfold sgR vlR sgP vlP
        rw [(rs j hj).1, (rs j hj).2]
        exact ⟨rfl, rfl⟩
      have hT : TOK (τ' 71) u := by
        obtain ⟨w1, w2, w3⟩ := hPQ.2 hg.1 0
        refine ⟨q.2.2.1, hn60, rn, fun _ => wfT_ext _ 0 0 (fun j _ hj => sgE j (by omega)) (sgW_wf _ 0 0 w2), fun j hj => ?_⟩
        rw [(rs j hj).1, (rs j hj).2]
        exact w3 j (Nat.zero_le j) hj
      have x3 : τ (23 + 4 * u) 3 = nI q.2.2.1 := by
        rw [← hτ, txcp_3 (by omega), up_nc (by decide)]
        exact i4
      have x1 : ∀ j, j < q.2.2.1 → τ (23 + 4 * u + 1) j = sgP q.2 j := fun j hj => by
        rw [← hτ, txcp_1 (by omega), up_nc (by decide)]
        exact (i5 j hj).1
      have x2 : ∀ j, j < q.2.2.1 → τ (23 + 4 * u + 2) j = vlP q.2 j := fun j hj => by
        rw [← hτ, txcp_2 (by omega) (by omega), up_nc (by decide)]
        exact (i5 j hj).2
      have hX : TXR τ (τ' 71) (23 + 4 * u) u := by
        refine ⟨x3.trans rn.symm, fun L' hL' h6 j hj => ?_⟩
        have eL : q.2.2.1 = L' := b8_inj (by omega) (by omega) (rn.symm.trans hL')
        have hj' : j < q.2.2.1 := by omega
        exact ⟨(x1 j hj').trans (sgE j hj').1, (x2 j hj').trans (sgE j hj').2⟩
      have h70 : ∀ k, k = 3 ∨ k = 17 → τ' 70 k = σ 70 k := fun k hk => by
        rw [d2 70 (by decide), f2 k (by omega) (by omega) (by omega) (by omega), E 70 (by decide) (by decide) (by decide) (by decide) (by decide) (by decide) (by omega) (by omega) (by omega)]
      refine IN.of (h.world (τ := τ) (ρ := τ') (CW_text hu bC (fun c a q1 q2 q3 q4 q5 => ?_) row hX) (BD_text hu bB row hT) (fun c a b s => E c (by omega) (by unfold scr at s; omega) (by unfold scr at s; omega) (by unfold scr at s; omega) (by unfold scr at s; omega) (by unfold scr at s; omega) (by omega) (by omega) (by omega)) rfl (fun c a s => ?_) (h70 3 (.inl rfl)) (h70 17 (.inr rfl))) (fun c hc => (d2 c (by omega)).trans (f1 c (by omega) (by omega))) (fun c hc => rfl)
      · by_cases q0 : c = 0
        · rw [q0]; exact E8
        · rw [up_row (by omega)]
          exact E (8 + c) (by omega) (by omega) (by omega) (by omega) (by omega) (by omega) (by omega) (by omega) (by omega)
      · exact (d2 c (by omega)).trans ((f1 c (by omega) (by unfold scr at s; omega)).trans (E c (by omega) (by omega) (by omega) (by omega) (by omega) (by omega) (by omega) (by omega) (by omega)))
    · refine OP.mk (by decide) (ct_X7_text_bad hL hB hu t7 hT7 hg) (fun r τ hz => ?_)
      obtain ⟨a1, τ1, hF, rfl⟩ := hz
      have E : ∀ x, x ≠ 8 → x ≠ 54 → x ≠ 55 → x ≠ 56 → x ≠ 57 → x ≠ 58 → up τ1 8 10 0 x = σ x := fun x a0 a1 a2 a3 a4 a5 => (up_row a0).trans (hF x a1 a2 a3 a4 a5)
      have e71 := E 71 (by decide) (by decide) (by decide) (by decide) (by decide) (by decide)
      refine ⟨_, 54, _, a1, by decide, ct_X8_text_bad (σ := up τ1 8 10 0) hL hB hu (by rw [e71]; exact t8) (by rw [e71]; exact hT8) hg, fun r' τ' hz' => ?_⟩
      obtain ⟨d1, τ2, f1, f2, rfl⟩ := hz'
      refine ⟨d1, ?_⟩
      have e71' : up τ2 71 3 0 71 = upd (σ 71) 3 0 := by rw [up_own, f1 71 (by decide) (by decide), e71]
      have h70 : ∀ k, k = 3 ∨ k = 17 → up τ2 71 3 0 70 k = σ 70 k := fun k hk => by
        rw [up_nc (by decide), f2 k (by omega) (by omega) (by omega) (by omega), E 70 (by decide) (by decide) (by decide) (by decide) (by decide) (by decide)]
      refine IN.of (h.world (τ := up τ1 8 10 0) (ρ := up τ2 71 3 0) (bC.frame (fun c q1 q2 q3 => ?_)) bB (fun c a b s => E c (by omega) (by unfold scr at s; omega) (by unfold scr at s; omega) (by unfold scr at s; omega) (by unfold scr at s; omega) (by unfold scr at s; omega)) e71' (fun c a s => ?_) (h70 3 (.inl rfl)) (h70 17 (.inr rfl))) (fun c hc => (up_row (by omega)).trans (f1 c (by omega) (by omega))) (fun c hc => rfl)
      · exact up_same (hF (8 + c) (by omega) (by omega) (by omega) (by omega) (by omega))
      · exact (up_row (by omega)).trans ((f1 c (by omega) (by unfold scr at s; omega)).trans (E c (by omega) (by omega) (by omega) (by omega) (by omega) (by omega)))
  · exact OP.rf h (by decide) (by decide) (ct_X7_text_no c) (by decide) (ct_X8_text_no (σ := rfz σ 1) (us_no (fun e => c (.inl e)) (fun e => c (.inr e))))
