-- THE PARSER, pure: the state is (at, how many steps, their kinds, their values)
abbrev PT : Type := Nat × Nat × (Nat → Int32) × (Nat → Int32)
def pAdd (w v : Int32) (T : PT) : PT := (T.1, T.2.1 + 1, upd T.2.2.1 T.2.1 w, upd T.2.2.2 T.2.1 v)
def pNx (T : PT) : PT := (T.1 + 1, T.2)
def dgB (c : Nat) : Prop := 48 ≤ c ∧ c ≤ 57
def pN (B : Nat → Nat) (L : Nat) : Nat → Nat → Int32 → Nat × Int32
  | 0, a, v => (a, v)
  | k + 1, a, v => if a < L ∧ 48 ≤ B a ∧ B a ≤ 57 then pN B L k (a + 1) (10 * v + nI (B a) - 48) else (a, v)
def pLf (B : Nat → Nat) (L u : Nat) (z : Bool × PT) (T : PT) : Bool × PT :=
  if T.1 < L then
    if 48 ≤ B T.1 ∧ B T.1 ≤ 57 then (true, pAdd 0 (pN B L 4 T.1 0).2 ((pN B L 4 T.1 0).1, T.2))
    else if ixQ u (B T.1) < 3 then (true, pAdd 1 (nI (B T.1)) (pNx T))
    else z
  else (false, T)
def rkB (c : Nat) : Nat := if c = 124 then 0 else if c = 38 then 1 else if c = 60 ∨ c = 61 ∨ c = 62 then 2 else if c = 43 ∨ c = 45 then 3 else if c = 37 ∨ c = 42 ∨ c = 47 then 4 else 9
def pL (B : Nat → Nat) (L : Nat) (g : PT → Bool × PT) (r : Nat) : Nat → PT → Bool × PT
  | 0, T => (true, T)
  | k + 1, T =>
    if T.1 < L ∧ rkB (B T.1) = r then
      if (g (pNx T)).1 = true then
        if r = 2 then (true, pAdd 3 (nI (B T.1)) (g (pNx T)).2)
        else pL B L g r k (pAdd 3 (nI (B T.1)) (g (pNx T)).2)
      else (false, (g (pNx T)).2)
    else (true, T)
def pRk (B : Nat → Nat) (L : Nat) (g : PT → Bool × PT) : Nat → PT → Bool × PT
  | 0, T => g T
  | j + 1, T => if (pRk B L g j T).1 = true then pL B L (pRk B L g j) (4 - j) 61 (pRk B L g j T).2 else (false, (pRk B L g j T).2)
def pOn (B : Nat → Nat) (L u : Nat) : Nat → PT → Bool × PT
  | 0, T => pLf B L u (false, T) T
  | e + 1, T => pLf B L u
      (if B T.1 = 33 then
        if (pOn B L u e (pNx T)).1 = true then (true, pAdd 2 0 (pOn B L u e (pNx T)).2) else (false, (pOn B L u e (pNx T)).2)
      else if B T.1 = 40 then
        if (pRk B L (pOn B L u e) 5 (pNx T)).1 = true then
          if (pRk B L (pOn B L u e) 5 (pNx T)).2.1 < L ∧ B (pRk B L (pOn B L u e) 5 (pNx T)).2.1 = 41 then (true, pNx (pRk B L (pOn B L u e) 5 (pNx T)).2) else (false, (pRk B L (pOn B L u e) 5 (pNx T)).2)
        else (false, (pRk B L (pOn B L u e) 5 (pNx T)).2)
      else (false, T)) T
/-- k steps from i on take s open numbers to s' -/
def sgW (sg vl : Nat → Int32) : Nat → Nat → Nat → Nat → Prop
  | 0, _, s, s' => s = s'
  | k + 1, i, s, s' => if sg i = 1 then sgW sg vl k (i + 1) (s + 1) s' else if sg i = 2 then (vl i = 0 ∨ vl i = 1 ∨ vl i = 2) ∧ sgW sg vl k (i + 1) (s + 1) s' else if sg i = 33 then 1 ≤ s ∧ sgW sg vl k (i + 1) s s' else isOp (sg i) ∧ 2 ≤ s ∧ sgW sg vl k (i + 1) (s - 1) s'
theorem sgW_wf {sg vl : Nat → Int32} : ∀ (k i s : Nat), sgW sg vl k i s 1 → wfT sg vl k i s := by
  intro k
  induction k with
  | zero => intro i s h; exact h
  | succ k ih =>
    intro i s h
    simp only [sgW, wfT] at h ⊢
    by_cases c1 : sg i = 1
    · simp only [if_pos c1] at h ⊢; exact ih _ _ h
    · simp only [if_neg c1] at h ⊢
      by_cases c2 : sg i = 2
      · simp only [if_pos c2] at h ⊢; exact ⟨h.1, ih _ _ h.2⟩
      · simp only [if_neg c2] at h ⊢
        by_cases c3 : sg i = 33
        · simp only [if_pos c3] at h ⊢; exact ⟨h.1, ih _ _ h.2⟩
        · simp only [if_neg c3] at h ⊢; exact ⟨h.1, h.2.1, ih _ _ h.2.2⟩
theorem sgW_ap {sg vl : Nat → Int32} {k2 s' s2 : Nat} : ∀ (k i s : Nat), sgW sg vl k i s s' → sgW sg vl k2 (i + k) s' s2 → sgW sg vl (k + k2) i s s2 := by
  intro k
  induction k with
  | zero =>
    intro i s h h2
    have h : s = s' := h
    subst h
    rw [Nat.zero_add]
    exact h2
  | succ k ih =>
    intro i s h h2
    rw [show k + 1 + k2 = (k + k2) + 1 by omega]
    rw [show i + (k + 1) = (i + 1) + k by omega] at h2
    simp only [sgW] at h ⊢
    by_cases c1 : sg i = 1
    · simp only [if_pos c1] at h ⊢; exact ih _ _ h h2
    · simp only [if_neg c1] at h ⊢
      by_cases c2 : sg i = 2
      · simp only [if_pos c2] at h ⊢; exact ⟨h.1, ih _ _ h.2 h2⟩
      · simp only [if_neg c2] at h ⊢
        by_cases c3 : sg i = 33
        · simp only [if_pos c3] at h ⊢; exact ⟨h.1, ih _ _ h.2 h2⟩
        · simp only [if_neg c3] at h ⊢; exact ⟨h.1, h.2.1, ih _ _ h.2.2 h2⟩
theorem sgW_ext {sg vl sg' vl' : Nat → Int32} {s' : Nat} : ∀ (k i s : Nat), (∀ j, i ≤ j → j < i + k → sg j = sg' j ∧ vl j = vl' j) → sgW sg vl k i s s' → sgW sg' vl' k i s s' := by
  intro k
  induction k with
  | zero => intro i s _ h; exact h
  | succ k ih =>
    intro i s he h
    obtain ⟨e1, e2⟩ := he i (Nat.le_refl _) (by omega)
    have he' : ∀ j, i + 1 ≤ j → j < i + 1 + k → sg j = sg' j ∧ vl j = vl' j := fun j a b => he j (by omega) (by omega)
    simp only [sgW] at h ⊢
    rw [← e1, ← e2]
    by_cases c1 : sg i = 1
    · simp only [if_pos c1] at h ⊢; exact ih _ _ he' h
    · simp only [if_neg c1] at h ⊢
      by_cases c2 : sg i = 2
      · simp only [if_pos c2] at h ⊢; exact ⟨h.1, ih _ _ he' h.2⟩
      · simp only [if_neg c2] at h ⊢
        by_cases c3 : sg i = 33
        · simp only [if_pos c3] at h ⊢; exact ⟨h.1, ih _ _ he' h.2⟩
        · simp only [if_neg c3] at h ⊢; exact ⟨h.1, h.2.1, ih _ _ he' h.2.2⟩
def sgP (T : PT) (j : Nat) : Int32 := sgM (T.2.2.1 j) (T.2.2.2 j)
def vlP (T : PT) (j : Nat) : Int32 := vlM (T.2.2.1 j) (T.2.2.2 j)
/-- what a step of the parser keeps, from T to T' (good: it has read one operand) -/
def PG (L u : Nat) (T T' : PT) : Prop := T.1 ≤ T'.1 ∧ T'.1 ≤ L ∧ T.2.1 ≤ T'.2.1 ∧ T'.2.1 + T.1 ≤ T'.1 + T.2.1 ∧ ∀ j, j < T.2.1 → T'.2.2.1 j = T.2.2.1 j ∧ T'.2.2.2 j = T.2.2.2 j
def PW (u : Nat) (n : Nat) (T' : PT) (s s' : Nat) : Prop := n ≤ T'.2.1 ∧ sgW (sgP T') (vlP T') (T'.2.1 - n) n s s' ∧ ∀ j, n ≤ j → j < T'.2.1 → okM u (T'.2.2.1 j) (T'.2.2.2 j)
def PQ (L u : Nat) (T : PT) (q : Bool × PT) : Prop := PG L u T q.2 ∧ (q.1 = true → ∀ s, PW u T.2.1 q.2 s (s + 1))
theorem PG.rf {L u : Nat} {T : PT} (h : T.1 ≤ L) : PG L u T T := ⟨Nat.le_refl _, h, Nat.le_refl _, by omega, fun _ _ => ⟨rfl, rfl⟩⟩
theorem PG.tr {L u : Nat} {T U V : PT} (h : PG L u T U) (h' : PG L u U V) : PG L u T V := by
  obtain ⟨a1, a2, a3, a4, a5⟩ := h
  obtain ⟨b1, b2, b3, b4, b5⟩ := h'
  exact ⟨by omega, b2, by omega, by omega, fun j hj => ⟨(b5 j (by omega)).1.trans (a5 j hj).1, (b5 j (by omega)).2.trans (a5 j hj).2⟩⟩
theorem PG.nx {L u : Nat} {T : PT} (h : T.1 < L) : PG L u T (pNx T) := ⟨Nat.le_succ _, h, Nat.le_refl _, by show T.2.1 + T.1 ≤ T.1 + 1 + T.2.1; omega, fun _ _ => ⟨rfl, rfl⟩⟩
/-- a byte read and a step added behind what has been read since -/
theorem PG.add {L u : Nat} {T U : PT} {w v : Int32} (h : PG L u (pNx T) U) : PG L u T (pAdd w v U) := by
  obtain ⟨a1, a2, a3, a4, a5⟩ := h
  simp only [pNx] at a1 a3 a4 a5
  refine ⟨by show T.1 ≤ U.1; omega, a2, by show T.2.1 ≤ U.2.1 + 1; omega, by show U.2.1 + 1 + T.1 ≤ U.1 + T.2.1; omega, fun j hj => ⟨?_, ?_⟩⟩
  · show upd U.2.2.1 U.2.1 w j = _
    rw [upd_ne (by omega)]
    exact (a5 j hj).1
  · show upd U.2.2.2 U.2.1 v j = _
    rw [upd_ne (by omega)]
    exact (a5 j hj).2
theorem PW.keep {u n s s' : Nat} {T U : PT} (h : PW u n T s s') (e : ∀ j, j < T.2.1 → U.2.2.1 j = T.2.2.1 j ∧ U.2.2.2 j = T.2.2.2 j) : sgW (sgP U) (vlP U) (T.2.1 - n) n s s' ∧ ∀ j, n ≤ j → j < T.2.1 → okM u (U.2.2.1 j) (U.2.2.2 j) := by
  obtain ⟨a1, a2, a3⟩ := h
  refine ⟨sgW_ext _ _ _ (fun j h1 h2 => ?_) a2, fun j h1 h2 => ?_⟩
  · unfold sgP vlP
    rw [(e j (by omega)).1, (e j (by omega)).2]
    exact ⟨rfl, rfl⟩
  · rw [(e j h2).1, (e j h2).2]
    exact a3 j h1 h2
theorem PW.tr {u n s s' s2 : Nat} {T U : PT} (h : PW u n T s s') (h' : PW u T.2.1 U s' s2) (e : ∀ j, j < T.2.1 → U.2.2.1 j = T.2.2.1 j ∧ U.2.2.2 j = T.2.2.2 j) : PW u n U s s2 := by
  obtain ⟨k1, k2⟩ := h.keep e
  obtain ⟨a1, a2, a3⟩ := h
  obtain ⟨b1, b2, b3⟩ := h'
  refine ⟨by omega, ?_, fun j h1 h2 => ?_⟩
  · rw [show U.2.1 - n = (T.2.1 - n) + (U.2.1 - T.2.1) by omega]
    refine sgW_ap _ _ _ k1 ?_
    rw [show n + (T.2.1 - n) = T.2.1 by omega]
    exact b2
  · by_cases q : j < T.2.1
    · exact k2 j h1 q
    · exact b3 j (by omega) h2
theorem pAdd_keep {w v : Int32} {T : PT} : ∀ j, j < T.2.1 → (pAdd w v T).2.2.1 j = T.2.2.1 j ∧ (pAdd w v T).2.2.2 j = T.2.2.2 j := fun j hj => ⟨upd_ne (by omega), upd_ne (by omega)⟩
theorem pAdd_sg {w v : Int32} {T : PT} : sgP (pAdd w v T) T.2.1 = sgM w v ∧ vlP (pAdd w v T) T.2.1 = vlM w v := by
  unfold sgP vlP
  show sgM (upd T.2.2.1 T.2.1 w T.2.1) (upd T.2.2.2 T.2.1 v T.2.1) = _ ∧ vlM (upd T.2.2.1 T.2.1 w T.2.1) (upd T.2.2.2 T.2.1 v T.2.1) = _
  rw [upd_at, upd_at]
  exact ⟨rfl, rfl⟩
theorem PW.one {u : Nat} {w v : Int32} {T : PT} {s s' : Nat} (hok : okM u w v) (h : if sgM w v = 1 then s + 1 = s' else if sgM w v = 2 then (vlM w v = 0 ∨ vlM w v = 1 ∨ vlM w v = 2) ∧ s + 1 = s' else if sgM w v = 33 then 1 ≤ s ∧ s = s' else isOp (sgM w v) ∧ 2 ≤ s ∧ s - 1 = s') : PW u T.2.1 (pAdd w v T) s s' := by
  obtain ⟨e1, e2⟩ := pAdd_sg (w := w) (v := v) (T := T)
  refine ⟨Nat.le_succ _, ?_, fun j h1 h2 => ?_⟩
  · rw [show (pAdd w v T).2.1 - T.2.1 = 0 + 1 from by show T.2.1 + 1 - T.2.1 = _; omega]
    simp only [sgW, e1, e2]
    exact h
  · have h2 : j < T.2.1 + 1 := h2
    obtain rfl : j = T.2.1 := by omega
    show okM u (upd T.2.2.1 T.2.1 w T.2.1) (upd T.2.2.2 T.2.1 v T.2.1)
    rw [upd_at, upd_at]
    exact hok
theorem pN_le {B : Nat → Nat} {L : Nat} : ∀ (k a : Nat) (v : Int32), a ≤ L → a ≤ (pN B L k a v).1 ∧ (pN B L k a v).1 ≤ L := by
  intro k
  induction k with
  | zero => intro a v h; exact ⟨Nat.le_refl _, h⟩
  | succ k ih =>
    intro a v h
    simp only [pN]
    by_cases c : a < L ∧ 48 ≤ B a ∧ B a ≤ 57
    · rw [if_pos c]
      have := ih (a + 1) (10 * v + nI (B a) - 48) (by omega)
      omega
    · rw [if_neg c]
      exact ⟨Nat.le_refl _, h⟩
theorem pN_lt {B : Nat → Nat} {L a : Nat} (h : a < L) (h1 : 48 ≤ B a ∧ B a ≤ 57) : a + 1 ≤ (pN B L 4 a 0).1 ∧ (pN B L 4 a 0).1 ≤ L := by
  have e : pN B L 4 a 0 = pN B L 3 (a + 1) (10 * 0 + nI (B a) - 48) := if_pos ⟨h, h1⟩
  rw [e]
  exact pN_le 3 (a + 1) _ (by omega)
theorem ix_ok : ∀ u, u < 2 → ∀ n, n < 256 → ixQ u n < 3 → ixM (nI n) = nI (ixQ u n) := by decide +kernel
theorem ix_nm {u n : Nat} (hu : u < 2) (h : ixQ u n < 3) : nmOK u (nI n) := by
  unfold ixQ at h
  rcases (show u = 0 ∨ u = 1 by omega) with rfl | rfl
  · by_cases c1 : n = 103
    · subst c1; exact .inr (.inl ⟨rfl, .inl rfl⟩)
    · by_cases c2 : n = 100
      · subst c2; exact .inl rfl
      · by_cases c3 : n = 104
        · subst c3; exact .inr (.inl ⟨rfl, .inr rfl⟩)
        · simp [c1, c2, c3] at h
  · by_cases c1 : n = 112
    · subst c1; exact .inr (.inr ⟨rfl, .inl rfl⟩)
    · by_cases c2 : n = 100
      · subst c2; exact .inl rfl
      · by_cases c3 : n = 115
        · subst c3; exact .inr (.inr ⟨rfl, .inr rfl⟩)
        · simp [c1, c2, c3] at h
theorem ixM_cases (v : Int32) : ixM v = 0 ∨ ixM v = 1 ∨ ixM v = 2 := by unfold ixM; split; · exact .inl rfl
                                                                        · split; · exact .inr (.inl rfl)
                                                                          · exact .inr (.inr rfl)
theorem rk_op {n : Nat} (h : rkB n < 5) : isOp (nI n) ∧ ¬ nI n = 1 ∧ ¬ nI n = 2 ∧ ¬ nI n = 33 := by
  have h0 : n = 124 ∨ n = 38 ∨ n = 60 ∨ n = 61 ∨ n = 62 ∨ n = 43 ∨ n = 45 ∨ n = 37 ∨ n = 42 ∨ n = 47 := by
    unfold rkB at h
    by_cases a1 : n = 124
    · exact .inl a1
    · by_cases a2 : n = 38
      · simp [a2]
      · by_cases a3 : n = 60 ∨ n = 61 ∨ n = 62
        · omega
        · by_cases a4 : n = 43 ∨ n = 45
          · omega
          · by_cases a5 : n = 37 ∨ n = 42 ∨ n = 47
            · omega
            · simp [a1, a2, a3, a4, a5] at h
  unfold isOp
  rcases h0 with rfl | rfl | rfl | rfl | rfl | rfl | rfl | rfl | rfl | rfl <;> decide
theorem PQ_lf {B : Nat → Nat} {L u : Nat} (hu : u < 2) {T : PT} {z : Bool × PT} (h : T.1 ≤ L) (hz : T.1 < L → PQ L u T z) : PQ L u T (pLf B L u z T) := by
  unfold pLf
  by_cases c1 : T.1 < L
  · rw [if_pos c1]
    by_cases c2 : 48 ≤ B T.1 ∧ B T.1 ≤ 57
    · rw [if_pos c2]
      obtain ⟨e1, e2⟩ := pN_lt c1 c2
      have hg : PG L u (pNx T) ((pN B L 4 T.1 0).1, T.2) := ⟨e1, e2, Nat.le_refl _, by show T.2.1 + (T.1 + 1) ≤ (pN B L 4 T.1 0).1 + T.2.1; omega, fun _ _ => ⟨rfl, rfl⟩⟩
      exact ⟨hg.add, fun _ s => PW.one (T := ((pN B L 4 T.1 0).1, T.2)) (.inl rfl) (by rw [if_pos (show sgM 0 _ = 1 from rfl)])⟩
    · rw [if_neg c2]
      by_cases c3 : ixQ u (B T.1) < 3
      · rw [if_pos c3]
        refine ⟨(PG.rf (by show T.1 + 1 ≤ L; omega)).add, fun _ s => PW.one (T := pNx T) (.inr (.inl ⟨rfl, ix_nm hu c3⟩)) ?_⟩
        rw [if_neg (show ¬ sgM 1 (nI (B T.1)) = 1 from by show ¬ (2 : Int32) = 1; decide), if_pos (show sgM 1 _ = 2 from rfl)]
        exact ⟨ixM_cases _, rfl⟩
      · rw [if_neg c3]
        exact hz c1
  · rw [if_neg c1]
    exact ⟨PG.rf h, fun q => absurd q (by simp)⟩
theorem PQ_no {L u : Nat} {T U : PT} (h : PG L u T U) : PQ L u T (false, U) := ⟨h, fun q => absurd q (by simp)⟩
theorem PQ_L {B : Nat → Nat} {L u r : Nat} (hr : r < 5) {g : PT → Bool × PT} (hg : ∀ T, T.1 ≤ L → PQ L u T (g T)) {T0 : PT} : ∀ (k : Nat) (T : PT), PG L u T0 T → (∀ s, PW u T0.2.1 T s (s + 1)) → PQ L u T0 (pL B L g r k T) := by
  intro k
  induction k with
  | zero => intro T h hw; exact ⟨h, fun _ => hw⟩
  | succ k ih =>
    intro T h hw
    simp only [pL]
    by_cases c1 : T.1 < L ∧ rkB (B T.1) = r
    · rw [if_pos c1]
      obtain ⟨g1, g2⟩ := hg (pNx T) (by show T.1 + 1 ≤ L; omega)
      by_cases c2 : (g (pNx T)).1 = true
      · rw [if_pos c2]
        have hG : PG L u T0 (pAdd 3 (nI (B T.1)) (g (pNx T)).2) := h.tr g1.add
        have hW : ∀ s, PW u T0.2.1 (pAdd 3 (nI (B T.1)) (g (pNx T)).2) s (s + 1) := fun s => by
          obtain ⟨o1, o2, o3, o4⟩ := rk_op (n := B T.1) (by omega)
          have w1 : PW u T0.2.1 (g (pNx T)).2 s (s + 1 + 1) := PW.tr (hw s) (g2 c2 (s + 1)) (fun j hj => g1.2.2.2.2 j hj)
          refine PW.tr w1 (PW.one (T := (g (pNx T)).2) (.inr (.inr (.inr ⟨rfl, o1⟩))) ?_) pAdd_keep
          rw [show sgM 3 (nI (B T.1)) = nI (B T.1) from rfl, if_neg o2, if_neg o3, if_neg o4]
          exact ⟨o1, by omega, by omega⟩
        by_cases c3 : r = 2
        · rw [if_pos c3]
          exact ⟨hG, fun _ => hW⟩
        · rw [if_neg c3]
          exact ih _ hG hW
      · rw [if_neg c2]
        exact PQ_no (h.tr ((PG.nx c1.1).tr g1))
    · rw [if_neg c1]
      exact ⟨h, fun _ => hw⟩
theorem PQ_Rk {B : Nat → Nat} {L u : Nat} {g : PT → Bool × PT} (hg : ∀ T, T.1 ≤ L → PQ L u T (g T)) : ∀ (j : Nat) (T : PT), T.1 ≤ L → PQ L u T (pRk B L g j T) := by
  intro j
  induction j with
  | zero => exact hg
  | succ j ih =>
    intro T h
    simp only [pRk]
    have hq := ih T h
    by_cases c : (pRk B L g j T).1 = true
    · rw [if_pos c]
      exact PQ_L (by omega) ih 61 _ hq.1 (hq.2 c)
    · rw [if_neg c]
      exact PQ_no hq.1
theorem PQ_On {B : Nat → Nat} {L u : Nat} (hu : u < 2) : ∀ (e : Nat) (T : PT), T.1 ≤ L → PQ L u T (pOn B L u e T) := by
  intro e
  induction e with
  | zero => intro T h; exact PQ_lf hu h (fun _ => PQ_no (PG.rf h))
  | succ e ih =>
    intro T h
    refine PQ_lf hu h (fun hl => ?_)
    have hn : (pNx T).1 ≤ L := hl
    by_cases c1 : B T.1 = 33
    · rw [if_pos c1]
      have hq := ih (pNx T) hn
      by_cases c2 : (pOn B L u e (pNx T)).1 = true
      · rw [if_pos c2]
        refine ⟨hq.1.add, fun _ s => PW.tr (hq.2 c2 s) (PW.one (T := (pOn B L u e (pNx T)).2) (.inr (.inr (.inl rfl))) ?_) pAdd_keep⟩
        rw [show sgM 2 0 = 33 from rfl, if_neg (by decide), if_neg (by decide), if_pos rfl]
        exact ⟨by omega, rfl⟩
      · rw [if_neg c2]
        exact PQ_no ((PG.nx hl).tr hq.1)
    · rw [if_neg c1]
      by_cases c2 : B T.1 = 40
      · rw [if_pos c2]
        have hq := PQ_Rk (B := B) ih 5 (pNx T) hn
        by_cases c3 : (pRk B L (pOn B L u e) 5 (pNx T)).1 = true
        · rw [if_pos c3]
          by_cases c4 : (pRk B L (pOn B L u e) 5 (pNx T)).2.1 < L ∧ B (pRk B L (pOn B L u e) 5 (pNx T)).2.1 = 41
          · rw [if_pos c4]
            exact ⟨((PG.nx hl).tr hq.1).tr (PG.nx c4.1), fun _ s => hq.2 c3 s⟩
          · rw [if_neg c4]
            exact PQ_no ((PG.nx hl).tr hq.1)
        · rw [if_neg c3]
          exact PQ_no ((PG.nx hl).tr hq.1)
      · rw [if_neg c2]
        exact PQ_no (PG.rf h)
/-- what a parser's function must keep so that a loop of it ends -/
theorem pl_end {B : Nat → Nat} {L r k : Nat} {g : PT → Bool × PT} {T : PT} (h : ¬ (T.1 < L ∧ rkB (B T.1) = r)) : pL B L g r k T = (true, T) := by
  cases k with
  | zero => rfl
  | succ k => exact if_neg h
