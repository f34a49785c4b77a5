-- THE INVARIANT of every run: the class's cells from σ, the reference's from ρ
def SH1 (σ ρ : S_) (s : Nat) : Prop := σ (62 + 2 * s) 1 = ρ 83 s ∧ (ρ 83 s = 0 ∨ ρ 83 s = 8 ∨ ρ 83 s = 16 ∨ ρ 83 s = 32) ∧ (∃ m, m ≤ 24 ∧ σ (62 + 2 * s) 2 = nI m ∧ ρ 84 s = nI m) ∧ ∀ j, j < 24 → σ (63 + 2 * s) j = ρ 85 (24 * s + j)
def TC (σ ρ : S_) : Prop := ∃ b, b ≤ 30 ∧ σ 60 1 = nI b ∧ ρ 70 17 = nI b ∧ ∀ j, j < 30 → σ 61 j = ρ 82 j
def KP (σ ρ : S_) : Prop := σ 0 7 = ρ 70 3 ∧ (¬ ρ 70 3 = 0 → CW σ 31 (ρ 72) ∧ BD (ρ 72))
def I2 (σ ρ : S_) : Prop := CW σ 8 (ρ 71) ∧ BD (ρ 71) ∧ KP σ ρ ∧ (∀ k, k < 7 → σ 2 k = ρ 74 k) ∧ TC σ ρ ∧ ∀ s, s < 4 → SH1 σ ρ s
def IN (σ : S_) : Prop := I2 σ σ
theorem KP.fr {σ ρ σ' ρ' : S_} (h : KP σ ρ) (e : ∀ c, 31 ≤ c → c < 54 → c ≠ 49 → c ≠ 53 → σ' c = σ c) (e0 : σ' 0 7 = σ 0 7) (e3 : ρ' 70 3 = ρ 70 3) (e2 : ρ' 72 = ρ 72) : KP σ' ρ' := by
  unfold KP
  rw [e0, e3, e2]
  exact ⟨h.1, fun q => ⟨(h.2 q).1.frame (fun c h1 h2 h3 => e (31 + c) (by omega) (by omega) (by omega) (by omega)), (h.2 q).2⟩⟩
theorem SH1.fr {σ ρ σ' ρ' : S_} {s : Nat} (h : SH1 σ ρ s) (e : σ' (62 + 2 * s) = σ (62 + 2 * s)) (e' : σ' (63 + 2 * s) = σ (63 + 2 * s)) (e3 : ρ' 83 s = ρ 83 s) (e4 : ρ' 84 s = ρ 84 s) (e5 : ∀ j, j < 24 → ρ' 85 (24 * s + j) = ρ 85 (24 * s + j)) : SH1 σ' ρ' s := by
  unfold SH1
  rw [e, e', e3, e4]
  exact ⟨h.1, h.2.1, h.2.2.1, fun j hj => (h.2.2.2 j hj).trans (e5 j hj).symm⟩
/-- cells that the invariant doesn't read: scratch -/
def scr (x : Nat) : Prop := (3 ≤ x ∧ x < 8) ∨ x = 26 ∨ x = 30 ∨ x = 49 ∨ x = 53 ∨ (54 ≤ x ∧ x < 60) ∨ x = 73 ∨ (75 ≤ x ∧ x < 82) ∨ x = 86
theorem I2.fr {σ ρ σ' ρ' : S_} (h : I2 σ ρ) (e : ∀ c, c < 70 → c ≠ 0 → c ≠ 60 → ¬ scr c → σ' c = σ c) (e0 : σ' 0 7 = σ 0 7) (e60 : σ' 60 1 = σ 60 1) (r : ∀ c, 71 ≤ c → ¬ scr c → ρ' c = ρ c) (r3 : ρ' 70 3 = ρ 70 3) (r17 : ρ' 70 17 = ρ 70 17) : I2 σ' ρ' := by
  obtain ⟨h1, h2, h3, h4, ⟨b, hb, b1, b2, b3⟩, h6⟩ := h
  have E : ∀ c, c < 70 → c ≠ 0 → c ≠ 60 → (c < 3 ∨ 8 ≤ c) → c ≠ 26 → c ≠ 30 → c ≠ 49 → c ≠ 53 → (c < 54 ∨ 60 ≤ c) → σ' c = σ c := fun c a b d f1 f2 f3 f4 f5 f6 => e c a b d (by unfold scr; omega)
  have R : ∀ c, c = 71 ∨ c = 72 ∨ c = 74 ∨ (82 ≤ c ∧ c < 86) → ρ' c = ρ c := fun c a => r c (by omega) (by unfold scr; omega)
  have r71 := R 71 (by omega)
  have r82 := R 82 (by omega)
  refine ⟨?_, by rw [r71]; exact h2, h3.fr (fun c a b d f => E c (by omega) (by omega) (by omega) (by omega) (by omega) (by omega) d f (by omega)) e0 r3 (R 72 (by omega)), fun k hk => ?_, ⟨b, hb, e60.trans b1, r17.trans b2, fun j hj => ?_⟩, fun s hs => (h6 s hs).fr (E _ (by omega) (by omega) (by omega) (by omega) (by omega) (by omega) (by omega) (by omega) (by omega)) (E _ (by omega) (by omega) (by omega) (by omega) (by omega) (by omega) (by omega) (by omega) (by omega)) (congrFun (R 83 (by omega)) s) (congrFun (R 84 (by omega)) s) (fun j _ => congrFun (R 85 (by omega)) _)⟩
  · rw [r71]
    exact h1.frame (fun c a b d => E (8 + c) (by omega) (by omega) (by omega) (by omega) (by omega) (by omega) (by omega) (by omega) (by omega))
  · rw [E 2 (by omega) (by omega) (by omega) (by omega) (by omega) (by omega) (by omega) (by omega) (by omega), R 74 (by omega)]
    exact h4 k hk
  · rw [E 61 (by omega) (by omega) (by omega) (by omega) (by omega) (by omega) (by omega) (by omega) (by omega), r82]
    exact b3 j hj
/-- the class's side from σ, the reference's from ρ, joined -/
theorem IN.of {σ ρ τ : S_} (h : I2 σ ρ) (e1 : ∀ c, c < 70 → τ c = σ c) (e2 : ∀ c, 70 ≤ c → τ c = ρ c) : IN τ :=
  h.fr (fun c a _ _ _ => e1 c a) (by rw [e1 0 (by decide)]) (by rw [e1 60 (by decide)]) (fun c a _ => e2 c (by omega)) (by rw [e2 70 (by decide)]) (by rw [e2 70 (by decide)])
/-- a call of both: the same answer, and the invariant afterwards -/
def OP (g : GT) (σ : S_) (M7 M8 : MM) (as : List Value) : Prop := ∃ (d7 : Nat) (Z7 : Value → S_ → Prop), d7 ≤ 68 ∧ CT g d7 M7 (.ref 0 :: as) σ Z7 ∧ ∀ r τ, Z7 r τ → ∃ (x : Int32) (d8 : Nat) (Z8 : Value → S_ → Prop), r = .int x ∧ d8 ≤ 68 ∧ CT g d8 M8 (.ref 70 :: as) τ Z8 ∧ ∀ r' τ', Z8 r' τ' → r' = .int x ∧ IN τ'
theorem OP.mk {g : GT} {σ : S_} {M7 M8 : MM} {as : List Value} {d7 : Nat} {Z7 : Value → S_ → Prop} (h : d7 ≤ 68) (h7 : CT g d7 M7 (.ref 0 :: as) σ Z7) (h8 : ∀ r τ, Z7 r τ → ∃ (x : Int32) (d8 : Nat) (Z8 : Value → S_ → Prop), r = .int x ∧ d8 ≤ 68 ∧ CT g d8 M8 (.ref 70 :: as) τ Z8 ∧ ∀ r' τ', Z8 r' τ' → r' = .int x ∧ IN τ') : OP g σ M7 M8 as := ⟨d7, Z7, h, h7, h8⟩
/-- both sides say exactly what they do -/
theorem OP.eq {g : GT} {σ σ7 σ8 : S_} {M7 M8 : MM} {as : List Value} {d7 d8 : Nat} {x y : Int32} (a7 : d7 ≤ 68) (h7 : CT g d7 M7 (.ref 0 :: as) σ (EQ (.int x) σ7)) (a8 : d8 ≤ 68) (h8 : CT g d8 M8 (.ref 70 :: as) σ7 (EQ (.int y) σ8)) (e : y = x) (hI : IN σ8) : OP g σ M7 M8 as :=
  ⟨d7, _, a7, h7, fun r τ hz => by
    obtain ⟨rfl, rfl⟩ := hz
    refine ⟨x, d8, _, rfl, a8, h8, fun r' τ' hz' => ?_⟩
    obtain ⟨rfl, rfl⟩ := hz'
    exact ⟨by rw [e], hI⟩⟩
theorem up_same {σ σ' : S_} {a k c : Nat} {v : Int32} (h : σ c = σ' c) : up σ a k v c = up σ' a k v c := by funext j; unfold up; rw [h]
theorem IN.rf {σ : S_} (h : IN σ) {k : Nat} (hk : k < 7) : IN (rfm (rfz σ k) k) := by
  have h2 : I2 (rfz σ k) (rfm σ k) := by
    obtain ⟨h1, h2, h3, h4, h5, h6⟩ := h
    refine ⟨h1.frame (fun c _ _ _ => up_row (by omega)), h2, h3.fr (fun c a _ _ _ => up_row (by omega)) (congrFun (up_row (by decide)) 7) (congrFun (up_row (by decide)) 3) (up_row (by decide)), fun j hj => ?_, ?_, fun s hs => (h6 s hs).fr (up_row (by omega)) (up_row (by omega)) (congrFun (up_row (by decide)) s) (congrFun (up_row (by decide)) s) (fun j _ => congrFun (up_row (by decide)) _)⟩
    · show up σ 2 k (σ 2 k + 1) 2 j = up σ 74 k (σ 74 k + 1) 74 j
      by_cases q : j = k
      · subst q
        rw [up_at, up_at, h4 j hj]
      · rw [up_nk q, up_nk q]
        exact h4 j hj
    · exact h5
  refine IN.of h2 (fun c hc => up_row (by omega)) (fun c hc => ?_)
  show up (up σ 2 k (σ 2 k + 1)) 74 k (up σ 2 k (σ 2 k + 1) 74 k + 1) c = up σ 74 k (σ 74 k + 1) c
  rw [up_nc (by decide)]
  exact up_same (up_row (by omega))
/-- refused by both -/
theorem OP.rf {g : GT} {σ : S_} {M7 M8 : MM} {as : List Value} {d7 d8 k : Nat} {v : Int32} (hI : IN σ) (hk : k < 7) (a7 : d7 ≤ 68) (h7 : CT g d7 M7 (.ref 0 :: as) σ (EQ (.int v) (rfz σ k))) (a8 : d8 ≤ 68) (h8 : CT g d8 M8 (.ref 70 :: as) (rfz σ k) (EQ (.int v) (rfm (rfz σ k) k))) : OP g σ M7 M8 as := OP.eq a7 h7 a8 h8 rfl (hI.rf hk)
/-- read only -/
theorem OP.rd {g : GT} {σ : S_} {M7 M8 : MM} {as : List Value} {d7 d8 : Nat} {x y : Int32} (hI : IN σ) (a7 : d7 ≤ 68) (h7 : CT g d7 M7 (.ref 0 :: as) σ (EQ (.int x) σ)) (a8 : d8 ≤ 68) (h8 : CT g d8 M8 (.ref 70 :: as) σ (EQ (.int y) σ)) (e : y = x) : OP g σ M7 M8 as := OP.eq a7 h7 a8 h8 e hI
-- ints known by their bounds
theorem zI_of {v : Int32} (h : 0 ≤ v) : ∃ n, n < 2 ^ 31 ∧ v = nI n := by
  refine ⟨v.toInt.toNat, ?_, ?_⟩
  · have := Int32.toInt_lt v
    omega
  · have h0 : 0 ≤ v.toInt := by
      have := Int32.le_iff_toInt_le.mp h
      simpa using this
    apply Int32.toInt_inj.mp
    have hlt := Int32.toInt_lt v
    rw [nI_toInt (by omega)]
    omega
theorem zI_in {v : Int32} {b : Nat} (hb : b < 2 ^ 31) (h : 0 ≤ v ∧ v ≤ nI b) : ∃ n, n ≤ b ∧ v = nI n := by
  obtain ⟨n, hn, rfl⟩ := zI_of h.1
  exact ⟨n, (nI_le_iff hn hb).mp h.2, rfl⟩
theorem nI_sub1 {n : Nat} : nI (n + 1) - 1 = nI n := by
  rw [show nI (n + 1) = nI n + 1 from by rw [show (1 : Int32) = nI 1 from rfl, nI_add]]
  grind
theorem nI_below {v : Int32} {b : Nat} (hb : b < 2 ^ 31) (h : 0 ≤ v ∧ v ≤ nI b - 1) : ∃ n, n < b ∧ v = nI n := by
  cases b with
  | zero =>
    have h2 := h.1
    have h3 := h.2
    rw [show nI 0 = (0 : Int32) from rfl] at h3
    exact absurd (Int32.le_trans h2 h3) (by decide)
  | succ b =>
    rw [nI_sub1] at h
    obtain ⟨n, hn, e⟩ := zI_in (by omega) h
    exact ⟨n, by omega, e⟩
theorem nI_betw {v : Int32} {a b : Nat} (ha : a < 2 ^ 31) (hb : b < 2 ^ 31) (h : nI a ≤ v ∧ v ≤ nI b) : ∃ n, a ≤ n ∧ n ≤ b ∧ v = nI n := by
  obtain ⟨n, hn, rfl⟩ := zI_in hb ⟨Int32.le_trans (nI_le (a := 0) (Nat.zero_le a) ha) h.1, h.2⟩
  exact ⟨n, (nI_le_iff ha (by omega)).mp h.1, hn, rfl⟩
theorem IN.c {σ : S_} (h : IN σ) : CW σ 8 (σ 71) := h.1
theorem IN.b {σ : S_} (h : IN σ) : BD (σ 71) := h.2.1
theorem IN.nf {σ : S_} (h : IN σ) : ∃ nf, nf ≤ 7 ∧ σ 8 1 = nI nf ∧ σ 71 5 = nI nf := by
  obtain ⟨n, h1, h2⟩ := h.2.1.1
  exact ⟨n, h1, (h.1.at LM_farms).trans h2, h2⟩
theorem IN.nc {σ : S_} (h : IN σ) : ∃ nc, nc ≤ 4 ∧ σ 8 4 = nI nc ∧ σ 71 6 = nI nc := by
  obtain ⟨n, h1, h2⟩ := h.2.1.2.1
  exact ⟨n, h1, (h.1.at LM_carriers).trans h2, h2⟩
theorem IN.nt {σ : S_} (h : IN σ) : ∃ nt, nt ≤ 60 ∧ σ 8 10 = nI nt ∧ σ 71 3 = nI nt := by
  obtain ⟨n, h1, h2⟩ := h.2.1.2.2.1
  exact ⟨n, h1, (h.1.at LM_taped).trans h2, h2⟩
theorem IN.nw {σ : S_} (h : IN σ) : ∃ nw, nw ≤ 24 ∧ σ 8 13 = nI nw ∧ σ 71 4 = nI nw := by
  obtain ⟨n, h1, h2⟩ := h.2.1.2.2.2.1
  exact ⟨n, h1, (h.1.at LM_waits).trans h2, h2⟩
/-- one more number, the same on both sides -/
theorem I2.lm {σ ρ : S_} (h : I2 σ ρ) {c k m a : Nat} (hx : (c, k, m) ∈ LM) (ha : a = 8 + c) {v : Int32} (hB : BD (upd (ρ 71) m v)) : I2 (up σ a k v) (up ρ 71 m v) := by
  subst ha
  obtain ⟨h1, h2, h3, h4, h5, h6⟩ := h
  have hA := LM_away _ hx
  replace hA : c ≠ 5 ∧ c < 15 ∧ (m < 60 ∨ 370 ≤ m) ∧ m < 394 := hA
  have e71 : up ρ 71 m v 71 = upd (ρ 71) m v := up_own
  refine ⟨by rw [e71]; exact h1.up hx v, by rw [e71]; exact hB, h3.fr (fun c' a _ _ _ => up_row (by omega)) (congrFun (up_row (by omega)) 7) (congrFun (up_row (by decide)) 3) (up_row (by decide)), fun j hj => ?_, ?_, fun s hs => (h6 s hs).fr (up_row (by omega)) (up_row (by omega)) (congrFun (up_row (by decide)) s) (congrFun (up_row (by decide)) s) (fun j _ => congrFun (up_row (by decide)) _)⟩
  · rw [up_nc (by omega), up_nc (by decide)]
    exact h4 j hj
  · obtain ⟨b, hb, b1, b2, b3⟩ := h5
    exact ⟨b, hb, (up_nc (by omega)).trans b1, (up_nc (by decide)).trans b2, fun j hj => by rw [up_nc (by omega), up_nc (by decide)]; exact b3 j hj⟩
/-- the world as the class has it in τ, as the reference's row is t -/
theorem IN.world {σ τ ρ : S_} {t : Nat → Int32} (h : IN σ) (hC : CW τ 8 t) (hB : BD t) (e : ∀ c, c < 70 → c < 3 ∨ 31 ≤ c → ¬ scr c → τ c = σ c) (e71 : ρ 71 = t) (r : ∀ c, 72 ≤ c → ¬ scr c → ρ c = σ c) (r3 : ρ 70 3 = σ 70 3) (r17 : ρ 70 17 = σ 70 17) : I2 τ ρ := by
  obtain ⟨h1, h2, h3, h4, ⟨b, hb, b1, b2, b3⟩, h6⟩ := h
  have E : ∀ c, c < 70 → c < 3 ∨ (31 ≤ c ∧ c < 54 ∧ c ≠ 49 ∧ c ≠ 53) ∨ 60 ≤ c → τ c = σ c := fun c a b => e c a (by omega) (by unfold scr; omega)
  have R : ∀ c, c = 72 ∨ c = 74 ∨ (82 ≤ c ∧ c < 86) → ρ c = σ c := fun c a => r c (by omega) (by unfold scr; omega)
  refine ⟨by rw [e71]; exact hC, by rw [e71]; exact hB, h3.fr (fun c a b d f => E c (by omega) (by omega)) (congrFun (E 0 (by omega) (by omega)) 7) r3 (R 72 (by omega)), fun k hk => ?_, ⟨b, hb, (congrFun (E 60 (by omega) (by omega)) 1).trans b1, r17.trans b2, fun j hj => ?_⟩, fun s hs => (h6 s hs).fr (E _ (by omega) (by omega)) (E _ (by omega) (by omega)) (congrFun (R 83 (by omega)) s) (congrFun (R 84 (by omega)) s) (fun j _ => congrFun (R 85 (by omega)) _)⟩
  · rw [E 2 (by omega) (by omega), R 74 (by omega)]
    exact h4 k hk
  · rw [E 61 (by omega) (by omega), R 82 (by omega)]
    exact b3 j hj
-- the bounds of the row, one place changed
def fkB (k : Nat) (v : Int32) : Prop := (k = 0 ∧ bw v 6) ∨ (k = 1 ∧ bw v 9) ∨ (k = 2 ∧ bw v 40) ∨ (k = 3 ∧ bw v 30) ∨ (k = 4 ∧ bw v 99) ∨ (k = 5 ∧ bw v 99999)
theorem upd_mid {t : Nat → Int32} {m : Nat} {v : Int32} (hm : m < 60 ∨ 370 ≤ m) {k : Nat} (k1 : 60 ≤ k) (k2 : k < 370) : t k = upd t m v k := (upd_ne (by omega)).symm
theorem BD.set {t : Nat → Int32} (h : BD t) {m : Nat} {v : Int32} (hm : m < 60 ∨ 370 ≤ m) (c5 : m = 5 → ∃ n, n ≤ 7 ∧ v = nI n) (c6 : m = 6 → ∃ n, n ≤ 4 ∧ v = nI n) (c3 : m = 3 → ∃ n, n ≤ 60 ∧ v = nI n) (c4 : m = 4 → ∃ n, n ≤ 24 ∧ v = nI n) (c1 : m = 1 → bw v 99999) (c7 : ∀ p, p < 3 → m = 7 + p → bw v 999) (cb : ∀ c, c < 4 → (m = 52 + 2 * c → bw v 300) ∧ (m = 52 + 2 * c + 1 → bw v 99999)) (cf : ∀ n, n < 7 → ∀ k, k < 6 → m = 10 + 6 * n + k → fkB k v) : BD (upd t m v) := by
  have hs : ∀ j, j ≠ m → upd t m v j = t j := fun j hj => upd_ne hj
  have hk : ∀ k, 60 ≤ k → k < 370 → t k = upd t m v k := fun k k1 k2 => upd_mid hm k1 k2
  have hr0 : TOK (upd t m v) 0 := h.t0.row (fun k k1 k2 => hk k (by omega) (by omega))
  have hr1 : TOK (upd t m v) 1 := h.t1.row (fun k k1 k2 => hk k (by omega) (by omega))
  obtain ⟨b1, b2, b3, b4, b6, b7, b8, b9, b10, b11⟩ := h
  refine ⟨?_, ?_, ?_, ?_, ?_, fun p hp => ?_, fun c hc => ?_, fun n hn => ?_, hr0, hr1⟩
  · by_cases q : m = 5
    · obtain ⟨n, h1, h2⟩ := c5 q
      exact ⟨n, h1, by rw [q, upd_at]; exact h2⟩
    · rw [hs 5 (by omega)]; exact b1
  · by_cases q : m = 6
    · obtain ⟨n, h1, h2⟩ := c6 q
      exact ⟨n, h1, by rw [q, upd_at]; exact h2⟩
    · rw [hs 6 (by omega)]; exact b2
  · by_cases q : m = 3
    · obtain ⟨n, h1, h2⟩ := c3 q
      exact ⟨n, h1, by rw [q, upd_at]; exact h2⟩
    · rw [hs 3 (by omega)]; exact b3
  · by_cases q : m = 4
    · obtain ⟨n, h1, h2⟩ := c4 q
      exact ⟨n, h1, by rw [q, upd_at]; exact h2⟩
    · rw [hs 4 (by omega)]; exact b4
  · by_cases q : m = 1
    · rw [q, upd_at]; exact c1 q
    · rw [hs 1 (by omega)]; exact b6
  · by_cases q : m = 7 + p
    · rw [q, upd_at]; exact c7 p hp q
    · rw [hs (7 + p) (by omega)]; exact b7 p hp
  · constructor
    · by_cases q : m = 52 + 2 * c
      · rw [q, upd_at]; exact (cb c hc).1 q
      · rw [hs (52 + 2 * c) (by omega)]; exact (b8 c hc).1
    · by_cases q : m = 52 + 2 * c + 1
      · rw [q, upd_at]; exact (cb c hc).2 q
      · rw [hs (52 + 2 * c + 1) (by omega)]; exact (b8 c hc).2
  · obtain ⟨f0, f1, f2, f3, f4, f5⟩ := b9 n hn
    have key : ∀ k, k < 6 → ∀ (B : Int32), (fkB k v → bw v B) → bw (t (10 + 6 * n + k)) B → bw (upd t m v (10 + 6 * n + k)) B := fun k hk B hi ht => by
      by_cases q : m = 10 + 6 * n + k
      · rw [q, upd_at]; exact hi (cf n hn k hk q)
      · rw [hs _ (by omega)]; exact ht
    refine ⟨key 0 (by decide) 6 ?_ f0, key 1 (by decide) 9 ?_ f1, key 2 (by decide) 40 ?_ f2, key 3 (by decide) 30 ?_ f3, key 4 (by decide) 99 ?_ f4, key 5 (by decide) 99999 ?_ f5⟩ <;> (intro q; rcases q with ⟨a, b⟩ | ⟨a, b⟩ | ⟨a, b⟩ | ⟨a, b⟩ | ⟨a, b⟩ | ⟨a, b⟩ <;> first | exact b | exact absurd a (by decide))
