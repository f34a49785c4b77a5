-- THE RELATION between the class's World (its cells from b on) and the reference's row t
/-- places that hold the same number: (cell behind b, place, place of the row) -/
def LM : List (Nat × Nat × Nat) := [(0, 1, 5), (0, 4, 6), (0, 6, 0), (0, 7, 1), (0, 8, 2), (0, 10, 3), (0, 13, 4)] ++ (List.range 4).map (fun i => (2, i, 52 + 2 * i)) ++ (List.range 4).map (fun i => (3, i, 52 + 2 * i + 1)) ++ (List.range 3).map (fun i => (4, i, 7 + i)) ++ (List.range 24).map (fun i => (7, i, 370 + i)) ++ (List.range 7).flatMap (fun n => (List.range 6).map (fun k => (8 + n, k, 10 + 6 * n + k)))
theorem LM_inj : ∀ x ∈ LM, ∀ y ∈ LM, (x.1 = y.1 ∧ x.2.1 = y.2.1) ↔ x.2.2 = y.2.2 := by decide +kernel
theorem LM_away : ∀ x ∈ LM, x.1 ≠ 5 ∧ x.1 < 15 ∧ (x.2.2 < 60 ∨ 370 ≤ x.2.2) ∧ x.2.2 < 394 := by decide +kernel
theorem LM_farm : ∀ n, n < 7 → ∀ k, k < 6 → (8 + n, k, 10 + 6 * n + k) ∈ LM := by decide +kernel
theorem LM_belly : ∀ i, i < 4 → (2, i, 52 + 2 * i) ∈ LM := by decide +kernel
theorem LM_earned : ∀ i, i < 4 → (3, i, 52 + 2 * i + 1) ∈ LM := by decide +kernel
theorem LM_water : ∀ i, i < 3 → (4, i, 7 + i) ∈ LM := by decide +kernel
theorem LM_wait : ∀ i, i < 24 → (7, i, 370 + i) ∈ LM := by decide +kernel
theorem LM_farms : (0, 1, 5) ∈ LM := by decide +kernel
theorem LM_carriers : (0, 4, 6) ∈ LM := by decide +kernel
theorem LM_hour : (0, 6, 0) ∈ LM := by decide +kernel
theorem LM_parched : (0, 7, 1) ∈ LM := by decide +kernel
theorem LM_z : (0, 8, 2) ∈ LM := by decide +kernel
theorem LM_taped : (0, 10, 3) ∈ LM := by decide +kernel
theorem LM_waits : (0, 13, 4) ∈ LM := by decide +kernel
def LMok (σ : S_) (b : Nat) (t : Nat → Int32) : Prop := ∀ x ∈ LM, σ (b + x.1) x.2.1 = t x.2.2
def TPok (σ : S_) (b : Nat) (t : Nat → Int32) : Prop := ∀ i, i < 60 → (σ (b + 5) i).toInt8.toInt32 &&& 255 = t (310 + i)
def CW (σ : S_) (b : Nat) (t : Nat → Int32) : Prop := LMok σ b t ∧ TPok σ b t ∧ TXR σ t (b + 15) 0 ∧ TXR σ t (b + 19) 1
theorem upd_at {f : Nat → Int32} {k : Nat} {v : Int32} : upd f k v k = v := by simp [upd]
theorem upd_ne {f : Nat → Int32} {k j : Nat} {v : Int32} (h : j ≠ k) : upd f k v j = f j := by simp [upd, h]
theorem LMok.up {σ : S_} {b : Nat} {t : Nat → Int32} (h : LMok σ b t) {x : Nat × Nat × Nat} (hx : x ∈ LM) (v : Int32) : LMok (up σ (b + x.1) x.2.1 v) b (upd t x.2.2 v) := by
  intro y hy
  have hi := LM_inj x hx y hy
  by_cases e : x.2.2 = y.2.2
  · obtain ⟨e1, e2⟩ := hi.mpr e
    rw [← e1, ← e2, ← e, up_at, upd_at]
  · rw [upd_ne (Ne.symm e)]
    by_cases e1 : x.1 = y.1
    · have e2 : y.2.1 ≠ x.2.1 := fun q => e (hi.mp ⟨e1, q.symm⟩)
      rw [← e1, up_nk e2, e1]
      exact h y hy
    · rw [up_nc (by omega)]
      exact h y hy
theorem sgR_eq {t t' : Nat → Int32} {u : Nat} (h : ∀ k, 60 + 125 * u ≤ k → k < 60 + 125 * u + 125 → t k = t' k) {j : Nat} (hj : j < 60) : sgR t u j = sgR t' u j ∧ vlR t u j = vlR t' u j := by
  unfold sgR vlR
  rw [h (60 + 125 * u + 1 + 2 * j) (by omega) (by omega), h (60 + 125 * u + 2 + 2 * j) (by omega) (by omega)]
  exact ⟨rfl, rfl⟩
theorem TXR.row {σ : S_} {t t' : Nat → Int32} {T u : Nat} (h : TXR σ t T u) (e : ∀ k, 60 + 125 * u ≤ k → k < 60 + 125 * u + 125 → t k = t' k) : TXR σ t' T u := by
  have e0 := e (60 + 125 * u) (by omega) (by omega)
  refine ⟨h.1.trans e0, fun L hL h6 j hj => ?_⟩
  obtain ⟨q1, q2⟩ := h.2 L (e0.trans hL) h6 j hj
  obtain ⟨w1, w2⟩ := sgR_eq e (j := j) (by omega)
  exact ⟨q1.trans w1, q2.trans w2⟩
theorem TXR.cells {σ τ : S_} {t : Nat → Int32} {T u : Nat} (h : TXR σ t T u) (e : τ T = σ T) (e1 : τ (T + 1) = σ (T + 1)) (e2 : τ (T + 2) = σ (T + 2)) : TXR τ t T u := by
  unfold TXR
  rw [e, e1, e2]
  exact h
theorem TOK.row {t t' : Nat → Int32} {u : Nat} (h : TOK t u) (e : ∀ k, 60 + 125 * u ≤ k → k < 60 + 125 * u + 125 → t k = t' k) : TOK t' u := by
  obtain ⟨L, h60, hL, hw, hok⟩ := h
  refine ⟨L, h60, (e _ (by omega) (by omega)).symm.trans hL, fun hp => wfT_ext L 0 0 (fun j _ hj => sgR_eq e (by omega)) (hw hp), fun j hj => ?_⟩
  rw [← e _ (by omega) (by omega), ← e _ (by omega) (by omega)]
  exact hok j hj
theorem txF.row {t t' : Nat → Int32} {u : Nat} {a b c : Int32} (hT : TOK t u) (e : ∀ k, 60 + 125 * u ≤ k → k < 60 + 125 * u + 125 → t k = t' k) : txF t u a b c = txF t' u a b c := by
  obtain ⟨L, h60, hL, hw, hok⟩ := hT
  have e0 := e (60 + 125 * u) (by omega) (by omega)
  by_cases hp : 0 < L
  · rw [← txF_of h60 hL hp (hw hp) (fun _ => 0), ← txF_of h60 (e0.symm.trans hL) hp (wfT_ext L 0 0 (fun j _ hj => sgR_eq e (by omega)) (hw hp)) (fun _ => 0)]
    exact runT_ext L 0 0 _ _ (fun j _ hj => sgR_eq e (by omega)) (fun _ _ => rfl) (hw hp)
  · have hn : ¬ 0 < t (60 + 125 * u) := by rw [hL]; exact fun q => hp ((nI_pos_iff h60).mp q)
    rw [txF_no hn, txF_no (by rw [← e0]; exact hn)]
theorem CW.up {σ : S_} {b : Nat} {t : Nat → Int32} (h : CW σ b t) {x : Nat × Nat × Nat} (hx : x ∈ LM) (v : Int32) : CW (up σ (b + x.1) x.2.1 v) b (upd t x.2.2 v) := by
  obtain ⟨a1, a2, a3, a4⟩ := LM_away x hx
  refine ⟨h.1.up hx v, fun i hi => ?_, ?_, ?_⟩
  · rw [up_nc (by omega), upd_ne (by omega)]
    exact h.2.1 i hi
  · refine (h.2.2.1.cells (up_row (by omega)) (up_row (by omega)) (up_row (by omega))).row (fun k k1 k2 => (upd_ne (by omega)).symm)
  · refine (h.2.2.2.cells (up_row (by omega)) (up_row (by omega)) (up_row (by omega))).row (fun k k1 k2 => (upd_ne (by omega)).symm)
/-- cells that the relation reads -/
theorem CW.frame {σ τ : S_} {b : Nat} {t : Nat → Int32} (h : CW σ b t) (e : ∀ c, c < 23 → c ≠ 18 → c ≠ 22 → τ (b + c) = σ (b + c)) : CW τ b t := by
  refine ⟨fun x hx => ?_, fun i hi => ?_, ?_, ?_⟩
  · obtain ⟨a1, a2, a3, a4⟩ := LM_away x hx
    rw [e x.1 (by omega) (by omega) (by omega)]
    exact h.1 x hx
  · rw [e 5 (by omega) (by omega) (by omega)]
    exact h.2.1 i hi
  · exact h.2.2.1.cells (e 15 (by omega) (by omega) (by omega)) (e 16 (by omega) (by omega) (by omega)) (e 17 (by omega) (by omega) (by omega))
  · exact h.2.2.2.cells (e 19 (by omega) (by omega) (by omega)) (e 20 (by omega) (by omega) (by omega)) (e 21 (by omega) (by omega) (by omega))
theorem CW.at {σ : S_} {b : Nat} {t : Nat → Int32} (h : CW σ b t) {c k m : Nat} (hx : (c, k, m) ∈ LM) : σ (b + c) k = t m := h.1 (c, k, m) hx
-- the row's bounds
def bw (x : Int32) (hi : Int32) : Prop := 0 ≤ x ∧ x ≤ hi
def FB (t : Nat → Int32) (n : Nat) : Prop := bw (t (10 + 6 * n)) 6 ∧ bw (t (10 + 6 * n + 1)) 9 ∧ bw (t (10 + 6 * n + 2)) 40 ∧ bw (t (10 + 6 * n + 3)) 30 ∧ bw (t (10 + 6 * n + 4)) 99 ∧ bw (t (10 + 6 * n + 5)) 99999
def BD (t : Nat → Int32) : Prop := (∃ nf, nf ≤ 7 ∧ t 5 = nI nf) ∧ (∃ nc, nc ≤ 4 ∧ t 6 = nI nc) ∧ (∃ nt, nt ≤ 60 ∧ t 3 = nI nt) ∧ (∃ nw, nw ≤ 24 ∧ t 4 = nI nw) ∧ bw (t 1) 99999 ∧ (∀ p, p < 3 → bw (t (7 + p)) 999) ∧ (∀ c, c < 4 → bw (t (52 + 2 * c)) 300 ∧ bw (t (52 + 2 * c + 1)) 99999) ∧ (∀ n, n < 7 → FB t n) ∧ TOK t 0 ∧ TOK t 1
theorem heldF_bw {v hi : Int32} (h : 0 ≤ hi) : bw (heldF v 0 hi) hi := by unfold bw heldF; grind
theorem growT_bw (t : Nat → Int32) (a b c : Int32) : bw (growT t a b c) 9 := heldF_bw (by decide)
theorem payT_bw (t : Nat → Int32) (a b c : Int32) : bw (payT t a b c) 999 := heldF_bw (by decide)
theorem growT.row {t t' : Nat → Int32} {a b c : Int32} (hT : TOK t 0) (e : ∀ k, 60 ≤ k → k < 310 → t k = t' k) : growT t a b c = growT t' a b c := by unfold growT; rw [txF.row hT (fun k h1 h2 => e k (by omega) (by omega))]
theorem payT.row {t t' : Nat → Int32} {a b c : Int32} (hT : TOK t 1) (e : ∀ k, 60 ≤ k → k < 310 → t k = t' k) : payT t a b c = payT t' a b c := by unfold payT; rw [txF.row hT (fun k h1 h2 => e k (by omega) (by omega))]
