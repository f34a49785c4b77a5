/-- the first farm that is drier than x, from i on; -1 -/
def fAb (f : Nat → Int32) (x : Int32) : Nat → Nat → Int32
  | 0, _ => -1
  | k + 1, i => if f i ≤ x then fAb f x k (i + 1) else nI i
def dry4 (t : Nat → Int32) : Nat → Int32 := fun i => t (10 + 6 * i + 4)
theorem fAb_ext {f f' : Nat → Int32} {x : Int32} : ∀ (k i : Nat), (∀ j, i ≤ j → j < i + k → f j = f' j) → fAb f x k i = fAb f' x k i := by
  intro k
  induction k with
  | zero => intro i _; rfl
  | succ k ih => intro i h; unfold fAb; rw [h i (Nat.le_refl _) (by omega), ih (i + 1) (fun j a b => h j (by omega) (by omega))]
theorem fAb_cases {f : Nat → Int32} {x : Int32} : ∀ (k i : Nat), fAb f x k i = -1 ∨ ∃ j, j < i + k ∧ fAb f x k i = nI j := by
  intro k
  induction k with
  | zero => intro i; exact Or.inl rfl
  | succ k ih =>
    intro i
    unfold fAb
    split
    · rcases ih (i + 1) with h | ⟨j, h1, h2⟩
      · exact Or.inl h
      · exact Or.inr ⟨j, by omega, h2⟩
    · exact Or.inr ⟨i, by omega, rfl⟩
/-- the first of the numbers from i on at which P holds; at most f steps -/
def srch (P : Nat → Bool) : Nat → Nat → Nat
  | 0, i => i
  | f + 1, i => if P i = true then i else srch P f (i + 1)
theorem srch_le {P : Nat → Bool} : ∀ f i, i ≤ srch P f i ∧ srch P f i ≤ i + f := by
  intro f
  induction f with
  | zero => intro i; exact ⟨Nat.le_refl _, Nat.le_refl _⟩
  | succ f ih => intro i; unfold srch; split; · omega
                 · have := ih (i + 1); omega
theorem srch_ok {P : Nat → Bool} : ∀ f i, srch P f i < i + f → P (srch P f i) = true := by
  intro f
  induction f with
  | zero => intro i h; exact absurd h (by unfold srch; omega)
  | succ f ih =>
    intro i h
    unfold srch at h ⊢
    split
    · assumption
    · rename_i c; rw [if_neg c] at h; exact ih (i + 1) (by omega)
def drierB (t : Nat → Int32) (nf : Nat) (x : Int32) (k : Nat) : Bool := !decide (fAb (dry4 (hoursN t nf k)) x nf 0 = -1)
theorem fAb_nn {f : Nat → Int32} {x : Int32} {k : Nat} (hk : k ≤ 7) : (fAb f x k 0 < 0 ↔ fAb f x k 0 = -1) := by
  rcases fAb_cases (f := f) (x := x) k 0 with h | ⟨j, h1, h2⟩
  · rw [h]; decide
  · rw [h2]
    constructor
    · intro q; exact absurd q (nI_pos (by omega))
    · intro q; exact absurd (show nI j < 0 by rw [q]; decide) (nI_pos (by omega))
theorem fa_loop {g : GT} {σ : S_} {t : Nat → Int32} {nf : Nat} {x : Int32} (hn : t 5 = nI nf) (h7 : nf ≤ 7) (hC : CW σ 8 t) : ∀ (k i : Nat) (Z : Value → S_ → Prop), i + k = nf → Z (.int (fAb (σ 4) x k i)) σ → J g 0 M_X4_firstAbove Z 2 [.ref 3, .int x, .int (nI i)] [] σ := by
  intro k
  induction k with
  | zero =>
    intro i Z hik hZ
    refine j_iload_n dX4_firstAbove_2 (q := 3) rfl rfl ?_
    refine j_aload_n dX4_firstAbove_3 (q := 4) rfl rfl ?_
    refine j_getR (r := 8) fs_X4_24 rfl rfl rfl dX4_firstAbove_4 (q := 7) rfl ?_
    refine j_getIV fs_X4_45 rfl rfl ((hC.at LM_farms).trans hn) dX4_firstAbove_7 (q := 10) rfl ?_
    refine j_icmp_geN (by omega) (by omega) dX4_firstAbove_10 (t := 31) (by decide) (q := 13) rfl (fun c_10 => ?_) (fun c_10 => ?_)
    · skip
      refine j_iconst (v := (-1)) dX4_firstAbove_31 (q := 32) rfl (by decide) ?_
      refine j_ireti dX4_firstAbove_32 rfl ?_
      exact hZ
    · skip
      omega
  | succ k ih =>
    intro i Z hik hZ
    refine j_iload_n dX4_firstAbove_2 (q := 3) rfl rfl ?_
    refine j_aload_n dX4_firstAbove_3 (q := 4) rfl rfl ?_
    refine j_getR (r := 8) fs_X4_24 rfl rfl rfl dX4_firstAbove_4 (q := 7) rfl ?_
    refine j_getIV fs_X4_45 rfl rfl ((hC.at LM_farms).trans hn) dX4_firstAbove_7 (q := 10) rfl ?_
    refine j_icmp_geN (by omega) (by omega) dX4_firstAbove_10 (t := 31) (by decide) (q := 13) rfl (fun c_10 => ?_) (fun c_10 => ?_)
    · skip
      omega
    · skip
      refine j_aload_n dX4_firstAbove_13 (q := 14) rfl rfl ?_
      refine j_getR (r := 4) fs_X4_9 rfl rfl rfl dX4_firstAbove_14 (q := 17) rfl ?_
      refine j_iload_n dX4_firstAbove_17 (q := 18) rfl rfl ?_
      refine j_ialdN rfl (by omega) dX4_firstAbove_18 (q := 19) rfl ?_
      refine j_iload_n dX4_firstAbove_19 (q := 20) rfl rfl ?_
      refine j_icmp_le dX4_firstAbove_20 (t := 25) (by decide) (q := 23) rfl (fun c_20 => ?_) (fun c_20 => ?_)
      · skip
        refine j_iincN_3_2 dX4_firstAbove_25 (q := 28) rfl rfl rfl ?_
        refine j_goto (q := 2) dX4_firstAbove_28 (by decide) ?_
        exact ih (i + 1) Z (by omega) (by rw [show fAb (σ 4) x (k + 1) i = fAb (σ 4) x k (i + 1) from if_pos c_20] at hZ; exact hZ)
      · skip
        refine j_iload_n dX4_firstAbove_23 (q := 24) rfl rfl ?_
        refine j_ireti dX4_firstAbove_24 rfl ?_
        rw [show fAb (σ 4) x (k + 1) i = nI i from if_neg c_20] at hZ
        exact hZ
theorem ct_X4_firstAbove {g : GT} {σ : S_} {t : Nat → Int32} {nf : Nat} {x : Int32} (hn : t 5 = nI nf) (h7 : nf ≤ 7) (hC : CW σ 8 t) : CT g 0 M_X4_firstAbove [.ref 3, .int x] σ (EQ (.int (fAb (σ 4) x nf 0)) σ) := by
  refine ct_of [.ref 3, .int x, .null] pn_X4_firstAbove rfl (Nat.le_of_ble_eq_true rfl) ?_
  refine j_iconst (v := 0) dX4_firstAbove_0 (q := 1) rfl (by decide) ?_
  refine j_istore_n_3_2 dX4_firstAbove_1 (q := 2) rfl rfl rfl ?_
  exact fa_loop hn h7 hC nf 0 _ (by omega) ⟨rfl, rfl⟩
theorem TH.fab {σ σ0 : S_} {t : Nat → Int32} {nf k : Nat} {x : Int32} (h : TH σ σ0 t nf k) : fAb (σ 4) x nf 0 = fAb (dry4 (hoursN t nf k)) x nf 0 := fAb_ext nf 0 (fun j _ hj => h.1 j (by omega))
theorem hu_loop {g : GT} {t : Nat → Int32} {nf : Nat} {σ0 : S_} (hB : BD t) (hn : t 5 = nI nf) (h7 : nf ≤ 7) (hC : CW σ0 8 t) {x : Int32} : ∀ (k i : Nat) (σ : S_), i + k = 73 → TH σ σ0 t nf i → J g 5 M_X4_hoursUntilAbove (fun r τ => r = .int (if srch (drierB t nf x) k i = 73 then -1 else nI (srch (drierB t nf x) k i)) ∧ TH τ σ0 t nf (srch (drierB t nf x) k i)) 6 [.ref 3, .int x, .int (nI i)] [] σ := by
  intro k
  induction k with
  | zero =>
    intro i σ hik hH
    refine j_iload_n dX4_hoursUntilAbove_6 (q := 7) rfl rfl ?_
    refine j_bipush (v := 72) dX4_hoursUntilAbove_7 (q := 9) rfl (by decide) ?_
    refine j_icmp_gtN (b := 72) (by omega) (by omega) dX4_hoursUntilAbove_9 (t := 41) (by decide) (q := 12) rfl (fun c_9 => ?_) (fun c_9 => ?_)
    · skip
      refine j_iconst (v := (-1)) dX4_hoursUntilAbove_41 (q := 42) rfl (by decide) ?_
      refine j_ireti dX4_hoursUntilAbove_42 rfl ?_
      obtain rfl : i = 73 := by omega
      exact ⟨congrArg Value.int (if_pos rfl).symm, hH⟩
    · skip
      omega
  | succ k ih =>
    intro i σ hik hH
    refine j_iload_n dX4_hoursUntilAbove_6 (q := 7) rfl rfl ?_
    refine j_bipush (v := 72) dX4_hoursUntilAbove_7 (q := 9) rfl (by decide) ?_
    refine j_icmp_gtN (b := 72) (by omega) (by omega) dX4_hoursUntilAbove_9 (t := 41) (by decide) (q := 12) rfl (fun c_9 => ?_) (fun c_9 => ?_)
    · skip
      omega
    · skip
      refine j_aload_n dX4_hoursUntilAbove_12 (q := 13) rfl rfl ?_
      refine j_iload_n dX4_hoursUntilAbove_13 (q := 14) rfl rfl ?_
      refine j_callVi1E (M' := M_X4_firstAbove) lk_X4_66 mv_X4_firstAbove ob_3 (by decide) (Nat.le_of_ble_eq_true rfl) dX4_hoursUntilAbove_14 (q := 17) rfl (ct_X4_firstAbove hn h7 (hH.cw hC)) ?_
      refine j_if_lt dX4_hoursUntilAbove_17 (t := 22) (by decide) (q := 20) rfl (fun c_17 => ?_) (fun c_17 => ?_)
      · skip
        have hb : srch (drierB t nf x) (k + 1) i = srch (drierB t nf x) k (i + 1) := if_neg (by unfold drierB; rw [hH.fab] at c_17; simp; exact (fAb_nn h7).mp c_17)
        rw [hb]
        refine j_aload_n dX4_hoursUntilAbove_22 (q := 23) rfl rfl ?_
        refine j_aload_n dX4_hoursUntilAbove_23 (q := 24) rfl rfl ?_
        refine j_getR (r := 8) fs_X4_24 rfl rfl rfl dX4_hoursUntilAbove_24 (q := 27) rfl ?_
        refine j_getIV fs_X4_31 rfl rfl ((hH.cw hC).at LM_hour) dX4_hoursUntilAbove_27 (q := 30) rfl ?_
        refine j_iload_n dX4_hoursUntilAbove_30 (q := 31) rfl rfl ?_
        refine j_iadd dX4_hoursUntilAbove_31 (q := 32) rfl ?_
        refine j_callVv1 (M' := M_X4_goAhead) lk_X4_37 mv_X4_goAhead ob_3 (by decide) (Nat.le_of_ble_eq_true rfl) dX4_hoursUntilAbove_32 (q := 35) rfl (ct_X4_goAhead hn h7 hB.t0 (hH.cw hC) (fun m hm => hoursN_kM h7 hm i) hH.1 (hoursN_0 h7 i).symm) ?_
        intro τ1 hz
        obtain ⟨-, g1, g2⟩ := hz
        have hH1 := hH.next hB h7 g1 g2
        refine j_iincN_3_2 dX4_hoursUntilAbove_35 (q := 38) rfl rfl rfl ?_
        refine j_goto (q := 6) dX4_hoursUntilAbove_38 (by decide) ?_
        exact ih (i + 1) τ1 (by omega) hH1
      · skip
        have hb : srch (drierB t nf x) (k + 1) i = i := if_pos (by unfold drierB; rw [hH.fab] at c_17; simp; intro q; rw [q] at c_17; exact absurd c_17 (by decide))
        rw [hb]
        refine j_iload_n dX4_hoursUntilAbove_20 (q := 21) rfl rfl ?_
        refine j_ireti dX4_hoursUntilAbove_21 rfl ?_
        exact ⟨congrArg Value.int (if_neg (by omega)).symm, hH⟩
theorem ct_X4_hoursUntilAbove {g : GT} {σ : S_} {t : Nat → Int32} {nf : Nat} (hB : BD t) (hn : t 5 = nI nf) (h7 : nf ≤ 7) (hC : CW σ 8 t) {x : Int32} : CT g 5 M_X4_hoursUntilAbove [.ref 3, .int x] σ (fun r τ => r = .int (if srch (drierB t nf x) 73 0 = 73 then -1 else nI (srch (drierB t nf x) 73 0)) ∧ TH τ σ t nf (srch (drierB t nf x) 73 0)) := by
  refine ct_of [.ref 3, .int x, .null] pn_X4_hoursUntilAbove rfl (Nat.le_of_ble_eq_true rfl) ?_
  refine j_aload_n dX4_hoursUntilAbove_0 (q := 1) rfl rfl ?_
  refine j_callVv0 (M' := M_X4_startAhead) lk_X4_28 mv_X4_startAhead ob_3 (by decide) (Nat.le_of_ble_eq_true rfl) dX4_hoursUntilAbove_1 (q := 4) rfl (ct_X4_startAhead hn h7 hC) ?_
  intro τ0 hz
  obtain ⟨-, g1, g2⟩ := hz
  have hH : TH τ0 σ t nf 0 := ⟨g1, fun x a _ => g2 x a⟩
  refine j_iconst (v := 0) dX4_hoursUntilAbove_4 (q := 5) rfl (by decide) ?_
  refine j_istore_n_3_2 dX4_hoursUntilAbove_5 (q := 6) rfl rfl rfl ?_
  exact hu_loop (σ0 := σ) hB hn h7 hC 73 0 τ0 rfl hH
theorem ct_X7_first_no {g : GT} {σ : S_} {x y : Int32} (h : ¬ ((0 ≤ x ∧ x ≤ 99) ∧ (0 ≤ y ∧ y ≤ 1))) : CT g 2 M_X7_first [.ref 0, .int x, .int y] σ (EQ (.int (-1000000001)) (rfz σ 1)) := by
  refine ct_of [.ref 0, .int x, .int y, .null] pn_X7_first rfl (Nat.le_of_ble_eq_true rfl) ?_
  refine j_iload_n dX7_first_0 (q := 1) rfl rfl ?_
  refine j_iconst (v := 0) dX7_first_1 (q := 2) rfl (by decide) ?_
  refine j_bipush (v := 99) dX7_first_2 (q := 4) rfl (by decide) ?_
  refine j_callSi3E (M' := M_X7_within) lk_X7_57 ms_X7_within (by decide) (Nat.le_of_ble_eq_true rfl) dX7_first_4 (q := 7) rfl (ct_X7_within) ?_
  refine j_ifeqB dX7_first_7 (t := 19) (by decide) (q := 10) rfl (fun c_7 => ?_) (fun c_7 => ?_)
  · skip
    refine j_iload_n dX7_first_10 (q := 11) rfl rfl ?_
    refine j_iconst (v := 0) dX7_first_11 (q := 12) rfl (by decide) ?_
    refine j_iconst (v := 1) dX7_first_12 (q := 13) rfl (by decide) ?_
    refine j_callSi3E (M' := M_X7_within) lk_X7_57 ms_X7_within (by decide) (Nat.le_of_ble_eq_true rfl) dX7_first_13 (q := 16) rfl (ct_X7_within) ?_
    refine j_ifneB dX7_first_16 (t := 25) (by decide) (q := 19) rfl (fun c_16 => ?_) (fun c_16 => ?_)
    · skip
      exact absurd ⟨c_7, c_16⟩ h
    · skip
      refine j_aload_n dX7_first_19 (q := 20) rfl rfl ?_
      refine j_iconst (v := 1) dX7_first_20 (q := 21) rfl (by decide) ?_
      refine j_callVi1E (M' := M_X7_refuse) lk_X7_61 mv_X7_refuse ob_0 (by decide) (Nat.le_of_ble_eq_true rfl) dX7_first_21 (q := 24) rfl (ct_ref1) ?_
      refine j_ireti dX7_first_24 rfl ?_
      exact ⟨rfl, rfl⟩
  · skip
    refine j_aload_n dX7_first_19 (q := 20) rfl rfl ?_
    refine j_iconst (v := 1) dX7_first_20 (q := 21) rfl (by decide) ?_
    refine j_callVi1E (M' := M_X7_refuse) lk_X7_61 mv_X7_refuse ob_0 (by decide) (Nat.le_of_ble_eq_true rfl) dX7_first_21 (q := 24) rfl (ct_ref1) ?_
    refine j_ireti dX7_first_24 rfl ?_
    exact ⟨rfl, rfl⟩
theorem ct_X8_first_no {g : GT} {σ : S_} {x y : Int32} (h : ¬ ((0 ≤ x ∧ x ≤ 99) ∧ (0 ≤ y ∧ y ≤ 1))) : CT g 2 M_X8_first [.ref 70, .int x, .int y] σ (EQ (.int (-1000000001)) (rfm σ 1)) := by
  refine ct_of [.ref 70, .int x, .int y, .null, .null] pn_X8_first rfl (Nat.le_of_ble_eq_true rfl) ?_
  refine j_iload_n dX8_first_0 (q := 1) rfl rfl ?_
  refine j_iconst (v := 0) dX8_first_1 (q := 2) rfl (by decide) ?_
  refine j_bipush (v := 99) dX8_first_2 (q := 4) rfl (by decide) ?_
  refine j_callSi3E (M' := M_X8_in) lk_X8_59 ms_X8_in (by decide) (Nat.le_of_ble_eq_true rfl) dX8_first_4 (q := 7) rfl (ct_X8_in) ?_
  refine j_ifeqB dX8_first_7 (t := 19) (by decide) (q := 10) rfl (fun c_7 => ?_) (fun c_7 => ?_)
  · skip
    refine j_iload_n dX8_first_10 (q := 11) rfl rfl ?_
    refine j_iconst (v := 0) dX8_first_11 (q := 12) rfl (by decide) ?_
    refine j_iconst (v := 1) dX8_first_12 (q := 13) rfl (by decide) ?_
    refine j_callSi3E (M' := M_X8_in) lk_X8_59 ms_X8_in (by decide) (Nat.le_of_ble_eq_true rfl) dX8_first_13 (q := 16) rfl (ct_X8_in) ?_
    refine j_ifneB dX8_first_16 (t := 25) (by decide) (q := 19) rfl (fun c_16 => ?_) (fun c_16 => ?_)
    · skip
      exact absurd ⟨c_7, c_16⟩ h
    · skip
      refine j_aload_n dX8_first_19 (q := 20) rfl rfl ?_
      refine j_iconst (v := 1) dX8_first_20 (q := 21) rfl (by decide) ?_
      refine j_callVi1E (M' := M_X8_error) lk_X8_63 mv_X8_error ob_70 (by decide) (Nat.le_of_ble_eq_true rfl) dX8_first_21 (q := 24) rfl (ct_err1) ?_
      refine j_ireti dX8_first_24 rfl ?_
      exact ⟨rfl, rfl⟩
  · skip
    refine j_aload_n dX8_first_19 (q := 20) rfl rfl ?_
    refine j_iconst (v := 1) dX8_first_20 (q := 21) rfl (by decide) ?_
    refine j_callVi1E (M' := M_X8_error) lk_X8_63 mv_X8_error ob_70 (by decide) (Nat.le_of_ble_eq_true rfl) dX8_first_21 (q := 24) rfl (ct_err1) ?_
    refine j_ireti dX8_first_24 rfl ?_
    exact ⟨rfl, rfl⟩
theorem ct_X7_first_none {g : GT} {σ : S_} {t : Nat → Int32} {nf : Nat} (hB : BD t) (hn : t 5 = nI nf) (h7 : nf ≤ 7) (hC : CW σ 8 t) {x : Int32} (hx : 0 ≤ x ∧ x ≤ 99) {y : Nat} (hy : y < 2) (hno : srch (drierB t nf x) 73 0 = 73) : CT g 6 M_X7_first [.ref 0, .int x, .int (nI y)] σ (fun r τ => r = .int (-1000000002) ∧ ∃ τ0, τ = rfz τ0 2 ∧ ∀ x, x ≠ 4 → x ≠ 26 → τ0 x = σ x) := by
  refine ct_of [.ref 0, .int x, .int (nI y), .null] pn_X7_first rfl (Nat.le_of_ble_eq_true rfl) ?_
  refine j_iload_n dX7_first_0 (q := 1) rfl rfl ?_
  refine j_iconst (v := 0) dX7_first_1 (q := 2) rfl (by decide) ?_
  refine j_bipush (v := 99) dX7_first_2 (q := 4) rfl (by decide) ?_
  refine j_callSi3E (M' := M_X7_within) lk_X7_57 ms_X7_within (by decide) (Nat.le_of_ble_eq_true rfl) dX7_first_4 (q := 7) rfl (ct_X7_within) ?_
  refine j_ifeqB dX7_first_7 (t := 19) (by decide) (q := 10) rfl (fun c_7 => ?_) (fun c_7 => ?_)
  · skip
    refine j_iload_n dX7_first_10 (q := 11) rfl rfl ?_
    refine j_iconst (v := 0) dX7_first_11 (q := 12) rfl (by decide) ?_
    refine j_iconst (v := 1) dX7_first_12 (q := 13) rfl (by decide) ?_
    refine j_callSi3E (M' := M_X7_within) lk_X7_57 ms_X7_within (by decide) (Nat.le_of_ble_eq_true rfl) dX7_first_13 (q := 16) rfl (ct_X7_within) ?_
    refine j_ifneB dX7_first_16 (t := 25) (by decide) (q := 19) rfl (fun c_16 => ?_) (fun c_16 => ?_)
    · skip
      refine j_aload_n dX7_first_25 (q := 26) rfl rfl ?_
      refine j_getR (r := 3) fs_X7_24 rfl rfl rfl dX7_first_26 (q := 29) rfl ?_
      refine j_iload_n dX7_first_29 (q := 30) rfl rfl ?_
      refine j_callVi1 (M' := M_X4_hoursUntilAbove) lk_X7_207 mv_X4_hoursUntilAbove ob_3 (by decide) (Nat.le_of_ble_eq_true rfl) dX7_first_30 (q := 33) rfl (ct_X4_hoursUntilAbove hB hn h7 hC) ?_
      intro x1 τ1 hz
      obtain ⟨h1, hH⟩ := hz
      cases h1
      refine j_istore_n_4_3 dX7_first_33 (q := 34) rfl rfl rfl ?_
      rw [if_pos hno]
      refine j_iload_n dX7_first_34 (q := 35) rfl rfl ?_
      refine j_if_ge dX7_first_35 (t := 44) (by decide) (q := 38) rfl (fun c_35 => ?_) (fun c_35 => ?_)
      · skip
        exact absurd c_35 (by decide)
      · skip
        refine j_aload_n dX7_first_38 (q := 39) rfl rfl ?_
        refine j_iconst (v := 2) dX7_first_39 (q := 40) rfl (by decide) ?_
        refine j_callVi1E (M' := M_X7_refuse) lk_X7_61 mv_X7_refuse ob_0 (by decide) (Nat.le_of_ble_eq_true rfl) dX7_first_40 (q := 43) rfl (ct_ref2) ?_
        refine j_ireti dX7_first_43 rfl ?_
        exact ⟨rfl, τ1, rfl, hH.2⟩
    · skip
      exact absurd (inK (b := 1) (by omega) (by decide)) c_16
  · skip
    exact absurd hx c_7
theorem ct_X7_first_ok {g : GT} {σ : S_} {t : Nat → Int32} {nf : Nat} (hB : BD t) (hn : t 5 = nI nf) (h7 : nf ≤ 7) (hC : CW σ 8 t) {x : Int32} (hx : 0 ≤ x ∧ x ≤ 99) {y : Nat} (hy : y < 2) (hno : srch (drierB t nf x) 73 0 < 73) : CT g 6 M_X7_first [.ref 0, .int x, .int (nI y)] σ (fun r τ => r = .int (if y = 0 then fAb (dry4 (hoursN t nf (srch (drierB t nf x) 73 0))) x nf 0 else nI (srch (drierB t nf x) 73 0)) ∧ ∀ x, x ≠ 4 → x ≠ 26 → τ x = σ x) := by
  refine ct_of [.ref 0, .int x, .int (nI y), .null] pn_X7_first rfl (Nat.le_of_ble_eq_true rfl) ?_
  refine j_iload_n dX7_first_0 (q := 1) rfl rfl ?_
  refine j_iconst (v := 0) dX7_first_1 (q := 2) rfl (by decide) ?_
  refine j_bipush (v := 99) dX7_first_2 (q := 4) rfl (by decide) ?_
  refine j_callSi3E (M' := M_X7_within) lk_X7_57 ms_X7_within (by decide) (Nat.le_of_ble_eq_true rfl) dX7_first_4 (q := 7) rfl (ct_X7_within) ?_
  refine j_ifeqB dX7_first_7 (t := 19) (by decide) (q := 10) rfl (fun c_7 => ?_) (fun c_7 => ?_)
  · skip
    refine j_iload_n dX7_first_10 (q := 11) rfl rfl ?_
    refine j_iconst (v := 0) dX7_first_11 (q := 12) rfl (by decide) ?_
    refine j_iconst (v := 1) dX7_first_12 (q := 13) rfl (by decide) ?_
    refine j_callSi3E (M' := M_X7_within) lk_X7_57 ms_X7_within (by decide) (Nat.le_of_ble_eq_true rfl) dX7_first_13 (q := 16) rfl (ct_X7_within) ?_
    refine j_ifneB dX7_first_16 (t := 25) (by decide) (q := 19) rfl (fun c_16 => ?_) (fun c_16 => ?_)
    · skip
      refine j_aload_n dX7_first_25 (q := 26) rfl rfl ?_
      refine j_getR (r := 3) fs_X7_24 rfl rfl rfl dX7_first_26 (q := 29) rfl ?_
      refine j_iload_n dX7_first_29 (q := 30) rfl rfl ?_
      refine j_callVi1 (M' := M_X4_hoursUntilAbove) lk_X7_207 mv_X4_hoursUntilAbove ob_3 (by decide) (Nat.le_of_ble_eq_true rfl) dX7_first_30 (q := 33) rfl (ct_X4_hoursUntilAbove hB hn h7 hC) ?_
      intro x1 τ1 hz
      obtain ⟨h1, hH⟩ := hz
      cases h1
      refine j_istore_n_4_3 dX7_first_33 (q := 34) rfl rfl rfl ?_
      have hne : ¬ srch (drierB t nf x) 73 0 = 73 := by omega
      rw [if_neg hne]
      refine j_iload_n dX7_first_34 (q := 35) rfl rfl ?_
      refine j_if_ge dX7_first_35 (t := 44) (by decide) (q := 38) rfl (fun c_35 => ?_) (fun c_35 => ?_)
      · skip
        skip
        refine j_iload_n dX7_first_44 (q := 45) rfl rfl ?_
        refine j_if_neN (by omega) dX7_first_45 (t := 59) (by decide) (q := 48) rfl (fun c_45 => ?_) (fun c_45 => ?_)
        · skip
          refine j_iload_n dX7_first_59 (q := 60) rfl rfl ?_
          refine j_ireti dX7_first_60 rfl ?_
          exact ⟨congrArg Value.int (by rw [if_neg c_45]), hH.2⟩
        · skip
          refine j_aload_n dX7_first_48 (q := 49) rfl rfl ?_
          refine j_getR (r := 3) fs_X7_24 rfl rfl rfl dX7_first_49 (q := 52) rfl ?_
          refine j_iload_n dX7_first_52 (q := 53) rfl rfl ?_
          refine j_callVi1E (M' := M_X4_firstAbove) lk_X7_210 mv_X4_firstAbove ob_3 (by decide) (Nat.le_of_ble_eq_true rfl) dX7_first_53 (q := 56) rfl (ct_X4_firstAbove hn h7 (hH.cw hC)) ?_
          refine j_goto (q := 60) dX7_first_56 (by decide) ?_
          refine j_ireti dX7_first_60 rfl ?_
          exact ⟨congrArg Value.int (by rw [if_pos c_45, hH.fab]), hH.2⟩
      · skip
        exact absurd (nI_le (a := 0) (b := srch (drierB t nf x) 73 0) (Nat.zero_le _) (by omega)) c_35
    · skip
      exact absurd (inK (b := 1) (by omega) (by decide)) c_16
  · skip
    exact absurd hx c_7
theorem dr_loop {g : GT} {σ : S_} {nf : Nat} {x : Int32} (h7 : nf ≤ 7) : ∀ (j : Nat) (who : Int32) (Z : Value → S_ → Prop), j ≤ nf → who = fAb (dry4 (σ 71)) x (nf - j) j → Z (.int (fAb (dry4 (σ 71)) x nf 0)) σ → J g 1 M_X8_drier Z 11 [.ref 70, .int x, .int who, .int (nI j - 1)] [] σ := by
  intro j
  induction j with
  | zero =>
    intro who Z hj hw hZ
    refine j_iload_n dX8_drier_11 (q := 12) rfl rfl ?_
    refine j_if_lt dX8_drier_12 (t := 37) (by decide) (q := 15) rfl (fun c_12 => ?_) (fun c_12 => ?_)
    · skip
      refine j_iload_n dX8_drier_37 (q := 38) rfl rfl ?_
      refine j_ireti dX8_drier_38 rfl ?_
      rw [hw]
      exact hZ
    · skip
      exact absurd (show nI 0 - 1 < 0 by decide) c_12
  | succ j ih =>
    intro who Z hj hw hZ
    have hstep : fAb (dry4 (σ 71)) x (nf - j) j = if dry4 (σ 71) j ≤ x then who else nI j := by
      rw [show nf - j = (nf - (j + 1)) + 1 by omega, hw]
      rfl
    rw [nI_pred]
    refine j_iload_n dX8_drier_11 (q := 12) rfl rfl ?_
    refine j_if_ltN (by omega) dX8_drier_12 (t := 37) (by decide) (q := 15) rfl (fun c_12 => ?_) (fun c_12 => ?_)
    · skip
      omega
    · skip
      refine j_aload_n dX8_drier_15 (q := 16) rfl rfl ?_
      refine j_iload_n dX8_drier_16 (q := 17) rfl rfl ?_
      refine j_iconst (v := 4) dX8_drier_17 (q := 18) rfl (by decide) ?_
      refine j_callVi2E (M' := M_X8_its) lk_X8_123 mv_X8_its ob_70 (by decide) (Nat.le_of_ble_eq_true rfl) dX8_drier_18 (q := 21) rfl (ct_X8_its (k := 4) (by omega) (by decide)) ?_
      refine j_iload_n dX8_drier_21 (q := 22) rfl rfl ?_
      refine j_icmp_le dX8_drier_22 (t := 29) (by decide) (q := 25) rfl (fun c_22 => ?_) (fun c_22 => ?_)
      · skip
        refine j_iload_n dX8_drier_29 (q := 30) rfl rfl ?_
        refine j_istore_n_4_2 dX8_drier_30 (q := 31) rfl rfl rfl ?_
        refine j_iinc_4_3 dX8_drier_31 (q := 34) rfl rfl rfl ?_
        rw [show nI j + Int32.ofInt (-1) = nI j - 1 from (Int32.sub_eq_add_neg (nI j) 1).symm]
        refine j_goto (q := 11) dX8_drier_34 (by decide) ?_
        exact ih _ Z (by omega) (by rw [hstep]; exact (if_pos c_22).symm) hZ
      · skip
        refine j_iload_n dX8_drier_25 (q := 26) rfl rfl ?_
        refine j_goto (q := 30) dX8_drier_26 (by decide) ?_
        refine j_istore_n_4_2 dX8_drier_30 (q := 31) rfl rfl rfl ?_
        refine j_iinc_4_3 dX8_drier_31 (q := 34) rfl rfl rfl ?_
        rw [show nI j + Int32.ofInt (-1) = nI j - 1 from (Int32.sub_eq_add_neg (nI j) 1).symm]
        refine j_goto (q := 11) dX8_drier_34 (by decide) ?_
        exact ih _ Z (by omega) (by rw [hstep]; exact (if_neg c_22).symm) hZ
theorem ct_X8_drier {g : GT} {σ : S_} {nf : Nat} {x : Int32} (hn : σ 71 5 = nI nf) (h7 : nf ≤ 7) : CT g 1 M_X8_drier [.ref 70, .int x] σ (EQ (.int (fAb (dry4 (σ 71)) x nf 0)) σ) := by
  refine ct_of [.ref 70, .int x, .null, .null] pn_X8_drier rfl (Nat.le_of_ble_eq_true rfl) ?_
  refine j_iconst (v := (-1)) dX8_drier_0 (q := 1) rfl (by decide) ?_
  refine j_istore_n_4_2 dX8_drier_1 (q := 2) rfl rfl rfl ?_
  refine j_aload_n dX8_drier_2 (q := 3) rfl rfl ?_
  refine j_getR (r := 71) fs_X8_7 rfl rfl rfl dX8_drier_3 (q := 6) rfl ?_
  refine j_iconst (v := 5) dX8_drier_6 (q := 7) rfl (by decide) ?_
  refine j_ialdV (k := 5) rfl (by decide) hn dX8_drier_7 (q := 8) rfl ?_
  refine j_iconst (v := 1) dX8_drier_8 (q := 9) rfl (by decide) ?_
  refine j_isub dX8_drier_9 (q := 10) rfl ?_
  refine j_istore_n_4_3 dX8_drier_10 (q := 11) rfl rfl rfl ?_
  exact dr_loop h7 nf _ _ (Nat.le_refl _) (by rw [Nat.sub_self]; rfl) ⟨rfl, rfl⟩
theorem fm_loop {g : GT} {t : Nat → Int32} {nf : Nat} {σ0 : S_} (hB : BD t) (hn : t 5 = nI nf) (h7 : nf ≤ 7) (hs : σ0 71 = t) {x : Int32} {y : Nat} (hy : y < 2) : ∀ (k i : Nat) (σ : S_), i + k = 73 → TM σ σ0 t nf i → J g 5 M_X8_first (fun r τ => (srch (drierB t nf x) k i = 73 ∧ r = .int (-1000000002) ∧ ∃ τ0, τ = rfm τ0 2 ∧ ∀ x, x ≠ 73 → x ≠ 76 → x ≠ 77 → τ0 x = σ0 x) ∨ (srch (drierB t nf x) k i < 73 ∧ r = .int (if y = 0 then fAb (dry4 (hoursN t nf (srch (drierB t nf x) k i))) x nf 0 else nI (srch (drierB t nf x) k i)) ∧ ∀ x, x ≠ 73 → x ≠ 76 → x ≠ 77 → τ x = σ0 x)) 31 [.ref 70, .int x, .int (nI y), .int (nI i), .null] [] σ := by
  intro k
  induction k with
  | zero =>
    intro i σ hik hM
    refine j_iload_n dX8_first_31 (q := 32) rfl rfl ?_
    refine j_bipush (v := 72) dX8_first_32 (q := 34) rfl (by decide) ?_
    refine j_icmp_gtN (b := 72) (by omega) (by omega) dX8_first_34 (t := 56) (by decide) (q := 37) rfl (fun c_34 => ?_) (fun c_34 => ?_)
    · skip
      have hb : srch (drierB t nf x) 0 i = i := rfl
      refine j_aload_n dX8_first_56 (q := 57) rfl rfl ?_
      refine j_iload_n dX8_first_57 (q := 58) rfl rfl ?_
      refine j_callVi1E (M' := M_X8_drier) lk_X8_202 mv_X8_drier ob_70 (by decide) (Nat.le_of_ble_eq_true rfl) dX8_first_58 (q := 61) rfl (ct_X8_drier (hM.n5 h7 hn) h7) ?_
      refine j_istore_5_4 dX8_first_61 (q := 63) rfl rfl rfl ?_
      refine j_aload_n dX8_first_63 (q := 64) rfl rfl ?_
      refine j_callVv0 (M' := M_X8_layBack) lk_X8_199 mv_X8_layBack ob_70 (by decide) (Nat.le_of_ble_eq_true rfl) dX8_first_64 (q := 67) rfl (ct_X8_layBack) ?_
      intro τ2 hz
      obtain ⟨-, b1, b2, b3⟩ := hz
      refine j_iload_n dX8_first_67 (q := 68) rfl rfl ?_
      refine j_bipush (v := 72) dX8_first_68 (q := 70) rfl (by decide) ?_
      refine j_icmp_leN (b := 72) (by omega) (by omega) dX8_first_70 (t := 81) (by decide) (q := 73) rfl (fun c_70 => ?_) (fun c_70 => ?_)
      · skip
        omega
      · skip
        refine j_aload_n dX8_first_73 (q := 74) rfl rfl ?_
        refine j_iconst (v := 2) dX8_first_74 (q := 75) rfl (by decide) ?_
        refine j_callVi1E (M' := M_X8_error) lk_X8_63 mv_X8_error ob_70 (by decide) (Nat.le_of_ble_eq_true rfl) dX8_first_75 (q := 78) rfl (ct_err2) ?_
        refine j_goto (q := 91) dX8_first_78 (by decide) ?_
        refine j_ireti dX8_first_91 rfl ?_
        exact Or.inl ⟨by rw [hb]; omega, rfl, _, rfl, hM.back h7 hs b1 b2 b3⟩
    · skip
      omega
  | succ k ih =>
    intro i σ hik hM
    refine j_iload_n dX8_first_31 (q := 32) rfl rfl ?_
    refine j_bipush (v := 72) dX8_first_32 (q := 34) rfl (by decide) ?_
    refine j_icmp_gtN (b := 72) (by omega) (by omega) dX8_first_34 (t := 56) (by decide) (q := 37) rfl (fun c_34 => ?_) (fun c_34 => ?_)
    · skip
      omega
    · skip
      refine j_aload_n dX8_first_37 (q := 38) rfl rfl ?_
      refine j_iload_n dX8_first_38 (q := 39) rfl rfl ?_
      refine j_callVi1E (M' := M_X8_drier) lk_X8_202 mv_X8_drier ob_70 (by decide) (Nat.le_of_ble_eq_true rfl) dX8_first_39 (q := 42) rfl (ct_X8_drier (hM.n5 h7 hn) h7) ?_
      refine j_iconst (v := (-1)) dX8_first_42 (q := 43) rfl (by decide) ?_
      refine j_icmp_ne dX8_first_43 (t := 56) (by decide) (q := 46) rfl (fun c_43 => ?_) (fun c_43 => ?_)
      · skip
        have hb : srch (drierB t nf x) (k + 1) i = i := if_pos (by unfold drierB; rw [← hM.1]; simp; exact c_43)
        refine j_aload_n dX8_first_56 (q := 57) rfl rfl ?_
        refine j_iload_n dX8_first_57 (q := 58) rfl rfl ?_
        refine j_callVi1E (M' := M_X8_drier) lk_X8_202 mv_X8_drier ob_70 (by decide) (Nat.le_of_ble_eq_true rfl) dX8_first_58 (q := 61) rfl (ct_X8_drier (hM.n5 h7 hn) h7) ?_
        refine j_istore_5_4 dX8_first_61 (q := 63) rfl rfl rfl ?_
        refine j_aload_n dX8_first_63 (q := 64) rfl rfl ?_
        refine j_callVv0 (M' := M_X8_layBack) lk_X8_199 mv_X8_layBack ob_70 (by decide) (Nat.le_of_ble_eq_true rfl) dX8_first_64 (q := 67) rfl (ct_X8_layBack) ?_
        intro τ2 hz
        obtain ⟨-, b1, b2, b3⟩ := hz
        refine j_iload_n dX8_first_67 (q := 68) rfl rfl ?_
        refine j_bipush (v := 72) dX8_first_68 (q := 70) rfl (by decide) ?_
        refine j_icmp_leN (b := 72) (by omega) (by omega) dX8_first_70 (t := 81) (by decide) (q := 73) rfl (fun c_70 => ?_) (fun c_70 => ?_)
        · skip
          refine j_iload_n dX8_first_81 (q := 82) rfl rfl ?_
          refine j_if_neN (by omega) dX8_first_82 (t := 90) (by decide) (q := 85) rfl (fun c_82 => ?_) (fun c_82 => ?_)
          · skip
            refine j_iload_n dX8_first_90 (q := 91) rfl rfl ?_
            refine j_ireti dX8_first_91 rfl ?_
            exact Or.inr ⟨by rw [hb]; omega, congrArg Value.int (by rw [if_neg c_82, hb]), hM.back h7 hs b1 b2 b3⟩
          · skip
            refine j_iload dX8_first_85 (q := 87) rfl rfl ?_
            refine j_goto (q := 91) dX8_first_87 (by decide) ?_
            refine j_ireti dX8_first_91 rfl ?_
            exact Or.inr ⟨by rw [hb]; omega, congrArg Value.int (by rw [if_pos c_82, hb, hM.1]), hM.back h7 hs b1 b2 b3⟩
        · skip
          omega
      · skip
        rw [show srch (drierB t nf x) (k + 1) i = srch (drierB t nf x) k (i + 1) from if_neg (by unfold drierB; rw [← hM.1, c_43]; decide)]
        refine j_aload_n dX8_first_46 (q := 47) rfl rfl ?_
        refine j_callVv0 (M' := M_X8_anHour) lk_X8_187 mv_X8_anHour ob_70 (by decide) (Nat.le_of_ble_eq_true rfl) dX8_first_47 (q := 50) rfl (ct_X8_anHour (by rw [hM.1]; exact BD_hoursN hB h7 i) (hM.n5 h7 hn) h7) ?_
        intro τ1 hz
        obtain ⟨-, g1, g2⟩ := hz
        have hM1 := hM.next g1 g2
        refine j_iincN_5_3 dX8_first_50 (q := 53) rfl rfl rfl ?_
        refine j_goto (q := 31) dX8_first_53 (by decide) ?_
        exact ih (i + 1) τ1 (by omega) hM1
theorem ct_X8_first_ok {g : GT} {σ : S_} {t : Nat → Int32} {nf : Nat} (hB : BD t) (hn : t 5 = nI nf) (h7 : nf ≤ 7) (hs : σ 71 = t) {x : Int32} (hx : 0 ≤ x ∧ x ≤ 99) {y : Nat} (hy : y < 2) : CT g 5 M_X8_first [.ref 70, .int x, .int (nI y)] σ ((fun r τ => (srch (drierB t nf x) 73 0 = 73 ∧ r = .int (-1000000002) ∧ ∃ τ0, τ = rfm τ0 2 ∧ ∀ x, x ≠ 73 → x ≠ 76 → x ≠ 77 → τ0 x = σ x) ∨ (srch (drierB t nf x) 73 0 < 73 ∧ r = .int (if y = 0 then fAb (dry4 (hoursN t nf (srch (drierB t nf x) 73 0))) x nf 0 else nI (srch (drierB t nf x) 73 0)) ∧ ∀ x, x ≠ 73 → x ≠ 76 → x ≠ 77 → τ x = σ x))) := by
  refine ct_of [.ref 70, .int x, .int (nI y), .null, .null] pn_X8_first rfl (Nat.le_of_ble_eq_true rfl) ?_
  refine j_iload_n dX8_first_0 (q := 1) rfl rfl ?_
  refine j_iconst (v := 0) dX8_first_1 (q := 2) rfl (by decide) ?_
  refine j_bipush (v := 99) dX8_first_2 (q := 4) rfl (by decide) ?_
  refine j_callSi3E (M' := M_X8_in) lk_X8_59 ms_X8_in (by decide) (Nat.le_of_ble_eq_true rfl) dX8_first_4 (q := 7) rfl (ct_X8_in) ?_
  refine j_ifeqB dX8_first_7 (t := 19) (by decide) (q := 10) rfl (fun c_7 => ?_) (fun c_7 => ?_)
  · skip
    refine j_iload_n dX8_first_10 (q := 11) rfl rfl ?_
    refine j_iconst (v := 0) dX8_first_11 (q := 12) rfl (by decide) ?_
    refine j_iconst (v := 1) dX8_first_12 (q := 13) rfl (by decide) ?_
    refine j_callSi3E (M' := M_X8_in) lk_X8_59 ms_X8_in (by decide) (Nat.le_of_ble_eq_true rfl) dX8_first_13 (q := 16) rfl (ct_X8_in) ?_
    refine j_ifneB dX8_first_16 (t := 25) (by decide) (q := 19) rfl (fun c_16 => ?_) (fun c_16 => ?_)
    · skip
      refine j_aload_n dX8_first_25 (q := 26) rfl rfl ?_
      refine j_callVv0 (M' := M_X8_layDown) lk_X8_196 mv_X8_layDown ob_70 (by decide) (Nat.le_of_ble_eq_true rfl) dX8_first_26 (q := 29) rfl (ct_X8_layDown) ?_
      intro τ0 hz
      obtain ⟨-, g1, g2, g3⟩ := hz
      have hM : TM τ0 σ t nf 0 := ⟨by rw [g3 71 (by decide)]; exact hs, fun j hj => by rw [g1 j hj, hs], fun x a b _ _ => g3 x b⟩
      refine j_iconst (v := 0) dX8_first_29 (q := 30) rfl (by decide) ?_
      refine j_istore_n_5_3 dX8_first_30 (q := 31) rfl rfl rfl ?_
      exact fm_loop (σ0 := σ) hB hn h7 hs hy 73 0 τ0 rfl hM
    · skip
      exact absurd (inK (b := 1) (by omega) (by decide)) c_16
  · skip
    exact absurd hx c_7
