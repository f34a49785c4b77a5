theorem cf_loop8 {g : GT} {Z : Value → S_ → Prop} {σ0 : S_} (hZ : ∀ τ : S_, (∀ n, n < 7 → ∀ m, m < 6 → τ (16 + n) m = σ0 (39 + n) m) → (∀ x, ¬ (16 ≤ x ∧ x < 16 + 7) → τ x = σ0 x) → J g 3 M_X6_copyFrom Z 32 [.ref 8, .ref 31, .int (nI 7)] [] τ) : ∀ (k i : Nat) (σ : S_), i + k = 7 → (∀ n, n < i → ∀ m, m < 6 → σ (16 + n) m = σ0 (39 + n) m) → (∀ x, ¬ (16 ≤ x ∧ x < 16 + i) → σ x = σ0 x) → J g 3 M_X6_copyFrom Z 2 [.ref 8, .ref 31, .int (nI i)] [] σ := by
  intro k
  induction k with
  | zero =>
    intro i σ hik hw hO
    refine j_iload_n dX6_copyFrom_2 (q := 3) rfl rfl ?_
    refine j_aload_n dX6_copyFrom_3 (q := 4) rfl rfl ?_
    refine j_getR (r := 9) fs_X6_11 rfl rfl rfl dX6_copyFrom_4 (q := 7) rfl ?_
    refine j_alen (n := 7) (.inr (.inr rfl)) dX6_copyFrom_7 (q := 8) rfl ?_
    refine j_icmp_geN (by omega) (by omega) dX6_copyFrom_8 (t := 32) (by decide) (q := 11) rfl (fun c_8 => ?_) (fun c_8 => ?_)
    · skip
      obtain rfl : i = 7 := by omega
      exact hZ σ hw hO
    · skip
      omega
  | succ k ih =>
    intro i σ hik hw hO
    refine j_iload_n dX6_copyFrom_2 (q := 3) rfl rfl ?_
    refine j_aload_n dX6_copyFrom_3 (q := 4) rfl rfl ?_
    refine j_getR (r := 9) fs_X6_11 rfl rfl rfl dX6_copyFrom_4 (q := 7) rfl ?_
    refine j_alen (n := 7) (.inr (.inr rfl)) dX6_copyFrom_7 (q := 8) rfl ?_
    refine j_icmp_geN (by omega) (by omega) dX6_copyFrom_8 (t := 32) (by decide) (q := 11) rfl (fun c_8 => ?_) (fun c_8 => ?_)
    · skip
      omega
    · skip
      refine j_aload_n dX6_copyFrom_11 (q := 12) rfl rfl ?_
      refine j_getR (r := 9) fs_X6_11 rfl rfl rfl dX6_copyFrom_12 (q := 15) rfl ?_
      refine j_iload_n dX6_copyFrom_15 (q := 16) rfl rfl ?_
      refine j_aaldN rfl (by omega) (rf_farm (by omega)) dX6_copyFrom_16 (q := 17) rfl ?_
      refine j_aload_n dX6_copyFrom_17 (q := 18) rfl rfl ?_
      refine j_getR (r := 32) fs_X6_11 rfl rfl rfl dX6_copyFrom_18 (q := 21) rfl ?_
      refine j_iload_n dX6_copyFrom_21 (q := 22) rfl rfl ?_
      refine j_aaldN rfl (by omega) (rf_farmK (by omega)) dX6_copyFrom_22 (q := 23) rfl ?_
      refine j_callVv1E (M' := M_X0_copyFrom) lk_X6_46 mv_X0_copyFrom (ob_of (tC_farm (by omega)) rfl) (by decide) (Nat.le_of_ble_eq_true rfl) dX6_copyFrom_23 (q := 26) rfl (ct_X0_copyFrom (tC_farm (by omega)) (tC_farmK (by omega)) (by omega)) ?_
      refine j_iincN_3_2 dX6_copyFrom_26 (q := 29) rfl rfl rfl ?_
      refine j_goto (q := 2) dX6_copyFrom_29 (by decide) ?_
      refine ih (i + 1) (fmcp σ (16 + i) (39 + i)) (by omega) (fun n hn m hm => ?_) (fun x hx => (fmcp_row (by omega)).trans (hO x (by omega)))
      by_cases e : n = i
      · subst e; exact (fmcp_at hm).trans (congrFun (hO _ (by omega)) m)
      · exact (congrFun (fmcp_row (by omega)) m).trans (hw n (by omega) m hm)
theorem cf_loop31 {g : GT} {Z : Value → S_ → Prop} {σ0 : S_} (hZ : ∀ τ : S_, (∀ n, n < 7 → ∀ m, m < 6 → τ (39 + n) m = σ0 (16 + n) m) → (∀ x, ¬ (39 ≤ x ∧ x < 39 + 7) → τ x = σ0 x) → J g 3 M_X6_copyFrom Z 32 [.ref 31, .ref 8, .int (nI 7)] [] τ) : ∀ (k i : Nat) (σ : S_), i + k = 7 → (∀ n, n < i → ∀ m, m < 6 → σ (39 + n) m = σ0 (16 + n) m) → (∀ x, ¬ (39 ≤ x ∧ x < 39 + i) → σ x = σ0 x) → J g 3 M_X6_copyFrom Z 2 [.ref 31, .ref 8, .int (nI i)] [] σ := by
  intro k
  induction k with
  | zero =>
    intro i σ hik hw hO
    refine j_iload_n dX6_copyFrom_2 (q := 3) rfl rfl ?_
    refine j_aload_n dX6_copyFrom_3 (q := 4) rfl rfl ?_
    refine j_getR (r := 32) fs_X6_11 rfl rfl rfl dX6_copyFrom_4 (q := 7) rfl ?_
    refine j_alen (n := 7) (.inr (.inr rfl)) dX6_copyFrom_7 (q := 8) rfl ?_
    refine j_icmp_geN (by omega) (by omega) dX6_copyFrom_8 (t := 32) (by decide) (q := 11) rfl (fun c_8 => ?_) (fun c_8 => ?_)
    · skip
      obtain rfl : i = 7 := by omega
      exact hZ σ hw hO
    · skip
      omega
  | succ k ih =>
    intro i σ hik hw hO
    refine j_iload_n dX6_copyFrom_2 (q := 3) rfl rfl ?_
    refine j_aload_n dX6_copyFrom_3 (q := 4) rfl rfl ?_
    refine j_getR (r := 32) fs_X6_11 rfl rfl rfl dX6_copyFrom_4 (q := 7) rfl ?_
    refine j_alen (n := 7) (.inr (.inr rfl)) dX6_copyFrom_7 (q := 8) rfl ?_
    refine j_icmp_geN (by omega) (by omega) dX6_copyFrom_8 (t := 32) (by decide) (q := 11) rfl (fun c_8 => ?_) (fun c_8 => ?_)
    · skip
      omega
    · skip
      refine j_aload_n dX6_copyFrom_11 (q := 12) rfl rfl ?_
      refine j_getR (r := 32) fs_X6_11 rfl rfl rfl dX6_copyFrom_12 (q := 15) rfl ?_
      refine j_iload_n dX6_copyFrom_15 (q := 16) rfl rfl ?_
      refine j_aaldN rfl (by omega) (rf_farmK (by omega)) dX6_copyFrom_16 (q := 17) rfl ?_
      refine j_aload_n dX6_copyFrom_17 (q := 18) rfl rfl ?_
      refine j_getR (r := 9) fs_X6_11 rfl rfl rfl dX6_copyFrom_18 (q := 21) rfl ?_
      refine j_iload_n dX6_copyFrom_21 (q := 22) rfl rfl ?_
      refine j_aaldN rfl (by omega) (rf_farm (by omega)) dX6_copyFrom_22 (q := 23) rfl ?_
      refine j_callVv1E (M' := M_X0_copyFrom) lk_X6_46 mv_X0_copyFrom (ob_of (tC_farmK (by omega)) rfl) (by decide) (Nat.le_of_ble_eq_true rfl) dX6_copyFrom_23 (q := 26) rfl (ct_X0_copyFrom (tC_farmK (by omega)) (tC_farm (by omega)) (by omega)) ?_
      refine j_iincN_3_2 dX6_copyFrom_26 (q := 29) rfl rfl rfl ?_
      refine j_goto (q := 2) dX6_copyFrom_29 (by decide) ?_
      refine ih (i + 1) (fmcp σ (39 + i) (16 + i)) (by omega) (fun n hn m hm => ?_) (fun x hx => (fmcp_row (by omega)).trans (hO x (by omega)))
      by_cases e : n = i
      · subst e; exact (fmcp_at hm).trans (congrFun (hO _ (by omega)) m)
      · exact (congrFun (fmcp_row (by omega)) m).trans (hw n (by omega) m hm)
