/-- row b is as row a was, all else as before -/
def rowC (a b : Nat) (σ τ : S_) : Prop := (∀ k, k < 394 → τ b k = σ a k) ∧ ∀ x, x ≠ b → τ x = σ x
theorem ca_loop71 {g : GT} {σ0 : S_} : ∀ (k i : Nat) (σ : S_), i + k = 394 → (∀ j, j < i → σ 72 j = σ0 71 j) → (∀ x, x ≠ 72 → σ x = σ0 x) → J g 1 M_X8_copyAll (fun r τ => r = .null ∧ rowC 71 72 σ0 τ) 2 [.ref 71, .ref 72, .int (nI i)] [] σ := by
  intro k
  induction k with
  | zero =>
    intro i σ hik hw hO
    refine j_iload_n dX8_copyAll_2 (q := 3) rfl rfl ?_
    refine j_sipush (v := 394) dX8_copyAll_3 (q := 6) rfl (by decide) ?_
    refine j_icmp_geN (b := 394) (by omega) (by omega) dX8_copyAll_6 (t := 21) (by decide) (q := 9) rfl (fun c_6 => ?_) (fun c_6 => ?_)
    · skip
      refine j_vret dX8_copyAll_21 rfl ?_
      exact ⟨rfl, fun j hj => hw j (by omega), hO⟩
    · skip
      omega
  | succ k ih =>
    intro i σ hik hw hO
    refine j_iload_n dX8_copyAll_2 (q := 3) rfl rfl ?_
    refine j_sipush (v := 394) dX8_copyAll_3 (q := 6) rfl (by decide) ?_
    refine j_icmp_geN (b := 394) (by omega) (by omega) dX8_copyAll_6 (t := 21) (by decide) (q := 9) rfl (fun c_6 => ?_) (fun c_6 => ?_)
    · skip
      omega
    · skip
      refine j_aload_n dX8_copyAll_9 (q := 10) rfl rfl ?_
      refine j_iload_n dX8_copyAll_10 (q := 11) rfl rfl ?_
      refine j_aload_n dX8_copyAll_11 (q := 12) rfl rfl ?_
      refine j_iload_n dX8_copyAll_12 (q := 13) rfl rfl ?_
      refine j_ialdV rfl (by omega) (congrFun (hO 71 (by decide)) i) dX8_copyAll_13 (q := 14) rfl ?_
      refine j_iastN rfl (by omega) dX8_copyAll_14 (q := 15) rfl ?_
      refine j_iincN_3_2 dX8_copyAll_15 (q := 18) rfl rfl rfl ?_
      refine j_goto (q := 2) dX8_copyAll_18 (by decide) ?_
      refine ih (i + 1) _ (by omega) (fun j hj => ?_) (fun x hx => (up_row hx).trans (hO x hx))
      by_cases e : j = i
      · subst e; exact up_at
      · exact (up_nk e).trans (hw j (by omega))
theorem ct_X8_copyAll_71 {g : GT} {σ : S_}  : CT g 1 M_X8_copyAll [.ref 71, .ref 72] σ (fun r τ => r = .null ∧ rowC 71 72 σ τ) := by
  refine ct_of [.ref 71, .ref 72, .null] pn_X8_copyAll rfl (Nat.le_of_ble_eq_true rfl) ?_
  refine j_iconst (v := 0) dX8_copyAll_0 (q := 1) rfl (by decide) ?_
  refine j_istore_n_3_2 dX8_copyAll_1 (q := 2) rfl rfl rfl ?_
  exact ca_loop71 (σ0 := σ) 394 0 σ (by decide) (fun j hj => absurd hj (by omega)) (fun _ _ => rfl)
theorem ca_loop72 {g : GT} {σ0 : S_} : ∀ (k i : Nat) (σ : S_), i + k = 394 → (∀ j, j < i → σ 71 j = σ0 72 j) → (∀ x, x ≠ 71 → σ x = σ0 x) → J g 1 M_X8_copyAll (fun r τ => r = .null ∧ rowC 72 71 σ0 τ) 2 [.ref 72, .ref 71, .int (nI i)] [] σ := by
  intro k
  induction k with
  | zero =>
    intro i σ hik hw hO
    refine j_iload_n dX8_copyAll_2 (q := 3) rfl rfl ?_
    refine j_sipush (v := 394) dX8_copyAll_3 (q := 6) rfl (by decide) ?_
    refine j_icmp_geN (b := 394) (by omega) (by omega) dX8_copyAll_6 (t := 21) (by decide) (q := 9) rfl (fun c_6 => ?_) (fun c_6 => ?_)
    · skip
      refine j_vret dX8_copyAll_21 rfl ?_
      exact ⟨rfl, fun j hj => hw j (by omega), hO⟩
    · skip
      omega
  | succ k ih =>
    intro i σ hik hw hO
    refine j_iload_n dX8_copyAll_2 (q := 3) rfl rfl ?_
    refine j_sipush (v := 394) dX8_copyAll_3 (q := 6) rfl (by decide) ?_
    refine j_icmp_geN (b := 394) (by omega) (by omega) dX8_copyAll_6 (t := 21) (by decide) (q := 9) rfl (fun c_6 => ?_) (fun c_6 => ?_)
    · skip
      omega
    · skip
      refine j_aload_n dX8_copyAll_9 (q := 10) rfl rfl ?_
      refine j_iload_n dX8_copyAll_10 (q := 11) rfl rfl ?_
      refine j_aload_n dX8_copyAll_11 (q := 12) rfl rfl ?_
      refine j_iload_n dX8_copyAll_12 (q := 13) rfl rfl ?_
      refine j_ialdV rfl (by omega) (congrFun (hO 72 (by decide)) i) dX8_copyAll_13 (q := 14) rfl ?_
      refine j_iastN rfl (by omega) dX8_copyAll_14 (q := 15) rfl ?_
      refine j_iincN_3_2 dX8_copyAll_15 (q := 18) rfl rfl rfl ?_
      refine j_goto (q := 2) dX8_copyAll_18 (by decide) ?_
      refine ih (i + 1) _ (by omega) (fun j hj => ?_) (fun x hx => (up_row hx).trans (hO x hx))
      by_cases e : j = i
      · subst e; exact up_at
      · exact (up_nk e).trans (hw j (by omega))
theorem ct_X8_copyAll_72 {g : GT} {σ : S_}  : CT g 1 M_X8_copyAll [.ref 72, .ref 71] σ (fun r τ => r = .null ∧ rowC 72 71 σ τ) := by
  refine ct_of [.ref 72, .ref 71, .null] pn_X8_copyAll rfl (Nat.le_of_ble_eq_true rfl) ?_
  refine j_iconst (v := 0) dX8_copyAll_0 (q := 1) rfl (by decide) ?_
  refine j_istore_n_3_2 dX8_copyAll_1 (q := 2) rfl rfl rfl ?_
  exact ca_loop72 (σ0 := σ) 394 0 σ (by decide) (fun j hj => absurd hj (by omega)) (fun _ _ => rfl)
theorem ct_X8_image {g : GT} {σ : S_}  : CT g 3 M_X8_image [.ref 70] σ (fun r τ => r = .int (σ 70 3 + 1) ∧ ∃ τ1, rowC 71 72 σ τ1 ∧ τ = up τ1 70 3 (σ 70 3 + 1)) := by
  refine ct_of [.ref 70] pn_X8_image rfl (Nat.le_of_ble_eq_true rfl) ?_
  refine j_aload_n dX8_image_0 (q := 1) rfl rfl ?_
  refine j_getR (r := 71) fs_X8_7 rfl rfl rfl dX8_image_1 (q := 4) rfl ?_
  refine j_aload_n dX8_image_4 (q := 5) rfl rfl ?_
  refine j_getR (r := 72) fs_X8_13 rfl rfl rfl dX8_image_5 (q := 8) rfl ?_
  refine j_callSv2 (M' := M_X8_copyAll) lk_X8_255 ms_X8_copyAll (by decide) (Nat.le_of_ble_eq_true rfl) dX8_image_8 (q := 11) rfl (ct_X8_copyAll_71) ?_
  intro τ1 hz
  obtain ⟨_, hw, hO⟩ := hz
  refine j_aload_n dX8_image_11 (q := 12) rfl rfl ?_
  refine j_dup dX8_image_12 (q := 13) rfl rfl ?_
  refine j_getIV fs_X8_259 rfl rfl (congrFun (hO 70 (by decide)) 3) dX8_image_13 (q := 16) rfl ?_
  refine j_iconst (v := 1) dX8_image_16 (q := 17) rfl (by decide) ?_
  refine j_iadd dX8_image_17 (q := 18) rfl ?_
  refine j_putI fs_X8_259 rfl rfl fp_8_3 dX8_image_18 (q := 21) rfl ?_
  refine j_aload_n dX8_image_21 (q := 22) rfl rfl ?_
  refine j_getIV fs_X8_259 rfl rfl up_at dX8_image_22 (q := 25) rfl ?_
  refine j_ireti dX8_image_25 rfl ?_
  exact ⟨rfl, τ1, ⟨hw, hO⟩, rfl⟩
theorem ct_X8_restore_no {g : GT} {σ : S_} (h : σ 70 3 = 0) : CT g 3 M_X8_restore [.ref 70] σ (EQ (.int (-1000000002)) (rfm σ 2)) := by
  refine ct_of [.ref 70] pn_X8_restore rfl (Nat.le_of_ble_eq_true rfl) ?_
  refine j_aload_n dX8_restore_0 (q := 1) rfl rfl ?_
  refine j_getI fs_X8_259 rfl rfl dX8_restore_1 (q := 4) rfl ?_
  refine j_if_ne dX8_restore_4 (t := 13) (by decide) (q := 7) rfl (fun c_4 => ?_) (fun c_4 => ?_)
  · skip
    exact absurd h c_4
  · skip
    refine j_aload_n dX8_restore_7 (q := 8) rfl rfl ?_
    refine j_iconst (v := 2) dX8_restore_8 (q := 9) rfl (by decide) ?_
    refine j_callVi1E (M' := M_X8_error) lk_X8_63 mv_X8_error ob_70 (by decide) (Nat.le_of_ble_eq_true rfl) dX8_restore_9 (q := 12) rfl (ct_err2) ?_
    refine j_ireti dX8_restore_12 rfl ?_
    exact ⟨rfl, rfl⟩
theorem ct_X8_restore_ok {g : GT} {σ : S_} (h : ¬ σ 70 3 = 0) : CT g 3 M_X8_restore [.ref 70] σ (fun r τ => r = .int (σ 72 0) ∧ rowC 72 71 σ τ) := by
  refine ct_of [.ref 70] pn_X8_restore rfl (Nat.le_of_ble_eq_true rfl) ?_
  refine j_aload_n dX8_restore_0 (q := 1) rfl rfl ?_
  refine j_getI fs_X8_259 rfl rfl dX8_restore_1 (q := 4) rfl ?_
  refine j_if_ne dX8_restore_4 (t := 13) (by decide) (q := 7) rfl (fun c_4 => ?_) (fun c_4 => ?_)
  · skip
    refine j_aload_n dX8_restore_13 (q := 14) rfl rfl ?_
    refine j_getR (r := 72) fs_X8_13 rfl rfl rfl dX8_restore_14 (q := 17) rfl ?_
    refine j_aload_n dX8_restore_17 (q := 18) rfl rfl ?_
    refine j_getR (r := 71) fs_X8_7 rfl rfl rfl dX8_restore_18 (q := 21) rfl ?_
    refine j_callSv2 (M' := M_X8_copyAll) lk_X8_255 ms_X8_copyAll (by decide) (Nat.le_of_ble_eq_true rfl) dX8_restore_21 (q := 24) rfl (ct_X8_copyAll_72) ?_
    intro τ1 hz
    obtain ⟨_, hw, hO⟩ := hz
    refine j_aload_n dX8_restore_24 (q := 25) rfl rfl ?_
    refine j_getR (r := 71) fs_X8_7 rfl rfl rfl dX8_restore_25 (q := 28) rfl ?_
    refine j_iconst (v := 0) dX8_restore_28 (q := 29) rfl (by decide) ?_
    refine j_ialdV (k := 0) rfl (by decide) (hw 0 (by decide)) dX8_restore_29 (q := 30) rfl ?_
    refine j_ireti dX8_restore_30 rfl ?_
    exact ⟨rfl, hw, hO⟩
  · skip
    exact absurd c_4 h
