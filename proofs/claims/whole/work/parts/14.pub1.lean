theorem up_at {σ : S_} {a k : Nat} {v : Int32} : up σ a k v a k = v := by simp [up]
theorem up_nk {σ : S_} {a k j : Nat} {v : Int32} (h : j ≠ k) : up σ a k v a j = σ a j := by simp [up, h]
theorem up_nc {σ : S_} {a k b j : Nat} {v : Int32} (h : b ≠ a) : up σ a k v b j = σ b j := by simp [up, h]
theorem inK {n : Nat} {b : Nat} (h : n ≤ b) (hb : b < 2 ^ 31) : 0 ≤ nI n ∧ nI n ≤ nI b := ⟨nI_le (a := 0) (Nat.zero_le n) (by omega), nI_le h hb⟩
theorem inF {n k m : Nat} {c : Int32} (hn : n < k) (hk : k ≤ m) (e : c = nI k) (hm : m < 2 ^ 31 := by decide) : 0 ≤ nI n ∧ nI n ≤ c - 1 := by
  subst e
  obtain ⟨j, rfl⟩ : ∃ j, k = j + 1 := ⟨k - 1, by omega⟩
  have : nI (j + 1) - 1 = nI j := nI_pred j
  rw [this]
  exact ⟨nI_le (a := 0) (Nat.zero_le n) (by omega), nI_le (by omega) (by omega)⟩
theorem ct_X7_parch_no {g : GT} {σ : S_} {f v : Int32} (h : ¬ ((0 ≤ f ∧ f ≤ σ 8 1 - 1) ∧ (0 ≤ v ∧ v ≤ 99))) : CT g 2 M_X7_parch [.ref 0, .int f, .int v] σ (EQ (.int (-1000000001)) (rfz σ 1)) := by
  refine ct_of [.ref 0, .int f, .int v, .null] pn_X7_parch rfl (Nat.le_of_ble_eq_true rfl) ?_
  refine j_aload_n dX7_parch_0 (q := 1) rfl rfl ?_
  refine j_iload_n dX7_parch_1 (q := 2) rfl rfl ?_
  refine j_callVi1E (M' := M_X7_isFarm) lk_X7_79 mv_X7_isFarm ob_0 (by decide) (Nat.le_of_ble_eq_true rfl) dX7_parch_2 (q := 5) rfl (ct_X7_isFarm) ?_
  refine j_ifeqB dX7_parch_5 (t := 18) (by decide) (q := 8) rfl (fun c_5 => ?_) (fun c_5 => ?_)
  · skip
    refine j_iload_n dX7_parch_8 (q := 9) rfl rfl ?_
    refine j_iconst (v := 0) dX7_parch_9 (q := 10) rfl (by decide) ?_
    refine j_bipush (v := 99) dX7_parch_10 (q := 12) rfl (by decide) ?_
    refine j_callSi3E (M' := M_X7_within) lk_X7_57 ms_X7_within (by decide) (Nat.le_of_ble_eq_true rfl) dX7_parch_12 (q := 15) rfl (ct_X7_within) ?_
    refine j_ifneB dX7_parch_15 (t := 24) (by decide) (q := 18) rfl (fun c_15 => ?_) (fun c_15 => ?_)
    · skip
      exact absurd ⟨c_5, c_15⟩ h
    · skip
      refine j_aload_n dX7_parch_18 (q := 19) rfl rfl ?_
      refine j_iconst (v := 1) dX7_parch_19 (q := 20) rfl (by decide) ?_
      refine j_callVi1E (M' := M_X7_refuse) lk_X7_61 mv_X7_refuse ob_0 (by decide) (Nat.le_of_ble_eq_true rfl) dX7_parch_20 (q := 23) rfl (ct_ref1) ?_
      refine j_ireti dX7_parch_23 rfl ?_
      exact ⟨rfl, rfl⟩
  · skip
    refine j_aload_n dX7_parch_18 (q := 19) rfl rfl ?_
    refine j_iconst (v := 1) dX7_parch_19 (q := 20) rfl (by decide) ?_
    refine j_callVi1E (M' := M_X7_refuse) lk_X7_61 mv_X7_refuse ob_0 (by decide) (Nat.le_of_ble_eq_true rfl) dX7_parch_20 (q := 23) rfl (ct_ref1) ?_
    refine j_ireti dX7_parch_23 rfl ?_
    exact ⟨rfl, rfl⟩
theorem ct_X7_parch_ok {g : GT} {σ : S_} {n nf : Nat} (hn : n < nf) (h7 : nf ≤ 7) (e : σ 8 1 = nI nf) {v : Int32} (hv : 0 ≤ v ∧ v ≤ 99) : CT g 2 M_X7_parch [.ref 0, .int (nI n), .int v] σ (EQ (.int (σ (16 + n) 4)) (up σ (16 + n) 4 v)) := by
  refine ct_of [.ref 0, .int (nI n), .int v, .null] pn_X7_parch rfl (Nat.le_of_ble_eq_true rfl) ?_
  refine j_aload_n dX7_parch_0 (q := 1) rfl rfl ?_
  refine j_iload_n dX7_parch_1 (q := 2) rfl rfl ?_
  refine j_callVi1E (M' := M_X7_isFarm) lk_X7_79 mv_X7_isFarm ob_0 (by decide) (Nat.le_of_ble_eq_true rfl) dX7_parch_2 (q := 5) rfl (ct_X7_isFarm) ?_
  refine j_ifeqB dX7_parch_5 (t := 18) (by decide) (q := 8) rfl (fun c_5 => ?_) (fun c_5 => ?_)
  · skip
    refine j_iload_n dX7_parch_8 (q := 9) rfl rfl ?_
    refine j_iconst (v := 0) dX7_parch_9 (q := 10) rfl (by decide) ?_
    refine j_bipush (v := 99) dX7_parch_10 (q := 12) rfl (by decide) ?_
    refine j_callSi3E (M' := M_X7_within) lk_X7_57 ms_X7_within (by decide) (Nat.le_of_ble_eq_true rfl) dX7_parch_12 (q := 15) rfl (ct_X7_within) ?_
    refine j_ifneB dX7_parch_15 (t := 24) (by decide) (q := 18) rfl (fun c_15 => ?_) (fun c_15 => ?_)
    · skip
      refine j_aload_n dX7_parch_24 (q := 25) rfl rfl ?_
      refine j_getR (r := 8) fs_X7_10 rfl rfl rfl dX7_parch_25 (q := 28) rfl ?_
      refine j_getR (r := 9) fs_X7_69 rfl rfl rfl dX7_parch_28 (q := 31) rfl ?_
      refine j_iload_n dX7_parch_31 (q := 32) rfl rfl ?_
      refine j_aaldN rfl (by omega) (rf_farm (by omega)) dX7_parch_32 (q := 33) rfl ?_
      refine j_getI fs_X7_94 (tC_farm (by omega)) rfl dX7_parch_33 (q := 36) rfl ?_
      refine j_istore_n_4_3 dX7_parch_36 (q := 37) rfl rfl rfl ?_
      refine j_aload_n dX7_parch_37 (q := 38) rfl rfl ?_
      refine j_getR (r := 8) fs_X7_10 rfl rfl rfl dX7_parch_38 (q := 41) rfl ?_
      refine j_getR (r := 9) fs_X7_69 rfl rfl rfl dX7_parch_41 (q := 44) rfl ?_
      refine j_iload_n dX7_parch_44 (q := 45) rfl rfl ?_
      refine j_aaldN rfl (by omega) (rf_farm (by omega)) dX7_parch_45 (q := 46) rfl ?_
      refine j_iload_n dX7_parch_46 (q := 47) rfl rfl ?_
      refine j_putI fs_X7_94 (tC_farm (by omega)) rfl fp_0_4 dX7_parch_47 (q := 50) rfl ?_
      refine j_iload_n dX7_parch_50 (q := 51) rfl rfl ?_
      refine j_ireti dX7_parch_51 rfl ?_
      exact ⟨rfl, rfl⟩
    · skip
      exact absurd hv c_15
  · skip
    exact absurd (inF hn h7 e) c_5
theorem ct_X8_parch_no {g : GT} {σ : S_} {f v : Int32} (h : ¬ ((0 ≤ f ∧ f ≤ σ 71 5 - 1) ∧ (0 ≤ v ∧ v ≤ 99))) : CT g 2 M_X8_parch [.ref 70, .int f, .int v] σ (EQ (.int (-1000000001)) (rfm σ 1)) := by
  refine ct_of [.ref 70, .int f, .int v] pn_X8_parch rfl (Nat.le_of_ble_eq_true rfl) ?_
  refine j_aload_n dX8_parch_0 (q := 1) rfl rfl ?_
  refine j_iload_n dX8_parch_1 (q := 2) rfl rfl ?_
  refine j_callVi1E (M' := M_X8_isFarm) lk_X8_166 mv_X8_isFarm ob_70 (by decide) (Nat.le_of_ble_eq_true rfl) dX8_parch_2 (q := 5) rfl (ct_X8_isFarm) ?_
  refine j_ifeqB dX8_parch_5 (t := 35) (by decide) (q := 8) rfl (fun c_5 => ?_) (fun c_5 => ?_)
  · skip
    refine j_iload_n dX8_parch_8 (q := 9) rfl rfl ?_
    refine j_iconst (v := 0) dX8_parch_9 (q := 10) rfl (by decide) ?_
    refine j_bipush (v := 99) dX8_parch_10 (q := 12) rfl (by decide) ?_
    refine j_callSi3E (M' := M_X8_in) lk_X8_59 ms_X8_in (by decide) (Nat.le_of_ble_eq_true rfl) dX8_parch_12 (q := 15) rfl (ct_X8_in) ?_
    refine j_ifeqB dX8_parch_15 (t := 35) (by decide) (q := 18) rfl (fun c_15 => ?_) (fun c_15 => ?_)
    · skip
      exact absurd ⟨c_5, c_15⟩ h
    · skip
      refine j_aload_n dX8_parch_35 (q := 36) rfl rfl ?_
      refine j_iconst (v := 1) dX8_parch_36 (q := 37) rfl (by decide) ?_
      refine j_callVi1E (M' := M_X8_error) lk_X8_63 mv_X8_error ob_70 (by decide) (Nat.le_of_ble_eq_true rfl) dX8_parch_37 (q := 40) rfl (ct_err1) ?_
      refine j_ireti dX8_parch_40 rfl ?_
      exact ⟨rfl, rfl⟩
  · skip
    refine j_aload_n dX8_parch_35 (q := 36) rfl rfl ?_
    refine j_iconst (v := 1) dX8_parch_36 (q := 37) rfl (by decide) ?_
    refine j_callVi1E (M' := M_X8_error) lk_X8_63 mv_X8_error ob_70 (by decide) (Nat.le_of_ble_eq_true rfl) dX8_parch_37 (q := 40) rfl (ct_err1) ?_
    refine j_ireti dX8_parch_40 rfl ?_
    exact ⟨rfl, rfl⟩
theorem ct_X8_parch_ok {g : GT} {σ : S_} {n nf : Nat} (hn : n < nf) (h7 : nf ≤ 7) (e : σ 71 5 = nI nf) {v : Int32} (hv : 0 ≤ v ∧ v ≤ 99) : CT g 2 M_X8_parch [.ref 70, .int (nI n), .int v] σ (EQ (.int (σ 71 (10 + 6 * n + 4))) (up σ 71 (10 + 6 * n + 4) v)) := by
  refine ct_of [.ref 70, .int (nI n), .int v] pn_X8_parch rfl (Nat.le_of_ble_eq_true rfl) ?_
  refine j_aload_n dX8_parch_0 (q := 1) rfl rfl ?_
  refine j_iload_n dX8_parch_1 (q := 2) rfl rfl ?_
  refine j_callVi1E (M' := M_X8_isFarm) lk_X8_166 mv_X8_isFarm ob_70 (by decide) (Nat.le_of_ble_eq_true rfl) dX8_parch_2 (q := 5) rfl (ct_X8_isFarm) ?_
  refine j_ifeqB dX8_parch_5 (t := 35) (by decide) (q := 8) rfl (fun c_5 => ?_) (fun c_5 => ?_)
  · skip
    refine j_iload_n dX8_parch_8 (q := 9) rfl rfl ?_
    refine j_iconst (v := 0) dX8_parch_9 (q := 10) rfl (by decide) ?_
    refine j_bipush (v := 99) dX8_parch_10 (q := 12) rfl (by decide) ?_
    refine j_callSi3E (M' := M_X8_in) lk_X8_59 ms_X8_in (by decide) (Nat.le_of_ble_eq_true rfl) dX8_parch_12 (q := 15) rfl (ct_X8_in) ?_
    refine j_ifeqB dX8_parch_15 (t := 35) (by decide) (q := 18) rfl (fun c_15 => ?_) (fun c_15 => ?_)
    · skip
      refine j_aload_n dX8_parch_18 (q := 19) rfl rfl ?_
      refine j_bipush (v := 10) dX8_parch_19 (q := 21) rfl (by decide) ?_
      refine j_bipush (v := 6) dX8_parch_21 (q := 23) rfl (by decide) ?_
      refine j_iload_n dX8_parch_23 (q := 24) rfl rfl ?_
      refine j_imulN (a := 6) dX8_parch_24 (q := 25) rfl ?_
      refine j_iaddN (a := 10) dX8_parch_25 (q := 26) rfl ?_
      refine j_iconst (v := 4) dX8_parch_26 (q := 27) rfl (by decide) ?_
      refine j_iaddN (b := 4) dX8_parch_27 (q := 28) rfl ?_
      refine j_iload_n dX8_parch_28 (q := 29) rfl rfl ?_
      refine j_callVi2E (M' := M_X8_change1) lk_X8_169 mv_X8_change1 ob_70 (by decide) (Nat.le_of_ble_eq_true rfl) dX8_parch_29 (q := 32) rfl (ct_X8_change1 (by omega)) ?_
      refine j_goto (q := 40) dX8_parch_32 (by decide) ?_
      refine j_ireti dX8_parch_40 rfl ?_
      exact ⟨rfl, rfl⟩
    · skip
      exact absurd hv c_15
  · skip
    exact absurd (inF hn h7 e) c_5
theorem ct_X7_graze_no {g : GT} {σ : S_} {f v : Int32} (h : ¬ ((0 ≤ f ∧ f ≤ σ 8 1 - 1) ∧ (0 ≤ v ∧ v ≤ 30))) : CT g 2 M_X7_graze [.ref 0, .int f, .int v] σ (EQ (.int (-1000000001)) (rfz σ 1)) := by
  refine ct_of [.ref 0, .int f, .int v, .null] pn_X7_graze rfl (Nat.le_of_ble_eq_true rfl) ?_
  refine j_aload_n dX7_graze_0 (q := 1) rfl rfl ?_
  refine j_iload_n dX7_graze_1 (q := 2) rfl rfl ?_
  refine j_callVi1E (M' := M_X7_isFarm) lk_X7_79 mv_X7_isFarm ob_0 (by decide) (Nat.le_of_ble_eq_true rfl) dX7_graze_2 (q := 5) rfl (ct_X7_isFarm) ?_
  refine j_ifeqB dX7_graze_5 (t := 18) (by decide) (q := 8) rfl (fun c_5 => ?_) (fun c_5 => ?_)
  · skip
    refine j_iload_n dX7_graze_8 (q := 9) rfl rfl ?_
    refine j_iconst (v := 0) dX7_graze_9 (q := 10) rfl (by decide) ?_
    refine j_bipush (v := 30) dX7_graze_10 (q := 12) rfl (by decide) ?_
    refine j_callSi3E (M' := M_X7_within) lk_X7_57 ms_X7_within (by decide) (Nat.le_of_ble_eq_true rfl) dX7_graze_12 (q := 15) rfl (ct_X7_within) ?_
    refine j_ifneB dX7_graze_15 (t := 24) (by decide) (q := 18) rfl (fun c_15 => ?_) (fun c_15 => ?_)
    · skip
      exact absurd ⟨c_5, c_15⟩ h
    · skip
      refine j_aload_n dX7_graze_18 (q := 19) rfl rfl ?_
      refine j_iconst (v := 1) dX7_graze_19 (q := 20) rfl (by decide) ?_
      refine j_callVi1E (M' := M_X7_refuse) lk_X7_61 mv_X7_refuse ob_0 (by decide) (Nat.le_of_ble_eq_true rfl) dX7_graze_20 (q := 23) rfl (ct_ref1) ?_
      refine j_ireti dX7_graze_23 rfl ?_
      exact ⟨rfl, rfl⟩
  · skip
    refine j_aload_n dX7_graze_18 (q := 19) rfl rfl ?_
    refine j_iconst (v := 1) dX7_graze_19 (q := 20) rfl (by decide) ?_
    refine j_callVi1E (M' := M_X7_refuse) lk_X7_61 mv_X7_refuse ob_0 (by decide) (Nat.le_of_ble_eq_true rfl) dX7_graze_20 (q := 23) rfl (ct_ref1) ?_
    refine j_ireti dX7_graze_23 rfl ?_
    exact ⟨rfl, rfl⟩
theorem ct_X7_graze_ok {g : GT} {σ : S_} {n nf : Nat} (hn : n < nf) (h7 : nf ≤ 7) (e : σ 8 1 = nI nf) {v : Int32} (hv : 0 ≤ v ∧ v ≤ 30) : CT g 2 M_X7_graze [.ref 0, .int (nI n), .int v] σ (EQ (.int (σ (16 + n) 3)) (up σ (16 + n) 3 v)) := by
  refine ct_of [.ref 0, .int (nI n), .int v, .null] pn_X7_graze rfl (Nat.le_of_ble_eq_true rfl) ?_
  refine j_aload_n dX7_graze_0 (q := 1) rfl rfl ?_
  refine j_iload_n dX7_graze_1 (q := 2) rfl rfl ?_
  refine j_callVi1E (M' := M_X7_isFarm) lk_X7_79 mv_X7_isFarm ob_0 (by decide) (Nat.le_of_ble_eq_true rfl) dX7_graze_2 (q := 5) rfl (ct_X7_isFarm) ?_
  refine j_ifeqB dX7_graze_5 (t := 18) (by decide) (q := 8) rfl (fun c_5 => ?_) (fun c_5 => ?_)
  · skip
    refine j_iload_n dX7_graze_8 (q := 9) rfl rfl ?_
    refine j_iconst (v := 0) dX7_graze_9 (q := 10) rfl (by decide) ?_
    refine j_bipush (v := 30) dX7_graze_10 (q := 12) rfl (by decide) ?_
    refine j_callSi3E (M' := M_X7_within) lk_X7_57 ms_X7_within (by decide) (Nat.le_of_ble_eq_true rfl) dX7_graze_12 (q := 15) rfl (ct_X7_within) ?_
    refine j_ifneB dX7_graze_15 (t := 24) (by decide) (q := 18) rfl (fun c_15 => ?_) (fun c_15 => ?_)
    · skip
      refine j_aload_n dX7_graze_24 (q := 25) rfl rfl ?_
      refine j_getR (r := 8) fs_X7_10 rfl rfl rfl dX7_graze_25 (q := 28) rfl ?_
      refine j_getR (r := 9) fs_X7_69 rfl rfl rfl dX7_graze_28 (q := 31) rfl ?_
      refine j_iload_n dX7_graze_31 (q := 32) rfl rfl ?_
      refine j_aaldN rfl (by omega) (rf_farm (by omega)) dX7_graze_32 (q := 33) rfl ?_
      refine j_getI fs_X7_91 (tC_farm (by omega)) rfl dX7_graze_33 (q := 36) rfl ?_
      refine j_istore_n_4_3 dX7_graze_36 (q := 37) rfl rfl rfl ?_
      refine j_aload_n dX7_graze_37 (q := 38) rfl rfl ?_
      refine j_getR (r := 8) fs_X7_10 rfl rfl rfl dX7_graze_38 (q := 41) rfl ?_
      refine j_getR (r := 9) fs_X7_69 rfl rfl rfl dX7_graze_41 (q := 44) rfl ?_
      refine j_iload_n dX7_graze_44 (q := 45) rfl rfl ?_
      refine j_aaldN rfl (by omega) (rf_farm (by omega)) dX7_graze_45 (q := 46) rfl ?_
      refine j_iload_n dX7_graze_46 (q := 47) rfl rfl ?_
      refine j_putI fs_X7_91 (tC_farm (by omega)) rfl fp_0_3 dX7_graze_47 (q := 50) rfl ?_
      refine j_iload_n dX7_graze_50 (q := 51) rfl rfl ?_
      refine j_ireti dX7_graze_51 rfl ?_
      exact ⟨rfl, rfl⟩
    · skip
      exact absurd hv c_15
  · skip
    exact absurd (inF hn h7 e) c_5
theorem ct_X8_graze_no {g : GT} {σ : S_} {f v : Int32} (h : ¬ ((0 ≤ f ∧ f ≤ σ 71 5 - 1) ∧ (0 ≤ v ∧ v ≤ 30))) : CT g 2 M_X8_graze [.ref 70, .int f, .int v] σ (EQ (.int (-1000000001)) (rfm σ 1)) := by
  refine ct_of [.ref 70, .int f, .int v] pn_X8_graze rfl (Nat.le_of_ble_eq_true rfl) ?_
  refine j_aload_n dX8_graze_0 (q := 1) rfl rfl ?_
  refine j_iload_n dX8_graze_1 (q := 2) rfl rfl ?_
  refine j_callVi1E (M' := M_X8_isFarm) lk_X8_166 mv_X8_isFarm ob_70 (by decide) (Nat.le_of_ble_eq_true rfl) dX8_graze_2 (q := 5) rfl (ct_X8_isFarm) ?_
  refine j_ifeqB dX8_graze_5 (t := 35) (by decide) (q := 8) rfl (fun c_5 => ?_) (fun c_5 => ?_)
  · skip
    refine j_iload_n dX8_graze_8 (q := 9) rfl rfl ?_
    refine j_iconst (v := 0) dX8_graze_9 (q := 10) rfl (by decide) ?_
    refine j_bipush (v := 30) dX8_graze_10 (q := 12) rfl (by decide) ?_
    refine j_callSi3E (M' := M_X8_in) lk_X8_59 ms_X8_in (by decide) (Nat.le_of_ble_eq_true rfl) dX8_graze_12 (q := 15) rfl (ct_X8_in) ?_
    refine j_ifeqB dX8_graze_15 (t := 35) (by decide) (q := 18) rfl (fun c_15 => ?_) (fun c_15 => ?_)
    · skip
      exact absurd ⟨c_5, c_15⟩ h
    · skip
      refine j_aload_n dX8_graze_35 (q := 36) rfl rfl ?_
      refine j_iconst (v := 1) dX8_graze_36 (q := 37) rfl (by decide) ?_
      refine j_callVi1E (M' := M_X8_error) lk_X8_63 mv_X8_error ob_70 (by decide) (Nat.le_of_ble_eq_true rfl) dX8_graze_37 (q := 40) rfl (ct_err1) ?_
      refine j_ireti dX8_graze_40 rfl ?_
      exact ⟨rfl, rfl⟩
  · skip
    refine j_aload_n dX8_graze_35 (q := 36) rfl rfl ?_
    refine j_iconst (v := 1) dX8_graze_36 (q := 37) rfl (by decide) ?_
    refine j_callVi1E (M' := M_X8_error) lk_X8_63 mv_X8_error ob_70 (by decide) (Nat.le_of_ble_eq_true rfl) dX8_graze_37 (q := 40) rfl (ct_err1) ?_
    refine j_ireti dX8_graze_40 rfl ?_
    exact ⟨rfl, rfl⟩
theorem ct_X8_graze_ok {g : GT} {σ : S_} {n nf : Nat} (hn : n < nf) (h7 : nf ≤ 7) (e : σ 71 5 = nI nf) {v : Int32} (hv : 0 ≤ v ∧ v ≤ 30) : CT g 2 M_X8_graze [.ref 70, .int (nI n), .int v] σ (EQ (.int (σ 71 (10 + 6 * n + 3))) (up σ 71 (10 + 6 * n + 3) v)) := by
  refine ct_of [.ref 70, .int (nI n), .int v] pn_X8_graze rfl (Nat.le_of_ble_eq_true rfl) ?_
  refine j_aload_n dX8_graze_0 (q := 1) rfl rfl ?_
  refine j_iload_n dX8_graze_1 (q := 2) rfl rfl ?_
  refine j_callVi1E (M' := M_X8_isFarm) lk_X8_166 mv_X8_isFarm ob_70 (by decide) (Nat.le_of_ble_eq_true rfl) dX8_graze_2 (q := 5) rfl (ct_X8_isFarm) ?_
  refine j_ifeqB dX8_graze_5 (t := 35) (by decide) (q := 8) rfl (fun c_5 => ?_) (fun c_5 => ?_)
  · skip
    refine j_iload_n dX8_graze_8 (q := 9) rfl rfl ?_
    refine j_iconst (v := 0) dX8_graze_9 (q := 10) rfl (by decide) ?_
    refine j_bipush (v := 30) dX8_graze_10 (q := 12) rfl (by decide) ?_
    refine j_callSi3E (M' := M_X8_in) lk_X8_59 ms_X8_in (by decide) (Nat.le_of_ble_eq_true rfl) dX8_graze_12 (q := 15) rfl (ct_X8_in) ?_
    refine j_ifeqB dX8_graze_15 (t := 35) (by decide) (q := 18) rfl (fun c_15 => ?_) (fun c_15 => ?_)
    · skip
      refine j_aload_n dX8_graze_18 (q := 19) rfl rfl ?_
      refine j_bipush (v := 10) dX8_graze_19 (q := 21) rfl (by decide) ?_
      refine j_bipush (v := 6) dX8_graze_21 (q := 23) rfl (by decide) ?_
      refine j_iload_n dX8_graze_23 (q := 24) rfl rfl ?_
      refine j_imulN (a := 6) dX8_graze_24 (q := 25) rfl ?_
      refine j_iaddN (a := 10) dX8_graze_25 (q := 26) rfl ?_
      refine j_iconst (v := 3) dX8_graze_26 (q := 27) rfl (by decide) ?_
      refine j_iaddN (b := 3) dX8_graze_27 (q := 28) rfl ?_
      refine j_iload_n dX8_graze_28 (q := 29) rfl rfl ?_
      refine j_callVi2E (M' := M_X8_change1) lk_X8_169 mv_X8_change1 ob_70 (by decide) (Nat.le_of_ble_eq_true rfl) dX8_graze_29 (q := 32) rfl (ct_X8_change1 (by omega)) ?_
      refine j_goto (q := 40) dX8_graze_32 (by decide) ?_
      refine j_ireti dX8_graze_40 rfl ?_
      exact ⟨rfl, rfl⟩
    · skip
      exact absurd hv c_15
  · skip
    exact absurd (inF hn h7 e) c_5
abbrev qK (km : Int32) : Int32 := km / 10
abbrev rK (km : Int32) : Int32 := km - km / 10 * 10
theorem ct_X0_beOfKind {g : GT} {σ : S_} {a : Nat} {km : Int32} (ha : tC[a]? = some (3, 0)) : CT g 0 M_X0_beOfKind [.ref a, .int km] σ (EQ .null (up (up σ a 0 (qK km)) a 1 (rK km))) := by
  refine ct_of [.ref a, .int km] pn_X0_beOfKind rfl (Nat.le_of_ble_eq_true rfl) ?_
  refine j_aload_n dX0_beOfKind_0 (q := 1) rfl rfl ?_
  refine j_iload_n dX0_beOfKind_1 (q := 2) rfl rfl ?_
  refine j_bipush (v := 10) dX0_beOfKind_2 (q := 4) rfl (by decide) ?_
  refine j_idiv dX0_beOfKind_4 (q := 5) rfl (by decide) ?_
  refine j_putI fs_X0_28 ha rfl fp_0_0 dX0_beOfKind_5 (q := 8) rfl ?_
  refine j_aload_n dX0_beOfKind_8 (q := 9) rfl rfl ?_
  refine j_iload_n dX0_beOfKind_9 (q := 10) rfl rfl ?_
  refine j_bipush (v := 10) dX0_beOfKind_10 (q := 12) rfl (by decide) ?_
  refine j_irem dX0_beOfKind_12 (q := 13) rfl (by decide) ?_
  refine j_putI fs_X0_31 ha rfl fp_0_1 dX0_beOfKind_13 (q := 16) rfl ?_
  refine j_vret dX0_beOfKind_16 rfl ?_
  exact ⟨rfl, rfl⟩
theorem ct_X0_begin {g : GT} {σ : S_} {a : Nat} {km st_ hd_ : Int32} (ha : tC[a]? = some (3, 0)) : CT g 1 M_X0_begin [.ref a, .int km, .int st_, .int hd_] σ (EQ .null (up (up (up (up (up (up σ a 0 (qK km)) a 1 (rK km)) a 2 st_) a 3 hd_) a 4 0) a 5 0)) := by
  refine ct_of [.ref a, .int km, .int st_, .int hd_] pn_X0_begin rfl (Nat.le_of_ble_eq_true rfl) ?_
  refine j_aload_n dX0_begin_0 (q := 1) rfl rfl ?_
  refine j_iload_n dX0_begin_1 (q := 2) rfl rfl ?_
  refine j_callVv1E (M' := M_X0_beOfKind) lk_X0_9 mv_X0_beOfKind (ob_of ha rfl) (by decide) (Nat.le_of_ble_eq_true rfl) dX0_begin_2 (q := 5) rfl (ct_X0_beOfKind ha) ?_
  refine j_aload_n dX0_begin_5 (q := 6) rfl rfl ?_
  refine j_iload_n dX0_begin_6 (q := 7) rfl rfl ?_
  refine j_putI fs_X0_15 ha rfl fp_0_2 dX0_begin_7 (q := 10) rfl ?_
  refine j_aload_n dX0_begin_10 (q := 11) rfl rfl ?_
  refine j_iload_n dX0_begin_11 (q := 12) rfl rfl ?_
  refine j_putI fs_X0_19 ha rfl fp_0_3 dX0_begin_12 (q := 15) rfl ?_
  refine j_aload_n dX0_begin_15 (q := 16) rfl rfl ?_
  refine j_iconst (v := 0) dX0_begin_16 (q := 17) rfl (by decide) ?_
  refine j_putI fs_X0_22 ha rfl fp_0_4 dX0_begin_17 (q := 20) rfl ?_
  refine j_aload_n dX0_begin_20 (q := 21) rfl rfl ?_
  refine j_iconst (v := 0) dX0_begin_21 (q := 22) rfl (by decide) ?_
  refine j_putI fs_X0_25 ha rfl fp_0_5 dX0_begin_22 (q := 25) rfl ?_
  refine j_vret dX0_begin_25 rfl ?_
  exact ⟨rfl, rfl⟩
theorem ct_X7_become_no {g : GT} {σ : S_} {f km : Int32} (h : ¬ ((0 ≤ f ∧ f ≤ σ 8 1 - 1) ∧ (0 ≤ km ∧ km ≤ 69))) : CT g 2 M_X7_become [.ref 0, .int f, .int km] σ (EQ (.int (-1000000001)) (rfz σ 1)) := by
  refine ct_of [.ref 0, .int f, .int km, .null] pn_X7_become rfl (Nat.le_of_ble_eq_true rfl) ?_
  refine j_aload_n dX7_become_0 (q := 1) rfl rfl ?_
  refine j_iload_n dX7_become_1 (q := 2) rfl rfl ?_
  refine j_callVi1E (M' := M_X7_isFarm) lk_X7_79 mv_X7_isFarm ob_0 (by decide) (Nat.le_of_ble_eq_true rfl) dX7_become_2 (q := 5) rfl (ct_X7_isFarm) ?_
  refine j_ifeqB dX7_become_5 (t := 15) (by decide) (q := 8) rfl (fun c_5 => ?_) (fun c_5 => ?_)
  · skip
    refine j_iload_n dX7_become_8 (q := 9) rfl rfl ?_
    refine j_callSi1E (M' := M_X7_isKindAndM) lk_X7_53 ms_X7_isKindAndM (by decide) (Nat.le_of_ble_eq_true rfl) dX7_become_9 (q := 12) rfl (ct_X7_isKindAndM) ?_
    refine j_ifneB dX7_become_12 (t := 21) (by decide) (q := 15) rfl (fun c_12 => ?_) (fun c_12 => ?_)
    · skip
      exact absurd ⟨c_5, c_12⟩ h
    · skip
      refine j_aload_n dX7_become_15 (q := 16) rfl rfl ?_
      refine j_iconst (v := 1) dX7_become_16 (q := 17) rfl (by decide) ?_
      refine j_callVi1E (M' := M_X7_refuse) lk_X7_61 mv_X7_refuse ob_0 (by decide) (Nat.le_of_ble_eq_true rfl) dX7_become_17 (q := 20) rfl (ct_ref1) ?_
      refine j_ireti dX7_become_20 rfl ?_
      exact ⟨rfl, rfl⟩
  · skip
    refine j_aload_n dX7_become_15 (q := 16) rfl rfl ?_
    refine j_iconst (v := 1) dX7_become_16 (q := 17) rfl (by decide) ?_
    refine j_callVi1E (M' := M_X7_refuse) lk_X7_61 mv_X7_refuse ob_0 (by decide) (Nat.le_of_ble_eq_true rfl) dX7_become_17 (q := 20) rfl (ct_ref1) ?_
    refine j_ireti dX7_become_20 rfl ?_
    exact ⟨rfl, rfl⟩
theorem ct_X8_become_no {g : GT} {σ : S_} {f km : Int32} (h : ¬ ((0 ≤ f ∧ f ≤ σ 71 5 - 1) ∧ (0 ≤ km ∧ km ≤ 69))) : CT g 2 M_X8_become [.ref 70, .int f, .int km] σ (EQ (.int (-1000000001)) (rfm σ 1)) := by
  refine ct_of [.ref 70, .int f, .int km] pn_X8_become rfl (Nat.le_of_ble_eq_true rfl) ?_
  refine j_aload_n dX8_become_0 (q := 1) rfl rfl ?_
  refine j_iload_n dX8_become_1 (q := 2) rfl rfl ?_
  refine j_callVi1E (M' := M_X8_isFarm) lk_X8_166 mv_X8_isFarm ob_70 (by decide) (Nat.le_of_ble_eq_true rfl) dX8_become_2 (q := 5) rfl (ct_X8_isFarm) ?_
  refine j_ifeqB dX8_become_5 (t := 15) (by decide) (q := 8) rfl (fun c_5 => ?_) (fun c_5 => ?_)
  · skip
    refine j_iload_n dX8_become_8 (q := 9) rfl rfl ?_
    refine j_callSi1E (M' := M_X8_isKind) lk_X8_163 ms_X8_isKind (by decide) (Nat.le_of_ble_eq_true rfl) dX8_become_9 (q := 12) rfl (ct_X8_isKind) ?_
    refine j_ifneB dX8_become_12 (t := 21) (by decide) (q := 15) rfl (fun c_12 => ?_) (fun c_12 => ?_)
    · skip
      exact absurd ⟨c_5, c_12⟩ h
    · skip
      refine j_aload_n dX8_become_15 (q := 16) rfl rfl ?_
      refine j_iconst (v := 1) dX8_become_16 (q := 17) rfl (by decide) ?_
      refine j_callVi1E (M' := M_X8_error) lk_X8_63 mv_X8_error ob_70 (by decide) (Nat.le_of_ble_eq_true rfl) dX8_become_17 (q := 20) rfl (ct_err1) ?_
      refine j_ireti dX8_become_20 rfl ?_
      exact ⟨rfl, rfl⟩
  · skip
    refine j_aload_n dX8_become_15 (q := 16) rfl rfl ?_
    refine j_iconst (v := 1) dX8_become_16 (q := 17) rfl (by decide) ?_
    refine j_callVi1E (M' := M_X8_error) lk_X8_63 mv_X8_error ob_70 (by decide) (Nat.le_of_ble_eq_true rfl) dX8_become_17 (q := 20) rfl (ct_err1) ?_
    refine j_ireti dX8_become_20 rfl ?_
    exact ⟨rfl, rfl⟩
theorem ct_X7_become_ok {g : GT} {σ : S_} {n nf : Nat} (hn : n < nf) (h7 : nf ≤ 7) (e : σ 8 1 = nI nf) {km : Int32} (hk : 0 ≤ km ∧ km ≤ 69) : CT g 2 M_X7_become [.ref 0, .int (nI n), .int km] σ (EQ (.int (σ (16 + n) 0)) (up (up σ (16 + n) 0 (qK km)) (16 + n) 1 (rK km))) := by
  refine ct_of [.ref 0, .int (nI n), .int km, .null] pn_X7_become rfl (Nat.le_of_ble_eq_true rfl) ?_
  refine j_aload_n dX7_become_0 (q := 1) rfl rfl ?_
  refine j_iload_n dX7_become_1 (q := 2) rfl rfl ?_
  refine j_callVi1E (M' := M_X7_isFarm) lk_X7_79 mv_X7_isFarm ob_0 (by decide) (Nat.le_of_ble_eq_true rfl) dX7_become_2 (q := 5) rfl (ct_X7_isFarm) ?_
  refine j_ifeqB dX7_become_5 (t := 15) (by decide) (q := 8) rfl (fun c_5 => ?_) (fun c_5 => ?_)
  · skip
    refine j_iload_n dX7_become_8 (q := 9) rfl rfl ?_
    refine j_callSi1E (M' := M_X7_isKindAndM) lk_X7_53 ms_X7_isKindAndM (by decide) (Nat.le_of_ble_eq_true rfl) dX7_become_9 (q := 12) rfl (ct_X7_isKindAndM) ?_
    refine j_ifneB dX7_become_12 (t := 21) (by decide) (q := 15) rfl (fun c_12 => ?_) (fun c_12 => ?_)
    · skip
      refine j_aload_n dX7_become_21 (q := 22) rfl rfl ?_
      refine j_getR (r := 8) fs_X7_10 rfl rfl rfl dX7_become_22 (q := 25) rfl ?_
      refine j_getR (r := 9) fs_X7_69 rfl rfl rfl dX7_become_25 (q := 28) rfl ?_
      refine j_iload_n dX7_become_28 (q := 29) rfl rfl ?_
      refine j_aaldN rfl (by omega) (rf_farm (by omega)) dX7_become_29 (q := 30) rfl ?_
      refine j_getI fs_X7_82 (tC_farm (by omega)) rfl dX7_become_30 (q := 33) rfl ?_
      refine j_istore_n_4_3 dX7_become_33 (q := 34) rfl rfl rfl ?_
      refine j_aload_n dX7_become_34 (q := 35) rfl rfl ?_
      refine j_getR (r := 8) fs_X7_10 rfl rfl rfl dX7_become_35 (q := 38) rfl ?_
      refine j_getR (r := 9) fs_X7_69 rfl rfl rfl dX7_become_38 (q := 41) rfl ?_
      refine j_iload_n dX7_become_41 (q := 42) rfl rfl ?_
      refine j_aaldN rfl (by omega) (rf_farm (by omega)) dX7_become_42 (q := 43) rfl ?_
      refine j_iload_n dX7_become_43 (q := 44) rfl rfl ?_
      refine j_callVv1E (M' := M_X0_beOfKind) lk_X7_111 mv_X0_beOfKind (ob_of (tC_farm (by omega)) rfl) (by decide) (Nat.le_of_ble_eq_true rfl) dX7_become_44 (q := 47) rfl (ct_X0_beOfKind (tC_farm (by omega))) ?_
      refine j_iload_n dX7_become_47 (q := 48) rfl rfl ?_
      refine j_ireti dX7_become_48 rfl ?_
      exact ⟨rfl, rfl⟩
    · skip
      exact absurd hk c_12
  · skip
    exact absurd (inF hn h7 e) c_5
theorem ct_X8_become_ok {g : GT} {σ : S_} {n nf : Nat} (hn : n < nf) (h7 : nf ≤ 7) (e : σ 71 5 = nI nf) {km : Int32} (hk : 0 ≤ km ∧ km ≤ 69) : CT g 2 M_X8_become [.ref 70, .int (nI n), .int km] σ (EQ (.int (up σ 71 (10 + 6 * n + 1) (rK km) 71 (10 + 6 * n + 0))) (up (up σ 71 (10 + 6 * n + 1) (rK km)) 71 (10 + 6 * n + 0) (qK km))) := by
  refine ct_of [.ref 70, .int (nI n), .int km] pn_X8_become rfl (Nat.le_of_ble_eq_true rfl) ?_
  refine j_aload_n dX8_become_0 (q := 1) rfl rfl ?_
  refine j_iload_n dX8_become_1 (q := 2) rfl rfl ?_
  refine j_callVi1E (M' := M_X8_isFarm) lk_X8_166 mv_X8_isFarm ob_70 (by decide) (Nat.le_of_ble_eq_true rfl) dX8_become_2 (q := 5) rfl (ct_X8_isFarm) ?_
  refine j_ifeqB dX8_become_5 (t := 15) (by decide) (q := 8) rfl (fun c_5 => ?_) (fun c_5 => ?_)
  · skip
    refine j_iload_n dX8_become_8 (q := 9) rfl rfl ?_
    refine j_callSi1E (M' := M_X8_isKind) lk_X8_163 ms_X8_isKind (by decide) (Nat.le_of_ble_eq_true rfl) dX8_become_9 (q := 12) rfl (ct_X8_isKind) ?_
    refine j_ifneB dX8_become_12 (t := 21) (by decide) (q := 15) rfl (fun c_12 => ?_) (fun c_12 => ?_)
    · skip
      refine j_aload_n dX8_become_21 (q := 22) rfl rfl ?_
      refine j_iload_n dX8_become_22 (q := 23) rfl rfl ?_
      refine j_iconst (v := 1) dX8_become_23 (q := 24) rfl (by decide) ?_
      refine j_iload_n dX8_become_24 (q := 25) rfl rfl ?_
      refine j_bipush (v := 10) dX8_become_25 (q := 27) rfl (by decide) ?_
      refine j_irem dX8_become_27 (q := 28) rfl (by decide) ?_
      refine j_callVv3E (M' := M_X8_lays1) lk_X8_149 mv_X8_lays1 ob_70 (by decide) (Nat.le_of_ble_eq_true rfl) dX8_become_28 (q := 31) rfl (ct_X8_lays1 (k := 1) (by omega) (by decide)) ?_
      refine j_aload_n dX8_become_31 (q := 32) rfl rfl ?_
      refine j_bipush (v := 10) dX8_become_32 (q := 34) rfl (by decide) ?_
      refine j_bipush (v := 6) dX8_become_34 (q := 36) rfl (by decide) ?_
      refine j_iload_n dX8_become_36 (q := 37) rfl rfl ?_
      refine j_imulN (a := 6) dX8_become_37 (q := 38) rfl ?_
      refine j_iaddN (a := 10) dX8_become_38 (q := 39) rfl ?_
      refine j_iconst (v := 0) dX8_become_39 (q := 40) rfl (by decide) ?_
      refine j_iaddN (b := 0) dX8_become_40 (q := 41) rfl ?_
      refine j_iload_n dX8_become_41 (q := 42) rfl rfl ?_
      refine j_bipush (v := 10) dX8_become_42 (q := 44) rfl (by decide) ?_
      refine j_idiv dX8_become_44 (q := 45) rfl (by decide) ?_
      refine j_callVi2E (M' := M_X8_change1) lk_X8_169 mv_X8_change1 ob_70 (by decide) (Nat.le_of_ble_eq_true rfl) dX8_become_45 (q := 48) rfl (ct_X8_change1 (by omega)) ?_
      refine j_ireti dX8_become_48 rfl ?_
      exact ⟨rfl, rfl⟩
    · skip
      exact absurd hk c_12
  · skip
    exact absurd (inF hn h7 e) c_5
theorem ct_X7_farm_no {g : GT} {σ : S_} {km s hd : Int32} (h : ¬ ((0 ≤ km ∧ km ≤ 69) ∧ (1 ≤ s ∧ s ≤ 40) ∧ (0 ≤ hd ∧ hd ≤ 30))) : CT g 2 M_X7_farm [.ref 0, .int km, .int s, .int hd] σ (EQ (.int (-1000000001)) (rfz σ 1)) := by
  refine ct_of [.ref 0, .int km, .int s, .int hd] pn_X7_farm rfl (Nat.le_of_ble_eq_true rfl) ?_
  refine j_iload_n dX7_farm_0 (q := 1) rfl rfl ?_
  refine j_callSi1E (M' := M_X7_isKindAndM) lk_X7_53 ms_X7_isKindAndM (by decide) (Nat.le_of_ble_eq_true rfl) dX7_farm_1 (q := 4) rfl (ct_X7_isKindAndM) ?_
  refine j_ifeqB dX7_farm_4 (t := 27) (by decide) (q := 7) rfl (fun c_4 => ?_) (fun c_4 => ?_)
  · skip
    refine j_iload_n dX7_farm_7 (q := 8) rfl rfl ?_
    refine j_iconst (v := 1) dX7_farm_8 (q := 9) rfl (by decide) ?_
    refine j_bipush (v := 40) dX7_farm_9 (q := 11) rfl (by decide) ?_
    refine j_callSi3E (M' := M_X7_within) lk_X7_57 ms_X7_within (by decide) (Nat.le_of_ble_eq_true rfl) dX7_farm_11 (q := 14) rfl (ct_X7_within) ?_
    refine j_ifeqB dX7_farm_14 (t := 27) (by decide) (q := 17) rfl (fun c_14 => ?_) (fun c_14 => ?_)
    · skip
      refine j_iload_n dX7_farm_17 (q := 18) rfl rfl ?_
      refine j_iconst (v := 0) dX7_farm_18 (q := 19) rfl (by decide) ?_
      refine j_bipush (v := 30) dX7_farm_19 (q := 21) rfl (by decide) ?_
      refine j_callSi3E (M' := M_X7_within) lk_X7_57 ms_X7_within (by decide) (Nat.le_of_ble_eq_true rfl) dX7_farm_21 (q := 24) rfl (ct_X7_within) ?_
      refine j_ifneB dX7_farm_24 (t := 33) (by decide) (q := 27) rfl (fun c_24 => ?_) (fun c_24 => ?_)
      · skip
        exact absurd ⟨c_4, c_14, c_24⟩ h
      · skip
        refine j_aload_n dX7_farm_27 (q := 28) rfl rfl ?_
        refine j_iconst (v := 1) dX7_farm_28 (q := 29) rfl (by decide) ?_
        refine j_callVi1E (M' := M_X7_refuse) lk_X7_61 mv_X7_refuse ob_0 (by decide) (Nat.le_of_ble_eq_true rfl) dX7_farm_29 (q := 32) rfl (ct_ref1) ?_
        refine j_ireti dX7_farm_32 rfl ?_
        exact ⟨rfl, rfl⟩
    · skip
      refine j_aload_n dX7_farm_27 (q := 28) rfl rfl ?_
      refine j_iconst (v := 1) dX7_farm_28 (q := 29) rfl (by decide) ?_
      refine j_callVi1E (M' := M_X7_refuse) lk_X7_61 mv_X7_refuse ob_0 (by decide) (Nat.le_of_ble_eq_true rfl) dX7_farm_29 (q := 32) rfl (ct_ref1) ?_
      refine j_ireti dX7_farm_32 rfl ?_
      exact ⟨rfl, rfl⟩
  · skip
    refine j_aload_n dX7_farm_27 (q := 28) rfl rfl ?_
    refine j_iconst (v := 1) dX7_farm_28 (q := 29) rfl (by decide) ?_
    refine j_callVi1E (M' := M_X7_refuse) lk_X7_61 mv_X7_refuse ob_0 (by decide) (Nat.le_of_ble_eq_true rfl) dX7_farm_29 (q := 32) rfl (ct_ref1) ?_
    refine j_ireti dX7_farm_32 rfl ?_
    exact ⟨rfl, rfl⟩
theorem ct_X8_farm_no {g : GT} {σ : S_} {km s hd : Int32} (h : ¬ ((0 ≤ km ∧ km ≤ 69) ∧ (1 ≤ s ∧ s ≤ 40) ∧ (0 ≤ hd ∧ hd ≤ 30))) : CT g 2 M_X8_farm [.ref 70, .int km, .int s, .int hd] σ (EQ (.int (-1000000001)) (rfm σ 1)) := by
  refine ct_of [.ref 70, .int km, .int s, .int hd, .null] pn_X8_farm rfl (Nat.le_of_ble_eq_true rfl) ?_
  refine j_iload_n dX8_farm_0 (q := 1) rfl rfl ?_
  refine j_callSi1E (M' := M_X8_isKind) lk_X8_163 ms_X8_isKind (by decide) (Nat.le_of_ble_eq_true rfl) dX8_farm_1 (q := 4) rfl (ct_X8_isKind) ?_
  refine j_ifeqB dX8_farm_4 (t := 27) (by decide) (q := 7) rfl (fun c_4 => ?_) (fun c_4 => ?_)
  · skip
    refine j_iload_n dX8_farm_7 (q := 8) rfl rfl ?_
    refine j_iconst (v := 1) dX8_farm_8 (q := 9) rfl (by decide) ?_
    refine j_bipush (v := 40) dX8_farm_9 (q := 11) rfl (by decide) ?_
    refine j_callSi3E (M' := M_X8_in) lk_X8_59 ms_X8_in (by decide) (Nat.le_of_ble_eq_true rfl) dX8_farm_11 (q := 14) rfl (ct_X8_in) ?_
    refine j_ifeqB dX8_farm_14 (t := 27) (by decide) (q := 17) rfl (fun c_14 => ?_) (fun c_14 => ?_)
    · skip
      refine j_iload_n dX8_farm_17 (q := 18) rfl rfl ?_
      refine j_iconst (v := 0) dX8_farm_18 (q := 19) rfl (by decide) ?_
      refine j_bipush (v := 30) dX8_farm_19 (q := 21) rfl (by decide) ?_
      refine j_callSi3E (M' := M_X8_in) lk_X8_59 ms_X8_in (by decide) (Nat.le_of_ble_eq_true rfl) dX8_farm_21 (q := 24) rfl (ct_X8_in) ?_
      refine j_ifneB dX8_farm_24 (t := 33) (by decide) (q := 27) rfl (fun c_24 => ?_) (fun c_24 => ?_)
      · skip
        exact absurd ⟨c_4, c_14, c_24⟩ h
      · skip
        refine j_aload_n dX8_farm_27 (q := 28) rfl rfl ?_
        refine j_iconst (v := 1) dX8_farm_28 (q := 29) rfl (by decide) ?_
        refine j_callVi1E (M' := M_X8_error) lk_X8_63 mv_X8_error ob_70 (by decide) (Nat.le_of_ble_eq_true rfl) dX8_farm_29 (q := 32) rfl (ct_err1) ?_
        refine j_ireti dX8_farm_32 rfl ?_
        exact ⟨rfl, rfl⟩
    · skip
      refine j_aload_n dX8_farm_27 (q := 28) rfl rfl ?_
      refine j_iconst (v := 1) dX8_farm_28 (q := 29) rfl (by decide) ?_
      refine j_callVi1E (M' := M_X8_error) lk_X8_63 mv_X8_error ob_70 (by decide) (Nat.le_of_ble_eq_true rfl) dX8_farm_29 (q := 32) rfl (ct_err1) ?_
      refine j_ireti dX8_farm_32 rfl ?_
      exact ⟨rfl, rfl⟩
  · skip
    refine j_aload_n dX8_farm_27 (q := 28) rfl rfl ?_
    refine j_iconst (v := 1) dX8_farm_28 (q := 29) rfl (by decide) ?_
    refine j_callVi1E (M' := M_X8_error) lk_X8_63 mv_X8_error ob_70 (by decide) (Nat.le_of_ble_eq_true rfl) dX8_farm_29 (q := 32) rfl (ct_err1) ?_
    refine j_ireti dX8_farm_32 rfl ?_
    exact ⟨rfl, rfl⟩
theorem ct_X7_farm_full {g : GT} {σ : S_} {km s hd : Int32} (p1 : 0 ≤ km ∧ km ≤ 69) (p2 : 1 ≤ s ∧ s ≤ 40) (p3 : 0 ≤ hd ∧ hd ≤ 30) (e : σ 8 1 = nI 7) : CT g 2 M_X7_farm [.ref 0, .int km, .int s, .int hd] σ (EQ (.int (-1000000004)) (rfz σ 4)) := by
  refine ct_of [.ref 0, .int km, .int s, .int hd] pn_X7_farm rfl (Nat.le_of_ble_eq_true rfl) ?_
  refine j_iload_n dX7_farm_0 (q := 1) rfl rfl ?_
  refine j_callSi1E (M' := M_X7_isKindAndM) lk_X7_53 ms_X7_isKindAndM (by decide) (Nat.le_of_ble_eq_true rfl) dX7_farm_1 (q := 4) rfl (ct_X7_isKindAndM) ?_
  refine j_ifeqB dX7_farm_4 (t := 27) (by decide) (q := 7) rfl (fun c_4 => ?_) (fun c_4 => ?_)
  · skip
    refine j_iload_n dX7_farm_7 (q := 8) rfl rfl ?_
    refine j_iconst (v := 1) dX7_farm_8 (q := 9) rfl (by decide) ?_
    refine j_bipush (v := 40) dX7_farm_9 (q := 11) rfl (by decide) ?_
    refine j_callSi3E (M' := M_X7_within) lk_X7_57 ms_X7_within (by decide) (Nat.le_of_ble_eq_true rfl) dX7_farm_11 (q := 14) rfl (ct_X7_within) ?_
    refine j_ifeqB dX7_farm_14 (t := 27) (by decide) (q := 17) rfl (fun c_14 => ?_) (fun c_14 => ?_)
    · skip
      refine j_iload_n dX7_farm_17 (q := 18) rfl rfl ?_
      refine j_iconst (v := 0) dX7_farm_18 (q := 19) rfl (by decide) ?_
      refine j_bipush (v := 30) dX7_farm_19 (q := 21) rfl (by decide) ?_
      refine j_callSi3E (M' := M_X7_within) lk_X7_57 ms_X7_within (by decide) (Nat.le_of_ble_eq_true rfl) dX7_farm_21 (q := 24) rfl (ct_X7_within) ?_
      refine j_ifneB dX7_farm_24 (t := 33) (by decide) (q := 27) rfl (fun c_24 => ?_) (fun c_24 => ?_)
      · skip
        refine j_aload_n dX7_farm_33 (q := 34) rfl rfl ?_
        refine j_getR (r := 8) fs_X7_10 rfl rfl rfl dX7_farm_34 (q := 37) rfl ?_
        refine j_getIV fs_X7_65 rfl rfl e dX7_farm_37 (q := 40) rfl ?_
        refine j_bipush (v := 7) dX7_farm_40 (q := 42) rfl (by decide) ?_
        refine j_icmp_ltN (b := 7) (by omega) (by omega) dX7_farm_42 (t := 51) (by decide) (q := 45) rfl (fun c_42 => ?_) (fun c_42 => ?_)
        · skip
          omega
        · skip
          refine j_aload_n dX7_farm_45 (q := 46) rfl rfl ?_
          refine j_iconst (v := 4) dX7_farm_46 (q := 47) rfl (by decide) ?_
          refine j_callVi1E (M' := M_X7_refuse) lk_X7_61 mv_X7_refuse ob_0 (by decide) (Nat.le_of_ble_eq_true rfl) dX7_farm_47 (q := 50) rfl (ct_ref4) ?_
          refine j_ireti dX7_farm_50 rfl ?_
          exact ⟨rfl, rfl⟩
      · skip
        exact absurd p3 c_24
    · skip
      exact absurd p2 c_14
  · skip
    exact absurd p1 c_4
theorem ct_X8_farm_full {g : GT} {σ : S_} {km s hd : Int32} (p1 : 0 ≤ km ∧ km ≤ 69) (p2 : 1 ≤ s ∧ s ≤ 40) (p3 : 0 ≤ hd ∧ hd ≤ 30) (e : σ 71 5 = nI 7) : CT g 2 M_X8_farm [.ref 70, .int km, .int s, .int hd] σ (EQ (.int (-1000000004)) (rfm σ 4)) := by
  refine ct_of [.ref 70, .int km, .int s, .int hd, .null] pn_X8_farm rfl (Nat.le_of_ble_eq_true rfl) ?_
  refine j_iload_n dX8_farm_0 (q := 1) rfl rfl ?_
  refine j_callSi1E (M' := M_X8_isKind) lk_X8_163 ms_X8_isKind (by decide) (Nat.le_of_ble_eq_true rfl) dX8_farm_1 (q := 4) rfl (ct_X8_isKind) ?_
  refine j_ifeqB dX8_farm_4 (t := 27) (by decide) (q := 7) rfl (fun c_4 => ?_) (fun c_4 => ?_)
  · skip
    refine j_iload_n dX8_farm_7 (q := 8) rfl rfl ?_
    refine j_iconst (v := 1) dX8_farm_8 (q := 9) rfl (by decide) ?_
    refine j_bipush (v := 40) dX8_farm_9 (q := 11) rfl (by decide) ?_
    refine j_callSi3E (M' := M_X8_in) lk_X8_59 ms_X8_in (by decide) (Nat.le_of_ble_eq_true rfl) dX8_farm_11 (q := 14) rfl (ct_X8_in) ?_
    refine j_ifeqB dX8_farm_14 (t := 27) (by decide) (q := 17) rfl (fun c_14 => ?_) (fun c_14 => ?_)
    · skip
      refine j_iload_n dX8_farm_17 (q := 18) rfl rfl ?_
      refine j_iconst (v := 0) dX8_farm_18 (q := 19) rfl (by decide) ?_
      refine j_bipush (v := 30) dX8_farm_19 (q := 21) rfl (by decide) ?_
      refine j_callSi3E (M' := M_X8_in) lk_X8_59 ms_X8_in (by decide) (Nat.le_of_ble_eq_true rfl) dX8_farm_21 (q := 24) rfl (ct_X8_in) ?_
      refine j_ifneB dX8_farm_24 (t := 33) (by decide) (q := 27) rfl (fun c_24 => ?_) (fun c_24 => ?_)
      · skip
        refine j_aload_n dX8_farm_33 (q := 34) rfl rfl ?_
        refine j_getR (r := 71) fs_X8_7 rfl rfl rfl dX8_farm_34 (q := 37) rfl ?_
        refine j_iconst (v := 5) dX8_farm_37 (q := 38) rfl (by decide) ?_
        refine j_ialdV (k := 5) rfl (by decide) e dX8_farm_38 (q := 39) rfl ?_
        refine j_bipush (v := 7) dX8_farm_39 (q := 41) rfl (by decide) ?_
        refine j_icmp_neN (b := 7) (by omega) (by omega) dX8_farm_41 (t := 50) (by decide) (q := 44) rfl (fun c_41 => ?_) (fun c_41 => ?_)
        · skip
          omega
        · skip
          refine j_aload_n dX8_farm_44 (q := 45) rfl rfl ?_
          refine j_iconst (v := 4) dX8_farm_45 (q := 46) rfl (by decide) ?_
          refine j_callVi1E (M' := M_X8_error) lk_X8_63 mv_X8_error ob_70 (by decide) (Nat.le_of_ble_eq_true rfl) dX8_farm_46 (q := 49) rfl (ct_err4) ?_
          refine j_ireti dX8_farm_49 rfl ?_
          exact ⟨rfl, rfl⟩
      · skip
        exact absurd p3 c_24
    · skip
      exact absurd p2 c_14
  · skip
    exact absurd p1 c_4
theorem ct_X7_farm_ok {g : GT} {σ : S_} {km s hd : Int32} (p1 : 0 ≤ km ∧ km ≤ 69) (p2 : 1 ≤ s ∧ s ≤ 40) (p3 : 0 ≤ hd ∧ hd ≤ 30) {n : Nat} (hn : n < 7) (e : σ 8 1 = nI n) : CT g 2 M_X7_farm [.ref 0, .int km, .int s, .int hd] σ (EQ (.int (nI n + 1 - 1)) (up (up (up (up (up (up (up σ (16 + n) 0 (qK km)) (16 + n) 1 (rK km)) (16 + n) 2 s) (16 + n) 3 hd) (16 + n) 4 0) (16 + n) 5 0) 8 1 (nI n + 1))) := by
  refine ct_of [.ref 0, .int km, .int s, .int hd] pn_X7_farm rfl (Nat.le_of_ble_eq_true rfl) ?_
  refine j_iload_n dX7_farm_0 (q := 1) rfl rfl ?_
  refine j_callSi1E (M' := M_X7_isKindAndM) lk_X7_53 ms_X7_isKindAndM (by decide) (Nat.le_of_ble_eq_true rfl) dX7_farm_1 (q := 4) rfl (ct_X7_isKindAndM) ?_
  refine j_ifeqB dX7_farm_4 (t := 27) (by decide) (q := 7) rfl (fun c_4 => ?_) (fun c_4 => ?_)
  · skip
    refine j_iload_n dX7_farm_7 (q := 8) rfl rfl ?_
    refine j_iconst (v := 1) dX7_farm_8 (q := 9) rfl (by decide) ?_
    refine j_bipush (v := 40) dX7_farm_9 (q := 11) rfl (by decide) ?_
    refine j_callSi3E (M' := M_X7_within) lk_X7_57 ms_X7_within (by decide) (Nat.le_of_ble_eq_true rfl) dX7_farm_11 (q := 14) rfl (ct_X7_within) ?_
    refine j_ifeqB dX7_farm_14 (t := 27) (by decide) (q := 17) rfl (fun c_14 => ?_) (fun c_14 => ?_)
    · skip
      refine j_iload_n dX7_farm_17 (q := 18) rfl rfl ?_
      refine j_iconst (v := 0) dX7_farm_18 (q := 19) rfl (by decide) ?_
      refine j_bipush (v := 30) dX7_farm_19 (q := 21) rfl (by decide) ?_
      refine j_callSi3E (M' := M_X7_within) lk_X7_57 ms_X7_within (by decide) (Nat.le_of_ble_eq_true rfl) dX7_farm_21 (q := 24) rfl (ct_X7_within) ?_
      refine j_ifneB dX7_farm_24 (t := 33) (by decide) (q := 27) rfl (fun c_24 => ?_) (fun c_24 => ?_)
      · skip
        refine j_aload_n dX7_farm_33 (q := 34) rfl rfl ?_
        refine j_getR (r := 8) fs_X7_10 rfl rfl rfl dX7_farm_34 (q := 37) rfl ?_
        refine j_getIV fs_X7_65 rfl rfl e dX7_farm_37 (q := 40) rfl ?_
        refine j_bipush (v := 7) dX7_farm_40 (q := 42) rfl (by decide) ?_
        refine j_icmp_ltN (b := 7) (by omega) (by omega) dX7_farm_42 (t := 51) (by decide) (q := 45) rfl (fun c_42 => ?_) (fun c_42 => ?_)
        · skip
          refine j_aload_n dX7_farm_51 (q := 52) rfl rfl ?_
          refine j_getR (r := 8) fs_X7_10 rfl rfl rfl dX7_farm_52 (q := 55) rfl ?_
          refine j_getR (r := 9) fs_X7_69 rfl rfl rfl dX7_farm_55 (q := 58) rfl ?_
          refine j_aload_n dX7_farm_58 (q := 59) rfl rfl ?_
          refine j_getR (r := 8) fs_X7_10 rfl rfl rfl dX7_farm_59 (q := 62) rfl ?_
          refine j_getIV fs_X7_65 rfl rfl e dX7_farm_62 (q := 65) rfl ?_
          refine j_aaldN rfl (by omega) (rf_farm (by omega)) dX7_farm_65 (q := 66) rfl ?_
          refine j_iload_n dX7_farm_66 (q := 67) rfl rfl ?_
          refine j_iload_n dX7_farm_67 (q := 68) rfl rfl ?_
          refine j_iload_n dX7_farm_68 (q := 69) rfl rfl ?_
          refine j_callVv3E (M' := M_X0_begin) lk_X7_73 mv_X0_begin (ob_of (tC_farm (by omega)) rfl) (by decide) (Nat.le_of_ble_eq_true rfl) dX7_farm_69 (q := 72) rfl (ct_X0_begin (tC_farm (by omega))) ?_
          refine j_aload_n dX7_farm_72 (q := 73) rfl rfl ?_
          refine j_getR (r := 8) fs_X7_10 rfl rfl rfl dX7_farm_73 (q := 76) rfl ?_
          refine j_dup dX7_farm_76 (q := 77) rfl rfl ?_
          have e2 : (up (up (up (up (up (up σ (16 + n) 0 (qK km)) (16 + n) 1 (rK km)) (16 + n) 2 s) (16 + n) 3 hd) (16 + n) 4 0) (16 + n) 5 0) 8 1 = nI n := by rw [up_nc, up_nc, up_nc, up_nc, up_nc, up_nc, e] <;> omega
          refine j_getIV fs_X7_65 rfl rfl e2 dX7_farm_77 (q := 80) rfl ?_
          refine j_iconst (v := 1) dX7_farm_80 (q := 81) rfl (by decide) ?_
          refine j_iadd dX7_farm_81 (q := 82) rfl ?_
          refine j_putI fs_X7_65 rfl rfl fp_6_1 dX7_farm_82 (q := 85) rfl ?_
          refine j_aload_n dX7_farm_85 (q := 86) rfl rfl ?_
          refine j_getR (r := 8) fs_X7_10 rfl rfl rfl dX7_farm_86 (q := 89) rfl ?_
          refine j_getI fs_X7_65 rfl rfl dX7_farm_89 (q := 92) rfl ?_
          refine j_iconst (v := 1) dX7_farm_92 (q := 93) rfl (by decide) ?_
          refine j_isub dX7_farm_93 (q := 94) rfl ?_
          refine j_ireti dX7_farm_94 rfl ?_
          exact ⟨rfl, rfl⟩
        · skip
          omega
      · skip
        exact absurd p3 c_24
    · skip
      exact absurd p2 c_14
  · skip
    exact absurd p1 c_4
theorem ct_X8_farm_ok {g : GT} {σ : S_} {km s hd : Int32} (p1 : 0 ≤ km ∧ km ≤ 69) (p2 : 1 ≤ s ∧ s ≤ 40) (p3 : 0 ≤ hd ∧ hd ≤ 30) {n : Nat} (hn : n < 7) (e : σ 71 5 = nI n) : CT g 2 M_X8_farm [.ref 70, .int km, .int s, .int hd] σ (EQ (.int (nI n)) (up (up (up (up (up (up (up σ 71 (10 + 6 * n + 0) (qK km)) 71 (10 + 6 * n + 1) (rK km)) 71 (10 + 6 * n + 2) s) 71 (10 + 6 * n + 3) hd) 71 (10 + 6 * n + 4) 0) 71 (10 + 6 * n + 5) 0) 71 5 (nI n + 1))) := by
  refine ct_of [.ref 70, .int km, .int s, .int hd, .null] pn_X8_farm rfl (Nat.le_of_ble_eq_true rfl) ?_
  refine j_iload_n dX8_farm_0 (q := 1) rfl rfl ?_
  refine j_callSi1E (M' := M_X8_isKind) lk_X8_163 ms_X8_isKind (by decide) (Nat.le_of_ble_eq_true rfl) dX8_farm_1 (q := 4) rfl (ct_X8_isKind) ?_
  refine j_ifeqB dX8_farm_4 (t := 27) (by decide) (q := 7) rfl (fun c_4 => ?_) (fun c_4 => ?_)
  · skip
    refine j_iload_n dX8_farm_7 (q := 8) rfl rfl ?_
    refine j_iconst (v := 1) dX8_farm_8 (q := 9) rfl (by decide) ?_
    refine j_bipush (v := 40) dX8_farm_9 (q := 11) rfl (by decide) ?_
    refine j_callSi3E (M' := M_X8_in) lk_X8_59 ms_X8_in (by decide) (Nat.le_of_ble_eq_true rfl) dX8_farm_11 (q := 14) rfl (ct_X8_in) ?_
    refine j_ifeqB dX8_farm_14 (t := 27) (by decide) (q := 17) rfl (fun c_14 => ?_) (fun c_14 => ?_)
    · skip
      refine j_iload_n dX8_farm_17 (q := 18) rfl rfl ?_
      refine j_iconst (v := 0) dX8_farm_18 (q := 19) rfl (by decide) ?_
      refine j_bipush (v := 30) dX8_farm_19 (q := 21) rfl (by decide) ?_
      refine j_callSi3E (M' := M_X8_in) lk_X8_59 ms_X8_in (by decide) (Nat.le_of_ble_eq_true rfl) dX8_farm_21 (q := 24) rfl (ct_X8_in) ?_
      refine j_ifneB dX8_farm_24 (t := 33) (by decide) (q := 27) rfl (fun c_24 => ?_) (fun c_24 => ?_)
      · skip
        refine j_aload_n dX8_farm_33 (q := 34) rfl rfl ?_
        refine j_getR (r := 71) fs_X8_7 rfl rfl rfl dX8_farm_34 (q := 37) rfl ?_
        refine j_iconst (v := 5) dX8_farm_37 (q := 38) rfl (by decide) ?_
        refine j_ialdV (k := 5) rfl (by decide) e dX8_farm_38 (q := 39) rfl ?_
        refine j_bipush (v := 7) dX8_farm_39 (q := 41) rfl (by decide) ?_
        refine j_icmp_neN (b := 7) (by omega) (by omega) dX8_farm_41 (t := 50) (by decide) (q := 44) rfl (fun c_41 => ?_) (fun c_41 => ?_)
        · skip
          refine j_aload_n dX8_farm_50 (q := 51) rfl rfl ?_
          refine j_getR (r := 71) fs_X8_7 rfl rfl rfl dX8_farm_51 (q := 54) rfl ?_
          refine j_iconst (v := 5) dX8_farm_54 (q := 55) rfl (by decide) ?_
          refine j_ialdV (k := 5) rfl (by decide) e dX8_farm_55 (q := 56) rfl ?_
          refine j_istore_5_4 dX8_farm_56 (q := 58) rfl rfl rfl ?_
          refine j_aload_n dX8_farm_58 (q := 59) rfl rfl ?_
          refine j_iload dX8_farm_59 (q := 61) rfl rfl ?_
          refine j_iconst (v := 0) dX8_farm_61 (q := 62) rfl (by decide) ?_
          refine j_iload_n dX8_farm_62 (q := 63) rfl rfl ?_
          refine j_bipush (v := 10) dX8_farm_63 (q := 65) rfl (by decide) ?_
          refine j_idiv dX8_farm_65 (q := 66) rfl (by decide) ?_
          refine j_callVv3E (M' := M_X8_lays1) lk_X8_149 mv_X8_lays1 ob_70 (by decide) (Nat.le_of_ble_eq_true rfl) dX8_farm_66 (q := 69) rfl (ct_X8_lays1 (k := 0) (by omega) (by decide)) ?_
          refine j_aload_n dX8_farm_69 (q := 70) rfl rfl ?_
          refine j_iload dX8_farm_70 (q := 72) rfl rfl ?_
          refine j_iconst (v := 1) dX8_farm_72 (q := 73) rfl (by decide) ?_
          refine j_iload_n dX8_farm_73 (q := 74) rfl rfl ?_
          refine j_bipush (v := 10) dX8_farm_74 (q := 76) rfl (by decide) ?_
          refine j_irem dX8_farm_76 (q := 77) rfl (by decide) ?_
          refine j_callVv3E (M' := M_X8_lays1) lk_X8_149 mv_X8_lays1 ob_70 (by decide) (Nat.le_of_ble_eq_true rfl) dX8_farm_77 (q := 80) rfl (ct_X8_lays1 (k := 1) (by omega) (by decide)) ?_
          refine j_aload_n dX8_farm_80 (q := 81) rfl rfl ?_
          refine j_iload dX8_farm_81 (q := 83) rfl rfl ?_
          refine j_iconst (v := 2) dX8_farm_83 (q := 84) rfl (by decide) ?_
          refine j_iload_n dX8_farm_84 (q := 85) rfl rfl ?_
          refine j_callVv3E (M' := M_X8_lays1) lk_X8_149 mv_X8_lays1 ob_70 (by decide) (Nat.le_of_ble_eq_true rfl) dX8_farm_85 (q := 88) rfl (ct_X8_lays1 (k := 2) (by omega) (by decide)) ?_
          refine j_aload_n dX8_farm_88 (q := 89) rfl rfl ?_
          refine j_iload dX8_farm_89 (q := 91) rfl rfl ?_
          refine j_iconst (v := 3) dX8_farm_91 (q := 92) rfl (by decide) ?_
          refine j_iload_n dX8_farm_92 (q := 93) rfl rfl ?_
          refine j_callVv3E (M' := M_X8_lays1) lk_X8_149 mv_X8_lays1 ob_70 (by decide) (Nat.le_of_ble_eq_true rfl) dX8_farm_93 (q := 96) rfl (ct_X8_lays1 (k := 3) (by omega) (by decide)) ?_
          refine j_aload_n dX8_farm_96 (q := 97) rfl rfl ?_
          refine j_iload dX8_farm_97 (q := 99) rfl rfl ?_
          refine j_iconst (v := 4) dX8_farm_99 (q := 100) rfl (by decide) ?_
          refine j_iconst (v := 0) dX8_farm_100 (q := 101) rfl (by decide) ?_
          refine j_callVv3E (M' := M_X8_lays1) lk_X8_149 mv_X8_lays1 ob_70 (by decide) (Nat.le_of_ble_eq_true rfl) dX8_farm_101 (q := 104) rfl (ct_X8_lays1 (k := 4) (by omega) (by decide)) ?_
          refine j_aload_n dX8_farm_104 (q := 105) rfl rfl ?_
          refine j_iload dX8_farm_105 (q := 107) rfl rfl ?_
          refine j_iconst (v := 5) dX8_farm_107 (q := 108) rfl (by decide) ?_
          refine j_iconst (v := 0) dX8_farm_108 (q := 109) rfl (by decide) ?_
          refine j_callVv3E (M' := M_X8_lays1) lk_X8_149 mv_X8_lays1 ob_70 (by decide) (Nat.le_of_ble_eq_true rfl) dX8_farm_109 (q := 112) rfl (ct_X8_lays1 (k := 5) (by omega) (by decide)) ?_
          refine j_aload_n dX8_farm_112 (q := 113) rfl rfl ?_
          refine j_getR (r := 71) fs_X8_7 rfl rfl rfl dX8_farm_113 (q := 116) rfl ?_
          refine j_iconst (v := 5) dX8_farm_116 (q := 117) rfl (by decide) ?_
          refine j_dup2 dX8_farm_117 (q := 118) rfl rfl rfl ?_
          have e2 : (up (up (up (up (up (up σ 71 (10 + 6 * n + 0) (qK km)) 71 (10 + 6 * n + 1) (rK km)) 71 (10 + 6 * n + 2) s) 71 (10 + 6 * n + 3) hd) 71 (10 + 6 * n + 4) 0) 71 (10 + 6 * n + 5) 0) 71 5 = nI n := by rw [up_nk, up_nk, up_nk, up_nk, up_nk, up_nk, e] <;> omega
          refine j_ialdV (k := 5) rfl (by decide) e2 dX8_farm_118 (q := 119) rfl ?_
          refine j_iconst (v := 1) dX8_farm_119 (q := 120) rfl (by decide) ?_
          refine j_iadd dX8_farm_120 (q := 121) rfl ?_
          refine j_iastN (k := 5) rfl (by decide) dX8_farm_121 (q := 122) rfl ?_
          refine j_iload dX8_farm_122 (q := 124) rfl rfl ?_
          refine j_ireti dX8_farm_124 rfl ?_
          exact ⟨rfl, rfl⟩
        · skip
          omega
      · skip
        exact absurd p3 c_24
    · skip
      exact absurd p2 c_14
  · skip
    exact absurd p1 c_4
theorem ct_X7_hour_no {g : GT} {σ : S_} {v : Int32} (h : ¬ (0 ≤ v ∧ v ≤ 9999)) : CT g 2 M_X7_hour [.ref 0, .int v] σ (EQ (.int (-1000000001)) (rfz σ 1)) := by
  refine ct_of [.ref 0, .int v, .null] pn_X7_hour rfl (Nat.le_of_ble_eq_true rfl) ?_
  refine j_iload_n dX7_hour_0 (q := 1) rfl rfl ?_
  refine j_iconst (v := 0) dX7_hour_1 (q := 2) rfl (by decide) ?_
  refine j_sipush (v := 9999) dX7_hour_2 (q := 5) rfl (by decide) ?_
  refine j_callSi3E (M' := M_X7_within) lk_X7_57 ms_X7_within (by decide) (Nat.le_of_ble_eq_true rfl) dX7_hour_5 (q := 8) rfl (ct_X7_within) ?_
  refine j_ifneB dX7_hour_8 (t := 17) (by decide) (q := 11) rfl (fun c_8 => ?_) (fun c_8 => ?_)
  · skip
    exact absurd c_8 h
  · skip
    refine j_aload_n dX7_hour_11 (q := 12) rfl rfl ?_
    refine j_iconst (v := 1) dX7_hour_12 (q := 13) rfl (by decide) ?_
    refine j_callVi1E (M' := M_X7_refuse) lk_X7_61 mv_X7_refuse ob_0 (by decide) (Nat.le_of_ble_eq_true rfl) dX7_hour_13 (q := 16) rfl (ct_ref1) ?_
    refine j_ireti dX7_hour_16 rfl ?_
    exact ⟨rfl, rfl⟩
theorem ct_X7_pool_no {g : GT} {σ : S_} {i v : Int32} (h : ¬ ((0 ≤ i ∧ i ≤ 2) ∧ (0 ≤ v ∧ v ≤ 999))) : CT g 2 M_X7_pool [.ref 0, .int i, .int v] σ (EQ (.int (-1000000001)) (rfz σ 1)) := by
  refine ct_of [.ref 0, .int i, .int v, .null] pn_X7_pool rfl (Nat.le_of_ble_eq_true rfl) ?_
  refine j_iload_n dX7_pool_0 (q := 1) rfl rfl ?_
  refine j_callSi1E (M' := M_X7_isPool) lk_X7_131 ms_X7_isPool (by decide) (Nat.le_of_ble_eq_true rfl) dX7_pool_1 (q := 4) rfl (ct_X7_isPool) ?_
  refine j_ifeqB dX7_pool_4 (t := 18) (by decide) (q := 7) rfl (fun c_4 => ?_) (fun c_4 => ?_)
  · skip
    refine j_iload_n dX7_pool_7 (q := 8) rfl rfl ?_
    refine j_iconst (v := 0) dX7_pool_8 (q := 9) rfl (by decide) ?_
    refine j_sipush (v := 999) dX7_pool_9 (q := 12) rfl (by decide) ?_
    refine j_callSi3E (M' := M_X7_within) lk_X7_57 ms_X7_within (by decide) (Nat.le_of_ble_eq_true rfl) dX7_pool_12 (q := 15) rfl (ct_X7_within) ?_
    refine j_ifneB dX7_pool_15 (t := 24) (by decide) (q := 18) rfl (fun c_15 => ?_) (fun c_15 => ?_)
    · skip
      exact absurd ⟨c_4, c_15⟩ h
    · skip
      refine j_aload_n dX7_pool_18 (q := 19) rfl rfl ?_
      refine j_iconst (v := 1) dX7_pool_19 (q := 20) rfl (by decide) ?_
      refine j_callVi1E (M' := M_X7_refuse) lk_X7_61 mv_X7_refuse ob_0 (by decide) (Nat.le_of_ble_eq_true rfl) dX7_pool_20 (q := 23) rfl (ct_ref1) ?_
      refine j_ireti dX7_pool_23 rfl ?_
      exact ⟨rfl, rfl⟩
  · skip
    refine j_aload_n dX7_pool_18 (q := 19) rfl rfl ?_
    refine j_iconst (v := 1) dX7_pool_19 (q := 20) rfl (by decide) ?_
    refine j_callVi1E (M' := M_X7_refuse) lk_X7_61 mv_X7_refuse ob_0 (by decide) (Nat.le_of_ble_eq_true rfl) dX7_pool_20 (q := 23) rfl (ct_ref1) ?_
    refine j_ireti dX7_pool_23 rfl ?_
    exact ⟨rfl, rfl⟩
theorem ct_X8_hour_no {g : GT} {σ : S_} {v : Int32} (h : ¬ (0 ≤ v ∧ v ≤ 9999)) : CT g 2 M_X8_hour [.ref 70, .int v] σ (EQ (.int (-1000000001)) (rfm σ 1)) := by
  refine ct_of [.ref 70, .int v] pn_X8_hour rfl (Nat.le_of_ble_eq_true rfl) ?_
  refine j_iload_n dX8_hour_0 (q := 1) rfl rfl ?_
  refine j_iconst (v := 0) dX8_hour_1 (q := 2) rfl (by decide) ?_
  refine j_sipush (v := 9999) dX8_hour_2 (q := 5) rfl (by decide) ?_
  refine j_callSi3E (M' := M_X8_in) lk_X8_59 ms_X8_in (by decide) (Nat.le_of_ble_eq_true rfl) dX8_hour_5 (q := 8) rfl (ct_X8_in) ?_
  refine j_ifeqB dX8_hour_8 (t := 20) (by decide) (q := 11) rfl (fun c_8 => ?_) (fun c_8 => ?_)
  · skip
    exact absurd c_8 h
  · skip
    refine j_aload_n dX8_hour_20 (q := 21) rfl rfl ?_
    refine j_iconst (v := 1) dX8_hour_21 (q := 22) rfl (by decide) ?_
    refine j_callVi1E (M' := M_X8_error) lk_X8_63 mv_X8_error ob_70 (by decide) (Nat.le_of_ble_eq_true rfl) dX8_hour_22 (q := 25) rfl (ct_err1) ?_
    refine j_ireti dX8_hour_25 rfl ?_
    exact ⟨rfl, rfl⟩
theorem ct_X8_pool_no {g : GT} {σ : S_} {i v : Int32} (h : ¬ ((0 ≤ i ∧ i ≤ 2) ∧ (0 ≤ v ∧ v ≤ 999))) : CT g 2 M_X8_pool [.ref 70, .int i, .int v] σ (EQ (.int (-1000000001)) (rfm σ 1)) := by
  refine ct_of [.ref 70, .int i, .int v] pn_X8_pool rfl (Nat.le_of_ble_eq_true rfl) ?_
  refine j_iload_n dX8_pool_0 (q := 1) rfl rfl ?_
  refine j_iconst (v := 0) dX8_pool_1 (q := 2) rfl (by decide) ?_
  refine j_iconst (v := 2) dX8_pool_2 (q := 3) rfl (by decide) ?_
  refine j_callSi3E (M' := M_X8_in) lk_X8_59 ms_X8_in (by decide) (Nat.le_of_ble_eq_true rfl) dX8_pool_3 (q := 6) rfl (ct_X8_in) ?_
  refine j_ifeqB dX8_pool_6 (t := 32) (by decide) (q := 9) rfl (fun c_6 => ?_) (fun c_6 => ?_)
  · skip
    refine j_iload_n dX8_pool_9 (q := 10) rfl rfl ?_
    refine j_iconst (v := 0) dX8_pool_10 (q := 11) rfl (by decide) ?_
    refine j_sipush (v := 999) dX8_pool_11 (q := 14) rfl (by decide) ?_
    refine j_callSi3E (M' := M_X8_in) lk_X8_59 ms_X8_in (by decide) (Nat.le_of_ble_eq_true rfl) dX8_pool_14 (q := 17) rfl (ct_X8_in) ?_
    refine j_ifeqB dX8_pool_17 (t := 32) (by decide) (q := 20) rfl (fun c_17 => ?_) (fun c_17 => ?_)
    · skip
      exact absurd ⟨c_6, c_17⟩ h
    · skip
      refine j_aload_n dX8_pool_32 (q := 33) rfl rfl ?_
      refine j_iconst (v := 1) dX8_pool_33 (q := 34) rfl (by decide) ?_
      refine j_callVi1E (M' := M_X8_error) lk_X8_63 mv_X8_error ob_70 (by decide) (Nat.le_of_ble_eq_true rfl) dX8_pool_34 (q := 37) rfl (ct_err1) ?_
      refine j_ireti dX8_pool_37 rfl ?_
      exact ⟨rfl, rfl⟩
  · skip
    refine j_aload_n dX8_pool_32 (q := 33) rfl rfl ?_
    refine j_iconst (v := 1) dX8_pool_33 (q := 34) rfl (by decide) ?_
    refine j_callVi1E (M' := M_X8_error) lk_X8_63 mv_X8_error ob_70 (by decide) (Nat.le_of_ble_eq_true rfl) dX8_pool_34 (q := 37) rfl (ct_err1) ?_
    refine j_ireti dX8_pool_37 rfl ?_
    exact ⟨rfl, rfl⟩
theorem ct_X7_hour_ok {g : GT} {σ : S_} {v : Int32} (hv : 0 ≤ v ∧ v ≤ 9999) : CT g 2 M_X7_hour [.ref 0, .int v] σ (EQ (.int (σ 8 6)) (up σ 8 6 v)) := by
  refine ct_of [.ref 0, .int v, .null] pn_X7_hour rfl (Nat.le_of_ble_eq_true rfl) ?_
  refine j_iload_n dX7_hour_0 (q := 1) rfl rfl ?_
  refine j_iconst (v := 0) dX7_hour_1 (q := 2) rfl (by decide) ?_
  refine j_sipush (v := 9999) dX7_hour_2 (q := 5) rfl (by decide) ?_
  refine j_callSi3E (M' := M_X7_within) lk_X7_57 ms_X7_within (by decide) (Nat.le_of_ble_eq_true rfl) dX7_hour_5 (q := 8) rfl (ct_X7_within) ?_
  refine j_ifneB dX7_hour_8 (t := 17) (by decide) (q := 11) rfl (fun c_8 => ?_) (fun c_8 => ?_)
  · skip
    refine j_aload_n dX7_hour_17 (q := 18) rfl rfl ?_
    refine j_getR (r := 8) fs_X7_10 rfl rfl rfl dX7_hour_18 (q := 21) rfl ?_
    refine j_getI fs_X7_100 rfl rfl dX7_hour_21 (q := 24) rfl ?_
    refine j_istore_n_3_2 dX7_hour_24 (q := 25) rfl rfl rfl ?_
    refine j_aload_n dX7_hour_25 (q := 26) rfl rfl ?_
    refine j_getR (r := 8) fs_X7_10 rfl rfl rfl dX7_hour_26 (q := 29) rfl ?_
    refine j_iload_n dX7_hour_29 (q := 30) rfl rfl ?_
    refine j_putI fs_X7_100 rfl rfl fp_6_6 dX7_hour_30 (q := 33) rfl ?_
    refine j_iload_n dX7_hour_33 (q := 34) rfl rfl ?_
    refine j_ireti dX7_hour_34 rfl ?_
    exact ⟨rfl, rfl⟩
  · skip
    exact absurd hv c_8
theorem ct_X8_hour_ok {g : GT} {σ : S_} {v : Int32} (hv : 0 ≤ v ∧ v ≤ 9999) : CT g 2 M_X8_hour [.ref 70, .int v] σ (EQ (.int (σ 71 0)) (up σ 71 0 v)) := by
  refine ct_of [.ref 70, .int v] pn_X8_hour rfl (Nat.le_of_ble_eq_true rfl) ?_
  refine j_iload_n dX8_hour_0 (q := 1) rfl rfl ?_
  refine j_iconst (v := 0) dX8_hour_1 (q := 2) rfl (by decide) ?_
  refine j_sipush (v := 9999) dX8_hour_2 (q := 5) rfl (by decide) ?_
  refine j_callSi3E (M' := M_X8_in) lk_X8_59 ms_X8_in (by decide) (Nat.le_of_ble_eq_true rfl) dX8_hour_5 (q := 8) rfl (ct_X8_in) ?_
  refine j_ifeqB dX8_hour_8 (t := 20) (by decide) (q := 11) rfl (fun c_8 => ?_) (fun c_8 => ?_)
  · skip
    refine j_aload_n dX8_hour_11 (q := 12) rfl rfl ?_
    refine j_iconst (v := 0) dX8_hour_12 (q := 13) rfl (by decide) ?_
    refine j_iload_n dX8_hour_13 (q := 14) rfl rfl ?_
    refine j_callVi2E (M' := M_X8_change1) lk_X8_169 mv_X8_change1 ob_70 (by decide) (Nat.le_of_ble_eq_true rfl) dX8_hour_14 (q := 17) rfl (ct_X8_change1 (k := 0) (by decide)) ?_
    refine j_goto (q := 25) dX8_hour_17 (by decide) ?_
    refine j_ireti dX8_hour_25 rfl ?_
    exact ⟨rfl, rfl⟩
  · skip
    exact absurd hv c_8
theorem ct_X7_seed {g : GT} {σ : S_} {v : Int32} : CT g 0 M_X7_seed [.ref 0, .int v] σ (EQ (.int (σ 8 8)) (up σ 8 8 v)) := by
  refine ct_of [.ref 0, .int v, .null] pn_X7_seed rfl (Nat.le_of_ble_eq_true rfl) ?_
  refine j_aload_n dX7_seed_0 (q := 1) rfl rfl ?_
  refine j_getR (r := 8) fs_X7_10 rfl rfl rfl dX7_seed_1 (q := 4) rfl ?_
  refine j_getI fs_X7_200 rfl rfl dX7_seed_4 (q := 7) rfl ?_
  refine j_istore_n_3_2 dX7_seed_7 (q := 8) rfl rfl rfl ?_
  refine j_aload_n dX7_seed_8 (q := 9) rfl rfl ?_
  refine j_getR (r := 8) fs_X7_10 rfl rfl rfl dX7_seed_9 (q := 12) rfl ?_
  refine j_iload_n dX7_seed_12 (q := 13) rfl rfl ?_
  refine j_putI fs_X7_200 rfl rfl fp_6_8 dX7_seed_13 (q := 16) rfl ?_
  refine j_iload_n dX7_seed_16 (q := 17) rfl rfl ?_
  refine j_ireti dX7_seed_17 rfl ?_
  exact ⟨rfl, rfl⟩
theorem ct_X8_seed {g : GT} {σ : S_} {v : Int32} : CT g 1 M_X8_seed [.ref 70, .int v] σ (EQ (.int (σ 71 2)) (up σ 71 2 v)) := by
  refine ct_of [.ref 70, .int v] pn_X8_seed rfl (Nat.le_of_ble_eq_true rfl) ?_
  refine j_aload_n dX8_seed_0 (q := 1) rfl rfl ?_
  refine j_iconst (v := 2) dX8_seed_1 (q := 2) rfl (by decide) ?_
  refine j_iload_n dX8_seed_2 (q := 3) rfl rfl ?_
  refine j_callVi2E (M' := M_X8_change1) lk_X8_169 mv_X8_change1 ob_70 (by decide) (Nat.le_of_ble_eq_true rfl) dX8_seed_3 (q := 6) rfl (ct_X8_change1 (k := 2) (by decide)) ?_
  refine j_ireti dX8_seed_6 rfl ?_
  exact ⟨rfl, rfl⟩
theorem ct_X7_pool_ok {g : GT} {σ : S_} {i : Nat} {v : Int32} (hi : i < 3) (hv : 0 ≤ v ∧ v ≤ 999) : CT g 2 M_X7_pool [.ref 0, .int (nI i), .int v] σ (EQ (.int (σ 12 i)) (up σ 12 i v)) := by
  refine ct_of [.ref 0, .int (nI i), .int v, .null] pn_X7_pool rfl (Nat.le_of_ble_eq_true rfl) ?_
  refine j_iload_n dX7_pool_0 (q := 1) rfl rfl ?_
  refine j_callSi1E (M' := M_X7_isPool) lk_X7_131 ms_X7_isPool (by decide) (Nat.le_of_ble_eq_true rfl) dX7_pool_1 (q := 4) rfl (ct_X7_isPool) ?_
  refine j_ifeqB dX7_pool_4 (t := 18) (by decide) (q := 7) rfl (fun c_4 => ?_) (fun c_4 => ?_)
  · skip
    refine j_iload_n dX7_pool_7 (q := 8) rfl rfl ?_
    refine j_iconst (v := 0) dX7_pool_8 (q := 9) rfl (by decide) ?_
    refine j_sipush (v := 999) dX7_pool_9 (q := 12) rfl (by decide) ?_
    refine j_callSi3E (M' := M_X7_within) lk_X7_57 ms_X7_within (by decide) (Nat.le_of_ble_eq_true rfl) dX7_pool_12 (q := 15) rfl (ct_X7_within) ?_
    refine j_ifneB dX7_pool_15 (t := 24) (by decide) (q := 18) rfl (fun c_15 => ?_) (fun c_15 => ?_)
    · skip
      refine j_aload_n dX7_pool_24 (q := 25) rfl rfl ?_
      refine j_getR (r := 8) fs_X7_10 rfl rfl rfl dX7_pool_25 (q := 28) rfl ?_
      refine j_getR (r := 12) fs_X7_134 rfl rfl rfl dX7_pool_28 (q := 31) rfl ?_
      refine j_iload_n dX7_pool_31 (q := 32) rfl rfl ?_
      refine j_ialdN rfl (by omega) dX7_pool_32 (q := 33) rfl ?_
      refine j_istore_n_4_3 dX7_pool_33 (q := 34) rfl rfl rfl ?_
      refine j_aload_n dX7_pool_34 (q := 35) rfl rfl ?_
      refine j_getR (r := 8) fs_X7_10 rfl rfl rfl dX7_pool_35 (q := 38) rfl ?_
      refine j_getR (r := 12) fs_X7_134 rfl rfl rfl dX7_pool_38 (q := 41) rfl ?_
      refine j_iload_n dX7_pool_41 (q := 42) rfl rfl ?_
      refine j_iload_n dX7_pool_42 (q := 43) rfl rfl ?_
      refine j_iastN rfl (by omega) dX7_pool_43 (q := 44) rfl ?_
      refine j_iload_n dX7_pool_44 (q := 45) rfl rfl ?_
      refine j_ireti dX7_pool_45 rfl ?_
      exact ⟨rfl, rfl⟩
    · skip
      exact absurd hv c_15
  · skip
    exact absurd (inK (b := 2) (by omega) (by decide)) c_4
theorem ct_X8_pool_ok {g : GT} {σ : S_} {i : Nat} {v : Int32} (hi : i < 3) (hv : 0 ≤ v ∧ v ≤ 999) : CT g 2 M_X8_pool [.ref 70, .int (nI i), .int v] σ (EQ (.int (σ 71 (7 + i))) (up σ 71 (7 + i) v)) := by
  refine ct_of [.ref 70, .int (nI i), .int v] pn_X8_pool rfl (Nat.le_of_ble_eq_true rfl) ?_
  refine j_iload_n dX8_pool_0 (q := 1) rfl rfl ?_
  refine j_iconst (v := 0) dX8_pool_1 (q := 2) rfl (by decide) ?_
  refine j_iconst (v := 2) dX8_pool_2 (q := 3) rfl (by decide) ?_
  refine j_callSi3E (M' := M_X8_in) lk_X8_59 ms_X8_in (by decide) (Nat.le_of_ble_eq_true rfl) dX8_pool_3 (q := 6) rfl (ct_X8_in) ?_
  refine j_ifeqB dX8_pool_6 (t := 32) (by decide) (q := 9) rfl (fun c_6 => ?_) (fun c_6 => ?_)
  · skip
    refine j_iload_n dX8_pool_9 (q := 10) rfl rfl ?_
    refine j_iconst (v := 0) dX8_pool_10 (q := 11) rfl (by decide) ?_
    refine j_sipush (v := 999) dX8_pool_11 (q := 14) rfl (by decide) ?_
    refine j_callSi3E (M' := M_X8_in) lk_X8_59 ms_X8_in (by decide) (Nat.le_of_ble_eq_true rfl) dX8_pool_14 (q := 17) rfl (ct_X8_in) ?_
    refine j_ifeqB dX8_pool_17 (t := 32) (by decide) (q := 20) rfl (fun c_17 => ?_) (fun c_17 => ?_)
    · skip
      refine j_aload_n dX8_pool_20 (q := 21) rfl rfl ?_
      refine j_bipush (v := 7) dX8_pool_21 (q := 23) rfl (by decide) ?_
      refine j_iload_n dX8_pool_23 (q := 24) rfl rfl ?_
      refine j_iaddN (a := 7) dX8_pool_24 (q := 25) rfl ?_
      refine j_iload_n dX8_pool_25 (q := 26) rfl rfl ?_
      refine j_callVi2E (M' := M_X8_change1) lk_X8_169 mv_X8_change1 ob_70 (by decide) (Nat.le_of_ble_eq_true rfl) dX8_pool_26 (q := 29) rfl (ct_X8_change1 (by omega)) ?_
      refine j_goto (q := 37) dX8_pool_29 (by decide) ?_
      refine j_ireti dX8_pool_37 rfl ?_
      exact ⟨rfl, rfl⟩
    · skip
      exact absurd hv c_17
  · skip
    exact absurd (inK (b := 2) (by omega) (by decide)) c_6
theorem ct_X7_told_no {g : GT} {σ : S_} {k : Int32} (h : ¬ (1 ≤ k ∧ k ≤ 6)) : CT g 2 M_X7_told [.ref 0, .int k] σ (EQ (.int (-1000000001)) (rfz σ 1)) := by
  refine ct_of [.ref 0, .int k] pn_X7_told rfl (Nat.le_of_ble_eq_true rfl) ?_
  refine j_iload_n dX7_told_0 (q := 1) rfl rfl ?_
  refine j_iconst (v := 1) dX7_told_1 (q := 2) rfl (by decide) ?_
  refine j_bipush (v := 6) dX7_told_2 (q := 4) rfl (by decide) ?_
  refine j_callSi3E (M' := M_X7_within) lk_X7_57 ms_X7_within (by decide) (Nat.le_of_ble_eq_true rfl) dX7_told_4 (q := 7) rfl (ct_X7_within) ?_
  refine j_ifeqB dX7_told_7 (t := 19) (by decide) (q := 10) rfl (fun c_7 => ?_) (fun c_7 => ?_)
  · skip
    exact absurd c_7 h
  · skip
    refine j_aload_n dX7_told_19 (q := 20) rfl rfl ?_
    refine j_iconst (v := 1) dX7_told_20 (q := 21) rfl (by decide) ?_
    refine j_callVi1E (M' := M_X7_refuse) lk_X7_61 mv_X7_refuse ob_0 (by decide) (Nat.le_of_ble_eq_true rfl) dX7_told_21 (q := 24) rfl (ct_ref1) ?_
    refine j_ireti dX7_told_24 rfl ?_
    exact ⟨rfl, rfl⟩
theorem ct_X7_told_ok {g : GT} {σ : S_} {k : Nat} (h1 : 1 ≤ k) (h6 : k ≤ 6) : CT g 2 M_X7_told [.ref 0, .int (nI k)] σ (EQ (.int (σ 2 k)) σ) := by
  refine ct_of [.ref 0, .int (nI k)] pn_X7_told rfl (Nat.le_of_ble_eq_true rfl) ?_
  refine j_iload_n dX7_told_0 (q := 1) rfl rfl ?_
  refine j_iconst (v := 1) dX7_told_1 (q := 2) rfl (by decide) ?_
  refine j_bipush (v := 6) dX7_told_2 (q := 4) rfl (by decide) ?_
  refine j_callSi3E (M' := M_X7_within) lk_X7_57 ms_X7_within (by decide) (Nat.le_of_ble_eq_true rfl) dX7_told_4 (q := 7) rfl (ct_X7_within) ?_
  refine j_ifeqB dX7_told_7 (t := 19) (by decide) (q := 10) rfl (fun c_7 => ?_) (fun c_7 => ?_)
  · skip
    refine j_aload_n dX7_told_10 (q := 11) rfl rfl ?_
    refine j_getR (r := 2) fs_X7_48 rfl rfl rfl dX7_told_11 (q := 14) rfl ?_
    refine j_iload_n dX7_told_14 (q := 15) rfl rfl ?_
    refine j_ialdN rfl (by omega) dX7_told_15 (q := 16) rfl ?_
    refine j_goto (q := 24) dX7_told_16 (by decide) ?_
    refine j_ireti dX7_told_24 rfl ?_
    exact ⟨rfl, rfl⟩
  · skip
    exact absurd ⟨nI_le (a := 1) h1 (by omega), nI_le (b := 6) h6 (by decide)⟩ c_7
theorem ct_X8_told_no {g : GT} {σ : S_} {k : Int32} (h : ¬ (1 ≤ k ∧ k ≤ 6)) : CT g 2 M_X8_told [.ref 70, .int k] σ (EQ (.int (-1000000001)) (rfm σ 1)) := by
  refine ct_of [.ref 70, .int k] pn_X8_told rfl (Nat.le_of_ble_eq_true rfl) ?_
  refine j_iload_n dX8_told_0 (q := 1) rfl rfl ?_
  refine j_iconst (v := 1) dX8_told_1 (q := 2) rfl (by decide) ?_
  refine j_bipush (v := 6) dX8_told_2 (q := 4) rfl (by decide) ?_
  refine j_callSi3E (M' := M_X8_in) lk_X8_59 ms_X8_in (by decide) (Nat.le_of_ble_eq_true rfl) dX8_told_4 (q := 7) rfl (ct_X8_in) ?_
  refine j_ifeqB dX8_told_7 (t := 19) (by decide) (q := 10) rfl (fun c_7 => ?_) (fun c_7 => ?_)
  · skip
    exact absurd c_7 h
  · skip
    refine j_aload_n dX8_told_19 (q := 20) rfl rfl ?_
    refine j_iconst (v := 1) dX8_told_20 (q := 21) rfl (by decide) ?_
    refine j_callVi1E (M' := M_X8_error) lk_X8_63 mv_X8_error ob_70 (by decide) (Nat.le_of_ble_eq_true rfl) dX8_told_21 (q := 24) rfl (ct_err1) ?_
    refine j_ireti dX8_told_24 rfl ?_
    exact ⟨rfl, rfl⟩
theorem ct_X8_told_ok {g : GT} {σ : S_} {k : Nat} (h1 : 1 ≤ k) (h6 : k ≤ 6) : CT g 2 M_X8_told [.ref 70, .int (nI k)] σ (EQ (.int (σ 74 k)) σ) := by
  refine ct_of [.ref 70, .int (nI k)] pn_X8_told rfl (Nat.le_of_ble_eq_true rfl) ?_
  refine j_iload_n dX8_told_0 (q := 1) rfl rfl ?_
  refine j_iconst (v := 1) dX8_told_1 (q := 2) rfl (by decide) ?_
  refine j_bipush (v := 6) dX8_told_2 (q := 4) rfl (by decide) ?_
  refine j_callSi3E (M' := M_X8_in) lk_X8_59 ms_X8_in (by decide) (Nat.le_of_ble_eq_true rfl) dX8_told_4 (q := 7) rfl (ct_X8_in) ?_
  refine j_ifeqB dX8_told_7 (t := 19) (by decide) (q := 10) rfl (fun c_7 => ?_) (fun c_7 => ?_)
  · skip
    refine j_aload_n dX8_told_10 (q := 11) rfl rfl ?_
    refine j_getR (r := 74) fs_X8_19 rfl rfl rfl dX8_told_11 (q := 14) rfl ?_
    refine j_iload_n dX8_told_14 (q := 15) rfl rfl ?_
    refine j_ialdN rfl (by omega) dX8_told_15 (q := 16) rfl ?_
    refine j_goto (q := 24) dX8_told_16 (by decide) ?_
    refine j_ireti dX8_told_24 rfl ?_
    exact ⟨rfl, rfl⟩
  · skip
    exact absurd ⟨nI_le (a := 1) h1 (by omega), nI_le (b := 6) h6 (by decide)⟩ c_7
theorem ct_X7_body_no {g : GT} {σ : S_} {i : Int32} (h : ¬ (0 ≤ i ∧ i ≤ σ 60 1 - 1)) : CT g 2 M_X7_body [.ref 0, .int i] σ (EQ (.int (-1000000002)) (rfz σ 2)) := by
  refine ct_of [.ref 0, .int i] pn_X7_body rfl (Nat.le_of_ble_eq_true rfl) ?_
  refine j_iload_n dX7_body_0 (q := 1) rfl rfl ?_
  refine j_iconst (v := 0) dX7_body_1 (q := 2) rfl (by decide) ?_
  refine j_aload_n dX7_body_2 (q := 3) rfl rfl ?_
  refine j_getR (r := 60) fs_X7_38 rfl rfl rfl dX7_body_3 (q := 6) rfl ?_
  refine j_getI fs_X7_260 rfl rfl dX7_body_6 (q := 9) rfl ?_
  refine j_iconst (v := 1) dX7_body_9 (q := 10) rfl (by decide) ?_
  refine j_isub dX7_body_10 (q := 11) rfl ?_
  refine j_callSi3E (M' := M_X7_within) lk_X7_57 ms_X7_within (by decide) (Nat.le_of_ble_eq_true rfl) dX7_body_11 (q := 14) rfl (ct_X7_within) ?_
  refine j_ifeqB dX7_body_14 (t := 29) (by decide) (q := 17) rfl (fun c_14 => ?_) (fun c_14 => ?_)
  · skip
    exact absurd c_14 h
  · skip
    refine j_aload_n dX7_body_29 (q := 30) rfl rfl ?_
    refine j_iconst (v := 2) dX7_body_30 (q := 31) rfl (by decide) ?_
    refine j_callVi1E (M' := M_X7_refuse) lk_X7_61 mv_X7_refuse ob_0 (by decide) (Nat.le_of_ble_eq_true rfl) dX7_body_31 (q := 34) rfl (ct_ref2) ?_
    refine j_ireti dX7_body_34 rfl ?_
    exact ⟨rfl, rfl⟩
theorem ct_X7_body_ok {g : GT} {σ : S_} {i b : Nat} (hi : i < b) (hb : b ≤ 30) (e : σ 60 1 = nI b) : CT g 2 M_X7_body [.ref 0, .int (nI i)] σ (EQ (.int (σ 61 i)) σ) := by
  refine ct_of [.ref 0, .int (nI i)] pn_X7_body rfl (Nat.le_of_ble_eq_true rfl) ?_
  refine j_iload_n dX7_body_0 (q := 1) rfl rfl ?_
  refine j_iconst (v := 0) dX7_body_1 (q := 2) rfl (by decide) ?_
  refine j_aload_n dX7_body_2 (q := 3) rfl rfl ?_
  refine j_getR (r := 60) fs_X7_38 rfl rfl rfl dX7_body_3 (q := 6) rfl ?_
  refine j_getI fs_X7_260 rfl rfl dX7_body_6 (q := 9) rfl ?_
  refine j_iconst (v := 1) dX7_body_9 (q := 10) rfl (by decide) ?_
  refine j_isub dX7_body_10 (q := 11) rfl ?_
  refine j_callSi3E (M' := M_X7_within) lk_X7_57 ms_X7_within (by decide) (Nat.le_of_ble_eq_true rfl) dX7_body_11 (q := 14) rfl (ct_X7_within) ?_
  refine j_ifeqB dX7_body_14 (t := 29) (by decide) (q := 17) rfl (fun c_14 => ?_) (fun c_14 => ?_)
  · skip
    refine j_aload_n dX7_body_17 (q := 18) rfl rfl ?_
    refine j_getR (r := 60) fs_X7_38 rfl rfl rfl dX7_body_18 (q := 21) rfl ?_
    refine j_getR (r := 61) fs_X7_263 rfl rfl rfl dX7_body_21 (q := 24) rfl ?_
    refine j_iload_n dX7_body_24 (q := 25) rfl rfl ?_
    refine j_ialdN rfl (by omega) dX7_body_25 (q := 26) rfl ?_
    refine j_goto (q := 34) dX7_body_26 (by decide) ?_
    refine j_ireti dX7_body_34 rfl ?_
    exact ⟨rfl, rfl⟩
  · skip
    exact absurd (inF hi hb e) c_14
theorem ct_X8_body_no {g : GT} {σ : S_} {i : Int32} (h : ¬ (0 ≤ i ∧ i ≤ σ 70 17 - 1)) : CT g 2 M_X8_body [.ref 70, .int i] σ (EQ (.int (-1000000002)) (rfm σ 2)) := by
  refine ct_of [.ref 70, .int i] pn_X8_body rfl (Nat.le_of_ble_eq_true rfl) ?_
  refine j_iload_n dX8_body_0 (q := 1) rfl rfl ?_
  refine j_iconst (v := 0) dX8_body_1 (q := 2) rfl (by decide) ?_
  refine j_aload_n dX8_body_2 (q := 3) rfl rfl ?_
  refine j_getI fs_X8_220 rfl rfl dX8_body_3 (q := 6) rfl ?_
  refine j_iconst (v := 1) dX8_body_6 (q := 7) rfl (by decide) ?_
  refine j_isub dX8_body_7 (q := 8) rfl ?_
  refine j_callSi3E (M' := M_X8_in) lk_X8_59 ms_X8_in (by decide) (Nat.le_of_ble_eq_true rfl) dX8_body_8 (q := 11) rfl (ct_X8_in) ?_
  refine j_ifeqB dX8_body_11 (t := 23) (by decide) (q := 14) rfl (fun c_11 => ?_) (fun c_11 => ?_)
  · skip
    exact absurd c_11 h
  · skip
    refine j_aload_n dX8_body_23 (q := 24) rfl rfl ?_
    refine j_iconst (v := 2) dX8_body_24 (q := 25) rfl (by decide) ?_
    refine j_callVi1E (M' := M_X8_error) lk_X8_63 mv_X8_error ob_70 (by decide) (Nat.le_of_ble_eq_true rfl) dX8_body_25 (q := 28) rfl (ct_err2) ?_
    refine j_ireti dX8_body_28 rfl ?_
    exact ⟨rfl, rfl⟩
theorem ct_X8_body_ok {g : GT} {σ : S_} {i b : Nat} (hi : i < b) (hb : b ≤ 30) (e : σ 70 17 = nI b) : CT g 2 M_X8_body [.ref 70, .int (nI i)] σ (EQ (.int (σ 82 i)) σ) := by
  refine ct_of [.ref 70, .int (nI i)] pn_X8_body rfl (Nat.le_of_ble_eq_true rfl) ?_
  refine j_iload_n dX8_body_0 (q := 1) rfl rfl ?_
  refine j_iconst (v := 0) dX8_body_1 (q := 2) rfl (by decide) ?_
  refine j_aload_n dX8_body_2 (q := 3) rfl rfl ?_
  refine j_getI fs_X8_220 rfl rfl dX8_body_3 (q := 6) rfl ?_
  refine j_iconst (v := 1) dX8_body_6 (q := 7) rfl (by decide) ?_
  refine j_isub dX8_body_7 (q := 8) rfl ?_
  refine j_callSi3E (M' := M_X8_in) lk_X8_59 ms_X8_in (by decide) (Nat.le_of_ble_eq_true rfl) dX8_body_8 (q := 11) rfl (ct_X8_in) ?_
  refine j_ifeqB dX8_body_11 (t := 23) (by decide) (q := 14) rfl (fun c_11 => ?_) (fun c_11 => ?_)
  · skip
    refine j_aload_n dX8_body_14 (q := 15) rfl rfl ?_
    refine j_getR (r := 82) fs_X8_43 rfl rfl rfl dX8_body_15 (q := 18) rfl ?_
    refine j_iload_n dX8_body_18 (q := 19) rfl rfl ?_
    refine j_ialdN rfl (by omega) dX8_body_19 (q := 20) rfl ?_
    refine j_goto (q := 28) dX8_body_20 (by decide) ?_
    refine j_ireti dX8_body_28 rfl ?_
    exact ⟨rfl, rfl⟩
  · skip
    exact absurd (inF hi hb e) c_11
theorem ct_X7_tell_full {g : GT} {σ : S_} {v : Int32} (e : σ 8 13 = nI 24) : CT g 2 M_X7_tell [.ref 0, .int v] σ (EQ (.int (-1000000004)) (rfz σ 4)) := by
  refine ct_of [.ref 0, .int v] pn_X7_tell rfl (Nat.le_of_ble_eq_true rfl) ?_
  refine j_aload_n dX7_tell_0 (q := 1) rfl rfl ?_
  refine j_getR (r := 8) fs_X7_10 rfl rfl rfl dX7_tell_1 (q := 4) rfl ?_
  refine j_getIV fs_X7_298 rfl rfl e dX7_tell_4 (q := 7) rfl ?_
  refine j_bipush (v := 24) dX7_tell_7 (q := 9) rfl (by decide) ?_
  refine j_icmp_ltN (b := 24) (by omega) (by omega) dX7_tell_9 (t := 18) (by decide) (q := 12) rfl (fun c_9 => ?_) (fun c_9 => ?_)
  · skip
    omega
  · skip
    refine j_aload_n dX7_tell_12 (q := 13) rfl rfl ?_
    refine j_iconst (v := 4) dX7_tell_13 (q := 14) rfl (by decide) ?_
    refine j_callVi1E (M' := M_X7_refuse) lk_X7_61 mv_X7_refuse ob_0 (by decide) (Nat.le_of_ble_eq_true rfl) dX7_tell_14 (q := 17) rfl (ct_ref4) ?_
    refine j_ireti dX7_tell_17 rfl ?_
    exact ⟨rfl, rfl⟩
theorem ct_X8_tell_full {g : GT} {σ : S_} {v : Int32} (e : σ 71 4 = nI 24) : CT g 2 M_X8_tell [.ref 70, .int v] σ (EQ (.int (-1000000004)) (rfm σ 4)) := by
  refine ct_of [.ref 70, .int v] pn_X8_tell rfl (Nat.le_of_ble_eq_true rfl) ?_
  refine j_aload_n dX8_tell_0 (q := 1) rfl rfl ?_
  refine j_getR (r := 71) fs_X8_7 rfl rfl rfl dX8_tell_1 (q := 4) rfl ?_
  refine j_iconst (v := 4) dX8_tell_4 (q := 5) rfl (by decide) ?_
  refine j_ialdV (k := 4) rfl (by decide) e dX8_tell_5 (q := 6) rfl ?_
  refine j_bipush (v := 24) dX8_tell_6 (q := 8) rfl (by decide) ?_
  refine j_icmp_neN (b := 24) (by omega) (by omega) dX8_tell_8 (t := 17) (by decide) (q := 11) rfl (fun c_8 => ?_) (fun c_8 => ?_)
  · skip
    omega
  · skip
    refine j_aload_n dX8_tell_11 (q := 12) rfl rfl ?_
    refine j_iconst (v := 4) dX8_tell_12 (q := 13) rfl (by decide) ?_
    refine j_callVi1E (M' := M_X8_error) lk_X8_63 mv_X8_error ob_70 (by decide) (Nat.le_of_ble_eq_true rfl) dX8_tell_13 (q := 16) rfl (ct_err4) ?_
    refine j_ireti dX8_tell_16 rfl ?_
    exact ⟨rfl, rfl⟩
theorem ct_X7_tell_ok {g : GT} {σ : S_} {v : Int32} {n : Nat} (hn : n < 24) (e : σ 8 13 = nI n) : CT g 2 M_X7_tell [.ref 0, .int v] σ (EQ (.int (nI n + 1)) (up (up σ 15 n v) 8 13 (nI n + 1))) := by
  refine ct_of [.ref 0, .int v] pn_X7_tell rfl (Nat.le_of_ble_eq_true rfl) ?_
  refine j_aload_n dX7_tell_0 (q := 1) rfl rfl ?_
  refine j_getR (r := 8) fs_X7_10 rfl rfl rfl dX7_tell_1 (q := 4) rfl ?_
  refine j_getIV fs_X7_298 rfl rfl e dX7_tell_4 (q := 7) rfl ?_
  refine j_bipush (v := 24) dX7_tell_7 (q := 9) rfl (by decide) ?_
  refine j_icmp_ltN (b := 24) (by omega) (by omega) dX7_tell_9 (t := 18) (by decide) (q := 12) rfl (fun c_9 => ?_) (fun c_9 => ?_)
  · skip
    refine j_aload_n dX7_tell_18 (q := 19) rfl rfl ?_
    refine j_getR (r := 8) fs_X7_10 rfl rfl rfl dX7_tell_19 (q := 22) rfl ?_
    refine j_getR (r := 15) fs_X7_301 rfl rfl rfl dX7_tell_22 (q := 25) rfl ?_
    refine j_aload_n dX7_tell_25 (q := 26) rfl rfl ?_
    refine j_getR (r := 8) fs_X7_10 rfl rfl rfl dX7_tell_26 (q := 29) rfl ?_
    refine j_getIV fs_X7_298 rfl rfl e dX7_tell_29 (q := 32) rfl ?_
    refine j_iload_n dX7_tell_32 (q := 33) rfl rfl ?_
    refine j_iastN rfl (by omega) dX7_tell_33 (q := 34) rfl ?_
    refine j_aload_n dX7_tell_34 (q := 35) rfl rfl ?_
    refine j_getR (r := 8) fs_X7_10 rfl rfl rfl dX7_tell_35 (q := 38) rfl ?_
    refine j_dup dX7_tell_38 (q := 39) rfl rfl ?_
    refine j_getIV fs_X7_298 rfl rfl (show (up σ 15 n v) 8 13 = nI n from e) dX7_tell_39 (q := 42) rfl ?_
    refine j_iconst (v := 1) dX7_tell_42 (q := 43) rfl (by decide) ?_
    refine j_iadd dX7_tell_43 (q := 44) rfl ?_
    refine j_putI fs_X7_298 rfl rfl fp_6_13 dX7_tell_44 (q := 47) rfl ?_
    refine j_aload_n dX7_tell_47 (q := 48) rfl rfl ?_
    refine j_getR (r := 8) fs_X7_10 rfl rfl rfl dX7_tell_48 (q := 51) rfl ?_
    refine j_getI fs_X7_298 rfl rfl dX7_tell_51 (q := 54) rfl ?_
    refine j_ireti dX7_tell_54 rfl ?_
    exact ⟨rfl, rfl⟩
  · skip
    omega
theorem ct_X8_tell_ok {g : GT} {σ : S_} {v : Int32} {n : Nat} (hn : n < 24) (e : σ 71 4 = nI n) : CT g 2 M_X8_tell [.ref 70, .int v] σ (EQ (.int (nI n + 1)) (up (up σ 71 (370 + n) v) 71 4 (nI n + 1))) := by
  refine ct_of [.ref 70, .int v] pn_X8_tell rfl (Nat.le_of_ble_eq_true rfl) ?_
  refine j_aload_n dX8_tell_0 (q := 1) rfl rfl ?_
  refine j_getR (r := 71) fs_X8_7 rfl rfl rfl dX8_tell_1 (q := 4) rfl ?_
  refine j_iconst (v := 4) dX8_tell_4 (q := 5) rfl (by decide) ?_
  refine j_ialdV (k := 4) rfl (by decide) e dX8_tell_5 (q := 6) rfl ?_
  refine j_bipush (v := 24) dX8_tell_6 (q := 8) rfl (by decide) ?_
  refine j_icmp_neN (b := 24) (by omega) (by omega) dX8_tell_8 (t := 17) (by decide) (q := 11) rfl (fun c_8 => ?_) (fun c_8 => ?_)
  · skip
    refine j_aload_n dX8_tell_17 (q := 18) rfl rfl ?_
    refine j_getR (r := 71) fs_X8_7 rfl rfl rfl dX8_tell_18 (q := 21) rfl ?_
    refine j_sipush (v := 370) dX8_tell_21 (q := 24) rfl (by decide) ?_
    refine j_aload_n dX8_tell_24 (q := 25) rfl rfl ?_
    refine j_getR (r := 71) fs_X8_7 rfl rfl rfl dX8_tell_25 (q := 28) rfl ?_
    refine j_iconst (v := 4) dX8_tell_28 (q := 29) rfl (by decide) ?_
    refine j_ialdV (k := 4) rfl (by decide) e dX8_tell_29 (q := 30) rfl ?_
    refine j_iaddN (a := 370) dX8_tell_30 (q := 31) rfl ?_
    refine j_iload_n dX8_tell_31 (q := 32) rfl rfl ?_
    refine j_iastN rfl (by omega) dX8_tell_32 (q := 33) rfl ?_
    refine j_aload_n dX8_tell_33 (q := 34) rfl rfl ?_
    refine j_getR (r := 71) fs_X8_7 rfl rfl rfl dX8_tell_34 (q := 37) rfl ?_
    refine j_iconst (v := 4) dX8_tell_37 (q := 38) rfl (by decide) ?_
    refine j_dup2 dX8_tell_38 (q := 39) rfl rfl rfl ?_
    refine j_ialdV (k := 4) rfl (by decide) (show (up σ 71 (370 + n) v) 71 4 = nI n by rw [up_nk (by omega), e]) dX8_tell_39 (q := 40) rfl ?_
    refine j_iconst (v := 1) dX8_tell_40 (q := 41) rfl (by decide) ?_
    refine j_iadd dX8_tell_41 (q := 42) rfl ?_
    refine j_iastN (k := 4) rfl (by decide) dX8_tell_42 (q := 43) rfl ?_
    refine j_aload_n dX8_tell_43 (q := 44) rfl rfl ?_
    refine j_getR (r := 71) fs_X8_7 rfl rfl rfl dX8_tell_44 (q := 47) rfl ?_
    refine j_iconst (v := 4) dX8_tell_47 (q := 48) rfl (by decide) ?_
    refine j_ialdN (k := 4) rfl (by decide) dX8_tell_48 (q := 49) rfl ?_
    refine j_ireti dX8_tell_49 rfl ?_
    exact ⟨rfl, rfl⟩
  · skip
    omega
theorem ct_X7_carrier_no {g : GT} {σ : S_} {b : Int32} (h : ¬ (1 ≤ b ∧ b ≤ 300)) : CT g 2 M_X7_carrier [.ref 0, .int b] σ (EQ (.int (-1000000001)) (rfz σ 1)) := by
  refine ct_of [.ref 0, .int b] pn_X7_carrier rfl (Nat.le_of_ble_eq_true rfl) ?_
  refine j_iload_n dX7_carrier_0 (q := 1) rfl rfl ?_
  refine j_iconst (v := 1) dX7_carrier_1 (q := 2) rfl (by decide) ?_
  refine j_sipush (v := 300) dX7_carrier_2 (q := 5) rfl (by decide) ?_
  refine j_callSi3E (M' := M_X7_within) lk_X7_57 ms_X7_within (by decide) (Nat.le_of_ble_eq_true rfl) dX7_carrier_5 (q := 8) rfl (ct_X7_within) ?_
  refine j_ifneB dX7_carrier_8 (t := 17) (by decide) (q := 11) rfl (fun c_8 => ?_) (fun c_8 => ?_)
  · skip
    exact absurd c_8 h
  · skip
    refine j_aload_n dX7_carrier_11 (q := 12) rfl rfl ?_
    refine j_iconst (v := 1) dX7_carrier_12 (q := 13) rfl (by decide) ?_
    refine j_callVi1E (M' := M_X7_refuse) lk_X7_61 mv_X7_refuse ob_0 (by decide) (Nat.le_of_ble_eq_true rfl) dX7_carrier_13 (q := 16) rfl (ct_ref1) ?_
    refine j_ireti dX7_carrier_16 rfl ?_
    exact ⟨rfl, rfl⟩
theorem ct_X7_carrierIs_no {g : GT} {σ : S_} {c x : Int32} (h : ¬ ((0 ≤ c ∧ c ≤ σ 8 4 - 1) ∧ (0 ≤ x ∧ x ≤ 1))) : CT g 2 M_X7_carrierIs [.ref 0, .int c, .int x] σ (EQ (.int (-1000000001)) (rfz σ 1)) := by
  refine ct_of [.ref 0, .int c, .int x] pn_X7_carrierIs rfl (Nat.le_of_ble_eq_true rfl) ?_
  refine j_aload_n dX7_carrierIs_0 (q := 1) rfl rfl ?_
  refine j_iload_n dX7_carrierIs_1 (q := 2) rfl rfl ?_
  refine j_callVi1E (M' := M_X7_isCarrier) lk_X7_128 mv_X7_isCarrier ob_0 (by decide) (Nat.le_of_ble_eq_true rfl) dX7_carrierIs_2 (q := 5) rfl (ct_X7_isCarrier) ?_
  refine j_ifeqB dX7_carrierIs_5 (t := 17) (by decide) (q := 8) rfl (fun c_5 => ?_) (fun c_5 => ?_)
  · skip
    refine j_iload_n dX7_carrierIs_8 (q := 9) rfl rfl ?_
    refine j_iconst (v := 0) dX7_carrierIs_9 (q := 10) rfl (by decide) ?_
    refine j_iconst (v := 1) dX7_carrierIs_10 (q := 11) rfl (by decide) ?_
    refine j_callSi3E (M' := M_X7_within) lk_X7_57 ms_X7_within (by decide) (Nat.le_of_ble_eq_true rfl) dX7_carrierIs_11 (q := 14) rfl (ct_X7_within) ?_
    refine j_ifneB dX7_carrierIs_14 (t := 23) (by decide) (q := 17) rfl (fun c_14 => ?_) (fun c_14 => ?_)
    · skip
      exact absurd ⟨c_5, c_14⟩ h
    · skip
      refine j_aload_n dX7_carrierIs_17 (q := 18) rfl rfl ?_
      refine j_iconst (v := 1) dX7_carrierIs_18 (q := 19) rfl (by decide) ?_
      refine j_callVi1E (M' := M_X7_refuse) lk_X7_61 mv_X7_refuse ob_0 (by decide) (Nat.le_of_ble_eq_true rfl) dX7_carrierIs_19 (q := 22) rfl (ct_ref1) ?_
      refine j_ireti dX7_carrierIs_22 rfl ?_
      exact ⟨rfl, rfl⟩
  · skip
    refine j_aload_n dX7_carrierIs_17 (q := 18) rfl rfl ?_
    refine j_iconst (v := 1) dX7_carrierIs_18 (q := 19) rfl (by decide) ?_
    refine j_callVi1E (M' := M_X7_refuse) lk_X7_61 mv_X7_refuse ob_0 (by decide) (Nat.le_of_ble_eq_true rfl) dX7_carrierIs_19 (q := 22) rfl (ct_ref1) ?_
    refine j_ireti dX7_carrierIs_22 rfl ?_
    exact ⟨rfl, rfl⟩
theorem ct_X8_carrier_no {g : GT} {σ : S_} {b : Int32} (h : ¬ (1 ≤ b ∧ b ≤ 300)) : CT g 2 M_X8_carrier [.ref 70, .int b] σ (EQ (.int (-1000000001)) (rfm σ 1)) := by
  refine ct_of [.ref 70, .int b, .null] pn_X8_carrier rfl (Nat.le_of_ble_eq_true rfl) ?_
  refine j_iload_n dX8_carrier_0 (q := 1) rfl rfl ?_
  refine j_iconst (v := 1) dX8_carrier_1 (q := 2) rfl (by decide) ?_
  refine j_sipush (v := 300) dX8_carrier_2 (q := 5) rfl (by decide) ?_
  refine j_callSi3E (M' := M_X8_in) lk_X8_59 ms_X8_in (by decide) (Nat.le_of_ble_eq_true rfl) dX8_carrier_5 (q := 8) rfl (ct_X8_in) ?_
  refine j_ifneB dX8_carrier_8 (t := 17) (by decide) (q := 11) rfl (fun c_8 => ?_) (fun c_8 => ?_)
  · skip
    exact absurd c_8 h
  · skip
    refine j_aload_n dX8_carrier_11 (q := 12) rfl rfl ?_
    refine j_iconst (v := 1) dX8_carrier_12 (q := 13) rfl (by decide) ?_
    refine j_callVi1E (M' := M_X8_error) lk_X8_63 mv_X8_error ob_70 (by decide) (Nat.le_of_ble_eq_true rfl) dX8_carrier_13 (q := 16) rfl (ct_err1) ?_
    refine j_ireti dX8_carrier_16 rfl ?_
    exact ⟨rfl, rfl⟩
theorem ct_X8_carrierIs_no {g : GT} {σ : S_} {c x : Int32} (h : ¬ ((0 ≤ c ∧ c ≤ σ 71 6 - 1) ∧ (0 ≤ x ∧ x ≤ 1))) : CT g 2 M_X8_carrierIs [.ref 70, .int c, .int x] σ (EQ (.int (-1000000001)) (rfm σ 1)) := by
  refine ct_of [.ref 70, .int c, .int x] pn_X8_carrierIs rfl (Nat.le_of_ble_eq_true rfl) ?_
  refine j_aload_n dX8_carrierIs_0 (q := 1) rfl rfl ?_
  refine j_iload_n dX8_carrierIs_1 (q := 2) rfl rfl ?_
  refine j_callVi1E (M' := M_X8_isCarrier) lk_X8_175 mv_X8_isCarrier ob_70 (by decide) (Nat.le_of_ble_eq_true rfl) dX8_carrierIs_2 (q := 5) rfl (ct_X8_isCarrier) ?_
  refine j_ifeqB dX8_carrierIs_5 (t := 33) (by decide) (q := 8) rfl (fun c_5 => ?_) (fun c_5 => ?_)
  · skip
    refine j_iload_n dX8_carrierIs_8 (q := 9) rfl rfl ?_
    refine j_iconst (v := 0) dX8_carrierIs_9 (q := 10) rfl (by decide) ?_
    refine j_iconst (v := 1) dX8_carrierIs_10 (q := 11) rfl (by decide) ?_
    refine j_callSi3E (M' := M_X8_in) lk_X8_59 ms_X8_in (by decide) (Nat.le_of_ble_eq_true rfl) dX8_carrierIs_11 (q := 14) rfl (ct_X8_in) ?_
    refine j_ifeqB dX8_carrierIs_14 (t := 33) (by decide) (q := 17) rfl (fun c_14 => ?_) (fun c_14 => ?_)
    · skip
      exact absurd ⟨c_5, c_14⟩ h
    · skip
      refine j_aload_n dX8_carrierIs_33 (q := 34) rfl rfl ?_
      refine j_iconst (v := 1) dX8_carrierIs_34 (q := 35) rfl (by decide) ?_
      refine j_callVi1E (M' := M_X8_error) lk_X8_63 mv_X8_error ob_70 (by decide) (Nat.le_of_ble_eq_true rfl) dX8_carrierIs_35 (q := 38) rfl (ct_err1) ?_
      refine j_ireti dX8_carrierIs_38 rfl ?_
      exact ⟨rfl, rfl⟩
  · skip
    refine j_aload_n dX8_carrierIs_33 (q := 34) rfl rfl ?_
    refine j_iconst (v := 1) dX8_carrierIs_34 (q := 35) rfl (by decide) ?_
    refine j_callVi1E (M' := M_X8_error) lk_X8_63 mv_X8_error ob_70 (by decide) (Nat.le_of_ble_eq_true rfl) dX8_carrierIs_35 (q := 38) rfl (ct_err1) ?_
    refine j_ireti dX8_carrierIs_38 rfl ?_
    exact ⟨rfl, rfl⟩
theorem ct_X7_carrier_full {g : GT} {σ : S_} {b : Int32} (hb : 1 ≤ b ∧ b ≤ 300) (e : σ 8 4 = nI 4) : CT g 2 M_X7_carrier [.ref 0, .int b] σ (EQ (.int (-1000000004)) (rfz σ 4)) := by
  refine ct_of [.ref 0, .int b] pn_X7_carrier rfl (Nat.le_of_ble_eq_true rfl) ?_
  refine j_iload_n dX7_carrier_0 (q := 1) rfl rfl ?_
  refine j_iconst (v := 1) dX7_carrier_1 (q := 2) rfl (by decide) ?_
  refine j_sipush (v := 300) dX7_carrier_2 (q := 5) rfl (by decide) ?_
  refine j_callSi3E (M' := M_X7_within) lk_X7_57 ms_X7_within (by decide) (Nat.le_of_ble_eq_true rfl) dX7_carrier_5 (q := 8) rfl (ct_X7_within) ?_
  refine j_ifneB dX7_carrier_8 (t := 17) (by decide) (q := 11) rfl (fun c_8 => ?_) (fun c_8 => ?_)
  · skip
    refine j_aload_n dX7_carrier_17 (q := 18) rfl rfl ?_
    refine j_getR (r := 8) fs_X7_10 rfl rfl rfl dX7_carrier_18 (q := 21) rfl ?_
    refine j_getIV fs_X7_119 rfl rfl e dX7_carrier_21 (q := 24) rfl ?_
    refine j_iconst (v := 4) dX7_carrier_24 (q := 25) rfl (by decide) ?_
    refine j_icmp_ltN (b := 4) (by omega) (by omega) dX7_carrier_25 (t := 34) (by decide) (q := 28) rfl (fun c_25 => ?_) (fun c_25 => ?_)
    · skip
      omega
    · skip
      refine j_aload_n dX7_carrier_28 (q := 29) rfl rfl ?_
      refine j_iconst (v := 4) dX7_carrier_29 (q := 30) rfl (by decide) ?_
      refine j_callVi1E (M' := M_X7_refuse) lk_X7_61 mv_X7_refuse ob_0 (by decide) (Nat.le_of_ble_eq_true rfl) dX7_carrier_30 (q := 33) rfl (ct_ref4) ?_
      refine j_ireti dX7_carrier_33 rfl ?_
      exact ⟨rfl, rfl⟩
  · skip
    exact absurd hb c_8
theorem ct_X8_carrier_full {g : GT} {σ : S_} {b : Int32} (hb : 1 ≤ b ∧ b ≤ 300) (e : σ 71 6 = nI 4) : CT g 2 M_X8_carrier [.ref 70, .int b] σ (EQ (.int (-1000000004)) (rfm σ 4)) := by
  refine ct_of [.ref 70, .int b, .null] pn_X8_carrier rfl (Nat.le_of_ble_eq_true rfl) ?_
  refine j_iload_n dX8_carrier_0 (q := 1) rfl rfl ?_
  refine j_iconst (v := 1) dX8_carrier_1 (q := 2) rfl (by decide) ?_
  refine j_sipush (v := 300) dX8_carrier_2 (q := 5) rfl (by decide) ?_
  refine j_callSi3E (M' := M_X8_in) lk_X8_59 ms_X8_in (by decide) (Nat.le_of_ble_eq_true rfl) dX8_carrier_5 (q := 8) rfl (ct_X8_in) ?_
  refine j_ifneB dX8_carrier_8 (t := 17) (by decide) (q := 11) rfl (fun c_8 => ?_) (fun c_8 => ?_)
  · skip
    refine j_aload_n dX8_carrier_17 (q := 18) rfl rfl ?_
    refine j_getR (r := 71) fs_X8_7 rfl rfl rfl dX8_carrier_18 (q := 21) rfl ?_
    refine j_bipush (v := 6) dX8_carrier_21 (q := 23) rfl (by decide) ?_
    refine j_ialdV (k := 6) rfl (by decide) e dX8_carrier_23 (q := 24) rfl ?_
    refine j_iconst (v := 4) dX8_carrier_24 (q := 25) rfl (by decide) ?_
    refine j_icmp_neN (b := 4) (by omega) (by omega) dX8_carrier_25 (t := 34) (by decide) (q := 28) rfl (fun c_25 => ?_) (fun c_25 => ?_)
    · skip
      omega
    · skip
      refine j_aload_n dX8_carrier_28 (q := 29) rfl rfl ?_
      refine j_iconst (v := 4) dX8_carrier_29 (q := 30) rfl (by decide) ?_
      refine j_callVi1E (M' := M_X8_error) lk_X8_63 mv_X8_error ob_70 (by decide) (Nat.le_of_ble_eq_true rfl) dX8_carrier_30 (q := 33) rfl (ct_err4) ?_
      refine j_ireti dX8_carrier_33 rfl ?_
      exact ⟨rfl, rfl⟩
  · skip
    exact absurd hb c_8
theorem ct_X7_carrier_ok {g : GT} {σ : S_} {b : Int32} (hb : 1 ≤ b ∧ b ≤ 300) {n : Nat} (hn : n < 4) (e : σ 8 4 = nI n) : CT g 2 M_X7_carrier [.ref 0, .int b] σ (EQ (.int (nI n + 1 - 1)) (up (up (up σ 10 n b) 11 n 0) 8 4 (nI n + 1))) := by
  refine ct_of [.ref 0, .int b] pn_X7_carrier rfl (Nat.le_of_ble_eq_true rfl) ?_
  refine j_iload_n dX7_carrier_0 (q := 1) rfl rfl ?_
  refine j_iconst (v := 1) dX7_carrier_1 (q := 2) rfl (by decide) ?_
  refine j_sipush (v := 300) dX7_carrier_2 (q := 5) rfl (by decide) ?_
  refine j_callSi3E (M' := M_X7_within) lk_X7_57 ms_X7_within (by decide) (Nat.le_of_ble_eq_true rfl) dX7_carrier_5 (q := 8) rfl (ct_X7_within) ?_
  refine j_ifneB dX7_carrier_8 (t := 17) (by decide) (q := 11) rfl (fun c_8 => ?_) (fun c_8 => ?_)
  · skip
    refine j_aload_n dX7_carrier_17 (q := 18) rfl rfl ?_
    refine j_getR (r := 8) fs_X7_10 rfl rfl rfl dX7_carrier_18 (q := 21) rfl ?_
    refine j_getIV fs_X7_119 rfl rfl e dX7_carrier_21 (q := 24) rfl ?_
    refine j_iconst (v := 4) dX7_carrier_24 (q := 25) rfl (by decide) ?_
    refine j_icmp_ltN (b := 4) (by omega) (by omega) dX7_carrier_25 (t := 34) (by decide) (q := 28) rfl (fun c_25 => ?_) (fun c_25 => ?_)
    · skip
      refine j_aload_n dX7_carrier_34 (q := 35) rfl rfl ?_
      refine j_getR (r := 8) fs_X7_10 rfl rfl rfl dX7_carrier_35 (q := 38) rfl ?_
      refine j_getR (r := 10) fs_X7_122 rfl rfl rfl dX7_carrier_38 (q := 41) rfl ?_
      refine j_aload_n dX7_carrier_41 (q := 42) rfl rfl ?_
      refine j_getR (r := 8) fs_X7_10 rfl rfl rfl dX7_carrier_42 (q := 45) rfl ?_
      refine j_getIV fs_X7_119 rfl rfl e dX7_carrier_45 (q := 48) rfl ?_
      refine j_iload_n dX7_carrier_48 (q := 49) rfl rfl ?_
      refine j_iastN rfl (by omega) dX7_carrier_49 (q := 50) rfl ?_
      refine j_aload_n dX7_carrier_50 (q := 51) rfl rfl ?_
      refine j_getR (r := 8) fs_X7_10 rfl rfl rfl dX7_carrier_51 (q := 54) rfl ?_
      refine j_getR (r := 11) fs_X7_125 rfl rfl rfl dX7_carrier_54 (q := 57) rfl ?_
      refine j_aload_n dX7_carrier_57 (q := 58) rfl rfl ?_
      refine j_getR (r := 8) fs_X7_10 rfl rfl rfl dX7_carrier_58 (q := 61) rfl ?_
      refine j_getIV fs_X7_119 rfl rfl (show (up σ 10 n b) 8 4 = nI n from e) dX7_carrier_61 (q := 64) rfl ?_
      refine j_iconst (v := 0) dX7_carrier_64 (q := 65) rfl (by decide) ?_
      refine j_iastN rfl (by omega) dX7_carrier_65 (q := 66) rfl ?_
      refine j_aload_n dX7_carrier_66 (q := 67) rfl rfl ?_
      refine j_getR (r := 8) fs_X7_10 rfl rfl rfl dX7_carrier_67 (q := 70) rfl ?_
      refine j_dup dX7_carrier_70 (q := 71) rfl rfl ?_
      refine j_getIV fs_X7_119 rfl rfl (show (up (up σ 10 n b) 11 n 0) 8 4 = nI n from e) dX7_carrier_71 (q := 74) rfl ?_
      refine j_iconst (v := 1) dX7_carrier_74 (q := 75) rfl (by decide) ?_
      refine j_iadd dX7_carrier_75 (q := 76) rfl ?_
      refine j_putI fs_X7_119 rfl rfl fp_6_4 dX7_carrier_76 (q := 79) rfl ?_
      refine j_aload_n dX7_carrier_79 (q := 80) rfl rfl ?_
      refine j_getR (r := 8) fs_X7_10 rfl rfl rfl dX7_carrier_80 (q := 83) rfl ?_
      refine j_getI fs_X7_119 rfl rfl dX7_carrier_83 (q := 86) rfl ?_
      refine j_iconst (v := 1) dX7_carrier_86 (q := 87) rfl (by decide) ?_
      refine j_isub dX7_carrier_87 (q := 88) rfl ?_
      refine j_ireti dX7_carrier_88 rfl ?_
      exact ⟨rfl, rfl⟩
    · skip
      omega
  · skip
    exact absurd hb c_8
theorem ct_X8_carrier_ok {g : GT} {σ : S_} {b : Int32} (hb : 1 ≤ b ∧ b ≤ 300) {n : Nat} (hn : n < 4) (e : σ 71 6 = nI n) : CT g 2 M_X8_carrier [.ref 70, .int b] σ (EQ (.int (nI n)) (up (up (up σ 71 (52 + 2 * n) b) 71 (52 + 2 * n + 1) 0) 71 6 (nI n + 1))) := by
  refine ct_of [.ref 70, .int b, .null] pn_X8_carrier rfl (Nat.le_of_ble_eq_true rfl) ?_
  refine j_iload_n dX8_carrier_0 (q := 1) rfl rfl ?_
  refine j_iconst (v := 1) dX8_carrier_1 (q := 2) rfl (by decide) ?_
  refine j_sipush (v := 300) dX8_carrier_2 (q := 5) rfl (by decide) ?_
  refine j_callSi3E (M' := M_X8_in) lk_X8_59 ms_X8_in (by decide) (Nat.le_of_ble_eq_true rfl) dX8_carrier_5 (q := 8) rfl (ct_X8_in) ?_
  refine j_ifneB dX8_carrier_8 (t := 17) (by decide) (q := 11) rfl (fun c_8 => ?_) (fun c_8 => ?_)
  · skip
    refine j_aload_n dX8_carrier_17 (q := 18) rfl rfl ?_
    refine j_getR (r := 71) fs_X8_7 rfl rfl rfl dX8_carrier_18 (q := 21) rfl ?_
    refine j_bipush (v := 6) dX8_carrier_21 (q := 23) rfl (by decide) ?_
    refine j_ialdV (k := 6) rfl (by decide) e dX8_carrier_23 (q := 24) rfl ?_
    refine j_iconst (v := 4) dX8_carrier_24 (q := 25) rfl (by decide) ?_
    refine j_icmp_neN (b := 4) (by omega) (by omega) dX8_carrier_25 (t := 34) (by decide) (q := 28) rfl (fun c_25 => ?_) (fun c_25 => ?_)
    · skip
      refine j_aload_n dX8_carrier_34 (q := 35) rfl rfl ?_
      refine j_getR (r := 71) fs_X8_7 rfl rfl rfl dX8_carrier_35 (q := 38) rfl ?_
      refine j_bipush (v := 6) dX8_carrier_38 (q := 40) rfl (by decide) ?_
      refine j_ialdV (k := 6) rfl (by decide) e dX8_carrier_40 (q := 41) rfl ?_
      refine j_istore_n_3_2 dX8_carrier_41 (q := 42) rfl rfl rfl ?_
      refine j_aload_n dX8_carrier_42 (q := 43) rfl rfl ?_
      refine j_getR (r := 71) fs_X8_7 rfl rfl rfl dX8_carrier_43 (q := 46) rfl ?_
      refine j_bipush (v := 52) dX8_carrier_46 (q := 48) rfl (by decide) ?_
      refine j_iconst (v := 2) dX8_carrier_48 (q := 49) rfl (by decide) ?_
      refine j_iload_n dX8_carrier_49 (q := 50) rfl rfl ?_
      refine j_imulN (a := 2) dX8_carrier_50 (q := 51) rfl ?_
      refine j_iaddN (a := 52) dX8_carrier_51 (q := 52) rfl ?_
      refine j_iload_n dX8_carrier_52 (q := 53) rfl rfl ?_
      refine j_iastN rfl (by omega) dX8_carrier_53 (q := 54) rfl ?_
      refine j_aload_n dX8_carrier_54 (q := 55) rfl rfl ?_
      refine j_getR (r := 71) fs_X8_7 rfl rfl rfl dX8_carrier_55 (q := 58) rfl ?_
      refine j_bipush (v := 52) dX8_carrier_58 (q := 60) rfl (by decide) ?_
      refine j_iconst (v := 2) dX8_carrier_60 (q := 61) rfl (by decide) ?_
      refine j_iload_n dX8_carrier_61 (q := 62) rfl rfl ?_
      refine j_imulN (a := 2) dX8_carrier_62 (q := 63) rfl ?_
      refine j_iaddN (a := 52) dX8_carrier_63 (q := 64) rfl ?_
      refine j_iconst (v := 1) dX8_carrier_64 (q := 65) rfl (by decide) ?_
      refine j_iaddN (b := 1) dX8_carrier_65 (q := 66) rfl ?_
      refine j_iconst (v := 0) dX8_carrier_66 (q := 67) rfl (by decide) ?_
      refine j_iastN rfl (by omega) dX8_carrier_67 (q := 68) rfl ?_
      refine j_aload_n dX8_carrier_68 (q := 69) rfl rfl ?_
      refine j_getR (r := 71) fs_X8_7 rfl rfl rfl dX8_carrier_69 (q := 72) rfl ?_
      refine j_bipush (v := 6) dX8_carrier_72 (q := 74) rfl (by decide) ?_
      refine j_dup2 dX8_carrier_74 (q := 75) rfl rfl rfl ?_
      refine j_ialdV (k := 6) rfl (by decide) (show (up (up σ 71 (52 + 2 * n) b) 71 (52 + 2 * n + 1) 0) 71 6 = nI n by rw [up_nk (by omega), up_nk (by omega), e]) dX8_carrier_75 (q := 76) rfl ?_
      refine j_iconst (v := 1) dX8_carrier_76 (q := 77) rfl (by decide) ?_
      refine j_iadd dX8_carrier_77 (q := 78) rfl ?_
      refine j_iastN (k := 6) rfl (by decide) dX8_carrier_78 (q := 79) rfl ?_
      refine j_iload_n dX8_carrier_79 (q := 80) rfl rfl ?_
      refine j_ireti dX8_carrier_80 rfl ?_
      exact ⟨rfl, rfl⟩
    · skip
      omega
  · skip
    exact absurd hb c_8
theorem ct_X7_carrierIs_ok {g : GT} {σ : S_} {c nc : Nat} (hc : c < nc) (h4 : nc ≤ 4) {x : Nat} (hx : x < 2) (e : σ 8 4 = nI nc) : CT g 2 M_X7_carrierIs [.ref 0, .int (nI c), .int (nI x)] σ (EQ (.int (σ (10 + x) c)) σ) := by
  refine ct_of [.ref 0, .int (nI c), .int (nI x)] pn_X7_carrierIs rfl (Nat.le_of_ble_eq_true rfl) ?_
  refine j_aload_n dX7_carrierIs_0 (q := 1) rfl rfl ?_
  refine j_iload_n dX7_carrierIs_1 (q := 2) rfl rfl ?_
  refine j_callVi1E (M' := M_X7_isCarrier) lk_X7_128 mv_X7_isCarrier ob_0 (by decide) (Nat.le_of_ble_eq_true rfl) dX7_carrierIs_2 (q := 5) rfl (ct_X7_isCarrier) ?_
  refine j_ifeqB dX7_carrierIs_5 (t := 17) (by decide) (q := 8) rfl (fun c_5 => ?_) (fun c_5 => ?_)
  · skip
    refine j_iload_n dX7_carrierIs_8 (q := 9) rfl rfl ?_
    refine j_iconst (v := 0) dX7_carrierIs_9 (q := 10) rfl (by decide) ?_
    refine j_iconst (v := 1) dX7_carrierIs_10 (q := 11) rfl (by decide) ?_
    refine j_callSi3E (M' := M_X7_within) lk_X7_57 ms_X7_within (by decide) (Nat.le_of_ble_eq_true rfl) dX7_carrierIs_11 (q := 14) rfl (ct_X7_within) ?_
    refine j_ifneB dX7_carrierIs_14 (t := 23) (by decide) (q := 17) rfl (fun c_14 => ?_) (fun c_14 => ?_)
    · skip
      refine j_iload_n dX7_carrierIs_23 (q := 24) rfl rfl ?_
      refine j_if_neN (by omega) dX7_carrierIs_24 (t := 39) (by decide) (q := 27) rfl (fun c_24 => ?_) (fun c_24 => ?_)
      · skip
        refine j_aload_n dX7_carrierIs_39 (q := 40) rfl rfl ?_
        refine j_getR (r := 8) fs_X7_10 rfl rfl rfl dX7_carrierIs_40 (q := 43) rfl ?_
        refine j_getR (r := 11) fs_X7_125 rfl rfl rfl dX7_carrierIs_43 (q := 46) rfl ?_
        refine j_iload_n dX7_carrierIs_46 (q := 47) rfl rfl ?_
        refine j_ialdN rfl (by omega) dX7_carrierIs_47 (q := 48) rfl ?_
        refine j_ireti dX7_carrierIs_48 rfl ?_
        rcases (show x = 0 ∨ x = 1 by omega) with rfl | rfl <;> first | exact ⟨rfl, rfl⟩ | exact absurd c_24 (by decide)
      · skip
        refine j_aload_n dX7_carrierIs_27 (q := 28) rfl rfl ?_
        refine j_getR (r := 8) fs_X7_10 rfl rfl rfl dX7_carrierIs_28 (q := 31) rfl ?_
        refine j_getR (r := 10) fs_X7_122 rfl rfl rfl dX7_carrierIs_31 (q := 34) rfl ?_
        refine j_iload_n dX7_carrierIs_34 (q := 35) rfl rfl ?_
        refine j_ialdN rfl (by omega) dX7_carrierIs_35 (q := 36) rfl ?_
        refine j_goto (q := 48) dX7_carrierIs_36 (by decide) ?_
        refine j_ireti dX7_carrierIs_48 rfl ?_
        rcases (show x = 0 ∨ x = 1 by omega) with rfl | rfl <;> first | exact ⟨rfl, rfl⟩ | exact absurd c_24 (by decide)
    · skip
      exact absurd (inK (b := 1) (by omega) (by decide)) c_14
  · skip
    exact absurd (inF hc h4 e) c_5
theorem ct_X8_carrierIs_ok {g : GT} {σ : S_} {c nc : Nat} (hc : c < nc) (h4 : nc ≤ 4) {x : Nat} (hx : x < 2) (e : σ 71 6 = nI nc) : CT g 2 M_X8_carrierIs [.ref 70, .int (nI c), .int (nI x)] σ (EQ (.int (σ 71 (52 + 2 * c + x))) σ) := by
  refine ct_of [.ref 70, .int (nI c), .int (nI x)] pn_X8_carrierIs rfl (Nat.le_of_ble_eq_true rfl) ?_
  refine j_aload_n dX8_carrierIs_0 (q := 1) rfl rfl ?_
  refine j_iload_n dX8_carrierIs_1 (q := 2) rfl rfl ?_
  refine j_callVi1E (M' := M_X8_isCarrier) lk_X8_175 mv_X8_isCarrier ob_70 (by decide) (Nat.le_of_ble_eq_true rfl) dX8_carrierIs_2 (q := 5) rfl (ct_X8_isCarrier) ?_
  refine j_ifeqB dX8_carrierIs_5 (t := 33) (by decide) (q := 8) rfl (fun c_5 => ?_) (fun c_5 => ?_)
  · skip
    refine j_iload_n dX8_carrierIs_8 (q := 9) rfl rfl ?_
    refine j_iconst (v := 0) dX8_carrierIs_9 (q := 10) rfl (by decide) ?_
    refine j_iconst (v := 1) dX8_carrierIs_10 (q := 11) rfl (by decide) ?_
    refine j_callSi3E (M' := M_X8_in) lk_X8_59 ms_X8_in (by decide) (Nat.le_of_ble_eq_true rfl) dX8_carrierIs_11 (q := 14) rfl (ct_X8_in) ?_
    refine j_ifeqB dX8_carrierIs_14 (t := 33) (by decide) (q := 17) rfl (fun c_14 => ?_) (fun c_14 => ?_)
    · skip
      refine j_aload_n dX8_carrierIs_17 (q := 18) rfl rfl ?_
      refine j_getR (r := 71) fs_X8_7 rfl rfl rfl dX8_carrierIs_18 (q := 21) rfl ?_
      refine j_bipush (v := 52) dX8_carrierIs_21 (q := 23) rfl (by decide) ?_
      refine j_iconst (v := 2) dX8_carrierIs_23 (q := 24) rfl (by decide) ?_
      refine j_iload_n dX8_carrierIs_24 (q := 25) rfl rfl ?_
      refine j_imulN (a := 2) dX8_carrierIs_25 (q := 26) rfl ?_
      refine j_iaddN (a := 52) dX8_carrierIs_26 (q := 27) rfl ?_
      refine j_iload_n dX8_carrierIs_27 (q := 28) rfl rfl ?_
      refine j_iaddN dX8_carrierIs_28 (q := 29) rfl ?_
      refine j_ialdN rfl (by omega) dX8_carrierIs_29 (q := 30) rfl ?_
      refine j_goto (q := 38) dX8_carrierIs_30 (by decide) ?_
      refine j_ireti dX8_carrierIs_38 rfl ?_
      exact ⟨rfl, rfl⟩
    · skip
      exact absurd (inK (b := 1) (by omega) (by decide)) c_14
  · skip
    exact absurd (inF hc h4 e) c_5
theorem ct_X7_swap_no {g : GT} {σ : S_} {a b : Int32} (h : ¬ ((0 ≤ a ∧ a ≤ σ 8 1 - 1) ∧ (0 ≤ b ∧ b ≤ σ 8 1 - 1) ∧ ¬ a = b)) : CT g 2 M_X7_swap [.ref 0, .int a, .int b] σ (EQ (.int (-1000000001)) (rfz σ 1)) := by
  refine ct_of [.ref 0, .int a, .int b, .null] pn_X7_swap rfl (Nat.le_of_ble_eq_true rfl) ?_
  refine j_aload_n dX7_swap_0 (q := 1) rfl rfl ?_
  refine j_iload_n dX7_swap_1 (q := 2) rfl rfl ?_
  refine j_callVi1E (M' := M_X7_isFarm) lk_X7_79 mv_X7_isFarm ob_0 (by decide) (Nat.le_of_ble_eq_true rfl) dX7_swap_2 (q := 5) rfl (ct_X7_isFarm) ?_
  refine j_ifeqB dX7_swap_5 (t := 21) (by decide) (q := 8) rfl (fun c_5 => ?_) (fun c_5 => ?_)
  · skip
    refine j_aload_n dX7_swap_8 (q := 9) rfl rfl ?_
    refine j_iload_n dX7_swap_9 (q := 10) rfl rfl ?_
    refine j_callVi1E (M' := M_X7_isFarm) lk_X7_79 mv_X7_isFarm ob_0 (by decide) (Nat.le_of_ble_eq_true rfl) dX7_swap_10 (q := 13) rfl (ct_X7_isFarm) ?_
    refine j_ifeqB dX7_swap_13 (t := 21) (by decide) (q := 16) rfl (fun c_13 => ?_) (fun c_13 => ?_)
    · skip
      refine j_iload_n dX7_swap_16 (q := 17) rfl rfl ?_
      refine j_iload_n dX7_swap_17 (q := 18) rfl rfl ?_
      refine j_icmp_ne dX7_swap_18 (t := 27) (by decide) (q := 21) rfl (fun c_18 => ?_) (fun c_18 => ?_)
      · skip
        exact absurd ⟨c_5, c_13, c_18⟩ h
      · skip
        refine j_aload_n dX7_swap_21 (q := 22) rfl rfl ?_
        refine j_iconst (v := 1) dX7_swap_22 (q := 23) rfl (by decide) ?_
        refine j_callVi1E (M' := M_X7_refuse) lk_X7_61 mv_X7_refuse ob_0 (by decide) (Nat.le_of_ble_eq_true rfl) dX7_swap_23 (q := 26) rfl (ct_ref1) ?_
        refine j_ireti dX7_swap_26 rfl ?_
        exact ⟨rfl, rfl⟩
    · skip
      refine j_aload_n dX7_swap_21 (q := 22) rfl rfl ?_
      refine j_iconst (v := 1) dX7_swap_22 (q := 23) rfl (by decide) ?_
      refine j_callVi1E (M' := M_X7_refuse) lk_X7_61 mv_X7_refuse ob_0 (by decide) (Nat.le_of_ble_eq_true rfl) dX7_swap_23 (q := 26) rfl (ct_ref1) ?_
      refine j_ireti dX7_swap_26 rfl ?_
      exact ⟨rfl, rfl⟩
  · skip
    refine j_aload_n dX7_swap_21 (q := 22) rfl rfl ?_
    refine j_iconst (v := 1) dX7_swap_22 (q := 23) rfl (by decide) ?_
    refine j_callVi1E (M' := M_X7_refuse) lk_X7_61 mv_X7_refuse ob_0 (by decide) (Nat.le_of_ble_eq_true rfl) dX7_swap_23 (q := 26) rfl (ct_ref1) ?_
    refine j_ireti dX7_swap_26 rfl ?_
    exact ⟨rfl, rfl⟩
theorem ct_X8_swap_no {g : GT} {σ : S_} {a b : Int32} (h : ¬ ((0 ≤ a ∧ a ≤ σ 71 5 - 1) ∧ (0 ≤ b ∧ b ≤ σ 71 5 - 1) ∧ ¬ a = b)) : CT g 2 M_X8_swap [.ref 70, .int a, .int b] σ (EQ (.int (-1000000001)) (rfm σ 1)) := by
  refine ct_of [.ref 70, .int a, .int b, .null] pn_X8_swap rfl (Nat.le_of_ble_eq_true rfl) ?_
  refine j_aload_n dX8_swap_0 (q := 1) rfl rfl ?_
  refine j_iload_n dX8_swap_1 (q := 2) rfl rfl ?_
  refine j_callVi1E (M' := M_X8_isFarm) lk_X8_166 mv_X8_isFarm ob_70 (by decide) (Nat.le_of_ble_eq_true rfl) dX8_swap_2 (q := 5) rfl (ct_X8_isFarm) ?_
  refine j_ifeqB dX8_swap_5 (t := 21) (by decide) (q := 8) rfl (fun c_5 => ?_) (fun c_5 => ?_)
  · skip
    refine j_aload_n dX8_swap_8 (q := 9) rfl rfl ?_
    refine j_iload_n dX8_swap_9 (q := 10) rfl rfl ?_
    refine j_callVi1E (M' := M_X8_isFarm) lk_X8_166 mv_X8_isFarm ob_70 (by decide) (Nat.le_of_ble_eq_true rfl) dX8_swap_10 (q := 13) rfl (ct_X8_isFarm) ?_
    refine j_ifeqB dX8_swap_13 (t := 21) (by decide) (q := 16) rfl (fun c_13 => ?_) (fun c_13 => ?_)
    · skip
      refine j_iload_n dX8_swap_16 (q := 17) rfl rfl ?_
      refine j_iload_n dX8_swap_17 (q := 18) rfl rfl ?_
      refine j_icmp_ne dX8_swap_18 (t := 27) (by decide) (q := 21) rfl (fun c_18 => ?_) (fun c_18 => ?_)
      · skip
        exact absurd ⟨c_5, c_13, c_18⟩ h
      · skip
        refine j_aload_n dX8_swap_21 (q := 22) rfl rfl ?_
        refine j_iconst (v := 1) dX8_swap_22 (q := 23) rfl (by decide) ?_
        refine j_callVi1E (M' := M_X8_error) lk_X8_63 mv_X8_error ob_70 (by decide) (Nat.le_of_ble_eq_true rfl) dX8_swap_23 (q := 26) rfl (ct_err1) ?_
        refine j_ireti dX8_swap_26 rfl ?_
        exact ⟨rfl, rfl⟩
    · skip
      refine j_aload_n dX8_swap_21 (q := 22) rfl rfl ?_
      refine j_iconst (v := 1) dX8_swap_22 (q := 23) rfl (by decide) ?_
      refine j_callVi1E (M' := M_X8_error) lk_X8_63 mv_X8_error ob_70 (by decide) (Nat.le_of_ble_eq_true rfl) dX8_swap_23 (q := 26) rfl (ct_err1) ?_
      refine j_ireti dX8_swap_26 rfl ?_
      exact ⟨rfl, rfl⟩
  · skip
    refine j_aload_n dX8_swap_21 (q := 22) rfl rfl ?_
    refine j_iconst (v := 1) dX8_swap_22 (q := 23) rfl (by decide) ?_
    refine j_callVi1E (M' := M_X8_error) lk_X8_63 mv_X8_error ob_70 (by decide) (Nat.le_of_ble_eq_true rfl) dX8_swap_23 (q := 26) rfl (ct_err1) ?_
    refine j_ireti dX8_swap_26 rfl ?_
    exact ⟨rfl, rfl⟩
theorem ct_X7_swap_ok {g : GT} {σ : S_} {n k nf : Nat} (hn : n < nf) (hk : k < nf) (hnk : n ≠ k) (h7 : nf ≤ 7) (e : σ 8 1 = nI nf) : CT g 2 M_X7_swap [.ref 0, .int (nI n), .int (nI k)] σ (EQ (.int (up (up σ (16 + n) 4 (σ (16 + k) 4)) (16 + k) 4 (σ (16 + n) 4) (16 + n) 4)) (up (up σ (16 + n) 4 (σ (16 + k) 4)) (16 + k) 4 (σ (16 + n) 4))) := by
  refine ct_of [.ref 0, .int (nI n), .int (nI k), .null] pn_X7_swap rfl (Nat.le_of_ble_eq_true rfl) ?_
  refine j_aload_n dX7_swap_0 (q := 1) rfl rfl ?_
  refine j_iload_n dX7_swap_1 (q := 2) rfl rfl ?_
  refine j_callVi1E (M' := M_X7_isFarm) lk_X7_79 mv_X7_isFarm ob_0 (by decide) (Nat.le_of_ble_eq_true rfl) dX7_swap_2 (q := 5) rfl (ct_X7_isFarm) ?_
  refine j_ifeqB dX7_swap_5 (t := 21) (by decide) (q := 8) rfl (fun c_5 => ?_) (fun c_5 => ?_)
  · skip
    refine j_aload_n dX7_swap_8 (q := 9) rfl rfl ?_
    refine j_iload_n dX7_swap_9 (q := 10) rfl rfl ?_
    refine j_callVi1E (M' := M_X7_isFarm) lk_X7_79 mv_X7_isFarm ob_0 (by decide) (Nat.le_of_ble_eq_true rfl) dX7_swap_10 (q := 13) rfl (ct_X7_isFarm) ?_
    refine j_ifeqB dX7_swap_13 (t := 21) (by decide) (q := 16) rfl (fun c_13 => ?_) (fun c_13 => ?_)
    · skip
      refine j_iload_n dX7_swap_16 (q := 17) rfl rfl ?_
      refine j_iload_n dX7_swap_17 (q := 18) rfl rfl ?_
      refine j_icmp_neN (by omega) (by omega) dX7_swap_18 (t := 27) (by decide) (q := 21) rfl (fun c_18 => ?_) (fun c_18 => ?_)
      · skip
        refine j_aload_n dX7_swap_27 (q := 28) rfl rfl ?_
        refine j_getR (r := 8) fs_X7_10 rfl rfl rfl dX7_swap_28 (q := 31) rfl ?_
        refine j_getR (r := 9) fs_X7_69 rfl rfl rfl dX7_swap_31 (q := 34) rfl ?_
        refine j_iload_n dX7_swap_34 (q := 35) rfl rfl ?_
        refine j_aaldN rfl (by omega) (rf_farm (by omega)) dX7_swap_35 (q := 36) rfl ?_
        refine j_getI fs_X7_94 (tC_farm (by omega)) rfl dX7_swap_36 (q := 39) rfl ?_
        refine j_istore_n_4_3 dX7_swap_39 (q := 40) rfl rfl rfl ?_
        refine j_aload_n dX7_swap_40 (q := 41) rfl rfl ?_
        refine j_getR (r := 8) fs_X7_10 rfl rfl rfl dX7_swap_41 (q := 44) rfl ?_
        refine j_getR (r := 9) fs_X7_69 rfl rfl rfl dX7_swap_44 (q := 47) rfl ?_
        refine j_iload_n dX7_swap_47 (q := 48) rfl rfl ?_
        refine j_aaldN rfl (by omega) (rf_farm (by omega)) dX7_swap_48 (q := 49) rfl ?_
        refine j_aload_n dX7_swap_49 (q := 50) rfl rfl ?_
        refine j_getR (r := 8) fs_X7_10 rfl rfl rfl dX7_swap_50 (q := 53) rfl ?_
        refine j_getR (r := 9) fs_X7_69 rfl rfl rfl dX7_swap_53 (q := 56) rfl ?_
        refine j_iload_n dX7_swap_56 (q := 57) rfl rfl ?_
        refine j_aaldN rfl (by omega) (rf_farm (by omega)) dX7_swap_57 (q := 58) rfl ?_
        refine j_getI fs_X7_94 (tC_farm (by omega)) rfl dX7_swap_58 (q := 61) rfl ?_
        refine j_putI fs_X7_94 (tC_farm (by omega)) rfl fp_0_4 dX7_swap_61 (q := 64) rfl ?_
        refine j_aload_n dX7_swap_64 (q := 65) rfl rfl ?_
        refine j_getR (r := 8) fs_X7_10 rfl rfl rfl dX7_swap_65 (q := 68) rfl ?_
        refine j_getR (r := 9) fs_X7_69 rfl rfl rfl dX7_swap_68 (q := 71) rfl ?_
        refine j_iload_n dX7_swap_71 (q := 72) rfl rfl ?_
        refine j_aaldN rfl (by omega) (rf_farm (by omega)) dX7_swap_72 (q := 73) rfl ?_
        refine j_iload_n dX7_swap_73 (q := 74) rfl rfl ?_
        refine j_putI fs_X7_94 (tC_farm (by omega)) rfl fp_0_4 dX7_swap_74 (q := 77) rfl ?_
        refine j_aload_n dX7_swap_77 (q := 78) rfl rfl ?_
        refine j_getR (r := 8) fs_X7_10 rfl rfl rfl dX7_swap_78 (q := 81) rfl ?_
        refine j_getR (r := 9) fs_X7_69 rfl rfl rfl dX7_swap_81 (q := 84) rfl ?_
        refine j_iload_n dX7_swap_84 (q := 85) rfl rfl ?_
        refine j_aaldN rfl (by omega) (rf_farm (by omega)) dX7_swap_85 (q := 86) rfl ?_
        refine j_getI fs_X7_94 (tC_farm (by omega)) rfl dX7_swap_86 (q := 89) rfl ?_
        refine j_ireti dX7_swap_89 rfl ?_
        exact ⟨rfl, rfl⟩
      · skip
        exact absurd c_18 hnk
    · skip
      exact absurd (inF hk h7 e) c_13
  · skip
    exact absurd (inF hn h7 e) c_5
theorem ct_X8_swap_ok {g : GT} {σ : S_} {n k nf : Nat} (hn : n < nf) (hk : k < nf) (hnk : n ≠ k) (h7 : nf ≤ 7) (e : σ 71 5 = nI nf) : CT g 2 M_X8_swap [.ref 70, .int (nI n), .int (nI k)] σ (EQ (.int (up (up σ 71 (10 + 6 * n + 4) (σ 71 (10 + 6 * k + 4))) 71 (10 + 6 * k + 4) (σ 71 (10 + 6 * n + 4)) 71 (10 + 6 * n + 4))) (up (up σ 71 (10 + 6 * n + 4) (σ 71 (10 + 6 * k + 4))) 71 (10 + 6 * k + 4) (σ 71 (10 + 6 * n + 4)))) := by
  refine ct_of [.ref 70, .int (nI n), .int (nI k), .null] pn_X8_swap rfl (Nat.le_of_ble_eq_true rfl) ?_
  refine j_aload_n dX8_swap_0 (q := 1) rfl rfl ?_
  refine j_iload_n dX8_swap_1 (q := 2) rfl rfl ?_
  refine j_callVi1E (M' := M_X8_isFarm) lk_X8_166 mv_X8_isFarm ob_70 (by decide) (Nat.le_of_ble_eq_true rfl) dX8_swap_2 (q := 5) rfl (ct_X8_isFarm) ?_
  refine j_ifeqB dX8_swap_5 (t := 21) (by decide) (q := 8) rfl (fun c_5 => ?_) (fun c_5 => ?_)
  · skip
    refine j_aload_n dX8_swap_8 (q := 9) rfl rfl ?_
    refine j_iload_n dX8_swap_9 (q := 10) rfl rfl ?_
    refine j_callVi1E (M' := M_X8_isFarm) lk_X8_166 mv_X8_isFarm ob_70 (by decide) (Nat.le_of_ble_eq_true rfl) dX8_swap_10 (q := 13) rfl (ct_X8_isFarm) ?_
    refine j_ifeqB dX8_swap_13 (t := 21) (by decide) (q := 16) rfl (fun c_13 => ?_) (fun c_13 => ?_)
    · skip
      refine j_iload_n dX8_swap_16 (q := 17) rfl rfl ?_
      refine j_iload_n dX8_swap_17 (q := 18) rfl rfl ?_
      refine j_icmp_neN (by omega) (by omega) dX8_swap_18 (t := 27) (by decide) (q := 21) rfl (fun c_18 => ?_) (fun c_18 => ?_)
      · skip
        refine j_aload_n dX8_swap_27 (q := 28) rfl rfl ?_
        refine j_iload_n dX8_swap_28 (q := 29) rfl rfl ?_
        refine j_iconst (v := 4) dX8_swap_29 (q := 30) rfl (by decide) ?_
        refine j_callVi2E (M' := M_X8_its) lk_X8_123 mv_X8_its ob_70 (by decide) (Nat.le_of_ble_eq_true rfl) dX8_swap_30 (q := 33) rfl (ct_X8_its (k := 4) (by omega) (by decide)) ?_
        refine j_istore_n_4_3 dX8_swap_33 (q := 34) rfl rfl rfl ?_
        refine j_aload_n dX8_swap_34 (q := 35) rfl rfl ?_
        refine j_iload_n dX8_swap_35 (q := 36) rfl rfl ?_
        refine j_iconst (v := 4) dX8_swap_36 (q := 37) rfl (by decide) ?_
        refine j_aload_n dX8_swap_37 (q := 38) rfl rfl ?_
        refine j_iload_n dX8_swap_38 (q := 39) rfl rfl ?_
        refine j_iconst (v := 4) dX8_swap_39 (q := 40) rfl (by decide) ?_
        refine j_callVi2E (M' := M_X8_its) lk_X8_123 mv_X8_its ob_70 (by decide) (Nat.le_of_ble_eq_true rfl) dX8_swap_40 (q := 43) rfl (ct_X8_its (k := 4) (by omega) (by decide)) ?_
        refine j_callVv3E (M' := M_X8_lays1) lk_X8_149 mv_X8_lays1 ob_70 (by decide) (Nat.le_of_ble_eq_true rfl) dX8_swap_43 (q := 46) rfl (ct_X8_lays1 (k := 4) (by omega) (by decide)) ?_
        refine j_aload_n dX8_swap_46 (q := 47) rfl rfl ?_
        refine j_iload_n dX8_swap_47 (q := 48) rfl rfl ?_
        refine j_iconst (v := 4) dX8_swap_48 (q := 49) rfl (by decide) ?_
        refine j_iload_n dX8_swap_49 (q := 50) rfl rfl ?_
        refine j_callVv3E (M' := M_X8_lays1) lk_X8_149 mv_X8_lays1 ob_70 (by decide) (Nat.le_of_ble_eq_true rfl) dX8_swap_50 (q := 53) rfl (ct_X8_lays1 (k := 4) (by omega) (by decide)) ?_
        refine j_aload_n dX8_swap_53 (q := 54) rfl rfl ?_
        refine j_iload_n dX8_swap_54 (q := 55) rfl rfl ?_
        refine j_iconst (v := 4) dX8_swap_55 (q := 56) rfl (by decide) ?_
        refine j_callVi2E (M' := M_X8_its) lk_X8_123 mv_X8_its ob_70 (by decide) (Nat.le_of_ble_eq_true rfl) dX8_swap_56 (q := 59) rfl (ct_X8_its (k := 4) (by omega) (by decide)) ?_
        refine j_ireti dX8_swap_59 rfl ?_
        exact ⟨rfl, rfl⟩
      · skip
        exact absurd c_18 hnk
    · skip
      exact absurd (inF hk h7 e) c_13
  · skip
    exact absurd (inF hn h7 e) c_5
def cntZ7 (σ : S_) (x : Int32) : Value → S_ → Prop := if x = 0 then EQ (.int (σ 8 1)) σ else if x = 1 then EQ (.int (σ 8 4)) σ else if x = 2 then EQ (.int (σ 8 6)) σ else if x = 3 then EQ (.int (σ 8 7)) σ else if x = 4 then EQ (.int (σ 8 10)) σ else if x = 5 then EQ (.int (σ 8 13)) σ else if x = 6 then EQ (.int (σ 60 1)) σ else if x = 7 then EQ (.int (σ 8 8)) σ else EQ (.int (-1000000001)) (rfz σ 1)
theorem ct_X7_count {g : GT} {σ : S_} {x : Int32} : CT g 2 M_X7_count [.ref 0, .int x] σ (cntZ7 σ x) := by
  refine ct_of [.ref 0, .int x] pn_X7_count rfl (Nat.le_of_ble_eq_true rfl) ?_
  refine j_iload_n dX7_count_0 (q := 1) rfl rfl ?_
  refine j_tsw_0_7 dX7_count_1 (td := 112) (t0 := 48) (t1 := 56) (t2 := 64) (t3 := 72) (t4 := 80) (t5 := 88) (t6 := 96) (t7 := 104) (by decide) (by decide) (by decide) (by decide) (by decide) (by decide) (by decide) (by decide) (by decide) (fun e_1 => ?_) (fun e_1 => ?_) (fun e_1 => ?_) (fun e_1 => ?_) (fun e_1 => ?_) (fun e_1 => ?_) (fun e_1 => ?_) (fun e_1 => ?_) (fun e_1_0 e_1_1 e_1_2 e_1_3 e_1_4 e_1_5 e_1_6 e_1_7 => ?_)
  · skip
    refine j_aload_n dX7_count_48 (q := 49) rfl rfl ?_
    refine j_getR (r := 8) fs_X7_10 rfl rfl rfl dX7_count_49 (q := 52) rfl ?_
    refine j_getI fs_X7_65 rfl rfl dX7_count_52 (q := 55) rfl ?_
    refine j_ireti dX7_count_55 rfl ?_
    first | (subst e_1; exact ⟨rfl, rfl⟩) | (unfold cntZ7; rw [if_neg e_1_0, if_neg e_1_1, if_neg e_1_2, if_neg e_1_3, if_neg e_1_4, if_neg e_1_5, if_neg e_1_6, if_neg e_1_7]; exact ⟨rfl, rfl⟩)
  · skip
    refine j_aload_n dX7_count_56 (q := 57) rfl rfl ?_
    refine j_getR (r := 8) fs_X7_10 rfl rfl rfl dX7_count_57 (q := 60) rfl ?_
    refine j_getI fs_X7_119 rfl rfl dX7_count_60 (q := 63) rfl ?_
    refine j_ireti dX7_count_63 rfl ?_
    first | (subst e_1; exact ⟨rfl, rfl⟩) | (unfold cntZ7; rw [if_neg e_1_0, if_neg e_1_1, if_neg e_1_2, if_neg e_1_3, if_neg e_1_4, if_neg e_1_5, if_neg e_1_6, if_neg e_1_7]; exact ⟨rfl, rfl⟩)
  · skip
    refine j_aload_n dX7_count_64 (q := 65) rfl rfl ?_
    refine j_getR (r := 8) fs_X7_10 rfl rfl rfl dX7_count_65 (q := 68) rfl ?_
    refine j_getI fs_X7_100 rfl rfl dX7_count_68 (q := 71) rfl ?_
    refine j_ireti dX7_count_71 rfl ?_
    first | (subst e_1; exact ⟨rfl, rfl⟩) | (unfold cntZ7; rw [if_neg e_1_0, if_neg e_1_1, if_neg e_1_2, if_neg e_1_3, if_neg e_1_4, if_neg e_1_5, if_neg e_1_6, if_neg e_1_7]; exact ⟨rfl, rfl⟩)
  · skip
    refine j_aload_n dX7_count_72 (q := 73) rfl rfl ?_
    refine j_getR (r := 8) fs_X7_10 rfl rfl rfl dX7_count_73 (q := 76) rfl ?_
    refine j_getI fs_X7_194 rfl rfl dX7_count_76 (q := 79) rfl ?_
    refine j_ireti dX7_count_79 rfl ?_
    first | (subst e_1; exact ⟨rfl, rfl⟩) | (unfold cntZ7; rw [if_neg e_1_0, if_neg e_1_1, if_neg e_1_2, if_neg e_1_3, if_neg e_1_4, if_neg e_1_5, if_neg e_1_6, if_neg e_1_7]; exact ⟨rfl, rfl⟩)
  · skip
    refine j_aload_n dX7_count_80 (q := 81) rfl rfl ?_
    refine j_getR (r := 8) fs_X7_10 rfl rfl rfl dX7_count_81 (q := 84) rfl ?_
    refine j_getI fs_X7_148 rfl rfl dX7_count_84 (q := 87) rfl ?_
    refine j_ireti dX7_count_87 rfl ?_
    first | (subst e_1; exact ⟨rfl, rfl⟩) | (unfold cntZ7; rw [if_neg e_1_0, if_neg e_1_1, if_neg e_1_2, if_neg e_1_3, if_neg e_1_4, if_neg e_1_5, if_neg e_1_6, if_neg e_1_7]; exact ⟨rfl, rfl⟩)
  · skip
    refine j_aload_n dX7_count_88 (q := 89) rfl rfl ?_
    refine j_getR (r := 8) fs_X7_10 rfl rfl rfl dX7_count_89 (q := 92) rfl ?_
    refine j_getI fs_X7_298 rfl rfl dX7_count_92 (q := 95) rfl ?_
    refine j_ireti dX7_count_95 rfl ?_
    first | (subst e_1; exact ⟨rfl, rfl⟩) | (unfold cntZ7; rw [if_neg e_1_0, if_neg e_1_1, if_neg e_1_2, if_neg e_1_3, if_neg e_1_4, if_neg e_1_5, if_neg e_1_6, if_neg e_1_7]; exact ⟨rfl, rfl⟩)
  · skip
    refine j_aload_n dX7_count_96 (q := 97) rfl rfl ?_
    refine j_getR (r := 60) fs_X7_38 rfl rfl rfl dX7_count_97 (q := 100) rfl ?_
    refine j_getI fs_X7_260 rfl rfl dX7_count_100 (q := 103) rfl ?_
    refine j_ireti dX7_count_103 rfl ?_
    first | (subst e_1; exact ⟨rfl, rfl⟩) | (unfold cntZ7; rw [if_neg e_1_0, if_neg e_1_1, if_neg e_1_2, if_neg e_1_3, if_neg e_1_4, if_neg e_1_5, if_neg e_1_6, if_neg e_1_7]; exact ⟨rfl, rfl⟩)
  · skip
    refine j_aload_n dX7_count_104 (q := 105) rfl rfl ?_
    refine j_getR (r := 8) fs_X7_10 rfl rfl rfl dX7_count_105 (q := 108) rfl ?_
    refine j_getI fs_X7_200 rfl rfl dX7_count_108 (q := 111) rfl ?_
    refine j_ireti dX7_count_111 rfl ?_
    first | (subst e_1; exact ⟨rfl, rfl⟩) | (unfold cntZ7; rw [if_neg e_1_0, if_neg e_1_1, if_neg e_1_2, if_neg e_1_3, if_neg e_1_4, if_neg e_1_5, if_neg e_1_6, if_neg e_1_7]; exact ⟨rfl, rfl⟩)
  · skip
    refine j_aload_n dX7_count_112 (q := 113) rfl rfl ?_
    refine j_iconst (v := 1) dX7_count_113 (q := 114) rfl (by decide) ?_
    refine j_callVi1E (M' := M_X7_refuse) lk_X7_61 mv_X7_refuse ob_0 (by decide) (Nat.le_of_ble_eq_true rfl) dX7_count_114 (q := 117) rfl (ct_ref1) ?_
    refine j_ireti dX7_count_117 rfl ?_
    first | (subst e_1; exact ⟨rfl, rfl⟩) | (unfold cntZ7; rw [if_neg e_1_0, if_neg e_1_1, if_neg e_1_2, if_neg e_1_3, if_neg e_1_4, if_neg e_1_5, if_neg e_1_6, if_neg e_1_7]; exact ⟨rfl, rfl⟩)
def cntZ8 (σ : S_) (x : Int32) : Value → S_ → Prop := if x = 0 then EQ (.int (σ 71 5)) σ else if x = 1 then EQ (.int (σ 71 6)) σ else if x = 2 then EQ (.int (σ 71 0)) σ else if x = 3 then EQ (.int (σ 71 1)) σ else if x = 4 then EQ (.int (σ 71 3)) σ else if x = 5 then EQ (.int (σ 71 4)) σ else if x = 6 then EQ (.int (σ 70 17)) σ else if x = 7 then EQ (.int (σ 71 2)) σ else EQ (.int (-1000000001)) (rfm σ 1)
theorem ct_X8_count {g : GT} {σ : S_} {x : Int32} : CT g 2 M_X8_count [.ref 70, .int x] σ (cntZ8 σ x) := by
  refine ct_of [.ref 70, .int x] pn_X8_count rfl (Nat.le_of_ble_eq_true rfl) ?_
  refine j_iload_n dX8_count_0 (q := 1) rfl rfl ?_
  refine j_tsw_0_7 dX8_count_1 (td := 103) (t0 := 48) (t1 := 55) (t2 := 63) (t3 := 70) (t4 := 77) (t5 := 84) (t6 := 91) (t7 := 96) (by decide) (by decide) (by decide) (by decide) (by decide) (by decide) (by decide) (by decide) (by decide) (fun e_1 => ?_) (fun e_1 => ?_) (fun e_1 => ?_) (fun e_1 => ?_) (fun e_1 => ?_) (fun e_1 => ?_) (fun e_1 => ?_) (fun e_1 => ?_) (fun e_1_0 e_1_1 e_1_2 e_1_3 e_1_4 e_1_5 e_1_6 e_1_7 => ?_)
  · skip
    refine j_aload_n dX8_count_48 (q := 49) rfl rfl ?_
    refine j_getR (r := 71) fs_X8_7 rfl rfl rfl dX8_count_49 (q := 52) rfl ?_
    refine j_iconst (v := 5) dX8_count_52 (q := 53) rfl (by decide) ?_
    refine j_ialdN (k := 5) rfl (by decide) dX8_count_53 (q := 54) rfl ?_
    refine j_ireti dX8_count_54 rfl ?_
    first | (subst e_1; exact ⟨rfl, rfl⟩) | (unfold cntZ8; rw [if_neg e_1_0, if_neg e_1_1, if_neg e_1_2, if_neg e_1_3, if_neg e_1_4, if_neg e_1_5, if_neg e_1_6, if_neg e_1_7]; exact ⟨rfl, rfl⟩)
  · skip
    refine j_aload_n dX8_count_55 (q := 56) rfl rfl ?_
    refine j_getR (r := 71) fs_X8_7 rfl rfl rfl dX8_count_56 (q := 59) rfl ?_
    refine j_bipush (v := 6) dX8_count_59 (q := 61) rfl (by decide) ?_
    refine j_ialdN (k := 6) rfl (by decide) dX8_count_61 (q := 62) rfl ?_
    refine j_ireti dX8_count_62 rfl ?_
    first | (subst e_1; exact ⟨rfl, rfl⟩) | (unfold cntZ8; rw [if_neg e_1_0, if_neg e_1_1, if_neg e_1_2, if_neg e_1_3, if_neg e_1_4, if_neg e_1_5, if_neg e_1_6, if_neg e_1_7]; exact ⟨rfl, rfl⟩)
  · skip
    refine j_aload_n dX8_count_63 (q := 64) rfl rfl ?_
    refine j_getR (r := 71) fs_X8_7 rfl rfl rfl dX8_count_64 (q := 67) rfl ?_
    refine j_iconst (v := 0) dX8_count_67 (q := 68) rfl (by decide) ?_
    refine j_ialdN (k := 0) rfl (by decide) dX8_count_68 (q := 69) rfl ?_
    refine j_ireti dX8_count_69 rfl ?_
    first | (subst e_1; exact ⟨rfl, rfl⟩) | (unfold cntZ8; rw [if_neg e_1_0, if_neg e_1_1, if_neg e_1_2, if_neg e_1_3, if_neg e_1_4, if_neg e_1_5, if_neg e_1_6, if_neg e_1_7]; exact ⟨rfl, rfl⟩)
  · skip
    refine j_aload_n dX8_count_70 (q := 71) rfl rfl ?_
    refine j_getR (r := 71) fs_X8_7 rfl rfl rfl dX8_count_71 (q := 74) rfl ?_
    refine j_iconst (v := 1) dX8_count_74 (q := 75) rfl (by decide) ?_
    refine j_ialdN (k := 1) rfl (by decide) dX8_count_75 (q := 76) rfl ?_
    refine j_ireti dX8_count_76 rfl ?_
    first | (subst e_1; exact ⟨rfl, rfl⟩) | (unfold cntZ8; rw [if_neg e_1_0, if_neg e_1_1, if_neg e_1_2, if_neg e_1_3, if_neg e_1_4, if_neg e_1_5, if_neg e_1_6, if_neg e_1_7]; exact ⟨rfl, rfl⟩)
  · skip
    refine j_aload_n dX8_count_77 (q := 78) rfl rfl ?_
    refine j_getR (r := 71) fs_X8_7 rfl rfl rfl dX8_count_78 (q := 81) rfl ?_
    refine j_iconst (v := 3) dX8_count_81 (q := 82) rfl (by decide) ?_
    refine j_ialdN (k := 3) rfl (by decide) dX8_count_82 (q := 83) rfl ?_
    refine j_ireti dX8_count_83 rfl ?_
    first | (subst e_1; exact ⟨rfl, rfl⟩) | (unfold cntZ8; rw [if_neg e_1_0, if_neg e_1_1, if_neg e_1_2, if_neg e_1_3, if_neg e_1_4, if_neg e_1_5, if_neg e_1_6, if_neg e_1_7]; exact ⟨rfl, rfl⟩)
  · skip
    refine j_aload_n dX8_count_84 (q := 85) rfl rfl ?_
    refine j_getR (r := 71) fs_X8_7 rfl rfl rfl dX8_count_85 (q := 88) rfl ?_
    refine j_iconst (v := 4) dX8_count_88 (q := 89) rfl (by decide) ?_
    refine j_ialdN (k := 4) rfl (by decide) dX8_count_89 (q := 90) rfl ?_
    refine j_ireti dX8_count_90 rfl ?_
    first | (subst e_1; exact ⟨rfl, rfl⟩) | (unfold cntZ8; rw [if_neg e_1_0, if_neg e_1_1, if_neg e_1_2, if_neg e_1_3, if_neg e_1_4, if_neg e_1_5, if_neg e_1_6, if_neg e_1_7]; exact ⟨rfl, rfl⟩)
  · skip
    refine j_aload_n dX8_count_91 (q := 92) rfl rfl ?_
    refine j_getI fs_X8_220 rfl rfl dX8_count_92 (q := 95) rfl ?_
    refine j_ireti dX8_count_95 rfl ?_
    first | (subst e_1; exact ⟨rfl, rfl⟩) | (unfold cntZ8; rw [if_neg e_1_0, if_neg e_1_1, if_neg e_1_2, if_neg e_1_3, if_neg e_1_4, if_neg e_1_5, if_neg e_1_6, if_neg e_1_7]; exact ⟨rfl, rfl⟩)
  · skip
    refine j_aload_n dX8_count_96 (q := 97) rfl rfl ?_
    refine j_getR (r := 71) fs_X8_7 rfl rfl rfl dX8_count_97 (q := 100) rfl ?_
    refine j_iconst (v := 2) dX8_count_100 (q := 101) rfl (by decide) ?_
    refine j_ialdN (k := 2) rfl (by decide) dX8_count_101 (q := 102) rfl ?_
    refine j_ireti dX8_count_102 rfl ?_
    first | (subst e_1; exact ⟨rfl, rfl⟩) | (unfold cntZ8; rw [if_neg e_1_0, if_neg e_1_1, if_neg e_1_2, if_neg e_1_3, if_neg e_1_4, if_neg e_1_5, if_neg e_1_6, if_neg e_1_7]; exact ⟨rfl, rfl⟩)
  · skip
    refine j_aload_n dX8_count_103 (q := 104) rfl rfl ?_
    refine j_iconst (v := 1) dX8_count_104 (q := 105) rfl (by decide) ?_
    refine j_callVi1E (M' := M_X8_error) lk_X8_63 mv_X8_error ob_70 (by decide) (Nat.le_of_ble_eq_true rfl) dX8_count_105 (q := 108) rfl (ct_err1) ?_
    refine j_ireti dX8_count_108 rfl ?_
    first | (subst e_1; exact ⟨rfl, rfl⟩) | (unfold cntZ8; rw [if_neg e_1_0, if_neg e_1_1, if_neg e_1_2, if_neg e_1_3, if_neg e_1_4, if_neg e_1_5, if_neg e_1_6, if_neg e_1_7]; exact ⟨rfl, rfl⟩)
