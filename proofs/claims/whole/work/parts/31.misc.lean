theorem ct_X7_untell_no {g : GT} {σ : S_} {u : Int32} (h : ¬ (u = 0 ∨ u = 1)) : CT g 2 M_X7_untell [.ref 0, .int u] σ (EQ (.int (-1000000001)) (rfz σ 1)) := by
  refine ct_of [.ref 0, .int u, .null] pn_X7_untell rfl (Nat.le_of_ble_eq_true rfl) ?_
  refine j_iload_n dX7_untell_0 (q := 1) rfl rfl ?_
  refine j_callSi1E (M' := M_X7_isUse) lk_X7_155 ms_X7_isUse (by decide) (Nat.le_of_ble_eq_true rfl) dX7_untell_1 (q := 4) rfl (ct_X7_isUse) ?_
  refine j_ifneB dX7_untell_4 (t := 13) (by decide) (q := 7) rfl (fun c_4 => ?_) (fun c_4 => ?_)
  · skip
    exact absurd c_4 h
  · skip
    refine j_aload_n dX7_untell_7 (q := 8) rfl rfl ?_
    refine j_iconst (v := 1) dX7_untell_8 (q := 9) rfl (by decide) ?_
    refine j_callVi1E (M' := M_X7_refuse) lk_X7_61 mv_X7_refuse ob_0 (by decide) (Nat.le_of_ble_eq_true rfl) dX7_untell_9 (q := 12) rfl (ct_ref1) ?_
    refine j_ireti dX7_untell_12 rfl ?_
    exact ⟨rfl, rfl⟩
theorem ct_X8_untell_no {g : GT} {σ : S_} {u : Int32} (h : ¬ (0 ≤ u ∧ u ≤ 1)) : CT g 2 M_X8_untell [.ref 70, .int u] σ (EQ (.int (-1000000001)) (rfm σ 1)) := by
  refine ct_of [.ref 70, .int u, .null] pn_X8_untell rfl (Nat.le_of_ble_eq_true rfl) ?_
  refine j_iload_n dX8_untell_0 (q := 1) rfl rfl ?_
  refine j_iconst (v := 0) dX8_untell_1 (q := 2) rfl (by decide) ?_
  refine j_iconst (v := 1) dX8_untell_2 (q := 3) rfl (by decide) ?_
  refine j_callSi3E (M' := M_X8_in) lk_X8_59 ms_X8_in (by decide) (Nat.le_of_ble_eq_true rfl) dX8_untell_3 (q := 6) rfl (ct_X8_in) ?_
  refine j_ifneB dX8_untell_6 (t := 15) (by decide) (q := 9) rfl (fun c_6 => ?_) (fun c_6 => ?_)
  · skip
    exact absurd c_6 h
  · skip
    refine j_aload_n dX8_untell_9 (q := 10) rfl rfl ?_
    refine j_iconst (v := 1) dX8_untell_10 (q := 11) rfl (by decide) ?_
    refine j_callVi1E (M' := M_X8_error) lk_X8_63 mv_X8_error ob_70 (by decide) (Nat.le_of_ble_eq_true rfl) dX8_untell_11 (q := 14) rfl (ct_err1) ?_
    refine j_ireti dX8_untell_14 rfl ?_
    exact ⟨rfl, rfl⟩
theorem ct_X7_law_no {g : GT} {σ : S_} {u a b c : Int32} (h : ¬ (u = 0 ∨ u = 1)) : CT g 2 M_X7_law [.ref 0, .int u, .int a, .int b, .int c] σ (EQ (.int (-1000000001)) (rfz σ 1)) := by
  refine ct_of [.ref 0, .int u, .int a, .int b, .int c] pn_X7_law rfl (Nat.le_of_ble_eq_true rfl) ?_
  refine j_iload_n dX7_law_0 (q := 1) rfl rfl ?_
  refine j_callSi1E (M' := M_X7_isUse) lk_X7_155 ms_X7_isUse (by decide) (Nat.le_of_ble_eq_true rfl) dX7_law_1 (q := 4) rfl (ct_X7_isUse) ?_
  refine j_ifeqB dX7_law_4 (t := 22) (by decide) (q := 7) rfl (fun c_4 => ?_) (fun c_4 => ?_)
  · skip
    exact absurd c_4 h
  · skip
    refine j_aload_n dX7_law_22 (q := 23) rfl rfl ?_
    refine j_iconst (v := 1) dX7_law_23 (q := 24) rfl (by decide) ?_
    refine j_callVi1E (M' := M_X7_refuse) lk_X7_61 mv_X7_refuse ob_0 (by decide) (Nat.le_of_ble_eq_true rfl) dX7_law_24 (q := 27) rfl (ct_ref1) ?_
    refine j_ireti dX7_law_27 rfl ?_
    exact ⟨rfl, rfl⟩
theorem ct_X8_law_no {g : GT} {σ : S_} {u a b c : Int32} (h : ¬ (0 ≤ u ∧ u ≤ 1)) : CT g 2 M_X8_law [.ref 70, .int u, .int a, .int b, .int c] σ (EQ (.int (-1000000001)) (rfm σ 1)) := by
  refine ct_of [.ref 70, .int u, .int a, .int b, .int c] pn_X8_law rfl (Nat.le_of_ble_eq_true rfl) ?_
  refine j_iload_n dX8_law_0 (q := 1) rfl rfl ?_
  refine j_iconst (v := 0) dX8_law_1 (q := 2) rfl (by decide) ?_
  refine j_iconst (v := 1) dX8_law_2 (q := 3) rfl (by decide) ?_
  refine j_callSi3E (M' := M_X8_in) lk_X8_59 ms_X8_in (by decide) (Nat.le_of_ble_eq_true rfl) dX8_law_3 (q := 6) rfl (ct_X8_in) ?_
  refine j_ifneB dX8_law_6 (t := 15) (by decide) (q := 9) rfl (fun c_6 => ?_) (fun c_6 => ?_)
  · skip
    exact absurd c_6 h
  · skip
    refine j_aload_n dX8_law_9 (q := 10) rfl rfl ?_
    refine j_iconst (v := 1) dX8_law_10 (q := 11) rfl (by decide) ?_
    refine j_callVi1E (M' := M_X8_error) lk_X8_63 mv_X8_error ob_70 (by decide) (Nat.le_of_ble_eq_true rfl) dX8_law_11 (q := 14) rfl (ct_err1) ?_
    refine j_ireti dX8_law_14 rfl ?_
    exact ⟨rfl, rfl⟩
theorem ct_X7_untell_0 {g : GT} {σ : S_}  : CT g 2 M_X7_untell [.ref 0, .int 0] σ (EQ (.int (bI (0 < σ 23 3))) (up σ 23 3 0)) := by
  refine ct_of [.ref 0, .int 0, .null] pn_X7_untell rfl (Nat.le_of_ble_eq_true rfl) ?_
  refine j_iload_n dX7_untell_0 (q := 1) rfl rfl ?_
  refine j_callSi1E (M' := M_X7_isUse) lk_X7_155 ms_X7_isUse (by decide) (Nat.le_of_ble_eq_true rfl) dX7_untell_1 (q := 4) rfl (ct_X7_isUse) ?_
  refine j_ifneB dX7_untell_4 (t := 13) (by decide) (q := 7) rfl (fun c_4 => ?_) (fun c_4 => ?_)
  · skip
    refine j_aload_n dX7_untell_13 (q := 14) rfl rfl ?_
    refine j_getR (r := 8) fs_X7_10 rfl rfl rfl dX7_untell_14 (q := 17) rfl ?_
    refine j_getR (r := 14) fs_X7_166 rfl rfl rfl dX7_untell_17 (q := 20) rfl ?_
    refine j_iload_n dX7_untell_20 (q := 21) rfl rfl ?_
    refine j_aaldN (k := 0) rfl (by decide) rfl dX7_untell_21 (q := 22) rfl ?_
    refine j_callVi0E (M' := M_X3_isThere) lk_X7_180 mv_X3_isThere ob_23 (by decide) (Nat.le_of_ble_eq_true rfl) dX7_untell_22 (q := 25) rfl (ct_X3_isThere (t := 23) (.inl rfl)) ?_
    refine j_ifeqB dX7_untell_25 (t := 32) (by decide) (q := 28) rfl (fun c_25 => ?_) (fun c_25 => ?_)
    · skip
      refine j_iconst (v := 1) dX7_untell_28 (q := 29) rfl (by decide) ?_
      refine j_goto (q := 33) dX7_untell_29 (by decide) ?_
      refine j_istore_n_3_2 dX7_untell_33 (q := 34) rfl rfl rfl ?_
      refine j_aload_n dX7_untell_34 (q := 35) rfl rfl ?_
      refine j_getR (r := 8) fs_X7_10 rfl rfl rfl dX7_untell_35 (q := 38) rfl ?_
      refine j_getR (r := 14) fs_X7_166 rfl rfl rfl dX7_untell_38 (q := 41) rfl ?_
      refine j_iload_n dX7_untell_41 (q := 42) rfl rfl ?_
      refine j_aaldN (k := 0) rfl (by decide) rfl dX7_untell_42 (q := 43) rfl ?_
      refine j_callVv0E (M' := M_X3_clear) lk_X7_184 mv_X3_clear ob_23 (by decide) (Nat.le_of_ble_eq_true rfl) dX7_untell_43 (q := 46) rfl (ct_X3_clear (t := 23) (.inl rfl)) ?_
      refine j_iload_n dX7_untell_46 (q := 47) rfl rfl ?_
      refine j_ireti dX7_untell_47 rfl ?_
      exact ⟨congrArg Value.int (bI_t c_25).symm, rfl⟩
    · skip
      refine j_iconst (v := 0) dX7_untell_32 (q := 33) rfl (by decide) ?_
      refine j_istore_n_3_2 dX7_untell_33 (q := 34) rfl rfl rfl ?_
      refine j_aload_n dX7_untell_34 (q := 35) rfl rfl ?_
      refine j_getR (r := 8) fs_X7_10 rfl rfl rfl dX7_untell_35 (q := 38) rfl ?_
      refine j_getR (r := 14) fs_X7_166 rfl rfl rfl dX7_untell_38 (q := 41) rfl ?_
      refine j_iload_n dX7_untell_41 (q := 42) rfl rfl ?_
      refine j_aaldN (k := 0) rfl (by decide) rfl dX7_untell_42 (q := 43) rfl ?_
      refine j_callVv0E (M' := M_X3_clear) lk_X7_184 mv_X3_clear ob_23 (by decide) (Nat.le_of_ble_eq_true rfl) dX7_untell_43 (q := 46) rfl (ct_X3_clear (t := 23) (.inl rfl)) ?_
      refine j_iload_n dX7_untell_46 (q := 47) rfl rfl ?_
      refine j_ireti dX7_untell_47 rfl ?_
      exact ⟨congrArg Value.int (bI_f c_25).symm, rfl⟩
  · skip
    exact absurd (by decide) c_4
theorem ct_X7_law_0 {g : GT} {σ : S_} {t : Nat → Int32} {a b c : Int32} (hT : TOK t 0) (hR : TXR σ t 23 0) : CT g 3 M_X7_law [.ref 0, .int 0, .int a, .int b, .int c] σ (fun r τ => r = .int (growT t a b c) ∧ ∀ x, x ≠ 26 → τ x = σ x) := by
  refine ct_of [.ref 0, .int 0, .int a, .int b, .int c] pn_X7_law rfl (Nat.le_of_ble_eq_true rfl) ?_
  refine j_iload_n dX7_law_0 (q := 1) rfl rfl ?_
  refine j_callSi1E (M' := M_X7_isUse) lk_X7_155 ms_X7_isUse (by decide) (Nat.le_of_ble_eq_true rfl) dX7_law_1 (q := 4) rfl (ct_X7_isUse) ?_
  refine j_ifeqB dX7_law_4 (t := 22) (by decide) (q := 7) rfl (fun c_4 => ?_) (fun c_4 => ?_)
  · skip
    refine j_aload_n dX7_law_7 (q := 8) rfl rfl ?_
    refine j_getR (r := 8) fs_X7_10 rfl rfl rfl dX7_law_8 (q := 11) rfl ?_
    refine j_iload_n dX7_law_11 (q := 12) rfl rfl ?_
    refine j_iload_n dX7_law_12 (q := 13) rfl rfl ?_
    refine j_iload_n dX7_law_13 (q := 14) rfl rfl ?_
    refine j_iload dX7_law_14 (q := 16) rfl rfl ?_
    refine j_callVi4 (M' := M_X6_given) lk_X7_187 mv_X6_given ob_8 (by decide) (Nat.le_of_ble_eq_true rfl) dX7_law_16 (q := 19) rfl (ct_X6_given0 hT hR) ?_
    intro x1 τ1 hz
    refine j_goto (q := 27) dX7_law_19 (by decide) ?_
    refine j_ireti dX7_law_27 rfl ?_
    exact hz
  · skip
    exact absurd (by decide) c_4
theorem ct_X8_law_0 {g : GT} {σ : S_} {a b c : Int32} (hT : TOK (σ 71) 0) : CT g 3 M_X8_law [.ref 70, .int 0, .int a, .int b, .int c] σ (fun r τ => r = .int (growT (σ 71) a b c) ∧ ∀ x, x ≠ 76 → x ≠ 77 → τ x = σ x) := by
  refine ct_of [.ref 70, .int 0, .int a, .int b, .int c] pn_X8_law rfl (Nat.le_of_ble_eq_true rfl) ?_
  refine j_iload_n dX8_law_0 (q := 1) rfl rfl ?_
  refine j_iconst (v := 0) dX8_law_1 (q := 2) rfl (by decide) ?_
  refine j_iconst (v := 1) dX8_law_2 (q := 3) rfl (by decide) ?_
  refine j_callSi3E (M' := M_X8_in) lk_X8_59 ms_X8_in (by decide) (Nat.le_of_ble_eq_true rfl) dX8_law_3 (q := 6) rfl (ct_X8_in) ?_
  refine j_ifneB dX8_law_6 (t := 15) (by decide) (q := 9) rfl (fun c_6 => ?_) (fun c_6 => ?_)
  · skip
    refine j_iload_n dX8_law_15 (q := 16) rfl rfl ?_
    refine j_if_ne dX8_law_16 (t := 30) (by decide) (q := 19) rfl (fun c_16 => ?_) (fun c_16 => ?_)
    · skip
      exact absurd c_16 (by decide)
    · skip
      refine j_aload_n dX8_law_19 (q := 20) rfl rfl ?_
      refine j_iload_n dX8_law_20 (q := 21) rfl rfl ?_
      refine j_iload_n dX8_law_21 (q := 22) rfl rfl ?_
      refine j_iload dX8_law_22 (q := 24) rfl rfl ?_
      refine j_callVi3 (M' := M_X8_growthTold) lk_X8_136 mv_X8_growthTold ob_70 (by decide) (Nat.le_of_ble_eq_true rfl) dX8_law_24 (q := 27) rfl (ct_X8_growthTold hT) ?_
      intro x1 τ1 hz
      refine j_goto (q := 38) dX8_law_27 (by decide) ?_
      refine j_ireti dX8_law_38 rfl ?_
      exact hz
  · skip
    exact absurd (by decide) c_6
theorem ct_X7_untell_1 {g : GT} {σ : S_}  : CT g 2 M_X7_untell [.ref 0, .int 1] σ (EQ (.int (bI (0 < σ 27 3))) (up σ 27 3 0)) := by
  refine ct_of [.ref 0, .int 1, .null] pn_X7_untell rfl (Nat.le_of_ble_eq_true rfl) ?_
  refine j_iload_n dX7_untell_0 (q := 1) rfl rfl ?_
  refine j_callSi1E (M' := M_X7_isUse) lk_X7_155 ms_X7_isUse (by decide) (Nat.le_of_ble_eq_true rfl) dX7_untell_1 (q := 4) rfl (ct_X7_isUse) ?_
  refine j_ifneB dX7_untell_4 (t := 13) (by decide) (q := 7) rfl (fun c_4 => ?_) (fun c_4 => ?_)
  · skip
    refine j_aload_n dX7_untell_13 (q := 14) rfl rfl ?_
    refine j_getR (r := 8) fs_X7_10 rfl rfl rfl dX7_untell_14 (q := 17) rfl ?_
    refine j_getR (r := 14) fs_X7_166 rfl rfl rfl dX7_untell_17 (q := 20) rfl ?_
    refine j_iload_n dX7_untell_20 (q := 21) rfl rfl ?_
    refine j_aaldN (k := 1) rfl (by decide) rfl dX7_untell_21 (q := 22) rfl ?_
    refine j_callVi0E (M' := M_X3_isThere) lk_X7_180 mv_X3_isThere ob_27 (by decide) (Nat.le_of_ble_eq_true rfl) dX7_untell_22 (q := 25) rfl (ct_X3_isThere (t := 27) (.inr (.inl rfl))) ?_
    refine j_ifeqB dX7_untell_25 (t := 32) (by decide) (q := 28) rfl (fun c_25 => ?_) (fun c_25 => ?_)
    · skip
      refine j_iconst (v := 1) dX7_untell_28 (q := 29) rfl (by decide) ?_
      refine j_goto (q := 33) dX7_untell_29 (by decide) ?_
      refine j_istore_n_3_2 dX7_untell_33 (q := 34) rfl rfl rfl ?_
      refine j_aload_n dX7_untell_34 (q := 35) rfl rfl ?_
      refine j_getR (r := 8) fs_X7_10 rfl rfl rfl dX7_untell_35 (q := 38) rfl ?_
      refine j_getR (r := 14) fs_X7_166 rfl rfl rfl dX7_untell_38 (q := 41) rfl ?_
      refine j_iload_n dX7_untell_41 (q := 42) rfl rfl ?_
      refine j_aaldN (k := 1) rfl (by decide) rfl dX7_untell_42 (q := 43) rfl ?_
      refine j_callVv0E (M' := M_X3_clear) lk_X7_184 mv_X3_clear ob_27 (by decide) (Nat.le_of_ble_eq_true rfl) dX7_untell_43 (q := 46) rfl (ct_X3_clear (t := 27) (.inr (.inl rfl))) ?_
      refine j_iload_n dX7_untell_46 (q := 47) rfl rfl ?_
      refine j_ireti dX7_untell_47 rfl ?_
      exact ⟨congrArg Value.int (bI_t c_25).symm, rfl⟩
    · skip
      refine j_iconst (v := 0) dX7_untell_32 (q := 33) rfl (by decide) ?_
      refine j_istore_n_3_2 dX7_untell_33 (q := 34) rfl rfl rfl ?_
      refine j_aload_n dX7_untell_34 (q := 35) rfl rfl ?_
      refine j_getR (r := 8) fs_X7_10 rfl rfl rfl dX7_untell_35 (q := 38) rfl ?_
      refine j_getR (r := 14) fs_X7_166 rfl rfl rfl dX7_untell_38 (q := 41) rfl ?_
      refine j_iload_n dX7_untell_41 (q := 42) rfl rfl ?_
      refine j_aaldN (k := 1) rfl (by decide) rfl dX7_untell_42 (q := 43) rfl ?_
      refine j_callVv0E (M' := M_X3_clear) lk_X7_184 mv_X3_clear ob_27 (by decide) (Nat.le_of_ble_eq_true rfl) dX7_untell_43 (q := 46) rfl (ct_X3_clear (t := 27) (.inr (.inl rfl))) ?_
      refine j_iload_n dX7_untell_46 (q := 47) rfl rfl ?_
      refine j_ireti dX7_untell_47 rfl ?_
      exact ⟨congrArg Value.int (bI_f c_25).symm, rfl⟩
  · skip
    exact absurd (by decide) c_4
theorem ct_X7_law_1 {g : GT} {σ : S_} {t : Nat → Int32} {a b c : Int32} (hT : TOK t 1) (hR : TXR σ t 27 1) : CT g 3 M_X7_law [.ref 0, .int 1, .int a, .int b, .int c] σ (fun r τ => r = .int (payT t a b c) ∧ ∀ x, x ≠ 30 → τ x = σ x) := by
  refine ct_of [.ref 0, .int 1, .int a, .int b, .int c] pn_X7_law rfl (Nat.le_of_ble_eq_true rfl) ?_
  refine j_iload_n dX7_law_0 (q := 1) rfl rfl ?_
  refine j_callSi1E (M' := M_X7_isUse) lk_X7_155 ms_X7_isUse (by decide) (Nat.le_of_ble_eq_true rfl) dX7_law_1 (q := 4) rfl (ct_X7_isUse) ?_
  refine j_ifeqB dX7_law_4 (t := 22) (by decide) (q := 7) rfl (fun c_4 => ?_) (fun c_4 => ?_)
  · skip
    refine j_aload_n dX7_law_7 (q := 8) rfl rfl ?_
    refine j_getR (r := 8) fs_X7_10 rfl rfl rfl dX7_law_8 (q := 11) rfl ?_
    refine j_iload_n dX7_law_11 (q := 12) rfl rfl ?_
    refine j_iload_n dX7_law_12 (q := 13) rfl rfl ?_
    refine j_iload_n dX7_law_13 (q := 14) rfl rfl ?_
    refine j_iload dX7_law_14 (q := 16) rfl rfl ?_
    refine j_callVi4 (M' := M_X6_given) lk_X7_187 mv_X6_given ob_8 (by decide) (Nat.le_of_ble_eq_true rfl) dX7_law_16 (q := 19) rfl (ct_X6_given1 hT hR) ?_
    intro x1 τ1 hz
    refine j_goto (q := 27) dX7_law_19 (by decide) ?_
    refine j_ireti dX7_law_27 rfl ?_
    exact hz
  · skip
    exact absurd (by decide) c_4
theorem ct_X8_law_1 {g : GT} {σ : S_} {a b c : Int32} (hT : TOK (σ 71) 1) : CT g 3 M_X8_law [.ref 70, .int 1, .int a, .int b, .int c] σ (fun r τ => r = .int (payT (σ 71) a b c) ∧ ∀ x, x ≠ 76 → x ≠ 77 → τ x = σ x) := by
  refine ct_of [.ref 70, .int 1, .int a, .int b, .int c] pn_X8_law rfl (Nat.le_of_ble_eq_true rfl) ?_
  refine j_iload_n dX8_law_0 (q := 1) rfl rfl ?_
  refine j_iconst (v := 0) dX8_law_1 (q := 2) rfl (by decide) ?_
  refine j_iconst (v := 1) dX8_law_2 (q := 3) rfl (by decide) ?_
  refine j_callSi3E (M' := M_X8_in) lk_X8_59 ms_X8_in (by decide) (Nat.le_of_ble_eq_true rfl) dX8_law_3 (q := 6) rfl (ct_X8_in) ?_
  refine j_ifneB dX8_law_6 (t := 15) (by decide) (q := 9) rfl (fun c_6 => ?_) (fun c_6 => ?_)
  · skip
    refine j_iload_n dX8_law_15 (q := 16) rfl rfl ?_
    refine j_if_ne dX8_law_16 (t := 30) (by decide) (q := 19) rfl (fun c_16 => ?_) (fun c_16 => ?_)
    · skip
      refine j_aload_n dX8_law_30 (q := 31) rfl rfl ?_
      refine j_iload_n dX8_law_31 (q := 32) rfl rfl ?_
      refine j_iload_n dX8_law_32 (q := 33) rfl rfl ?_
      refine j_iload dX8_law_33 (q := 35) rfl rfl ?_
      refine j_callVi3 (M' := M_X8_payTold) lk_X8_142 mv_X8_payTold ob_70 (by decide) (Nat.le_of_ble_eq_true rfl) dX8_law_35 (q := 38) rfl (ct_X8_payTold hT) ?_
      intro x1 τ1 hz
      refine j_ireti dX8_law_38 rfl ?_
      exact hz
    · skip
      exact absurd c_16 (by decide)
  · skip
    exact absurd (by decide) c_6
theorem ct_X8_untell_ok {g : GT} {σ : S_} {u : Nat} (hu : u < 2) : CT g 2 M_X8_untell [.ref 70, .int (nI u)] σ (EQ (.int (bI (0 < σ 71 (60 + 125 * u)))) (up σ 71 (60 + 125 * u) 0)) := by
  refine ct_of [.ref 70, .int (nI u), .null] pn_X8_untell rfl (Nat.le_of_ble_eq_true rfl) ?_
  refine j_iload_n dX8_untell_0 (q := 1) rfl rfl ?_
  refine j_iconst (v := 0) dX8_untell_1 (q := 2) rfl (by decide) ?_
  refine j_iconst (v := 1) dX8_untell_2 (q := 3) rfl (by decide) ?_
  refine j_callSi3E (M' := M_X8_in) lk_X8_59 ms_X8_in (by decide) (Nat.le_of_ble_eq_true rfl) dX8_untell_3 (q := 6) rfl (ct_X8_in) ?_
  refine j_ifneB dX8_untell_6 (t := 15) (by decide) (q := 9) rfl (fun c_6 => ?_) (fun c_6 => ?_)
  · skip
    refine j_aload_n dX8_untell_15 (q := 16) rfl rfl ?_
    refine j_iload_n dX8_untell_16 (q := 17) rfl rfl ?_
    refine j_callVi1E (M' := M_X8_hasText) lk_X8_116 mv_X8_hasText ob_70 (by decide) (Nat.le_of_ble_eq_true rfl) dX8_untell_17 (q := 20) rfl (ct_X8_hasText hu) ?_
    refine j_ifeqB dX8_untell_20 (t := 27) (by decide) (q := 23) rfl (fun c_20 => ?_) (fun c_20 => ?_)
    · skip
      refine j_iconst (v := 1) dX8_untell_23 (q := 24) rfl (by decide) ?_
      refine j_goto (q := 28) dX8_untell_24 (by decide) ?_
      refine j_istore_n_3_2 dX8_untell_28 (q := 29) rfl rfl rfl ?_
      refine j_aload_n dX8_untell_29 (q := 30) rfl rfl ?_
      refine j_getR (r := 71) fs_X8_7 rfl rfl rfl dX8_untell_30 (q := 33) rfl ?_
      refine j_bipush (v := 60) dX8_untell_33 (q := 35) rfl (by decide) ?_
      refine j_bipush (v := 125) dX8_untell_35 (q := 37) rfl (by decide) ?_
      refine j_iload_n dX8_untell_37 (q := 38) rfl rfl ?_
      refine j_imulN (a := 125) dX8_untell_38 (q := 39) rfl ?_
      refine j_iaddN (a := 60) dX8_untell_39 (q := 40) rfl ?_
      refine j_iconst (v := 0) dX8_untell_40 (q := 41) rfl (by decide) ?_
      refine j_iastN rfl (by omega) dX8_untell_41 (q := 42) rfl ?_
      refine j_iload_n dX8_untell_42 (q := 43) rfl rfl ?_
      refine j_ireti dX8_untell_43 rfl ?_
      exact ⟨congrArg Value.int (bI_t c_20).symm, rfl⟩
    · skip
      refine j_iconst (v := 0) dX8_untell_27 (q := 28) rfl (by decide) ?_
      refine j_istore_n_3_2 dX8_untell_28 (q := 29) rfl rfl rfl ?_
      refine j_aload_n dX8_untell_29 (q := 30) rfl rfl ?_
      refine j_getR (r := 71) fs_X8_7 rfl rfl rfl dX8_untell_30 (q := 33) rfl ?_
      refine j_bipush (v := 60) dX8_untell_33 (q := 35) rfl (by decide) ?_
      refine j_bipush (v := 125) dX8_untell_35 (q := 37) rfl (by decide) ?_
      refine j_iload_n dX8_untell_37 (q := 38) rfl rfl ?_
      refine j_imulN (a := 125) dX8_untell_38 (q := 39) rfl ?_
      refine j_iaddN (a := 60) dX8_untell_39 (q := 40) rfl ?_
      refine j_iconst (v := 0) dX8_untell_40 (q := 41) rfl (by decide) ?_
      refine j_iastN rfl (by omega) dX8_untell_41 (q := 42) rfl ?_
      refine j_iload_n dX8_untell_42 (q := 43) rfl rfl ?_
      refine j_ireti dX8_untell_43 rfl ?_
      exact ⟨congrArg Value.int (bI_f c_20).symm, rfl⟩
  · skip
    exact absurd (inK (b := 1) (by omega) (by decide)) c_6
def undB : Nat → Int32 → Int32 → Bool
  | 0, _, _ => false
  | k + 1, a, x => if a < 0 then false else if a = x then true else undB k (kAb a) x
def umB (a b : Nat) : Bool := a == b || b == 0 || (a == 4 && b == 1) || (a == 5 && b == 2)
theorem und_um : ∀ a, a < 7 → ∀ b, b < 7 → undB 7 (nI a) (nI b) = umB a b := by decide +kernel
theorem iu_loop {g : GT} {σ : S_} {v0 x : Int32} : ∀ (k i : Nat) (a : Int32) (Z : Value → S_ → Prop), i + k = 7 → Z (.int (bI (undB k a x = true))) σ → J g 2 M_X7_isOrUnder Z 4 [.int v0, .int x, .int a, .int (nI i)] [] σ := by
  intro k
  induction k with
  | zero =>
    intro i a Z hik hZ
    refine j_iload_n dX7_isOrUnder_4 (q := 5) rfl rfl ?_
    refine j_bipush (v := 7) dX7_isOrUnder_5 (q := 7) rfl (by decide) ?_
    refine j_icmp_geN (b := 7) (by omega) (by omega) dX7_isOrUnder_7 (t := 32) (by decide) (q := 10) rfl (fun c_7 => ?_) (fun c_7 => ?_)
    · skip
      refine j_iconst (v := 0) dX7_isOrUnder_32 (q := 33) rfl (by decide) ?_
      refine j_iretz dX7_isOrUnder_33 rfl (by decide) ?_
      exact hZ
    · skip
      omega
  | succ k ih =>
    intro i a Z hik hZ
    refine j_iload_n dX7_isOrUnder_4 (q := 5) rfl rfl ?_
    refine j_bipush (v := 7) dX7_isOrUnder_5 (q := 7) rfl (by decide) ?_
    refine j_icmp_geN (b := 7) (by omega) (by omega) dX7_isOrUnder_7 (t := 32) (by decide) (q := 10) rfl (fun c_7 => ?_) (fun c_7 => ?_)
    · skip
      omega
    · skip
      refine j_iload_n dX7_isOrUnder_10 (q := 11) rfl rfl ?_
      refine j_if_lt dX7_isOrUnder_11 (t := 32) (by decide) (q := 14) rfl (fun c_11 => ?_) (fun c_11 => ?_)
      · skip
        refine j_iconst (v := 0) dX7_isOrUnder_32 (q := 33) rfl (by decide) ?_
        refine j_iretz dX7_isOrUnder_33 rfl (by decide) ?_
        rw [show undB (k + 1) a x = false from if_pos c_11] at hZ
        exact hZ
      · skip
        refine j_iload_n dX7_isOrUnder_14 (q := 15) rfl rfl ?_
        refine j_iload_n dX7_isOrUnder_15 (q := 16) rfl rfl ?_
        refine j_icmp_ne dX7_isOrUnder_16 (t := 21) (by decide) (q := 19) rfl (fun c_16 => ?_) (fun c_16 => ?_)
        · skip
          refine j_iload_n dX7_isOrUnder_21 (q := 22) rfl rfl ?_
          refine j_callSi1E (M' := M_X7_kindAbove) lk_X7_308 ms_X7_kindAbove (by decide) (Nat.le_of_ble_eq_true rfl) dX7_isOrUnder_22 (q := 25) rfl (ct_X7_kindAbove) ?_
          refine j_istore_n_4_2 dX7_isOrUnder_25 (q := 26) rfl rfl rfl ?_
          refine j_iincN_4_3 dX7_isOrUnder_26 (q := 29) rfl rfl rfl ?_
          refine j_goto (q := 4) dX7_isOrUnder_29 (by decide) ?_
          rw [show undB (k + 1) a x = undB k (kAb a) x from by rw [undB, if_neg c_11, if_neg c_16]] at hZ
          exact ih (i + 1) _ Z (by omega) hZ
        · skip
          refine j_iconst (v := 1) dX7_isOrUnder_19 (q := 20) rfl (by decide) ?_
          refine j_iretz dX7_isOrUnder_20 rfl (by decide) ?_
          rw [show undB (k + 1) a x = true from by unfold undB; rw [if_neg c_11, if_pos c_16]] at hZ
          exact hZ
theorem ct_X7_isOrUnder {g : GT} {σ : S_} {a x : Int32} : CT g 2 M_X7_isOrUnder [.int a, .int x] σ (EQ (.int (bI (undB 7 a x = true))) σ) := by
  refine ct_of [.int a, .int x, .null, .null] pn_X7_isOrUnder rfl (Nat.le_of_ble_eq_true rfl) ?_
  refine j_iload_n dX7_isOrUnder_0 (q := 1) rfl rfl ?_
  refine j_istore_n_4_2 dX7_isOrUnder_1 (q := 2) rfl rfl rfl ?_
  refine j_iconst (v := 0) dX7_isOrUnder_2 (q := 3) rfl (by decide) ?_
  refine j_istore_n_4_3 dX7_isOrUnder_3 (q := 4) rfl rfl rfl ?_
  exact iu_loop 7 0 a _ rfl ⟨rfl, rfl⟩
theorem ct_X7_as_no {g : GT} {σ : S_} {f k : Int32} (h : ¬ ((0 ≤ f ∧ f ≤ σ 8 1 - 1) ∧ (0 ≤ k ∧ k ≤ 6))) : CT g 3 M_X7_as [.ref 0, .int f, .int k] σ (EQ (.int (-1000000001)) (rfz σ 1)) := by
  refine ct_of [.ref 0, .int f, .int k] pn_X7_as rfl (Nat.le_of_ble_eq_true rfl) ?_
  refine j_aload_n dX7_as_0 (q := 1) rfl rfl ?_
  refine j_iload_n dX7_as_1 (q := 2) rfl rfl ?_
  refine j_callVi1E (M' := M_X7_isFarm) lk_X7_79 mv_X7_isFarm ob_0 (by decide) (Nat.le_of_ble_eq_true rfl) dX7_as_2 (q := 5) rfl (ct_X7_isFarm) ?_
  refine j_ifeqB dX7_as_5 (t := 18) (by decide) (q := 8) rfl (fun c_5 => ?_) (fun c_5 => ?_)
  · skip
    refine j_iload_n dX7_as_8 (q := 9) rfl rfl ?_
    refine j_iconst (v := 0) dX7_as_9 (q := 10) rfl (by decide) ?_
    refine j_bipush (v := 6) dX7_as_10 (q := 12) rfl (by decide) ?_
    refine j_callSi3E (M' := M_X7_within) lk_X7_57 ms_X7_within (by decide) (Nat.le_of_ble_eq_true rfl) dX7_as_12 (q := 15) rfl (ct_X7_within) ?_
    refine j_ifneB dX7_as_15 (t := 24) (by decide) (q := 18) rfl (fun c_15 => ?_) (fun c_15 => ?_)
    · skip
      exact absurd ⟨c_5, c_15⟩ h
    · skip
      refine j_aload_n dX7_as_18 (q := 19) rfl rfl ?_
      refine j_iconst (v := 1) dX7_as_19 (q := 20) rfl (by decide) ?_
      refine j_callVi1E (M' := M_X7_refuse) lk_X7_61 mv_X7_refuse ob_0 (by decide) (Nat.le_of_ble_eq_true rfl) dX7_as_20 (q := 23) rfl (ct_ref1) ?_
      refine j_ireti dX7_as_23 rfl ?_
      exact ⟨rfl, rfl⟩
  · skip
    refine j_aload_n dX7_as_18 (q := 19) rfl rfl ?_
    refine j_iconst (v := 1) dX7_as_19 (q := 20) rfl (by decide) ?_
    refine j_callVi1E (M' := M_X7_refuse) lk_X7_61 mv_X7_refuse ob_0 (by decide) (Nat.le_of_ble_eq_true rfl) dX7_as_20 (q := 23) rfl (ct_ref1) ?_
    refine j_ireti dX7_as_23 rfl ?_
    exact ⟨rfl, rfl⟩
theorem ct_X8_as_no {g : GT} {σ : S_} {f k : Int32} (h : ¬ ((0 ≤ f ∧ f ≤ σ 71 5 - 1) ∧ (0 ≤ k ∧ k ≤ 6))) : CT g 3 M_X8_as [.ref 70, .int f, .int k] σ (EQ (.int (-1000000001)) (rfm σ 1)) := by
  refine ct_of [.ref 70, .int f, .int k, .null] pn_X8_as rfl (Nat.le_of_ble_eq_true rfl) ?_
  refine j_aload_n dX8_as_0 (q := 1) rfl rfl ?_
  refine j_iload_n dX8_as_1 (q := 2) rfl rfl ?_
  refine j_callVi1E (M' := M_X8_isFarm) lk_X8_166 mv_X8_isFarm ob_70 (by decide) (Nat.le_of_ble_eq_true rfl) dX8_as_2 (q := 5) rfl (ct_X8_isFarm) ?_
  refine j_ifeqB dX8_as_5 (t := 18) (by decide) (q := 8) rfl (fun c_5 => ?_) (fun c_5 => ?_)
  · skip
    refine j_iload_n dX8_as_8 (q := 9) rfl rfl ?_
    refine j_iconst (v := 0) dX8_as_9 (q := 10) rfl (by decide) ?_
    refine j_bipush (v := 6) dX8_as_10 (q := 12) rfl (by decide) ?_
    refine j_callSi3E (M' := M_X8_in) lk_X8_59 ms_X8_in (by decide) (Nat.le_of_ble_eq_true rfl) dX8_as_12 (q := 15) rfl (ct_X8_in) ?_
    refine j_ifneB dX8_as_15 (t := 24) (by decide) (q := 18) rfl (fun c_15 => ?_) (fun c_15 => ?_)
    · skip
      exact absurd ⟨c_5, c_15⟩ h
    · skip
      refine j_aload_n dX8_as_18 (q := 19) rfl rfl ?_
      refine j_iconst (v := 1) dX8_as_19 (q := 20) rfl (by decide) ?_
      refine j_callVi1E (M' := M_X8_error) lk_X8_63 mv_X8_error ob_70 (by decide) (Nat.le_of_ble_eq_true rfl) dX8_as_20 (q := 23) rfl (ct_err1) ?_
      refine j_ireti dX8_as_23 rfl ?_
      exact ⟨rfl, rfl⟩
  · skip
    refine j_aload_n dX8_as_18 (q := 19) rfl rfl ?_
    refine j_iconst (v := 1) dX8_as_19 (q := 20) rfl (by decide) ?_
    refine j_callVi1E (M' := M_X8_error) lk_X8_63 mv_X8_error ob_70 (by decide) (Nat.le_of_ble_eq_true rfl) dX8_as_20 (q := 23) rfl (ct_err1) ?_
    refine j_ireti dX8_as_23 rfl ?_
    exact ⟨rfl, rfl⟩
theorem ct_X7_as_ok {g : GT} {σ : S_} {n nf a b : Nat} (hn : n < nf) (h7 : nf ≤ 7) (ha : a < 7) (hb : b < 7) (e : σ 8 1 = nI nf) (ek : σ (16 + n) 0 = nI a) : CT g 3 M_X7_as [.ref 0, .int (nI n), .int (nI b)] σ (if umB a b = true then EQ (.int (σ (16 + n) 1)) σ else EQ (.int (-1000000005)) (rfz σ 5)) := by
  refine ct_of [.ref 0, .int (nI n), .int (nI b)] pn_X7_as rfl (Nat.le_of_ble_eq_true rfl) ?_
  refine j_aload_n dX7_as_0 (q := 1) rfl rfl ?_
  refine j_iload_n dX7_as_1 (q := 2) rfl rfl ?_
  refine j_callVi1E (M' := M_X7_isFarm) lk_X7_79 mv_X7_isFarm ob_0 (by decide) (Nat.le_of_ble_eq_true rfl) dX7_as_2 (q := 5) rfl (ct_X7_isFarm) ?_
  refine j_ifeqB dX7_as_5 (t := 18) (by decide) (q := 8) rfl (fun c_5 => ?_) (fun c_5 => ?_)
  · skip
    refine j_iload_n dX7_as_8 (q := 9) rfl rfl ?_
    refine j_iconst (v := 0) dX7_as_9 (q := 10) rfl (by decide) ?_
    refine j_bipush (v := 6) dX7_as_10 (q := 12) rfl (by decide) ?_
    refine j_callSi3E (M' := M_X7_within) lk_X7_57 ms_X7_within (by decide) (Nat.le_of_ble_eq_true rfl) dX7_as_12 (q := 15) rfl (ct_X7_within) ?_
    refine j_ifneB dX7_as_15 (t := 24) (by decide) (q := 18) rfl (fun c_15 => ?_) (fun c_15 => ?_)
    · skip
      refine j_aload_n dX7_as_24 (q := 25) rfl rfl ?_
      refine j_getR (r := 8) fs_X7_10 rfl rfl rfl dX7_as_25 (q := 28) rfl ?_
      refine j_getR (r := 9) fs_X7_69 rfl rfl rfl dX7_as_28 (q := 31) rfl ?_
      refine j_iload_n dX7_as_31 (q := 32) rfl rfl ?_
      refine j_aaldN rfl (by omega) (rf_farm (by omega)) dX7_as_32 (q := 33) rfl ?_
      refine j_getIV fs_X7_82 (tC_farm (by omega)) rfl ek dX7_as_33 (q := 36) rfl ?_
      refine j_iload_n dX7_as_36 (q := 37) rfl rfl ?_
      refine j_callSi2E (M' := M_X7_isOrUnder) lk_X7_115 ms_X7_isOrUnder (by decide) (Nat.le_of_ble_eq_true rfl) dX7_as_37 (q := 40) rfl (ct_X7_isOrUnder) ?_
      rw [und_um a ha b hb]
      refine j_ifneB dX7_as_40 (t := 49) (by decide) (q := 43) rfl (fun c_40 => ?_) (fun c_40 => ?_)
      · skip
        refine j_aload_n dX7_as_49 (q := 50) rfl rfl ?_
        refine j_getR (r := 8) fs_X7_10 rfl rfl rfl dX7_as_50 (q := 53) rfl ?_
        refine j_getR (r := 9) fs_X7_69 rfl rfl rfl dX7_as_53 (q := 56) rfl ?_
        refine j_iload_n dX7_as_56 (q := 57) rfl rfl ?_
        refine j_aaldN rfl (by omega) (rf_farm (by omega)) dX7_as_57 (q := 58) rfl ?_
        refine j_getI fs_X7_85 (tC_farm (by omega)) rfl dX7_as_58 (q := 61) rfl ?_
        refine j_ireti dX7_as_61 rfl ?_
        rw [if_pos c_40]
        exact ⟨rfl, rfl⟩
      · skip
        refine j_aload_n dX7_as_43 (q := 44) rfl rfl ?_
        refine j_iconst (v := 5) dX7_as_44 (q := 45) rfl (by decide) ?_
        refine j_callVi1E (M' := M_X7_refuse) lk_X7_61 mv_X7_refuse ob_0 (by decide) (Nat.le_of_ble_eq_true rfl) dX7_as_45 (q := 48) rfl (ct_ref5) ?_
        refine j_ireti dX7_as_48 rfl ?_
        rw [if_neg c_40]
        exact ⟨rfl, rfl⟩
    · skip
      exact absurd (inK (b := 6) (by omega) (by decide)) c_15
  · skip
    exact absurd (inF hn h7 e) c_5
def abF (k : Int32) : Int32 := if k = 4 then 1 else if k = 5 then 2 else 0
theorem ct_X8_above {g : GT} {σ : S_} {k : Int32} : CT g 0 M_X8_above [.int k] σ (EQ (.int (abF k)) σ) := by
  refine ct_of [.int k] pn_X8_above rfl (Nat.le_of_ble_eq_true rfl) ?_
  refine j_iload_n dX8_above_0 (q := 1) rfl rfl ?_
  refine j_iconst (v := 4) dX8_above_1 (q := 2) rfl (by decide) ?_
  refine j_icmp_ne dX8_above_2 (t := 9) (by decide) (q := 5) rfl (fun c_2 => ?_) (fun c_2 => ?_)
  · skip
    refine j_iload_n dX8_above_9 (q := 10) rfl rfl ?_
    refine j_iconst (v := 5) dX8_above_10 (q := 11) rfl (by decide) ?_
    refine j_icmp_ne dX8_above_11 (t := 18) (by decide) (q := 14) rfl (fun c_11 => ?_) (fun c_11 => ?_)
    · skip
      refine j_iconst (v := 0) dX8_above_18 (q := 19) rfl (by decide) ?_
      refine j_ireti dX8_above_19 rfl ?_
      exact ⟨congrArg Value.int (by simp [abF, *]), rfl⟩
    · skip
      refine j_iconst (v := 2) dX8_above_14 (q := 15) rfl (by decide) ?_
      refine j_goto (q := 19) dX8_above_15 (by decide) ?_
      refine j_ireti dX8_above_19 rfl ?_
      exact ⟨congrArg Value.int (by simp [abF, *]), rfl⟩
  · skip
    refine j_iconst (v := 1) dX8_above_5 (q := 6) rfl (by decide) ?_
    refine j_goto (q := 19) dX8_above_6 (by decide) ?_
    refine j_ireti dX8_above_19 rfl ?_
    exact ⟨congrArg Value.int (by simp [abF, *]), rfl⟩
theorem um_step : ∀ a, a < 7 → ∀ b, b < 7 → a ≠ b → a ≠ 0 → ∃ c, c < a ∧ abF (nI a) = nI c ∧ umB c b = umB a b := by
  intro a ha b hb h1 h2
  refine ⟨if a = 4 then 1 else if a = 5 then 2 else 0, ?_⟩
  rcases (show a = 1 ∨ a = 2 ∨ a = 3 ∨ a = 4 ∨ a = 5 ∨ a = 6 by omega) with rfl | rfl | rfl | rfl | rfl | rfl <;> rcases (show b = 0 ∨ b = 1 ∨ b = 2 ∨ b = 3 ∨ b = 4 ∨ b = 5 ∨ b = 6 by omega) with rfl | rfl | rfl | rfl | rfl | rfl | rfl <;> first | exact absurd rfl h1 | exact ⟨by decide, by decide, by decide⟩
theorem am_loop {g : GT} {σ : S_} {n b nf : Nat} (hn : n < 7) (hb : b < 7) : ∀ (a : Nat) (Z : Value → S_ → Prop), a < 7 → (umB a b = true → Z (.int (σ 71 (10 + 6 * n + 1))) σ) → (¬ umB a b = true → Z (.int (-1000000005)) (rfm σ 5)) → J g 3 M_X8_as Z 31 [.ref 70, .int (nI n), .int (nI b), .int (nI a)] [] σ := by
  intro a
  induction a using Nat.strongRecOn with
  | ind a ih =>
    intro Z ha h1 h2
    refine j_iload_n dX8_as_31 (q := 32) rfl rfl ?_
    refine j_iload_n dX8_as_32 (q := 33) rfl rfl ?_
    refine j_icmp_eqN (by omega) (by omega) dX8_as_33 (t := 48) (by decide) (q := 36) rfl (fun c_33 => ?_) (fun c_33 => ?_)
    · skip
      refine j_iload_n dX8_as_48 (q := 49) rfl rfl ?_
      refine j_iload_n dX8_as_49 (q := 50) rfl rfl ?_
      refine j_icmp_neN (by omega) (by omega) dX8_as_50 (t := 62) (by decide) (q := 53) rfl (fun c_50 => ?_) (fun c_50 => ?_)
      · skip
        refine j_aload_n dX8_as_62 (q := 63) rfl rfl ?_
        refine j_iconst (v := 5) dX8_as_63 (q := 64) rfl (by decide) ?_
        refine j_callVi1E (M' := M_X8_error) lk_X8_63 mv_X8_error ob_70 (by decide) (Nat.le_of_ble_eq_true rfl) dX8_as_64 (q := 67) rfl (ct_err5) ?_
        refine j_ireti dX8_as_67 rfl ?_
        first | (exact h1 (by subst c_33; unfold umB; simp)) | (exact h1 (by unfold umB; simp; omega)) | (exact h2 (by unfold umB; simp; omega)) | (exfalso; omega)
      · skip
        refine j_aload_n dX8_as_53 (q := 54) rfl rfl ?_
        refine j_iload_n dX8_as_54 (q := 55) rfl rfl ?_
        refine j_iconst (v := 1) dX8_as_55 (q := 56) rfl (by decide) ?_
        refine j_callVi2E (M' := M_X8_its) lk_X8_123 mv_X8_its ob_70 (by decide) (Nat.le_of_ble_eq_true rfl) dX8_as_56 (q := 59) rfl (ct_X8_its (k := 1) hn (by decide)) ?_
        refine j_goto (q := 67) dX8_as_59 (by decide) ?_
        refine j_ireti dX8_as_67 rfl ?_
        first | (exact h1 (by subst c_33; unfold umB; simp)) | (exact h1 (by unfold umB; simp; omega)) | (exact h2 (by unfold umB; simp; omega)) | (exfalso; omega)
    · skip
      refine j_iload_n dX8_as_36 (q := 37) rfl rfl ?_
      refine j_if_eqN (by omega) dX8_as_37 (t := 48) (by decide) (q := 40) rfl (fun c_37 => ?_) (fun c_37 => ?_)
      · skip
        refine j_iload_n dX8_as_48 (q := 49) rfl rfl ?_
        refine j_iload_n dX8_as_49 (q := 50) rfl rfl ?_
        refine j_icmp_neN (by omega) (by omega) dX8_as_50 (t := 62) (by decide) (q := 53) rfl (fun c_50 => ?_) (fun c_50 => ?_)
        · skip
          refine j_aload_n dX8_as_62 (q := 63) rfl rfl ?_
          refine j_iconst (v := 5) dX8_as_63 (q := 64) rfl (by decide) ?_
          refine j_callVi1E (M' := M_X8_error) lk_X8_63 mv_X8_error ob_70 (by decide) (Nat.le_of_ble_eq_true rfl) dX8_as_64 (q := 67) rfl (ct_err5) ?_
          refine j_ireti dX8_as_67 rfl ?_
          first | (exact h1 (by subst c_33; unfold umB; simp)) | (exact h1 (by unfold umB; simp; omega)) | (exact h2 (by unfold umB; simp; omega)) | (exfalso; omega)
        · skip
          refine j_aload_n dX8_as_53 (q := 54) rfl rfl ?_
          refine j_iload_n dX8_as_54 (q := 55) rfl rfl ?_
          refine j_iconst (v := 1) dX8_as_55 (q := 56) rfl (by decide) ?_
          refine j_callVi2E (M' := M_X8_its) lk_X8_123 mv_X8_its ob_70 (by decide) (Nat.le_of_ble_eq_true rfl) dX8_as_56 (q := 59) rfl (ct_X8_its (k := 1) hn (by decide)) ?_
          refine j_goto (q := 67) dX8_as_59 (by decide) ?_
          refine j_ireti dX8_as_67 rfl ?_
          first | (exact h1 (by subst c_33; unfold umB; simp)) | (exact h1 (by unfold umB; simp; omega)) | (exact h2 (by unfold umB; simp; omega)) | (exfalso; omega)
      · skip
        refine j_iload_n dX8_as_40 (q := 41) rfl rfl ?_
        refine j_callSi1E (M' := M_X8_above) lk_X8_172 ms_X8_above (by decide) (Nat.le_of_ble_eq_true rfl) dX8_as_41 (q := 44) rfl (ct_X8_above) ?_
        refine j_istore_n_4_3 dX8_as_44 (q := 45) rfl rfl rfl ?_
        refine j_goto (q := 31) dX8_as_45 (by decide) ?_
        obtain ⟨c, hc, e1, e2⟩ := um_step a ha b hb (by omega) (by omega)
        rw [e1]
        exact ih c hc Z (by omega) (fun q => h1 (by rw [← e2]; exact q)) (fun q => h2 (by rw [← e2]; exact q))
theorem ct_X8_as_ok {g : GT} {σ : S_} {n nf a b : Nat} (hn : n < nf) (h7 : nf ≤ 7) (ha : a < 7) (hb : b < 7) (e : σ 71 5 = nI nf) (ek : σ 71 (10 + 6 * n) = nI a) : CT g 3 M_X8_as [.ref 70, .int (nI n), .int (nI b)] σ (if umB a b = true then EQ (.int (σ 71 (10 + 6 * n + 1))) σ else EQ (.int (-1000000005)) (rfm σ 5)) := by
  refine ct_of [.ref 70, .int (nI n), .int (nI b), .null] pn_X8_as rfl (Nat.le_of_ble_eq_true rfl) ?_
  refine j_aload_n dX8_as_0 (q := 1) rfl rfl ?_
  refine j_iload_n dX8_as_1 (q := 2) rfl rfl ?_
  refine j_callVi1E (M' := M_X8_isFarm) lk_X8_166 mv_X8_isFarm ob_70 (by decide) (Nat.le_of_ble_eq_true rfl) dX8_as_2 (q := 5) rfl (ct_X8_isFarm) ?_
  refine j_ifeqB dX8_as_5 (t := 18) (by decide) (q := 8) rfl (fun c_5 => ?_) (fun c_5 => ?_)
  · skip
    refine j_iload_n dX8_as_8 (q := 9) rfl rfl ?_
    refine j_iconst (v := 0) dX8_as_9 (q := 10) rfl (by decide) ?_
    refine j_bipush (v := 6) dX8_as_10 (q := 12) rfl (by decide) ?_
    refine j_callSi3E (M' := M_X8_in) lk_X8_59 ms_X8_in (by decide) (Nat.le_of_ble_eq_true rfl) dX8_as_12 (q := 15) rfl (ct_X8_in) ?_
    refine j_ifneB dX8_as_15 (t := 24) (by decide) (q := 18) rfl (fun c_15 => ?_) (fun c_15 => ?_)
    · skip
      refine j_aload_n dX8_as_24 (q := 25) rfl rfl ?_
      refine j_iload_n dX8_as_25 (q := 26) rfl rfl ?_
      refine j_iconst (v := 0) dX8_as_26 (q := 27) rfl (by decide) ?_
      refine j_callVi2E (M' := M_X8_its) lk_X8_123 mv_X8_its ob_70 (by decide) (Nat.le_of_ble_eq_true rfl) dX8_as_27 (q := 30) rfl (ct_X8_its0 (by omega)) ?_
      refine j_istore_n_4_3 dX8_as_30 (q := 31) rfl rfl rfl ?_
      rw [ek]
      exact am_loop (nf := nf) (by omega) hb a _ ha (fun q => by rw [if_pos q]; exact ⟨rfl, rfl⟩) (fun q => by rw [if_neg q]; exact ⟨rfl, rfl⟩)
    · skip
      exact absurd (inK (b := 6) (by omega) (by decide)) c_15
  · skip
    exact absurd (inF hn h7 e) c_5
/-- the first that waits and isn't so -/
def chk (wt er : Nat → Int32) (nc : Nat) : Nat → Nat → Int32
  | 0, _ => 0
  | k + 1, i => if i < nc ∧ wt i = er i then chk wt er nc k (i + 1) else 1 + nI i
theorem chk_ext {wt er wt' er' : Nat → Int32} {nc : Nat} (h4 : nc ≤ 4) : ∀ k i, i + k ≤ 24 → (∀ j, j < 24 → wt j = wt' j) → (∀ j, j < 4 → er j = er' j) → chk wt er nc k i = chk wt' er' nc k i := by
  intro k
  induction k with
  | zero => intro i _ _ _; rfl
  | succ k ih =>
    intro i hi h1 h2
    unfold chk
    rw [h1 i (by omega), ih (i + 1) (by omega) h1 h2]
    by_cases c : i < nc
    · rw [h2 i (by omega)]
    · simp [c]
theorem ck_loop {g : GT} {σ : S_} {n nc : Nat} (h24 : n ≤ 24) (h4 : nc ≤ 4) (e : σ 8 4 = nI nc) : ∀ (k i : Nat) (Z : Value → S_ → Prop), i + k = n → Z (.int (chk (σ 15) (σ 11) nc k i)) σ → J g 0 M_X7_check Z 18 [.ref 0, .int (nI n), .int (nI i)] [] σ := by
  intro k
  induction k with
  | zero =>
    intro i Z hik hZ
    refine j_iload_n dX7_check_18 (q := 19) rfl rfl ?_
    refine j_iload_n dX7_check_19 (q := 20) rfl rfl ?_
    refine j_icmp_geN (by omega) (by omega) dX7_check_20 (t := 65) (by decide) (q := 23) rfl (fun c_20 => ?_) (fun c_20 => ?_)
    · skip
      refine j_iconst (v := 0) dX7_check_65 (q := 66) rfl (by decide) ?_
      refine j_ireti dX7_check_66 rfl ?_
      exact hZ
    · skip
      omega
  | succ k ih =>
    intro i Z hik hZ
    refine j_iload_n dX7_check_18 (q := 19) rfl rfl ?_
    refine j_iload_n dX7_check_19 (q := 20) rfl rfl ?_
    refine j_icmp_geN (by omega) (by omega) dX7_check_20 (t := 65) (by decide) (q := 23) rfl (fun c_20 => ?_) (fun c_20 => ?_)
    · skip
      omega
    · skip
      refine j_iload_n dX7_check_23 (q := 24) rfl rfl ?_
      refine j_aload_n dX7_check_24 (q := 25) rfl rfl ?_
      refine j_getR (r := 8) fs_X7_10 rfl rfl rfl dX7_check_25 (q := 28) rfl ?_
      refine j_getIV fs_X7_119 rfl rfl e dX7_check_28 (q := 31) rfl ?_
      refine j_icmp_geN (by omega) (by omega) dX7_check_31 (t := 55) (by decide) (q := 34) rfl (fun c_31 => ?_) (fun c_31 => ?_)
      · skip
        refine j_iconst (v := 1) dX7_check_55 (q := 56) rfl (by decide) ?_
        refine j_iload_n dX7_check_56 (q := 57) rfl rfl ?_
        refine j_iaddN (a := 1) dX7_check_57 (q := 58) rfl ?_
        refine j_ireti dX7_check_58 rfl ?_
        rw [show chk (σ 15) (σ 11) nc (k + 1) i = 1 + nI i from if_neg (by omega)] at hZ
        rw [← nI_add 1 i]
        exact hZ
      · skip
        refine j_aload_n dX7_check_34 (q := 35) rfl rfl ?_
        refine j_getR (r := 8) fs_X7_10 rfl rfl rfl dX7_check_35 (q := 38) rfl ?_
        refine j_getR (r := 15) fs_X7_301 rfl rfl rfl dX7_check_38 (q := 41) rfl ?_
        refine j_iload_n dX7_check_41 (q := 42) rfl rfl ?_
        refine j_ialdN rfl (by omega) dX7_check_42 (q := 43) rfl ?_
        refine j_aload_n dX7_check_43 (q := 44) rfl rfl ?_
        refine j_getR (r := 8) fs_X7_10 rfl rfl rfl dX7_check_44 (q := 47) rfl ?_
        refine j_getR (r := 11) fs_X7_125 rfl rfl rfl dX7_check_47 (q := 50) rfl ?_
        refine j_iload_n dX7_check_50 (q := 51) rfl rfl ?_
        refine j_ialdN rfl (by omega) dX7_check_51 (q := 52) rfl ?_
        refine j_icmp_eq dX7_check_52 (t := 59) (by decide) (q := 55) rfl (fun c_52 => ?_) (fun c_52 => ?_)
        · skip
          refine j_iincN_3_2 dX7_check_59 (q := 62) rfl rfl rfl ?_
          refine j_goto (q := 18) dX7_check_62 (by decide) ?_
          rw [show chk (σ 15) (σ 11) nc (k + 1) i = chk (σ 15) (σ 11) nc k (i + 1) from if_pos ⟨c_31, c_52⟩] at hZ
          exact ih (i + 1) Z (by omega) hZ
        · skip
          refine j_iconst (v := 1) dX7_check_55 (q := 56) rfl (by decide) ?_
          refine j_iload_n dX7_check_56 (q := 57) rfl rfl ?_
          refine j_iaddN (a := 1) dX7_check_57 (q := 58) rfl ?_
          refine j_ireti dX7_check_58 rfl ?_
          rw [show chk (σ 15) (σ 11) nc (k + 1) i = 1 + nI i from if_neg (fun q => c_52 q.2)] at hZ
          rw [← nI_add 1 i]
          exact hZ
theorem ct_X7_check {g : GT} {σ : S_} {n nc : Nat} (h24 : n ≤ 24) (h4 : nc ≤ 4) (en : σ 8 13 = nI n) (e : σ 8 4 = nI nc) : CT g 0 M_X7_check [.ref 0] σ (EQ (.int (chk (σ 15) (σ 11) nc n 0)) (up σ 8 13 0)) := by
  refine ct_of [.ref 0, .null, .null] pn_X7_check rfl (Nat.le_of_ble_eq_true rfl) ?_
  refine j_aload_n dX7_check_0 (q := 1) rfl rfl ?_
  refine j_getR (r := 8) fs_X7_10 rfl rfl rfl dX7_check_1 (q := 4) rfl ?_
  refine j_getIV fs_X7_298 rfl rfl en dX7_check_4 (q := 7) rfl ?_
  refine j_istore_n_3_1 dX7_check_7 (q := 8) rfl rfl rfl ?_
  refine j_aload_n dX7_check_8 (q := 9) rfl rfl ?_
  refine j_getR (r := 8) fs_X7_10 rfl rfl rfl dX7_check_9 (q := 12) rfl ?_
  refine j_iconst (v := 0) dX7_check_12 (q := 13) rfl (by decide) ?_
  refine j_putI fs_X7_298 rfl rfl fp_6_13 dX7_check_13 (q := 16) rfl ?_
  refine j_iconst (v := 0) dX7_check_16 (q := 17) rfl (by decide) ?_
  refine j_istore_n_3_2 dX7_check_17 (q := 18) rfl rfl rfl ?_
  refine ck_loop (σ := up σ 8 13 0) h24 h4 ((up_nk (by decide)).trans e) n 0 _ (by omega) ⟨?_, rfl⟩
  rw [up_row (by decide), up_row (by decide)]
theorem cm2_loop {g : GT} {σ : S_} {n nc : Nat} (h24 : n ≤ 24) (h4 : nc ≤ 4) (e : σ 71 6 = nI nc) : ∀ (k i : Nat) (Z : Value → S_ → Prop), i + k = n → Z (.int (chk (fun j => σ 71 (370 + j)) (fun j => σ 71 (52 + 2 * j + 1)) nc k i)) σ → J g 2 M_X8_check Z 16 [.ref 70, .int (nI n), .int (nI i)] [] σ := by
  intro k
  induction k with
  | zero =>
    intro i Z hik hZ
    refine j_iload_n dX8_check_16 (q := 17) rfl rfl ?_
    refine j_iload_n dX8_check_17 (q := 18) rfl rfl ?_
    refine j_icmp_geN (by omega) (by omega) dX8_check_18 (t := 65) (by decide) (q := 21) rfl (fun c_18 => ?_) (fun c_18 => ?_)
    · skip
      refine j_iconst (v := 0) dX8_check_65 (q := 66) rfl (by decide) ?_
      refine j_ireti dX8_check_66 rfl ?_
      exact hZ
    · skip
      omega
  | succ k ih =>
    intro i Z hik hZ
    refine j_iload_n dX8_check_16 (q := 17) rfl rfl ?_
    refine j_iload_n dX8_check_17 (q := 18) rfl rfl ?_
    refine j_icmp_geN (by omega) (by omega) dX8_check_18 (t := 65) (by decide) (q := 21) rfl (fun c_18 => ?_) (fun c_18 => ?_)
    · skip
      omega
    · skip
      refine j_aload_n dX8_check_21 (q := 22) rfl rfl ?_
      refine j_iload_n dX8_check_22 (q := 23) rfl rfl ?_
      refine j_callVi1E (M' := M_X8_isCarrier) lk_X8_175 mv_X8_isCarrier ob_70 (by decide) (Nat.le_of_ble_eq_true rfl) dX8_check_23 (q := 26) rfl (ct_X8_isCarrier) ?_
      refine j_ifeqB dX8_check_26 (t := 55) (by decide) (q := 29) rfl (fun c_26 => ?_) (fun c_26 => ?_)
      · skip
        have hin : i < nc := by
          rcases Nat.lt_or_ge i nc with q | q
          · exact q
          · have c2 := c_26.2
            rw [e] at c2
            by_cases z : nc = 0
            · subst z; have := Int32.le_trans c_26.1 c2; exact absurd this (by decide)
            · obtain ⟨m, rfl⟩ : ∃ m, nc = m + 1 := ⟨nc - 1, by omega⟩
              rw [show nI (m + 1) - 1 = nI m from nI_pred m, nI_le_iff (by omega) (by omega)] at c2
              omega
        refine j_aload_n dX8_check_29 (q := 30) rfl rfl ?_
        refine j_getR (r := 71) fs_X8_7 rfl rfl rfl dX8_check_30 (q := 33) rfl ?_
        refine j_sipush (v := 370) dX8_check_33 (q := 36) rfl (by decide) ?_
        refine j_iload_n dX8_check_36 (q := 37) rfl rfl ?_
        refine j_iaddN (a := 370) dX8_check_37 (q := 38) rfl ?_
        refine j_ialdN rfl (by omega) dX8_check_38 (q := 39) rfl ?_
        refine j_aload_n dX8_check_39 (q := 40) rfl rfl ?_
        refine j_getR (r := 71) fs_X8_7 rfl rfl rfl dX8_check_40 (q := 43) rfl ?_
        refine j_bipush (v := 52) dX8_check_43 (q := 45) rfl (by decide) ?_
        refine j_iconst (v := 2) dX8_check_45 (q := 46) rfl (by decide) ?_
        refine j_iload_n dX8_check_46 (q := 47) rfl rfl ?_
        refine j_imulN (a := 2) dX8_check_47 (q := 48) rfl ?_
        refine j_iaddN (a := 52) dX8_check_48 (q := 49) rfl ?_
        refine j_iconst (v := 1) dX8_check_49 (q := 50) rfl (by decide) ?_
        refine j_iaddN (b := 1) dX8_check_50 (q := 51) rfl ?_
        refine j_ialdN rfl (by omega) dX8_check_51 (q := 52) rfl ?_
        refine j_icmp_eq dX8_check_52 (t := 59) (by decide) (q := 55) rfl (fun c_52 => ?_) (fun c_52 => ?_)
        · skip
          refine j_iincN_3_2 dX8_check_59 (q := 62) rfl rfl rfl ?_
          refine j_goto (q := 16) dX8_check_62 (by decide) ?_
          rw [show chk (fun j => σ 71 (370 + j)) (fun j => σ 71 (52 + 2 * j + 1)) nc (k + 1) i = chk (fun j => σ 71 (370 + j)) (fun j => σ 71 (52 + 2 * j + 1)) nc k (i + 1) from if_pos ⟨hin, c_52⟩] at hZ
          exact ih (i + 1) Z (by omega) hZ
        · skip
          refine j_iconst (v := 1) dX8_check_55 (q := 56) rfl (by decide) ?_
          refine j_iload_n dX8_check_56 (q := 57) rfl rfl ?_
          refine j_iaddN (a := 1) dX8_check_57 (q := 58) rfl ?_
          refine j_ireti dX8_check_58 rfl ?_
          rw [show chk (fun j => σ 71 (370 + j)) (fun j => σ 71 (52 + 2 * j + 1)) nc (k + 1) i = 1 + nI i from if_neg (fun q => c_52 q.2)] at hZ
          rw [← nI_add 1 i]
          exact hZ
      · skip
        refine j_iconst (v := 1) dX8_check_55 (q := 56) rfl (by decide) ?_
        refine j_iload_n dX8_check_56 (q := 57) rfl rfl ?_
        refine j_iaddN (a := 1) dX8_check_57 (q := 58) rfl ?_
        refine j_ireti dX8_check_58 rfl ?_
        rw [show chk (fun j => σ 71 (370 + j)) (fun j => σ 71 (52 + 2 * j + 1)) nc (k + 1) i = 1 + nI i from if_neg (fun q => c_26 (inF q.1 h4 e))] at hZ
        rw [← nI_add 1 i]
        exact hZ
theorem ct_X8_check {g : GT} {σ : S_} {n nc : Nat} (h24 : n ≤ 24) (h4 : nc ≤ 4) (en : σ 71 4 = nI n) (e : σ 71 6 = nI nc) : CT g 2 M_X8_check [.ref 70] σ (EQ (.int (chk (fun j => σ 71 (370 + j)) (fun j => σ 71 (52 + 2 * j + 1)) nc n 0)) (up σ 71 4 0)) := by
  refine ct_of [.ref 70, .null, .null] pn_X8_check rfl (Nat.le_of_ble_eq_true rfl) ?_
  refine j_aload_n dX8_check_0 (q := 1) rfl rfl ?_
  refine j_getR (r := 71) fs_X8_7 rfl rfl rfl dX8_check_1 (q := 4) rfl ?_
  refine j_iconst (v := 4) dX8_check_4 (q := 5) rfl (by decide) ?_
  refine j_ialdV (k := 4) rfl (by decide) en dX8_check_5 (q := 6) rfl ?_
  refine j_istore_n_3_1 dX8_check_6 (q := 7) rfl rfl rfl ?_
  refine j_aload_n dX8_check_7 (q := 8) rfl rfl ?_
  refine j_getR (r := 71) fs_X8_7 rfl rfl rfl dX8_check_8 (q := 11) rfl ?_
  refine j_iconst (v := 4) dX8_check_11 (q := 12) rfl (by decide) ?_
  refine j_iconst (v := 0) dX8_check_12 (q := 13) rfl (by decide) ?_
  refine j_iastN (k := 4) rfl (by decide) dX8_check_13 (q := 14) rfl ?_
  refine j_iconst (v := 0) dX8_check_14 (q := 15) rfl (by decide) ?_
  refine j_istore_n_3_2 dX8_check_15 (q := 16) rfl rfl rfl ?_
  refine cm2_loop (σ := up σ 71 4 0) h24 h4 ((up_nk (by decide)).trans e) n 0 _ (by omega) ⟨?_, rfl⟩
  rw [chk_ext h4 n 0 (by omega) (fun j hj => up_nk (by omega)) (fun j hj => up_nk (by omega))]
