theorem ct_X7_hours_no {g : GT} {σ : S_} {n : Int32} (h : ¬ (1 ≤ n ∧ n ≤ 72)) : CT g 2 M_X7_hours [.ref 0, .int n] σ (EQ (.int (-1000000001)) (rfz σ 1)) := by
  refine ct_of [.ref 0, .int n, .null] pn_X7_hours rfl (Nat.le_of_ble_eq_true rfl) ?_
  refine j_iload_n dX7_hours_0 (q := 1) rfl rfl ?_
  refine j_iconst (v := 1) dX7_hours_1 (q := 2) rfl (by decide) ?_
  refine j_bipush (v := 72) dX7_hours_2 (q := 4) rfl (by decide) ?_
  refine j_callSi3E (M' := M_X7_within) lk_X7_57 ms_X7_within (by decide) (Nat.le_of_ble_eq_true rfl) dX7_hours_4 (q := 7) rfl (ct_X7_within) ?_
  refine j_ifneB dX7_hours_7 (t := 16) (by decide) (q := 10) rfl (fun c_7 => ?_) (fun c_7 => ?_)
  · skip
    exact absurd c_7 h
  · skip
    refine j_aload_n dX7_hours_10 (q := 11) rfl rfl ?_
    refine j_iconst (v := 1) dX7_hours_11 (q := 12) rfl (by decide) ?_
    refine j_callVi1E (M' := M_X7_refuse) lk_X7_61 mv_X7_refuse ob_0 (by decide) (Nat.le_of_ble_eq_true rfl) dX7_hours_12 (q := 15) rfl (ct_ref1) ?_
    refine j_ireti dX7_hours_15 rfl ?_
    exact ⟨rfl, rfl⟩
theorem ct_X7_hours_late {g : GT} {σ : S_} {n : Int32} (p1 : 1 ≤ n ∧ n ≤ 72) (h : ¬ σ 8 6 + n ≤ 9999) : CT g 2 M_X7_hours [.ref 0, .int n] σ (EQ (.int (-1000000003)) (rfz σ 3)) := by
  refine ct_of [.ref 0, .int n, .null] pn_X7_hours rfl (Nat.le_of_ble_eq_true rfl) ?_
  refine j_iload_n dX7_hours_0 (q := 1) rfl rfl ?_
  refine j_iconst (v := 1) dX7_hours_1 (q := 2) rfl (by decide) ?_
  refine j_bipush (v := 72) dX7_hours_2 (q := 4) rfl (by decide) ?_
  refine j_callSi3E (M' := M_X7_within) lk_X7_57 ms_X7_within (by decide) (Nat.le_of_ble_eq_true rfl) dX7_hours_4 (q := 7) rfl (ct_X7_within) ?_
  refine j_ifneB dX7_hours_7 (t := 16) (by decide) (q := 10) rfl (fun c_7 => ?_) (fun c_7 => ?_)
  · skip
    refine j_aload_n dX7_hours_16 (q := 17) rfl rfl ?_
    refine j_getR (r := 8) fs_X7_10 rfl rfl rfl dX7_hours_17 (q := 20) rfl ?_
    refine j_getI fs_X7_100 rfl rfl dX7_hours_20 (q := 23) rfl ?_
    refine j_iload_n dX7_hours_23 (q := 24) rfl rfl ?_
    refine j_iadd dX7_hours_24 (q := 25) rfl ?_
    refine j_sipush (v := 9999) dX7_hours_25 (q := 28) rfl (by decide) ?_
    refine j_icmp_le dX7_hours_28 (t := 37) (by decide) (q := 31) rfl (fun c_28 => ?_) (fun c_28 => ?_)
    · skip
      exact absurd c_28 h
    · skip
      refine j_aload_n dX7_hours_31 (q := 32) rfl rfl ?_
      refine j_iconst (v := 3) dX7_hours_32 (q := 33) rfl (by decide) ?_
      refine j_callVi1E (M' := M_X7_refuse) lk_X7_61 mv_X7_refuse ob_0 (by decide) (Nat.le_of_ble_eq_true rfl) dX7_hours_33 (q := 36) rfl (ct_ref3) ?_
      refine j_ireti dX7_hours_36 rfl ?_
      exact ⟨rfl, rfl⟩
  · skip
    exact absurd p1 c_7
theorem ct_X7_loose_no {g : GT} {σ : S_} {n : Int32} (h : ¬ (1 ≤ n ∧ n ≤ 24)) : CT g 2 M_X7_loose [.ref 0, .int n] σ (EQ (.int (-1000000001)) (rfz σ 1)) := by
  refine ct_of [.ref 0, .int n, .null, .null] pn_X7_loose rfl (Nat.le_of_ble_eq_true rfl) ?_
  refine j_iload_n dX7_loose_0 (q := 1) rfl rfl ?_
  refine j_iconst (v := 1) dX7_loose_1 (q := 2) rfl (by decide) ?_
  refine j_bipush (v := 24) dX7_loose_2 (q := 4) rfl (by decide) ?_
  refine j_callSi3E (M' := M_X7_within) lk_X7_57 ms_X7_within (by decide) (Nat.le_of_ble_eq_true rfl) dX7_loose_4 (q := 7) rfl (ct_X7_within) ?_
  refine j_ifneB dX7_loose_7 (t := 16) (by decide) (q := 10) rfl (fun c_7 => ?_) (fun c_7 => ?_)
  · skip
    exact absurd c_7 h
  · skip
    refine j_aload_n dX7_loose_10 (q := 11) rfl rfl ?_
    refine j_iconst (v := 1) dX7_loose_11 (q := 12) rfl (by decide) ?_
    refine j_callVi1E (M' := M_X7_refuse) lk_X7_61 mv_X7_refuse ob_0 (by decide) (Nat.le_of_ble_eq_true rfl) dX7_loose_12 (q := 15) rfl (ct_ref1) ?_
    refine j_ireti dX7_loose_15 rfl ?_
    exact ⟨rfl, rfl⟩
theorem ct_X7_loose_late {g : GT} {σ : S_} {n : Int32} (p1 : 1 ≤ n ∧ n ≤ 24) (h : ¬ σ 8 6 + n ≤ 9999) : CT g 2 M_X7_loose [.ref 0, .int n] σ (EQ (.int (-1000000003)) (rfz σ 3)) := by
  refine ct_of [.ref 0, .int n, .null, .null] pn_X7_loose rfl (Nat.le_of_ble_eq_true rfl) ?_
  refine j_iload_n dX7_loose_0 (q := 1) rfl rfl ?_
  refine j_iconst (v := 1) dX7_loose_1 (q := 2) rfl (by decide) ?_
  refine j_bipush (v := 24) dX7_loose_2 (q := 4) rfl (by decide) ?_
  refine j_callSi3E (M' := M_X7_within) lk_X7_57 ms_X7_within (by decide) (Nat.le_of_ble_eq_true rfl) dX7_loose_4 (q := 7) rfl (ct_X7_within) ?_
  refine j_ifneB dX7_loose_7 (t := 16) (by decide) (q := 10) rfl (fun c_7 => ?_) (fun c_7 => ?_)
  · skip
    refine j_aload_n dX7_loose_16 (q := 17) rfl rfl ?_
    refine j_getR (r := 8) fs_X7_10 rfl rfl rfl dX7_loose_17 (q := 20) rfl ?_
    refine j_getI fs_X7_100 rfl rfl dX7_loose_20 (q := 23) rfl ?_
    refine j_iload_n dX7_loose_23 (q := 24) rfl rfl ?_
    refine j_iadd dX7_loose_24 (q := 25) rfl ?_
    refine j_sipush (v := 9999) dX7_loose_25 (q := 28) rfl (by decide) ?_
    refine j_icmp_le dX7_loose_28 (t := 37) (by decide) (q := 31) rfl (fun c_28 => ?_) (fun c_28 => ?_)
    · skip
      exact absurd c_28 h
    · skip
      refine j_aload_n dX7_loose_31 (q := 32) rfl rfl ?_
      refine j_iconst (v := 3) dX7_loose_32 (q := 33) rfl (by decide) ?_
      refine j_callVi1E (M' := M_X7_refuse) lk_X7_61 mv_X7_refuse ob_0 (by decide) (Nat.le_of_ble_eq_true rfl) dX7_loose_33 (q := 36) rfl (ct_ref3) ?_
      refine j_ireti dX7_loose_36 rfl ?_
      exact ⟨rfl, rfl⟩
  · skip
    exact absurd p1 c_7
theorem ct_X8_whyNot_b {g : GT} {σ : S_} {n hi : Int32} (h : ¬ (1 ≤ n ∧ n ≤ hi)) : CT g 1 M_X8_whyNot [.ref 70, .int n, .int hi] σ (EQ (.int 1) σ) := by
  refine ct_of [.ref 70, .int n, .int hi] pn_X8_whyNot rfl (Nat.le_of_ble_eq_true rfl) ?_
  refine j_iload_n dX8_whyNot_0 (q := 1) rfl rfl ?_
  refine j_iconst (v := 1) dX8_whyNot_1 (q := 2) rfl (by decide) ?_
  refine j_iload_n dX8_whyNot_2 (q := 3) rfl rfl ?_
  refine j_callSi3E (M' := M_X8_in) lk_X8_59 ms_X8_in (by decide) (Nat.le_of_ble_eq_true rfl) dX8_whyNot_3 (q := 6) rfl (ct_X8_in) ?_
  refine j_ifneB dX8_whyNot_6 (t := 13) (by decide) (q := 9) rfl (fun c_6 => ?_) (fun c_6 => ?_)
  · skip
    exact absurd c_6 h
  · skip
    refine j_iconst (v := 1) dX8_whyNot_9 (q := 10) rfl (by decide) ?_
    refine j_goto (q := 32) dX8_whyNot_10 (by decide) ?_
    refine j_ireti dX8_whyNot_32 rfl ?_
    exact ⟨rfl, rfl⟩
theorem ct_X8_whyNot_s {g : GT} {σ : S_} {n hi : Int32} (p1 : 1 ≤ n ∧ n ≤ hi) (h : ¬ σ 71 0 + n ≤ 9999) : CT g 1 M_X8_whyNot [.ref 70, .int n, .int hi] σ (EQ (.int 3) σ) := by
  refine ct_of [.ref 70, .int n, .int hi] pn_X8_whyNot rfl (Nat.le_of_ble_eq_true rfl) ?_
  refine j_iload_n dX8_whyNot_0 (q := 1) rfl rfl ?_
  refine j_iconst (v := 1) dX8_whyNot_1 (q := 2) rfl (by decide) ?_
  refine j_iload_n dX8_whyNot_2 (q := 3) rfl rfl ?_
  refine j_callSi3E (M' := M_X8_in) lk_X8_59 ms_X8_in (by decide) (Nat.le_of_ble_eq_true rfl) dX8_whyNot_3 (q := 6) rfl (ct_X8_in) ?_
  refine j_ifneB dX8_whyNot_6 (t := 13) (by decide) (q := 9) rfl (fun c_6 => ?_) (fun c_6 => ?_)
  · skip
    refine j_aload_n dX8_whyNot_13 (q := 14) rfl rfl ?_
    refine j_getR (r := 71) fs_X8_7 rfl rfl rfl dX8_whyNot_14 (q := 17) rfl ?_
    refine j_iconst (v := 0) dX8_whyNot_17 (q := 18) rfl (by decide) ?_
    refine j_ialdN (k := 0) rfl (by decide) dX8_whyNot_18 (q := 19) rfl ?_
    refine j_iload_n dX8_whyNot_19 (q := 20) rfl rfl ?_
    refine j_iadd dX8_whyNot_20 (q := 21) rfl ?_
    refine j_sipush (v := 9999) dX8_whyNot_21 (q := 24) rfl (by decide) ?_
    refine j_icmp_le dX8_whyNot_24 (t := 31) (by decide) (q := 27) rfl (fun c_24 => ?_) (fun c_24 => ?_)
    · skip
      exact absurd c_24 h
    · skip
      refine j_iconst (v := 3) dX8_whyNot_27 (q := 28) rfl (by decide) ?_
      refine j_goto (q := 32) dX8_whyNot_28 (by decide) ?_
      refine j_ireti dX8_whyNot_32 rfl ?_
      exact ⟨rfl, rfl⟩
  · skip
    exact absurd p1 c_6
theorem ct_X8_whyNot_o {g : GT} {σ : S_} {n hi : Int32} (p1 : 1 ≤ n ∧ n ≤ hi) (h : σ 71 0 + n ≤ 9999) : CT g 1 M_X8_whyNot [.ref 70, .int n, .int hi] σ (EQ (.int 0) σ) := by
  refine ct_of [.ref 70, .int n, .int hi] pn_X8_whyNot rfl (Nat.le_of_ble_eq_true rfl) ?_
  refine j_iload_n dX8_whyNot_0 (q := 1) rfl rfl ?_
  refine j_iconst (v := 1) dX8_whyNot_1 (q := 2) rfl (by decide) ?_
  refine j_iload_n dX8_whyNot_2 (q := 3) rfl rfl ?_
  refine j_callSi3E (M' := M_X8_in) lk_X8_59 ms_X8_in (by decide) (Nat.le_of_ble_eq_true rfl) dX8_whyNot_3 (q := 6) rfl (ct_X8_in) ?_
  refine j_ifneB dX8_whyNot_6 (t := 13) (by decide) (q := 9) rfl (fun c_6 => ?_) (fun c_6 => ?_)
  · skip
    refine j_aload_n dX8_whyNot_13 (q := 14) rfl rfl ?_
    refine j_getR (r := 71) fs_X8_7 rfl rfl rfl dX8_whyNot_14 (q := 17) rfl ?_
    refine j_iconst (v := 0) dX8_whyNot_17 (q := 18) rfl (by decide) ?_
    refine j_ialdN (k := 0) rfl (by decide) dX8_whyNot_18 (q := 19) rfl ?_
    refine j_iload_n dX8_whyNot_19 (q := 20) rfl rfl ?_
    refine j_iadd dX8_whyNot_20 (q := 21) rfl ?_
    refine j_sipush (v := 9999) dX8_whyNot_21 (q := 24) rfl (by decide) ?_
    refine j_icmp_le dX8_whyNot_24 (t := 31) (by decide) (q := 27) rfl (fun c_24 => ?_) (fun c_24 => ?_)
    · skip
      refine j_iconst (v := 0) dX8_whyNot_31 (q := 32) rfl (by decide) ?_
      refine j_ireti dX8_whyNot_32 rfl ?_
      exact ⟨rfl, rfl⟩
    · skip
      exact absurd h c_24
  · skip
    exact absurd p1 c_6
theorem ct_X8_hours_no {g : GT} {σ : S_} {n : Int32} (h : ¬ (1 ≤ n ∧ n ≤ 72)) : CT g 2 M_X8_hours [.ref 70, .int n] σ (EQ (.int (-1000000001)) (rfm σ 1)) := by
  refine ct_of [.ref 70, .int n, .null, .null] pn_X8_hours rfl (Nat.le_of_ble_eq_true rfl) ?_
  refine j_aload_n dX8_hours_0 (q := 1) rfl rfl ?_
  refine j_iload_n dX8_hours_1 (q := 2) rfl rfl ?_
  refine j_bipush (v := 72) dX8_hours_2 (q := 4) rfl (by decide) ?_
  refine j_callVi2E (M' := M_X8_whyNot) lk_X8_184 mv_X8_whyNot ob_70 (by decide) (Nat.le_of_ble_eq_true rfl) dX8_hours_4 (q := 7) rfl (ct_X8_whyNot_b h) ?_
  refine j_istore_n_4_2 dX8_hours_7 (q := 8) rfl rfl rfl ?_
  refine j_iload_n dX8_hours_8 (q := 9) rfl rfl ?_
  refine j_if_eq dX8_hours_9 (t := 18) (by decide) (q := 12) rfl (fun c_9 => ?_) (fun c_9 => ?_)
  · skip
    exact absurd c_9 (by decide)
  · skip
    refine j_aload_n dX8_hours_12 (q := 13) rfl rfl ?_
    refine j_iload_n dX8_hours_13 (q := 14) rfl rfl ?_
    refine j_callVi1E (M' := M_X8_error) lk_X8_63 mv_X8_error ob_70 (by decide) (Nat.le_of_ble_eq_true rfl) dX8_hours_14 (q := 17) rfl (ct_err1) ?_
    refine j_ireti dX8_hours_17 rfl ?_
    exact ⟨rfl, rfl⟩
theorem ct_X8_hours_late {g : GT} {σ : S_} {n : Int32} (p1 : 1 ≤ n ∧ n ≤ 72) (h : ¬ σ 71 0 + n ≤ 9999) : CT g 2 M_X8_hours [.ref 70, .int n] σ (EQ (.int (-1000000003)) (rfm σ 3)) := by
  refine ct_of [.ref 70, .int n, .null, .null] pn_X8_hours rfl (Nat.le_of_ble_eq_true rfl) ?_
  refine j_aload_n dX8_hours_0 (q := 1) rfl rfl ?_
  refine j_iload_n dX8_hours_1 (q := 2) rfl rfl ?_
  refine j_bipush (v := 72) dX8_hours_2 (q := 4) rfl (by decide) ?_
  refine j_callVi2E (M' := M_X8_whyNot) lk_X8_184 mv_X8_whyNot ob_70 (by decide) (Nat.le_of_ble_eq_true rfl) dX8_hours_4 (q := 7) rfl (ct_X8_whyNot_s p1 h) ?_
  refine j_istore_n_4_2 dX8_hours_7 (q := 8) rfl rfl rfl ?_
  refine j_iload_n dX8_hours_8 (q := 9) rfl rfl ?_
  refine j_if_eq dX8_hours_9 (t := 18) (by decide) (q := 12) rfl (fun c_9 => ?_) (fun c_9 => ?_)
  · skip
    exact absurd c_9 (by decide)
  · skip
    refine j_aload_n dX8_hours_12 (q := 13) rfl rfl ?_
    refine j_iload_n dX8_hours_13 (q := 14) rfl rfl ?_
    refine j_callVi1E (M' := M_X8_error) lk_X8_63 mv_X8_error ob_70 (by decide) (Nat.le_of_ble_eq_true rfl) dX8_hours_14 (q := 17) rfl (ct_err3) ?_
    refine j_ireti dX8_hours_17 rfl ?_
    exact ⟨rfl, rfl⟩
theorem ct_X8_loose_no {g : GT} {σ : S_} {n : Int32} (h : ¬ (1 ≤ n ∧ n ≤ 24)) : CT g 2 M_X8_loose [.ref 70, .int n] σ (EQ (.int (-1000000001)) (rfm σ 1)) := by
  refine ct_of [.ref 70, .int n, .null, .null, .null] pn_X8_loose rfl (Nat.le_of_ble_eq_true rfl) ?_
  refine j_aload_n dX8_loose_0 (q := 1) rfl rfl ?_
  refine j_iload_n dX8_loose_1 (q := 2) rfl rfl ?_
  refine j_bipush (v := 24) dX8_loose_2 (q := 4) rfl (by decide) ?_
  refine j_callVi2E (M' := M_X8_whyNot) lk_X8_184 mv_X8_whyNot ob_70 (by decide) (Nat.le_of_ble_eq_true rfl) dX8_loose_4 (q := 7) rfl (ct_X8_whyNot_b h) ?_
  refine j_istore_n_5_2 dX8_loose_7 (q := 8) rfl rfl rfl ?_
  refine j_iload_n dX8_loose_8 (q := 9) rfl rfl ?_
  refine j_if_eq dX8_loose_9 (t := 18) (by decide) (q := 12) rfl (fun c_9 => ?_) (fun c_9 => ?_)
  · skip
    exact absurd c_9 (by decide)
  · skip
    refine j_aload_n dX8_loose_12 (q := 13) rfl rfl ?_
    refine j_iload_n dX8_loose_13 (q := 14) rfl rfl ?_
    refine j_callVi1E (M' := M_X8_error) lk_X8_63 mv_X8_error ob_70 (by decide) (Nat.le_of_ble_eq_true rfl) dX8_loose_14 (q := 17) rfl (ct_err1) ?_
    refine j_ireti dX8_loose_17 rfl ?_
    exact ⟨rfl, rfl⟩
theorem ct_X8_loose_late {g : GT} {σ : S_} {n : Int32} (p1 : 1 ≤ n ∧ n ≤ 24) (h : ¬ σ 71 0 + n ≤ 9999) : CT g 2 M_X8_loose [.ref 70, .int n] σ (EQ (.int (-1000000003)) (rfm σ 3)) := by
  refine ct_of [.ref 70, .int n, .null, .null, .null] pn_X8_loose rfl (Nat.le_of_ble_eq_true rfl) ?_
  refine j_aload_n dX8_loose_0 (q := 1) rfl rfl ?_
  refine j_iload_n dX8_loose_1 (q := 2) rfl rfl ?_
  refine j_bipush (v := 24) dX8_loose_2 (q := 4) rfl (by decide) ?_
  refine j_callVi2E (M' := M_X8_whyNot) lk_X8_184 mv_X8_whyNot ob_70 (by decide) (Nat.le_of_ble_eq_true rfl) dX8_loose_4 (q := 7) rfl (ct_X8_whyNot_s p1 h) ?_
  refine j_istore_n_5_2 dX8_loose_7 (q := 8) rfl rfl rfl ?_
  refine j_iload_n dX8_loose_8 (q := 9) rfl rfl ?_
  refine j_if_eq dX8_loose_9 (t := 18) (by decide) (q := 12) rfl (fun c_9 => ?_) (fun c_9 => ?_)
  · skip
    exact absurd c_9 (by decide)
  · skip
    refine j_aload_n dX8_loose_12 (q := 13) rfl rfl ?_
    refine j_iload_n dX8_loose_13 (q := 14) rfl rfl ?_
    refine j_callVi1E (M' := M_X8_error) lk_X8_63 mv_X8_error ob_70 (by decide) (Nat.le_of_ble_eq_true rfl) dX8_loose_14 (q := 17) rfl (ct_err3) ?_
    refine j_ireti dX8_loose_17 rfl ?_
    exact ⟨rfl, rfl⟩
theorem ct_X7_hours_ok {g : GT} {σ : S_} {n nf : Nat} {t : Nat → Int32} (n1 : 1 ≤ n) (n2 : n ≤ 72) (hB : BD t) (hn : t 5 = nI nf) (h7 : nf ≤ 7) (hC : CW σ 8 t) (h : t 0 + nI n ≤ 9999) : CT g 5 M_X7_hours [.ref 0, .int (nI n)] σ (ZHi σ (hoursN t nf n) (hoursN t nf n 1)) := by
  refine ct_of [.ref 0, .int (nI n), .null] pn_X7_hours rfl (Nat.le_of_ble_eq_true rfl) ?_
  refine j_iload_n dX7_hours_0 (q := 1) rfl rfl ?_
  refine j_iconst (v := 1) dX7_hours_1 (q := 2) rfl (by decide) ?_
  refine j_bipush (v := 72) dX7_hours_2 (q := 4) rfl (by decide) ?_
  refine j_callSi3E (M' := M_X7_within) lk_X7_57 ms_X7_within (by decide) (Nat.le_of_ble_eq_true rfl) dX7_hours_4 (q := 7) rfl (ct_X7_within) ?_
  refine j_ifneB dX7_hours_7 (t := 16) (by decide) (q := 10) rfl (fun c_7 => ?_) (fun c_7 => ?_)
  · skip
    refine j_aload_n dX7_hours_16 (q := 17) rfl rfl ?_
    refine j_getR (r := 8) fs_X7_10 rfl rfl rfl dX7_hours_17 (q := 20) rfl ?_
    refine j_getIV fs_X7_100 rfl rfl (hC.at LM_hour) dX7_hours_20 (q := 23) rfl ?_
    refine j_iload_n dX7_hours_23 (q := 24) rfl rfl ?_
    refine j_iadd dX7_hours_24 (q := 25) rfl ?_
    refine j_sipush (v := 9999) dX7_hours_25 (q := 28) rfl (by decide) ?_
    refine j_icmp_le dX7_hours_28 (t := 37) (by decide) (q := 31) rfl (fun c_28 => ?_) (fun c_28 => ?_)
    · skip
      refine j_iconst (v := 0) dX7_hours_37 (q := 38) rfl (by decide) ?_
      refine j_istore_n_3_2 dX7_hours_38 (q := 39) rfl rfl rfl ?_
      exact hc_loop hB hn h7 n2 n 0 σ (by omega) hC (fun _ _ => rfl)
    · skip
      exact absurd h c_28
  · skip
    exact absurd ⟨nI_le (a := 1) n1 (by omega), nI_le (b := 72) n2 (by omega)⟩ c_7
theorem ct_X8_hours_ok {g : GT} {σ : S_} {n nf : Nat} (n1 : 1 ≤ n) (n2 : n ≤ 72) (hB : BD (σ 71)) (hn : σ 71 5 = nI nf) (h7 : nf ≤ 7) (h : σ 71 0 + nI n ≤ 9999) : CT g 5 M_X8_hours [.ref 70, .int (nI n)] σ (ZMi σ (hoursN (σ 71) nf n) (hoursN (σ 71) nf n 1)) := by
  refine ct_of [.ref 70, .int (nI n), .null, .null] pn_X8_hours rfl (Nat.le_of_ble_eq_true rfl) ?_
  refine j_aload_n dX8_hours_0 (q := 1) rfl rfl ?_
  refine j_iload_n dX8_hours_1 (q := 2) rfl rfl ?_
  refine j_bipush (v := 72) dX8_hours_2 (q := 4) rfl (by decide) ?_
  refine j_callVi2E (M' := M_X8_whyNot) lk_X8_184 mv_X8_whyNot ob_70 (by decide) (Nat.le_of_ble_eq_true rfl) dX8_hours_4 (q := 7) rfl (ct_X8_whyNot_o ⟨nI_le (a := 1) n1 (by omega), nI_le (b := 72) n2 (by omega)⟩ h) ?_
  refine j_istore_n_4_2 dX8_hours_7 (q := 8) rfl rfl rfl ?_
  refine j_iload_n dX8_hours_8 (q := 9) rfl rfl ?_
  refine j_if_eq dX8_hours_9 (t := 18) (by decide) (q := 12) rfl (fun c_9 => ?_) (fun c_9 => ?_)
  · skip
    refine j_iconst (v := 0) dX8_hours_18 (q := 19) rfl (by decide) ?_
    refine j_istore_n_4_3 dX8_hours_19 (q := 20) rfl rfl rfl ?_
    exact hm_loop hB hn h7 n2 rfl n 0 σ (by omega) rfl (fun _ _ _ _ => rfl)
  · skip
    exact absurd c_9 (by decide)
theorem bw_nI {x : Int32} {h : Nat} (hx : bw x (nI h)) (hh : h < 2 ^ 30) : ∃ a, a ≤ h ∧ x = nI a := by
  rcases pk_ix x (n := h + 1) (by omega) with q | q | ⟨j, hj, rfl⟩
  · exact absurd hx.1 (Int32.not_le.mpr q)
  · have := Int32.le_trans q hx.2
    rw [nI_le_iff (by omega) (by omega)] at this
    omega
  · exact ⟨j, by omega, rfl⟩
theorem bw_of {a h : Nat} (ha : a ≤ h) (hh : h < 2 ^ 31) : bw (nI a) (nI h) := ⟨nI_le (a := 0) (Nat.zero_le a) (by omega), nI_le ha hh⟩
theorem bw_add {x y : Int32} {h k : Nat} (hx : bw x (nI h)) (hy : bw y (nI k)) (hh : h < 2 ^ 29) (hk : k < 2 ^ 29) : bw (x + y) (nI (h + k)) := by
  obtain ⟨a, ha, rfl⟩ := bw_nI hx (by omega)
  obtain ⟨b, hb, rfl⟩ := bw_nI hy (by omega)
  rw [nI_add]
  exact bw_of (by omega) (by omega)
theorem payS_bw (t : Nat → Int32) (set : Int32) : ∀ n, n ≤ 7 → bw (payS t set n) (nI (999 * n)) := by
  intro n
  induction n with
  | zero => intro _; show (0 : Int32) ≤ 0 ∧ (0 : Int32) ≤ nI 0; decide
  | succ n ih =>
    intro hn
    have h := ih (by omega)
    unfold payS
    split
    · rw [show 999 * (n + 1) = 999 * n + 999 by omega]
      exact bw_add h (payT_bw t _ _ _) (by omega) (by decide)
    · exact ⟨h.1, Int32.le_trans h.2 (nI_le (by omega) (by omega))⟩
theorem minE {x y : Int32} {k : Nat} (hx : bw x 99999) (hy : bw y (nI k)) (hk : k < 100000) : (if x + y < 99999 then x + y else 99999) = heldF (x + y) 0 99999 := by
  have h := bw_add (h := 99999) hx hy (by decide) (by omega)
  have h0 := h.1
  unfold heldF
  grind
def carF (t : Nat → Int32) (set : Int32) : Nat → Nat → Int32
  | 0 => t
  | n + 1 => if inS set n then upd (upd (carF t set n) (10 + 6 * n + 5) (heldF (carF t set n (10 + 6 * n + 5) + carF t set n (10 + 6 * n + 4)) 0 99999)) (10 + 6 * n + 4) 0 else carF t set n
theorem carF_yes {t : Nat → Int32} {set : Int32} {n : Nat} (h : inS set n) : carF t set (n + 1) = upd (upd (carF t set n) (10 + 6 * n + 5) (heldF (carF t set n (10 + 6 * n + 5) + carF t set n (10 + 6 * n + 4)) 0 99999)) (10 + 6 * n + 4) 0 := if_pos h
theorem carF_no {t : Nat → Int32} {set : Int32} {n : Nat} (h : ¬ inS set n) : carF t set (n + 1) = carF t set n := if_neg h
theorem carF_keep {t : Nat → Int32} {set : Int32} {m : Nat} : ∀ n, n ≤ 7 → (m < 10 ∨ 10 + 6 * n ≤ m ∨ (m % 6 ≠ 2 ∧ m % 6 ≠ 3)) → carF t set n m = t m := by
  intro n
  induction n with
  | zero => intro _ _; rfl
  | succ n ih =>
    intro hn h
    unfold carF
    split
    · rw [upd_ne (by omega), upd_ne (by omega)]; exact ih (by omega) (by omega)
    · exact ih (by omega) (by omega)
theorem carF_upd {t : Nat → Int32} {set : Int32} {m : Nat} {v : Int32} (hm : m < 10 ∨ 52 ≤ m) : ∀ n, n ≤ 7 → carF (upd t m v) set n = upd (carF t set n) m v := by
  intro n
  induction n with
  | zero => intro _; rfl
  | succ n ih =>
    intro hn
    unfold carF
    rw [ih (by omega)]
    split
    · rw [upd_ne (j := 10 + 6 * n + 5) (by omega), upd_ne (j := 10 + 6 * n + 4) (by omega)]
      funext j
      by_cases e1 : j = 10 + 6 * n + 4
      · subst e1; rw [upd_at, upd_ne (by omega), upd_at]
      · rw [upd_ne e1]
        by_cases e2 : j = 10 + 6 * n + 5
        · subst e2; rw [upd_at, upd_ne (by omega), upd_ne e1, upd_at]
        · rw [upd_ne e2]
          by_cases e3 : j = m
          · subst e3; rw [upd_at, upd_at]
          · rw [upd_ne e3, upd_ne e3, upd_ne e1, upd_ne e2]
    · rfl
/-- what is carried: water, farms, what is earned -/
def carT (t : Nat → Int32) (c : Nat) (set : Int32) (p nf : Nat) : Nat → Int32 := upd (carF (upd t (7 + p) (t (7 + p) - dryS t set nf)) set nf) (52 + 2 * c + 1) (heldF (t (52 + 2 * c + 1) + payS t set nf) 0 99999)
theorem BD_carF {t : Nat → Int32} (h : BD t) {set : Int32} : ∀ n, n ≤ 7 → BD (carF t set n) := by
  intro n
  induction n with
  | zero => intro _; exact h
  | succ n ih =>
    intro hn
    unfold carF
    split
    · exact BD_farm (BD_farm (ih (by omega)) (by omega) (Or.inr ⟨rfl, heldF_bw (by decide)⟩)) (by omega) (Or.inl ⟨rfl, by decide, by decide⟩)
    · exact ih (by omega)
theorem BD_earned {t : Nat → Int32} (h : BD t) {c : Nat} (hc : c < 4) {v : Int32} (hv : bw v 99999) : BD (upd t (52 + 2 * c + 1) v) := by
  obtain ⟨b1, b2, b3, b4, b6, b7, b8, b9, b10, b11⟩ := h
  refine ⟨?_, ?_, ?_, ?_, ?_, ?_, ?_, ?_, ?_, ?_⟩
  · rw [upd_ne (by omega)]; exact b1
  · rw [upd_ne (by omega)]; exact b2
  · rw [upd_ne (by omega)]; exact b3
  · rw [upd_ne (by omega)]; exact b4
  · rw [upd_ne (by omega)]; exact b6
  · intro p hp; rw [upd_ne (by omega)]; exact b7 p hp
  · intro j hj
    rw [upd_ne (j := 52 + 2 * j) (by omega)]
    by_cases e : j = c
    · subst e; rw [upd_at]; exact ⟨(b8 j hj).1, hv⟩
    · rw [upd_ne (by omega)]; exact b8 j hj
  · intro j hj; exact (b9 j hj).upd (by omega)
  · exact b10.row (fun k k1 k2 => (upd_ne (by omega)).symm)
  · exact b11.row (fun k k1 k2 => (upd_ne (by omega)).symm)
theorem payOfT_car {t : Nat → Int32} {set : Int32} {p n : Nat} {v : Int32} (hT : TOK t 1) (hn : n < 7) (hp : p < 3) : payOfT (carF (upd t (7 + p) v) set n) n = payOfT t n := by
  have e : ∀ m, 10 + 6 * n ≤ m → carF (upd t (7 + p) v) set n m = t m := fun m hm => by
    rw [carF_keep n (by omega) (by omega), upd_ne (by omega)]
  unfold payOfT
  rw [e _ (by omega), e _ (by omega), e _ (by omega), e _ (by omega)]
  exact (payT.row hT (fun k k1 k2 => (e k (by omega)).symm)).symm
theorem ct_X6_mayBeCarried {g : GT} {σ : S_} {t : Nat → Int32} {nf c p : Nat} {set : Int32} (hC : CW σ 8 t) (hn : t 5 = nI nf) (h7 : nf ≤ 7) (hc : c < 4) (hp : p < 3) : CT g 1 M_X6_mayBeCarried [.ref 8, .int (nI c), .int set, .int (nI p)] σ (EQ (.int (bI (dryS t set nf ≤ t (52 + 2 * c) ∧ dryS t set nf ≤ t (7 + p)))) σ) := by
  refine ct_of [.ref 8, .int (nI c), .int set, .int (nI p), .null] pn_X6_mayBeCarried rfl (Nat.le_of_ble_eq_true rfl) ?_
  refine j_aload_n dX6_mayBeCarried_0 (q := 1) rfl rfl ?_
  refine j_iload_n dX6_mayBeCarried_1 (q := 2) rfl rfl ?_
  refine j_callVi1E (M' := M_X6_dryOfSet) lk_X6_116 mv_X6_dryOfSet ob_8 (by decide) (Nat.le_of_ble_eq_true rfl) dX6_mayBeCarried_2 (q := 5) rfl (ct_X6_dryOfSet hC hn h7) ?_
  refine j_istore_5_4 dX6_mayBeCarried_5 (q := 7) rfl rfl rfl ?_
  refine j_iload dX6_mayBeCarried_7 (q := 9) rfl rfl ?_
  refine j_aload_n dX6_mayBeCarried_9 (q := 10) rfl rfl ?_
  refine j_getR (r := 10) fs_X6_17 rfl rfl rfl dX6_mayBeCarried_10 (q := 13) rfl ?_
  refine j_iload_n dX6_mayBeCarried_13 (q := 14) rfl rfl ?_
  refine j_ialdV rfl (by omega) (hC.at (LM_belly c hc)) dX6_mayBeCarried_14 (q := 15) rfl ?_
  refine j_icmp_gt dX6_mayBeCarried_15 (t := 33) (by decide) (q := 18) rfl (fun c_15 => ?_) (fun c_15 => ?_)
  · skip
    refine j_iconst (v := 0) dX6_mayBeCarried_33 (q := 34) rfl (by decide) ?_
    refine j_iretz dX6_mayBeCarried_34 rfl (by decide) ?_
    exact ⟨congrArg Value.int (by unfold bI; grind), rfl⟩
  · skip
    refine j_iload dX6_mayBeCarried_18 (q := 20) rfl rfl ?_
    refine j_aload_n dX6_mayBeCarried_20 (q := 21) rfl rfl ?_
    refine j_getR (r := 12) fs_X6_24 rfl rfl rfl dX6_mayBeCarried_21 (q := 24) rfl ?_
    refine j_iload_n dX6_mayBeCarried_24 (q := 25) rfl rfl ?_
    refine j_ialdV rfl (by omega) (hC.water hp) dX6_mayBeCarried_25 (q := 26) rfl ?_
    refine j_icmp_gt dX6_mayBeCarried_26 (t := 33) (by decide) (q := 29) rfl (fun c_26 => ?_) (fun c_26 => ?_)
    · skip
      refine j_iconst (v := 0) dX6_mayBeCarried_33 (q := 34) rfl (by decide) ?_
      refine j_iretz dX6_mayBeCarried_34 rfl (by decide) ?_
      exact ⟨congrArg Value.int (by unfold bI; grind), rfl⟩
    · skip
      refine j_iconst (v := 1) dX6_mayBeCarried_29 (q := 30) rfl (by decide) ?_
      refine j_goto (q := 34) dX6_mayBeCarried_30 (by decide) ?_
      refine j_iretz dX6_mayBeCarried_34 rfl (by decide) ?_
      exact ⟨congrArg Value.int (by unfold bI; grind), rfl⟩
theorem ct_X8_mayCarry {g : GT} {σ : S_} {nf c p : Nat} {set : Int32} (hn : σ 71 5 = nI nf) (h7 : nf ≤ 7) (hc : c < 4) (hp : p < 3) : CT g 2 M_X8_mayCarry [.ref 70, .int (nI c), .int set, .int (nI p)] σ (EQ (.int (bI (dryS (σ 71) set nf ≤ σ 71 (52 + 2 * c) ∧ dryS (σ 71) set nf ≤ σ 71 (7 + p)))) σ) := by
  refine ct_of [.ref 70, .int (nI c), .int set, .int (nI p), .null] pn_X8_mayCarry rfl (Nat.le_of_ble_eq_true rfl) ?_
  refine j_aload_n dX8_mayCarry_0 (q := 1) rfl rfl ?_
  refine j_iload_n dX8_mayCarry_1 (q := 2) rfl rfl ?_
  refine j_callVi1E (M' := M_X8_dryOf) lk_X8_154 mv_X8_dryOf ob_70 (by decide) (Nat.le_of_ble_eq_true rfl) dX8_mayCarry_2 (q := 5) rfl (ct_X8_dryOf hn h7) ?_
  refine j_istore_5_4 dX8_mayCarry_5 (q := 7) rfl rfl rfl ?_
  refine j_iload dX8_mayCarry_7 (q := 9) rfl rfl ?_
  refine j_aload_n dX8_mayCarry_9 (q := 10) rfl rfl ?_
  refine j_iload_n dX8_mayCarry_10 (q := 11) rfl rfl ?_
  refine j_callVi1E (M' := M_X8_belly) lk_X8_157 mv_X8_belly ob_70 (by decide) (Nat.le_of_ble_eq_true rfl) dX8_mayCarry_11 (q := 14) rfl (ct_X8_belly hc) ?_
  refine j_icmp_gt dX8_mayCarry_14 (t := 35) (by decide) (q := 17) rfl (fun c_14 => ?_) (fun c_14 => ?_)
  · skip
    refine j_iconst (v := 0) dX8_mayCarry_35 (q := 36) rfl (by decide) ?_
    refine j_iretz dX8_mayCarry_36 rfl (by decide) ?_
    exact ⟨congrArg Value.int (by unfold bI; grind), rfl⟩
  · skip
    refine j_iload dX8_mayCarry_17 (q := 19) rfl rfl ?_
    refine j_aload_n dX8_mayCarry_19 (q := 20) rfl rfl ?_
    refine j_getR (r := 71) fs_X8_7 rfl rfl rfl dX8_mayCarry_20 (q := 23) rfl ?_
    refine j_bipush (v := 7) dX8_mayCarry_23 (q := 25) rfl (by decide) ?_
    refine j_iload_n dX8_mayCarry_25 (q := 26) rfl rfl ?_
    refine j_iaddN (a := 7) dX8_mayCarry_26 (q := 27) rfl ?_
    refine j_ialdN rfl (by omega) dX8_mayCarry_27 (q := 28) rfl ?_
    refine j_icmp_gt dX8_mayCarry_28 (t := 35) (by decide) (q := 31) rfl (fun c_28 => ?_) (fun c_28 => ?_)
    · skip
      refine j_iconst (v := 0) dX8_mayCarry_35 (q := 36) rfl (by decide) ?_
      refine j_iretz dX8_mayCarry_36 rfl (by decide) ?_
      exact ⟨congrArg Value.int (by unfold bI; grind), rfl⟩
    · skip
      refine j_iconst (v := 1) dX8_mayCarry_31 (q := 32) rfl (by decide) ?_
      refine j_goto (q := 36) dX8_mayCarry_32 (by decide) ?_
      refine j_iretz dX8_mayCarry_36 rfl (by decide) ?_
      exact ⟨congrArg Value.int (by unfold bI; grind), rfl⟩
theorem bc_loop {g : GT} {t : Nat → Int32} {nf c p : Nat} {set pay : Int32} {σ0 : S_} (hB : BD t) (hn : t 5 = nI nf) (h7 : nf ≤ 7) : ∀ (k i : Nat) (σ : S_), i + k = nf → CW σ 8 (carF t set i) → outN σ σ0 → J g 5 M_X6_beCarried (ZHi σ0 (carF t set nf) pay) 44 [.ref 8, .int (nI c), .int set, .int (nI p), .int pay, .int (nI i)] [] σ := by
  intro k
  induction k with
  | zero =>
    intro i σ hik hC hO
    refine j_iload dX6_beCarried_44 (q := 46) rfl rfl ?_
    refine j_aload_n dX6_beCarried_46 (q := 47) rfl rfl ?_
    refine j_getIV fs_X6_59 rfl rfl ((hC.at LM_farms).trans ((carF_keep i (by omega) (by omega)).trans hn)) dX6_beCarried_47 (q := 50) rfl ?_
    refine j_icmp_geN (by omega) (by omega) dX6_beCarried_50 (t := 115) (by decide) (q := 53) rfl (fun c_50 => ?_) (fun c_50 => ?_)
    · skip
      refine j_iload dX6_beCarried_115 (q := 117) rfl rfl ?_
      refine j_ireti dX6_beCarried_117 rfl ?_
      rw [show i = nf by omega] at hC
      exact ⟨rfl, hC, hO⟩
    · skip
      omega
  | succ k ih =>
    intro i σ hik hC hO
    refine j_iload dX6_beCarried_44 (q := 46) rfl rfl ?_
    refine j_aload_n dX6_beCarried_46 (q := 47) rfl rfl ?_
    refine j_getIV fs_X6_59 rfl rfl ((hC.at LM_farms).trans ((carF_keep i (by omega) (by omega)).trans hn)) dX6_beCarried_47 (q := 50) rfl ?_
    refine j_icmp_geN (by omega) (by omega) dX6_beCarried_50 (t := 115) (by decide) (q := 53) rfl (fun c_50 => ?_) (fun c_50 => ?_)
    · skip
      omega
    · skip
      refine j_iload_n dX6_beCarried_53 (q := 54) rfl rfl ?_
      refine j_iload dX6_beCarried_54 (q := 56) rfl rfl ?_
      refine j_ishr dX6_beCarried_56 (q := 57) rfl ?_
      refine j_iconst (v := 1) dX6_beCarried_57 (q := 58) rfl (by decide) ?_
      refine j_iand dX6_beCarried_58 (q := 59) rfl ?_
      refine j_if_eq dX6_beCarried_59 (t := 109) (by decide) (q := 62) rfl (fun c_59 => ?_) (fun c_59 => ?_)
      · skip
        refine j_iincN_6_5 dX6_beCarried_109 (q := 112) rfl rfl rfl ?_
        refine j_goto (q := 44) dX6_beCarried_112 (by decide) ?_
        exact ih (i + 1) σ (by omega) (by rw [carF_no (inS_no c_59)]; exact hC) hO
      · skip
        refine j_aload_n dX6_beCarried_62 (q := 63) rfl rfl ?_
        refine j_getR (r := 9) fs_X6_11 rfl rfl rfl dX6_beCarried_63 (q := 66) rfl ?_
        refine j_iload dX6_beCarried_66 (q := 68) rfl rfl ?_
        refine j_aaldN rfl (by omega) (rf_farm (by omega)) dX6_beCarried_68 (q := 69) rfl ?_
        refine j_ldc cn_X6_122 dX6_beCarried_69 (q := 71) rfl ?_
        refine j_aload_n dX6_beCarried_71 (q := 72) rfl rfl ?_
        refine j_getR (r := 9) fs_X6_11 rfl rfl rfl dX6_beCarried_72 (q := 75) rfl ?_
        refine j_iload dX6_beCarried_75 (q := 77) rfl rfl ?_
        refine j_aaldN rfl (by omega) (rf_farm (by omega)) dX6_beCarried_77 (q := 78) rfl ?_
        refine j_getIV fs_X6_123 (tC_farm (by omega)) rfl (hC.farm (by omega) (by decide)) dX6_beCarried_78 (q := 81) rfl ?_
        refine j_aload_n dX6_beCarried_81 (q := 82) rfl rfl ?_
        refine j_getR (r := 9) fs_X6_11 rfl rfl rfl dX6_beCarried_82 (q := 85) rfl ?_
        refine j_iload dX6_beCarried_85 (q := 87) rfl rfl ?_
        refine j_aaldN rfl (by omega) (rf_farm (by omega)) dX6_beCarried_87 (q := 88) rfl ?_
        refine j_getIV fs_X6_106 (tC_farm (by omega)) rfl (hC.farm (by omega) (by decide)) dX6_beCarried_88 (q := 91) rfl ?_
        refine j_iadd dX6_beCarried_91 (q := 92) rfl ?_
        refine j_mmin lkm_X6_85 ma_min_s ma_i ma_min_c (by decide) (Nat.le_of_ble_eq_true rfl) dX6_beCarried_92 (q := 95) rfl ?_
        refine j_putI fs_X6_123 (tC_farm (by omega)) rfl fp_0_5 dX6_beCarried_95 (q := 98) rfl ?_
        refine j_aload_n dX6_beCarried_98 (q := 99) rfl rfl ?_
        refine j_getR (r := 9) fs_X6_11 rfl rfl rfl dX6_beCarried_99 (q := 102) rfl ?_
        refine j_iload dX6_beCarried_102 (q := 104) rfl rfl ?_
        refine j_aaldN rfl (by omega) (rf_farm (by omega)) dX6_beCarried_104 (q := 105) rfl ?_
        refine j_iconst (v := 0) dX6_beCarried_105 (q := 106) rfl (by decide) ?_
        refine j_putI fs_X6_106 (tC_farm (by omega)) rfl fp_0_4 dX6_beCarried_106 (q := 109) rfl ?_
        refine j_iincN_6_5 dX6_beCarried_109 (q := 112) rfl rfl rfl ?_
        refine j_goto (q := 44) dX6_beCarried_112 (by decide) ?_
        refine ih (i + 1) _ (by omega) ?_ (fun x hx => (up_row (by omega)).trans ((up_row (by omega)).trans (hO x hx)))
        rw [minE (k := 99) ((BD_carF hB i (by omega)).fb (by omega)).2.2.2.2.2 ((BD_carF hB i (by omega)).fb (by omega)).2.2.2.2.1 (by decide)]
        rw [carF_yes (inS_yes c_59)]
        exact CWupF (n := i) (k := 4) (CWupF (n := i) (k := 5) hC (by omega) (by decide) _) (by omega) (by decide) _
theorem ct_X6_beCarried {g : GT} {σ : S_} {t : Nat → Int32} {nf c p : Nat} {set : Int32} (hB : BD t) (hC : CW σ 8 t) (hn : t 5 = nI nf) (h7 : nf ≤ 7) (hc : c < 4) (hp : p < 3) (hw : dryS t set nf ≤ t (7 + p)) (hd : 0 ≤ dryS t set nf) : CT g 5 M_X6_beCarried [.ref 8, .int (nI c), .int set, .int (nI p)] σ (ZHi σ (carT t c set p nf) (payS t set nf)) := by
  refine ct_of [.ref 8, .int (nI c), .int set, .int (nI p), .null, .null] pn_X6_beCarried rfl (Nat.le_of_ble_eq_true rfl) ?_
  refine j_aload_n dX6_beCarried_0 (q := 1) rfl rfl ?_
  refine j_iload_n dX6_beCarried_1 (q := 2) rfl rfl ?_
  refine j_callVi1 (M' := M_X6_payOfSet) lk_X6_119 mv_X6_payOfSet ob_8 (by decide) (Nat.le_of_ble_eq_true rfl) dX6_beCarried_2 (q := 5) rfl (ct_X6_payOfSet hC hn h7 hB.t1) ?_
  intro x1 τ1 hz
  obtain ⟨h1, hτ1⟩ := hz
  cases h1
  have hC1 : CW τ1 8 t := hC.frame (fun c h1 h2 h3 => hτ1 _ (by omega))
  have hO1 : outN τ1 σ := fun x hx => hτ1 x (by omega)
  refine j_istore_6_4 dX6_beCarried_5 (q := 7) rfl rfl rfl ?_
  refine j_aload_n dX6_beCarried_7 (q := 8) rfl rfl ?_
  refine j_getR (r := 12) fs_X6_24 rfl rfl rfl dX6_beCarried_8 (q := 11) rfl ?_
  refine j_iload_n dX6_beCarried_11 (q := 12) rfl rfl ?_
  refine j_dup2 dX6_beCarried_12 (q := 13) rfl rfl rfl ?_
  refine j_ialdV rfl (by omega) (hC1.water hp) dX6_beCarried_13 (q := 14) rfl ?_
  refine j_aload_n dX6_beCarried_14 (q := 15) rfl rfl ?_
  refine j_iload_n dX6_beCarried_15 (q := 16) rfl rfl ?_
  refine j_callVi1E (M' := M_X6_dryOfSet) lk_X6_116 mv_X6_dryOfSet ob_8 (by decide) (Nat.le_of_ble_eq_true rfl) dX6_beCarried_16 (q := 19) rfl (ct_X6_dryOfSet hC1 hn h7) ?_
  refine j_isub dX6_beCarried_19 (q := 20) rfl ?_
  refine j_iastN rfl (by omega) dX6_beCarried_20 (q := 21) rfl ?_
  have hC2 : CW (up τ1 12 p (t (7 + p) - dryS t set nf)) 8 (upd t (7 + p) (t (7 + p) - dryS t set nf)) := CW.up hC1 (LM_water p hp) _
  have he : (up τ1 12 p (t (7 + p) - dryS t set nf)) 11 c = t (52 + 2 * c + 1) := (hC2.at (LM_earned c hc)).trans (upd_ne (by omega))
  refine j_aload_n dX6_beCarried_21 (q := 22) rfl rfl ?_
  refine j_getR (r := 11) fs_X6_21 rfl rfl rfl dX6_beCarried_22 (q := 25) rfl ?_
  refine j_iload_n dX6_beCarried_25 (q := 26) rfl rfl ?_
  refine j_ldc cn_X6_122 dX6_beCarried_26 (q := 28) rfl ?_
  refine j_aload_n dX6_beCarried_28 (q := 29) rfl rfl ?_
  refine j_getR (r := 11) fs_X6_21 rfl rfl rfl dX6_beCarried_29 (q := 32) rfl ?_
  refine j_iload_n dX6_beCarried_32 (q := 33) rfl rfl ?_
  refine j_ialdV rfl (by omega) he dX6_beCarried_33 (q := 34) rfl ?_
  refine j_iload dX6_beCarried_34 (q := 36) rfl rfl ?_
  refine j_iadd dX6_beCarried_36 (q := 37) rfl ?_
  refine j_mmin lkm_X6_85 ma_min_s ma_i ma_min_c (by decide) (Nat.le_of_ble_eq_true rfl) dX6_beCarried_37 (q := 40) rfl ?_
  refine j_iastN rfl (by omega) dX6_beCarried_40 (q := 41) rfl ?_
  refine j_iconst (v := 0) dX6_beCarried_41 (q := 42) rfl (by decide) ?_
  refine j_istore_6_5 dX6_beCarried_42 (q := 44) rfl rfl rfl ?_
  have hC3 := CW.up hC2 (LM_earned c hc) (heldF (t (52 + 2 * c + 1) + payS t set nf) 0 99999)
  rw [minE (k := 999 * nf) (hB.car hc).2 (payS_bw t set nf h7) (by omega)]
  have hwb : bw (t (7 + p) - dryS t set nf) 999 := by
    have := hB.water hp
    unfold bw at *
    grind
  have hB3 : BD (upd (upd t (7 + p) (t (7 + p) - dryS t set nf)) (52 + 2 * c + 1) (heldF (t (52 + 2 * c + 1) + payS t set nf) 0 99999)) := BD_earned (BD_water hB hp hwb) hc (heldF_bw (by decide))
  have hl := bc_loop (g := g) (c := c) (p := p) (set := set) (pay := payS t set nf) (σ0 := σ) hB3 (by rw [upd_ne (by omega), upd_ne (by omega)]; exact hn) h7 nf 0 _ (by omega) hC3 (fun x hx => (up_row (by show x ≠ 11; omega)).trans ((up_row (by omega)).trans (hO1 x hx)))
  rw [carF_upd (by omega) nf h7] at hl
  exact hl
theorem cm_loop {g : GT} {t t1 : Nat → Int32} {nf c p : Nat} {set : Int32} {σ0 : S_} {Z : Value → S_ → Prop} (ht1 : t1 = upd t (7 + p) (t (7 + p) - dryS t set nf)) (hB : BD t1) (hT : TOK t 1) (hn : t 5 = nI nf) (h7 : nf ≤ 7) (hc : c < 4) (hp : p < 3) : ∀ (k i : Nat) (pay : Int32) (σ : S_), i + k = nf → σ 71 = carF t1 set i → pay = payS t set i → outM σ σ0 → J g 4 M_X8_carries (ZMi σ0 (carT t c set p nf) (payS t set nf)) 23 [.ref 70, .int (nI c), .int set, .int (nI p), .int pay, .int (nI i)] [] σ := by
  intro k
  induction k with
  | zero =>
    intro i pay σ hik hs hpay hO
    have h5 : σ 71 5 = nI nf := by rw [hs, carF_keep i (by omega) (by omega), ht1, upd_ne (by omega)]; exact hn
    refine j_iload dX8_carries_23 (q := 25) rfl rfl ?_
    refine j_aload_n dX8_carries_25 (q := 26) rfl rfl ?_
    refine j_getR (r := 71) fs_X8_7 rfl rfl rfl dX8_carries_26 (q := 29) rfl ?_
    refine j_iconst (v := 5) dX8_carries_29 (q := 30) rfl (by decide) ?_
    refine j_ialdV (k := 5) rfl (by decide) h5 dX8_carries_30 (q := 31) rfl ?_
    refine j_icmp_geN (by omega) (by omega) dX8_carries_31 (t := 97) (by decide) (q := 34) rfl (fun c_31 => ?_) (fun c_31 => ?_)
    · skip
      refine j_aload_n dX8_carries_97 (q := 98) rfl rfl ?_
      refine j_getR (r := 71) fs_X8_7 rfl rfl rfl dX8_carries_98 (q := 101) rfl ?_
      refine j_bipush (v := 52) dX8_carries_101 (q := 103) rfl (by decide) ?_
      refine j_iconst (v := 2) dX8_carries_103 (q := 104) rfl (by decide) ?_
      refine j_iload_n dX8_carries_104 (q := 105) rfl rfl ?_
      refine j_imulN (a := 2) dX8_carries_105 (q := 106) rfl ?_
      refine j_iaddN (a := 52) dX8_carries_106 (q := 107) rfl ?_
      refine j_iconst (v := 1) dX8_carries_107 (q := 108) rfl (by decide) ?_
      refine j_iaddN (b := 1) dX8_carries_108 (q := 109) rfl ?_
      refine j_aload_n dX8_carries_109 (q := 110) rfl rfl ?_
      refine j_getR (r := 71) fs_X8_7 rfl rfl rfl dX8_carries_110 (q := 113) rfl ?_
      refine j_bipush (v := 52) dX8_carries_113 (q := 115) rfl (by decide) ?_
      refine j_iconst (v := 2) dX8_carries_115 (q := 116) rfl (by decide) ?_
      refine j_iload_n dX8_carries_116 (q := 117) rfl rfl ?_
      refine j_imulN (a := 2) dX8_carries_117 (q := 118) rfl ?_
      refine j_iaddN (a := 52) dX8_carries_118 (q := 119) rfl ?_
      refine j_iconst (v := 1) dX8_carries_119 (q := 120) rfl (by decide) ?_
      refine j_iaddN (b := 1) dX8_carries_120 (q := 121) rfl ?_
      refine j_ialdN rfl (by omega) dX8_carries_121 (q := 122) rfl ?_
      refine j_iload dX8_carries_122 (q := 124) rfl rfl ?_
      refine j_iadd dX8_carries_124 (q := 125) rfl ?_
      refine j_iconst (v := 0) dX8_carries_125 (q := 126) rfl (by decide) ?_
      refine j_ldc cn_X8_148 dX8_carries_126 (q := 128) rfl ?_
      refine j_callSi3E (M' := M_X8_held) lk_X8_130 ms_X8_held (by decide) (Nat.le_of_ble_eq_true rfl) dX8_carries_128 (q := 131) rfl (ct_X8_held) ?_
      refine j_iastN rfl (by omega) dX8_carries_131 (q := 132) rfl ?_
      refine j_iload dX8_carries_132 (q := 134) rfl rfl ?_
      refine j_ireti dX8_carries_134 rfl ?_
      obtain rfl : i = nf := by omega
      subst ht1
      refine ⟨by rw [hpay], ?_, fun x h1 h2 h3 => (up_row h1).trans (hO x h1 h2 h3)⟩
      rw [up_own, hs, hpay]
      unfold carT
      rw [carF_keep (m := 52 + 2 * c + 1) i h7 (by omega), upd_ne (j := 52 + 2 * c + 1) (by omega)]
    · skip
      omega
  | succ k ih =>
    intro i pay σ hik hs hpay hO
    have h5 : σ 71 5 = nI nf := by rw [hs, carF_keep i (by omega) (by omega), ht1, upd_ne (by omega)]; exact hn
    refine j_iload dX8_carries_23 (q := 25) rfl rfl ?_
    refine j_aload_n dX8_carries_25 (q := 26) rfl rfl ?_
    refine j_getR (r := 71) fs_X8_7 rfl rfl rfl dX8_carries_26 (q := 29) rfl ?_
    refine j_iconst (v := 5) dX8_carries_29 (q := 30) rfl (by decide) ?_
    refine j_ialdV (k := 5) rfl (by decide) h5 dX8_carries_30 (q := 31) rfl ?_
    refine j_icmp_geN (by omega) (by omega) dX8_carries_31 (t := 97) (by decide) (q := 34) rfl (fun c_31 => ?_) (fun c_31 => ?_)
    · skip
      omega
    · skip
      refine j_iload_n dX8_carries_34 (q := 35) rfl rfl ?_
      refine j_iload dX8_carries_35 (q := 37) rfl rfl ?_
      refine j_ishr dX8_carries_37 (q := 38) rfl ?_
      refine j_iconst (v := 1) dX8_carries_38 (q := 39) rfl (by decide) ?_
      refine j_iand dX8_carries_39 (q := 40) rfl ?_
      refine j_iconst (v := 1) dX8_carries_40 (q := 41) rfl (by decide) ?_
      refine j_icmp_ne dX8_carries_41 (t := 91) (by decide) (q := 44) rfl (fun c_41 => ?_) (fun c_41 => ?_)
      · skip
        refine j_iincN_6_5 dX8_carries_91 (q := 94) rfl rfl rfl ?_
        refine j_goto (q := 23) dX8_carries_94 (by decide) ?_
        exact ih (i + 1) pay σ (by omega) (by rw [carF_no c_41]; exact hs) (by rw [show payS t set (i + 1) = payS t set i from if_neg c_41]; exact hpay) hO
      · skip
        refine j_iload dX8_carries_44 (q := 46) rfl rfl ?_
        refine j_aload_n dX8_carries_46 (q := 47) rfl rfl ?_
        refine j_iload dX8_carries_47 (q := 49) rfl rfl ?_
        refine j_callVi1 (M' := M_X8_payOf) lk_X8_160 mv_X8_payOf ob_70 (by decide) (Nat.le_of_ble_eq_true rfl) dX8_carries_49 (q := 52) rfl (ct_X8_payOf (by omega) (by rw [hs]; exact (BD_carF hB i (by omega)).t1)) ?_
        intro x1 τ1 hz
        obtain ⟨h1, hτ1⟩ := hz
        cases h1
        have hs1 : τ1 71 = carF t1 set i := (hτ1 71 (by decide) (by decide)).trans hs
        have hO1 : outM τ1 σ0 := fun x h1 h2 h3 => (hτ1 x h2 h3).trans (hO x h1 h2 h3)
        refine j_iadd dX8_carries_52 (q := 53) rfl ?_
        refine j_istore_6_4 dX8_carries_53 (q := 55) rfl rfl rfl ?_
        refine j_aload_n dX8_carries_55 (q := 56) rfl rfl ?_
        refine j_iload dX8_carries_56 (q := 58) rfl rfl ?_
        refine j_iconst (v := 5) dX8_carries_58 (q := 59) rfl (by decide) ?_
        refine j_aload_n dX8_carries_59 (q := 60) rfl rfl ?_
        refine j_iload dX8_carries_60 (q := 62) rfl rfl ?_
        refine j_iconst (v := 5) dX8_carries_62 (q := 63) rfl (by decide) ?_
        refine j_callVi2E (M' := M_X8_its) lk_X8_123 mv_X8_its ob_70 (by decide) (Nat.le_of_ble_eq_true rfl) dX8_carries_63 (q := 66) rfl (ct_X8_its (k := 5) (by omega) (by decide)) ?_
        refine j_aload_n dX8_carries_66 (q := 67) rfl rfl ?_
        refine j_iload dX8_carries_67 (q := 69) rfl rfl ?_
        refine j_iconst (v := 4) dX8_carries_69 (q := 70) rfl (by decide) ?_
        refine j_callVi2E (M' := M_X8_its) lk_X8_123 mv_X8_its ob_70 (by decide) (Nat.le_of_ble_eq_true rfl) dX8_carries_70 (q := 73) rfl (ct_X8_its (k := 4) (by omega) (by decide)) ?_
        refine j_iadd dX8_carries_73 (q := 74) rfl ?_
        refine j_iconst (v := 0) dX8_carries_74 (q := 75) rfl (by decide) ?_
        refine j_ldc cn_X8_148 dX8_carries_75 (q := 77) rfl ?_
        refine j_callSi3E (M' := M_X8_held) lk_X8_130 ms_X8_held (by decide) (Nat.le_of_ble_eq_true rfl) dX8_carries_77 (q := 80) rfl (ct_X8_held) ?_
        refine j_callVv3E (M' := M_X8_lays1) lk_X8_149 mv_X8_lays1 ob_70 (by decide) (Nat.le_of_ble_eq_true rfl) dX8_carries_80 (q := 83) rfl (ct_X8_lays1 (k := 5) (by omega) (by decide)) ?_
        refine j_aload_n dX8_carries_83 (q := 84) rfl rfl ?_
        refine j_iload dX8_carries_84 (q := 86) rfl rfl ?_
        refine j_iconst (v := 4) dX8_carries_86 (q := 87) rfl (by decide) ?_
        refine j_iconst (v := 0) dX8_carries_87 (q := 88) rfl (by decide) ?_
        refine j_callVv3E (M' := M_X8_lays1) lk_X8_149 mv_X8_lays1 ob_70 (by decide) (Nat.le_of_ble_eq_true rfl) dX8_carries_88 (q := 91) rfl (ct_X8_lays1 (k := 4) (by omega) (by decide)) ?_
        refine j_iincN_6_5 dX8_carries_91 (q := 94) rfl rfl rfl ?_
        refine j_goto (q := 23) dX8_carries_94 (by decide) ?_
        refine ih (i + 1) _ _ (by omega) ?_ ?_ (fun x h1 h2 h3 => (up_row h1).trans ((up_row h1).trans (hO1 x h1 h2 h3)))
        · rw [up_own, up_own, hs1, carF_yes c_41]
        · rw [show payS t set (i + 1) = payS t set i + payOfT t i from if_pos c_41, hpay, ← payOfT_car (set := set) (v := t (7 + p) - dryS t set nf) hT (n := i) (by omega) hp, ← ht1, ← hs]
          rfl
theorem ct_X8_carries {g : GT} {σ : S_} {nf c p : Nat} {set : Int32} (hB : BD (σ 71)) (hn : σ 71 5 = nI nf) (h7 : nf ≤ 7) (hc : c < 4) (hp : p < 3) (hw : dryS (σ 71) set nf ≤ σ 71 (7 + p)) (hd : 0 ≤ dryS (σ 71) set nf) : CT g 4 M_X8_carries [.ref 70, .int (nI c), .int set, .int (nI p)] σ (ZMi σ (carT (σ 71) c set p nf) (payS (σ 71) set nf)) := by
  refine ct_of [.ref 70, .int (nI c), .int set, .int (nI p), .null, .null] pn_X8_carries rfl (Nat.le_of_ble_eq_true rfl) ?_
  refine j_iconst (v := 0) dX8_carries_0 (q := 1) rfl (by decide) ?_
  refine j_istore_6_4 dX8_carries_1 (q := 3) rfl rfl rfl ?_
  refine j_aload_n dX8_carries_3 (q := 4) rfl rfl ?_
  refine j_getR (r := 71) fs_X8_7 rfl rfl rfl dX8_carries_4 (q := 7) rfl ?_
  refine j_bipush (v := 7) dX8_carries_7 (q := 9) rfl (by decide) ?_
  refine j_iload_n dX8_carries_9 (q := 10) rfl rfl ?_
  refine j_iaddN (a := 7) dX8_carries_10 (q := 11) rfl ?_
  refine j_dup2 dX8_carries_11 (q := 12) rfl rfl rfl ?_
  refine j_ialdN rfl (by omega) dX8_carries_12 (q := 13) rfl ?_
  refine j_aload_n dX8_carries_13 (q := 14) rfl rfl ?_
  refine j_iload_n dX8_carries_14 (q := 15) rfl rfl ?_
  refine j_callVi1E (M' := M_X8_dryOf) lk_X8_154 mv_X8_dryOf ob_70 (by decide) (Nat.le_of_ble_eq_true rfl) dX8_carries_15 (q := 18) rfl (ct_X8_dryOf hn h7) ?_
  refine j_isub dX8_carries_18 (q := 19) rfl ?_
  refine j_iastN rfl (by omega) dX8_carries_19 (q := 20) rfl ?_
  refine j_iconst (v := 0) dX8_carries_20 (q := 21) rfl (by decide) ?_
  refine j_istore_6_5 dX8_carries_21 (q := 23) rfl rfl rfl ?_
  have hwb : bw (σ 71 (7 + p) - dryS (σ 71) set nf) 999 := by
    have := hB.water hp
    unfold bw at *
    grind
  exact cm_loop (Z := fun _ _ => True) rfl (BD_water hB hp hwb) hB.t1 hn h7 hc hp nf 0 _ _ (by omega) (by rw [up_own]; rfl) rfl (fun x h1 h2 h3 => up_row h1)
