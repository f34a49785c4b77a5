theorem ct_X7_put_no {g : GT} {σ : S_} {s i v : Int32} (h : ¬ (0 ≤ s ∧ s ≤ 3)) : CT g 2 M_X7_put [.ref 0, .int s, .int i, .int v] σ (EQ (.int (-1000000001)) (rfz σ 1)) := by
  refine ct_of [.ref 0, .int s, .int i, .int v] pn_X7_put rfl (Nat.le_of_ble_eq_true rfl) ?_
  refine j_iload_n dX7_put_0 (q := 1) rfl rfl ?_
  refine j_callSi1E (M' := M_X7_isSheet) lk_X7_242 ms_X7_isSheet (by decide) (Nat.le_of_ble_eq_true rfl) dX7_put_1 (q := 4) rfl (ct_X7_isSheet) ?_
  refine j_ifneB dX7_put_4 (t := 13) (by decide) (q := 7) rfl (fun c_4 => ?_) (fun c_4 => ?_)
  · skip
    exact absurd c_4 h
  · skip
    refine j_aload_n dX7_put_7 (q := 8) rfl rfl ?_
    refine j_iconst (v := 1) dX7_put_8 (q := 9) rfl (by decide) ?_
    refine j_callVi1E (M' := M_X7_refuse) lk_X7_61 mv_X7_refuse ob_0 (by decide) (Nat.le_of_ble_eq_true rfl) dX7_put_9 (q := 12) rfl (ct_ref1) ?_
    refine j_ireti dX7_put_12 rfl ?_
    exact ⟨rfl, rfl⟩
theorem ct_X8_put_no {g : GT} {σ : S_} {s i v : Int32} (h : ¬ (0 ≤ s ∧ s ≤ 3)) : CT g 2 M_X8_put [.ref 70, .int s, .int i, .int v] σ (EQ (.int (-1000000001)) (rfm σ 1)) := by
  refine ct_of [.ref 70, .int s, .int i, .int v, .null] pn_X8_put rfl (Nat.le_of_ble_eq_true rfl) ?_
  refine j_iload_n dX8_put_0 (q := 1) rfl rfl ?_
  refine j_callSi1E (M' := M_X8_isSheet) lk_X8_252 ms_X8_isSheet (by decide) (Nat.le_of_ble_eq_true rfl) dX8_put_1 (q := 4) rfl (ct_X8_isSheet) ?_
  refine j_ifneB dX8_put_4 (t := 13) (by decide) (q := 7) rfl (fun c_4 => ?_) (fun c_4 => ?_)
  · skip
    exact absurd c_4 h
  · skip
    refine j_aload_n dX8_put_7 (q := 8) rfl rfl ?_
    refine j_iconst (v := 1) dX8_put_8 (q := 9) rfl (by decide) ?_
    refine j_callVi1E (M' := M_X8_error) lk_X8_63 mv_X8_error ob_70 (by decide) (Nat.le_of_ble_eq_true rfl) dX8_put_9 (q := 12) rfl (ct_err1) ?_
    refine j_ireti dX8_put_12 rfl ?_
    exact ⟨rfl, rfl⟩
theorem ct_X7_put_gone {g : GT} {σ : S_} {s : Nat} {i v : Int32} (hk4 : s < 4) (hb : σ (62 + 2 * s) 1 = 0) : CT g 2 M_X7_put [.ref 0, .int (nI s), .int i, .int v] σ (EQ (.int (-1000000002)) (rfz σ 2)) := by
  refine ct_of [.ref 0, .int (nI s), .int i, .int v] pn_X7_put rfl (Nat.le_of_ble_eq_true rfl) ?_
  refine j_iload_n dX7_put_0 (q := 1) rfl rfl ?_
  refine j_callSi1E (M' := M_X7_isSheet) lk_X7_242 ms_X7_isSheet (by decide) (Nat.le_of_ble_eq_true rfl) dX7_put_1 (q := 4) rfl (ct_X7_isSheet) ?_
  refine j_ifneB dX7_put_4 (t := 13) (by decide) (q := 7) rfl (fun c_4 => ?_) (fun c_4 => ?_)
  · skip
    refine j_aload_n dX7_put_13 (q := 14) rfl rfl ?_
    refine j_getR (r := 1) fs_X7_44 rfl rfl rfl dX7_put_14 (q := 17) rfl ?_
    refine j_iload_n dX7_put_17 (q := 18) rfl rfl ?_
    refine j_aaldN rfl (by omega) (SH_1 hk4) dX7_put_18 (q := 19) rfl ?_
    refine j_callVi0E (M' := M_X2_isMissing) lk_X7_245 mv_X2_isMissing (ob_of (SH_o hk4) rfl) (by decide) (Nat.le_of_ble_eq_true rfl) dX7_put_19 (q := 22) rfl (ct_X2_isMissing hk4) ?_
    refine j_ifeqB dX7_put_22 (t := 31) (by decide) (q := 25) rfl (fun c_22 => ?_) (fun c_22 => ?_)
    · skip
      refine j_aload_n dX7_put_25 (q := 26) rfl rfl ?_
      refine j_iconst (v := 2) dX7_put_26 (q := 27) rfl (by decide) ?_
      refine j_callVi1E (M' := M_X7_refuse) lk_X7_61 mv_X7_refuse ob_0 (by decide) (Nat.le_of_ble_eq_true rfl) dX7_put_27 (q := 30) rfl (ct_ref2) ?_
      refine j_ireti dX7_put_30 rfl ?_
      exact ⟨rfl, rfl⟩
    · skip
      exact absurd hb c_22
  · skip
    exact absurd (inK (b := 3) (by omega) (by decide)) c_4
theorem ct_X7_put_far {g : GT} {σ : S_} {s : Nat} {i v : Int32} (hk4 : s < 4) (hb : ¬ σ (62 + 2 * s) 1 = 0) (h : ¬ (0 ≤ i ∧ i ≤ σ (62 + 2 * s) 2 - 1)) : CT g 2 M_X7_put [.ref 0, .int (nI s), .int i, .int v] σ (EQ (.int (-1000000001)) (rfz σ 1)) := by
  refine ct_of [.ref 0, .int (nI s), .int i, .int v] pn_X7_put rfl (Nat.le_of_ble_eq_true rfl) ?_
  refine j_iload_n dX7_put_0 (q := 1) rfl rfl ?_
  refine j_callSi1E (M' := M_X7_isSheet) lk_X7_242 ms_X7_isSheet (by decide) (Nat.le_of_ble_eq_true rfl) dX7_put_1 (q := 4) rfl (ct_X7_isSheet) ?_
  refine j_ifneB dX7_put_4 (t := 13) (by decide) (q := 7) rfl (fun c_4 => ?_) (fun c_4 => ?_)
  · skip
    refine j_aload_n dX7_put_13 (q := 14) rfl rfl ?_
    refine j_getR (r := 1) fs_X7_44 rfl rfl rfl dX7_put_14 (q := 17) rfl ?_
    refine j_iload_n dX7_put_17 (q := 18) rfl rfl ?_
    refine j_aaldN rfl (by omega) (SH_1 hk4) dX7_put_18 (q := 19) rfl ?_
    refine j_callVi0E (M' := M_X2_isMissing) lk_X7_245 mv_X2_isMissing (ob_of (SH_o hk4) rfl) (by decide) (Nat.le_of_ble_eq_true rfl) dX7_put_19 (q := 22) rfl (ct_X2_isMissing hk4) ?_
    refine j_ifeqB dX7_put_22 (t := 31) (by decide) (q := 25) rfl (fun c_22 => ?_) (fun c_22 => ?_)
    · skip
      exact absurd c_22 hb
    · skip
      refine j_iload_n dX7_put_31 (q := 32) rfl rfl ?_
      refine j_iconst (v := 0) dX7_put_32 (q := 33) rfl (by decide) ?_
      refine j_aload_n dX7_put_33 (q := 34) rfl rfl ?_
      refine j_getR (r := 1) fs_X7_44 rfl rfl rfl dX7_put_34 (q := 37) rfl ?_
      refine j_iload_n dX7_put_37 (q := 38) rfl rfl ?_
      refine j_aaldN rfl (by omega) (SH_1 hk4) dX7_put_38 (q := 39) rfl ?_
      refine j_getI fs_X7_269 (SH_o hk4) rfl dX7_put_39 (q := 42) rfl ?_
      refine j_iconst (v := 1) dX7_put_42 (q := 43) rfl (by decide) ?_
      refine j_isub dX7_put_43 (q := 44) rfl ?_
      refine j_callSi3E (M' := M_X7_within) lk_X7_57 ms_X7_within (by decide) (Nat.le_of_ble_eq_true rfl) dX7_put_44 (q := 47) rfl (ct_X7_within) ?_
      refine j_ifneB dX7_put_47 (t := 56) (by decide) (q := 50) rfl (fun c_47 => ?_) (fun c_47 => ?_)
      · skip
        exact absurd c_47 h
      · skip
        refine j_aload_n dX7_put_50 (q := 51) rfl rfl ?_
        refine j_iconst (v := 1) dX7_put_51 (q := 52) rfl (by decide) ?_
        refine j_callVi1E (M' := M_X7_refuse) lk_X7_61 mv_X7_refuse ob_0 (by decide) (Nat.le_of_ble_eq_true rfl) dX7_put_52 (q := 55) rfl (ct_ref1) ?_
        refine j_ireti dX7_put_55 rfl ?_
        exact ⟨rfl, rfl⟩
  · skip
    exact absurd (inK (b := 3) (by omega) (by decide)) c_4
theorem ct_X7_put_ok {g : GT} {σ : S_} {s i sz : Nat} {v : Int32} (hk4 : s < 4) (hb : ¬ σ (62 + 2 * s) 1 = 0) (hi : i < sz) (h24 : sz ≤ 24) (e : σ (62 + 2 * s) 2 = nI sz) : CT g 2 M_X7_put [.ref 0, .int (nI s), .int (nI i), .int v] σ (EQ (.int 1) (up σ (63 + 2 * s) i (wV (σ (62 + 2 * s) 1) v))) := by
  refine ct_of [.ref 0, .int (nI s), .int (nI i), .int v] pn_X7_put rfl (Nat.le_of_ble_eq_true rfl) ?_
  refine j_iload_n dX7_put_0 (q := 1) rfl rfl ?_
  refine j_callSi1E (M' := M_X7_isSheet) lk_X7_242 ms_X7_isSheet (by decide) (Nat.le_of_ble_eq_true rfl) dX7_put_1 (q := 4) rfl (ct_X7_isSheet) ?_
  refine j_ifneB dX7_put_4 (t := 13) (by decide) (q := 7) rfl (fun c_4 => ?_) (fun c_4 => ?_)
  · skip
    refine j_aload_n dX7_put_13 (q := 14) rfl rfl ?_
    refine j_getR (r := 1) fs_X7_44 rfl rfl rfl dX7_put_14 (q := 17) rfl ?_
    refine j_iload_n dX7_put_17 (q := 18) rfl rfl ?_
    refine j_aaldN rfl (by omega) (SH_1 hk4) dX7_put_18 (q := 19) rfl ?_
    refine j_callVi0E (M' := M_X2_isMissing) lk_X7_245 mv_X2_isMissing (ob_of (SH_o hk4) rfl) (by decide) (Nat.le_of_ble_eq_true rfl) dX7_put_19 (q := 22) rfl (ct_X2_isMissing hk4) ?_
    refine j_ifeqB dX7_put_22 (t := 31) (by decide) (q := 25) rfl (fun c_22 => ?_) (fun c_22 => ?_)
    · skip
      exact absurd c_22 hb
    · skip
      refine j_iload_n dX7_put_31 (q := 32) rfl rfl ?_
      refine j_iconst (v := 0) dX7_put_32 (q := 33) rfl (by decide) ?_
      refine j_aload_n dX7_put_33 (q := 34) rfl rfl ?_
      refine j_getR (r := 1) fs_X7_44 rfl rfl rfl dX7_put_34 (q := 37) rfl ?_
      refine j_iload_n dX7_put_37 (q := 38) rfl rfl ?_
      refine j_aaldN rfl (by omega) (SH_1 hk4) dX7_put_38 (q := 39) rfl ?_
      refine j_getI fs_X7_269 (SH_o hk4) rfl dX7_put_39 (q := 42) rfl ?_
      refine j_iconst (v := 1) dX7_put_42 (q := 43) rfl (by decide) ?_
      refine j_isub dX7_put_43 (q := 44) rfl ?_
      refine j_callSi3E (M' := M_X7_within) lk_X7_57 ms_X7_within (by decide) (Nat.le_of_ble_eq_true rfl) dX7_put_44 (q := 47) rfl (ct_X7_within) ?_
      refine j_ifneB dX7_put_47 (t := 56) (by decide) (q := 50) rfl (fun c_47 => ?_) (fun c_47 => ?_)
      · skip
        refine j_aload_n dX7_put_56 (q := 57) rfl rfl ?_
        refine j_getR (r := 1) fs_X7_44 rfl rfl rfl dX7_put_57 (q := 60) rfl ?_
        refine j_iload_n dX7_put_60 (q := 61) rfl rfl ?_
        refine j_aaldN rfl (by omega) (SH_1 hk4) dX7_put_61 (q := 62) rfl ?_
        refine j_iload_n dX7_put_62 (q := 63) rfl rfl ?_
        refine j_iload_n dX7_put_63 (q := 64) rfl rfl ?_
        refine j_callVv2E (M' := M_X2_write) lk_X7_272 mv_X2_write (ob_of (SH_o hk4) rfl) (by decide) (Nat.le_of_ble_eq_true rfl) dX7_put_64 (q := 67) rfl (ct_X2_write hk4 (by omega)) ?_
        refine j_iconst (v := 1) dX7_put_67 (q := 68) rfl (by decide) ?_
        refine j_ireti dX7_put_68 rfl ?_
        exact ⟨rfl, rfl⟩
      · skip
        exact absurd (inF hi h24 e) c_47
  · skip
    exact absurd (inK (b := 3) (by omega) (by decide)) c_4
theorem ct_X8_put_gone {g : GT} {σ : S_} {s : Nat} {i v : Int32} (hk4 : s < 4) (hb : σ 83 s = 0) : CT g 2 M_X8_put [.ref 70, .int (nI s), .int i, .int v] σ (EQ (.int (-1000000002)) (rfm σ 2)) := by
  refine ct_of [.ref 70, .int (nI s), .int i, .int v, .null] pn_X8_put rfl (Nat.le_of_ble_eq_true rfl) ?_
  refine j_iload_n dX8_put_0 (q := 1) rfl rfl ?_
  refine j_callSi1E (M' := M_X8_isSheet) lk_X8_252 ms_X8_isSheet (by decide) (Nat.le_of_ble_eq_true rfl) dX8_put_1 (q := 4) rfl (ct_X8_isSheet) ?_
  refine j_ifneB dX8_put_4 (t := 13) (by decide) (q := 7) rfl (fun c_4 => ?_) (fun c_4 => ?_)
  · skip
    refine j_aload_n dX8_put_13 (q := 14) rfl rfl ?_
    refine j_getR (r := 83) fs_X8_46 rfl rfl rfl dX8_put_14 (q := 17) rfl ?_
    refine j_iload_n dX8_put_17 (q := 18) rfl rfl ?_
    refine j_ialdN rfl (by omega) dX8_put_18 (q := 19) rfl ?_
    refine j_if_ne dX8_put_19 (t := 28) (by decide) (q := 22) rfl (fun c_19 => ?_) (fun c_19 => ?_)
    · skip
      exact absurd hb c_19
    · skip
      refine j_aload_n dX8_put_22 (q := 23) rfl rfl ?_
      refine j_iconst (v := 2) dX8_put_23 (q := 24) rfl (by decide) ?_
      refine j_callVi1E (M' := M_X8_error) lk_X8_63 mv_X8_error ob_70 (by decide) (Nat.le_of_ble_eq_true rfl) dX8_put_24 (q := 27) rfl (ct_err2) ?_
      refine j_ireti dX8_put_27 rfl ?_
      exact ⟨rfl, rfl⟩
  · skip
    exact absurd (inK (b := 3) (by omega) (by decide)) c_4
theorem ct_X8_put_far {g : GT} {σ : S_} {s : Nat} {i v : Int32} (hk4 : s < 4) (hb : ¬ σ 83 s = 0) (h : ¬ (0 ≤ i ∧ i ≤ σ 84 s - 1)) : CT g 2 M_X8_put [.ref 70, .int (nI s), .int i, .int v] σ (EQ (.int (-1000000001)) (rfm σ 1)) := by
  refine ct_of [.ref 70, .int (nI s), .int i, .int v, .null] pn_X8_put rfl (Nat.le_of_ble_eq_true rfl) ?_
  refine j_iload_n dX8_put_0 (q := 1) rfl rfl ?_
  refine j_callSi1E (M' := M_X8_isSheet) lk_X8_252 ms_X8_isSheet (by decide) (Nat.le_of_ble_eq_true rfl) dX8_put_1 (q := 4) rfl (ct_X8_isSheet) ?_
  refine j_ifneB dX8_put_4 (t := 13) (by decide) (q := 7) rfl (fun c_4 => ?_) (fun c_4 => ?_)
  · skip
    refine j_aload_n dX8_put_13 (q := 14) rfl rfl ?_
    refine j_getR (r := 83) fs_X8_46 rfl rfl rfl dX8_put_14 (q := 17) rfl ?_
    refine j_iload_n dX8_put_17 (q := 18) rfl rfl ?_
    refine j_ialdN rfl (by omega) dX8_put_18 (q := 19) rfl ?_
    refine j_if_ne dX8_put_19 (t := 28) (by decide) (q := 22) rfl (fun c_19 => ?_) (fun c_19 => ?_)
    · skip
      refine j_iload_n dX8_put_28 (q := 29) rfl rfl ?_
      refine j_iconst (v := 0) dX8_put_29 (q := 30) rfl (by decide) ?_
      refine j_aload_n dX8_put_30 (q := 31) rfl rfl ?_
      refine j_getR (r := 84) fs_X8_49 rfl rfl rfl dX8_put_31 (q := 34) rfl ?_
      refine j_iload_n dX8_put_34 (q := 35) rfl rfl ?_
      refine j_ialdN rfl (by omega) dX8_put_35 (q := 36) rfl ?_
      refine j_iconst (v := 1) dX8_put_36 (q := 37) rfl (by decide) ?_
      refine j_isub dX8_put_37 (q := 38) rfl ?_
      refine j_callSi3E (M' := M_X8_in) lk_X8_59 ms_X8_in (by decide) (Nat.le_of_ble_eq_true rfl) dX8_put_38 (q := 41) rfl (ct_X8_in) ?_
      refine j_ifneB dX8_put_41 (t := 50) (by decide) (q := 44) rfl (fun c_41 => ?_) (fun c_41 => ?_)
      · skip
        exact absurd c_41 h
      · skip
        refine j_aload_n dX8_put_44 (q := 45) rfl rfl ?_
        refine j_iconst (v := 1) dX8_put_45 (q := 46) rfl (by decide) ?_
        refine j_callVi1E (M' := M_X8_error) lk_X8_63 mv_X8_error ob_70 (by decide) (Nat.le_of_ble_eq_true rfl) dX8_put_46 (q := 49) rfl (ct_err1) ?_
        refine j_ireti dX8_put_49 rfl ?_
        exact ⟨rfl, rfl⟩
    · skip
      exact absurd c_19 hb
  · skip
    exact absurd (inK (b := 3) (by omega) (by decide)) c_4
theorem ct_X8_put_ok {g : GT} {σ : S_} {s i sz : Nat} {v : Int32} (hk4 : s < 4) (hb : ¬ σ 83 s = 0) (hi : i < sz) (h24 : sz ≤ 24) (e : σ 84 s = nI sz) : CT g 2 M_X8_put [.ref 70, .int (nI s), .int (nI i), .int v] σ (EQ (.int 1) (up σ 85 (24 * s + i) ((v <<< ((32 - σ 83 s) &&& 31)) >>> ((32 - σ 83 s) &&& 31)))) := by
  refine ct_of [.ref 70, .int (nI s), .int (nI i), .int v, .null] pn_X8_put rfl (Nat.le_of_ble_eq_true rfl) ?_
  refine j_iload_n dX8_put_0 (q := 1) rfl rfl ?_
  refine j_callSi1E (M' := M_X8_isSheet) lk_X8_252 ms_X8_isSheet (by decide) (Nat.le_of_ble_eq_true rfl) dX8_put_1 (q := 4) rfl (ct_X8_isSheet) ?_
  refine j_ifneB dX8_put_4 (t := 13) (by decide) (q := 7) rfl (fun c_4 => ?_) (fun c_4 => ?_)
  · skip
    refine j_aload_n dX8_put_13 (q := 14) rfl rfl ?_
    refine j_getR (r := 83) fs_X8_46 rfl rfl rfl dX8_put_14 (q := 17) rfl ?_
    refine j_iload_n dX8_put_17 (q := 18) rfl rfl ?_
    refine j_ialdN rfl (by omega) dX8_put_18 (q := 19) rfl ?_
    refine j_if_ne dX8_put_19 (t := 28) (by decide) (q := 22) rfl (fun c_19 => ?_) (fun c_19 => ?_)
    · skip
      refine j_iload_n dX8_put_28 (q := 29) rfl rfl ?_
      refine j_iconst (v := 0) dX8_put_29 (q := 30) rfl (by decide) ?_
      refine j_aload_n dX8_put_30 (q := 31) rfl rfl ?_
      refine j_getR (r := 84) fs_X8_49 rfl rfl rfl dX8_put_31 (q := 34) rfl ?_
      refine j_iload_n dX8_put_34 (q := 35) rfl rfl ?_
      refine j_ialdN rfl (by omega) dX8_put_35 (q := 36) rfl ?_
      refine j_iconst (v := 1) dX8_put_36 (q := 37) rfl (by decide) ?_
      refine j_isub dX8_put_37 (q := 38) rfl ?_
      refine j_callSi3E (M' := M_X8_in) lk_X8_59 ms_X8_in (by decide) (Nat.le_of_ble_eq_true rfl) dX8_put_38 (q := 41) rfl (ct_X8_in) ?_
      refine j_ifneB dX8_put_41 (t := 50) (by decide) (q := 44) rfl (fun c_41 => ?_) (fun c_41 => ?_)
      · skip
        refine j_bipush (v := 32) dX8_put_50 (q := 52) rfl (by decide) ?_
        refine j_aload_n dX8_put_52 (q := 53) rfl rfl ?_
        refine j_getR (r := 83) fs_X8_46 rfl rfl rfl dX8_put_53 (q := 56) rfl ?_
        refine j_iload_n dX8_put_56 (q := 57) rfl rfl ?_
        refine j_ialdN rfl (by omega) dX8_put_57 (q := 58) rfl ?_
        refine j_isub dX8_put_58 (q := 59) rfl ?_
        refine j_istore_5_4 dX8_put_59 (q := 61) rfl rfl rfl ?_
        refine j_aload_n dX8_put_61 (q := 62) rfl rfl ?_
        refine j_getR (r := 85) fs_X8_52 rfl rfl rfl dX8_put_62 (q := 65) rfl ?_
        refine j_bipush (v := 24) dX8_put_65 (q := 67) rfl (by decide) ?_
        refine j_iload_n dX8_put_67 (q := 68) rfl rfl ?_
        refine j_imulN (a := 24) dX8_put_68 (q := 69) rfl ?_
        refine j_iload_n dX8_put_69 (q := 70) rfl rfl ?_
        refine j_iaddN dX8_put_70 (q := 71) rfl ?_
        refine j_iload_n dX8_put_71 (q := 72) rfl rfl ?_
        refine j_iload dX8_put_72 (q := 74) rfl rfl ?_
        refine j_ishl dX8_put_74 (q := 75) rfl ?_
        refine j_iload dX8_put_75 (q := 77) rfl rfl ?_
        refine j_ishr dX8_put_77 (q := 78) rfl ?_
        refine j_iastN rfl (by omega) dX8_put_78 (q := 79) rfl ?_
        refine j_iconst (v := 1) dX8_put_79 (q := 80) rfl (by decide) ?_
        refine j_ireti dX8_put_80 rfl ?_
        exact ⟨rfl, rfl⟩
      · skip
        exact absurd (inF hi h24 e) c_41
    · skip
      exact absurd c_19 hb
  · skip
    exact absurd (inK (b := 3) (by omega) (by decide)) c_4
/-- how many are DRY that may be, from i on -/
def prN (f : Nat → Int32) : Nat → Nat → Nat
  | 0, i => i
  | k + 1, i => if 0 ≤ f i ∧ f i ≤ 99 then prN f k (i + 1) else i
theorem prN_le {f : Nat → Int32} : ∀ k i, i ≤ prN f k i ∧ prN f k i ≤ i + k := by
  intro k
  induction k with
  | zero => intro i; exact ⟨Nat.le_refl _, Nat.le_refl _⟩
  | succ k ih => intro i; unfold prN; split
                 · have := ih (i + 1); omega
                 · omega
theorem prN_ext {f f' : Nat → Int32} : ∀ k i, (∀ j, i ≤ j → j < i + k → f j = f' j) → prN f k i = prN f' k i := by
  intro k
  induction k with
  | zero => intro i _; rfl
  | succ k ih => intro i h; unfold prN; rw [h i (Nat.le_refl _) (by omega), ih (i + 1) (fun j a b => h j (by omega) (by omega))]
/-- DRY of the first n farms as told -/
def prT (t f : Nat → Int32) : Nat → Nat → Int32
  | 0 => t
  | n + 1 => upd (prT t f n) (10 + 6 * n + 4) (f n)
theorem prT_keep {t f : Nat → Int32} {m : Nat} : ∀ n, n ≤ 7 → (m < 10 ∨ 52 ≤ m) → prT t f n m = t m := by
  intro n
  induction n with
  | zero => intro _ _; rfl
  | succ n ih => intro h1 h2; show upd _ _ _ m = _; rw [upd_ne (by omega)]; exact ih (by omega) h2
theorem min_le {a b : Nat} (h1 : a < 2 ^ 31) (h2 : b < 2 ^ 31) : (if nI b < nI a then nI b else nI a) = nI (min a b) := by
  by_cases c : b < a
  · rw [if_pos ((nI_lt_iff h2 h1).mpr c), Nat.min_eq_right (by omega)]
  · rw [if_neg (fun q => c ((nI_lt_iff h2 h1).mp q)), Nat.min_eq_left (by omega)]
theorem ct_X7_parches_no {g : GT} {σ : S_} {s : Int32} (h : ¬ (0 ≤ s ∧ s ≤ 3)) : CT g 2 M_X7_parches [.ref 0, .int s] σ (EQ (.int (-1000000001)) (rfz σ 1)) := by
  refine ct_of [.ref 0, .int s, .null, .null, .null] pn_X7_parches rfl (Nat.le_of_ble_eq_true rfl) ?_
  refine j_iload_n dX7_parches_0 (q := 1) rfl rfl ?_
  refine j_callSi1E (M' := M_X7_isSheet) lk_X7_242 ms_X7_isSheet (by decide) (Nat.le_of_ble_eq_true rfl) dX7_parches_1 (q := 4) rfl (ct_X7_isSheet) ?_
  refine j_ifneB dX7_parches_4 (t := 13) (by decide) (q := 7) rfl (fun c_4 => ?_) (fun c_4 => ?_)
  · skip
    exact absurd c_4 h
  · skip
    refine j_aload_n dX7_parches_7 (q := 8) rfl rfl ?_
    refine j_iconst (v := 1) dX7_parches_8 (q := 9) rfl (by decide) ?_
    refine j_callVi1E (M' := M_X7_refuse) lk_X7_61 mv_X7_refuse ob_0 (by decide) (Nat.le_of_ble_eq_true rfl) dX7_parches_9 (q := 12) rfl (ct_ref1) ?_
    refine j_ireti dX7_parches_12 rfl ?_
    exact ⟨rfl, rfl⟩
theorem ct_X7_parches_gone {g : GT} {σ : S_} {s : Nat} (hk4 : s < 4) (hb : σ (62 + 2 * s) 1 = 0) : CT g 2 M_X7_parches [.ref 0, .int (nI s)] σ (EQ (.int (-1000000002)) (rfz σ 2)) := by
  refine ct_of [.ref 0, .int (nI s), .null, .null, .null] pn_X7_parches rfl (Nat.le_of_ble_eq_true rfl) ?_
  refine j_iload_n dX7_parches_0 (q := 1) rfl rfl ?_
  refine j_callSi1E (M' := M_X7_isSheet) lk_X7_242 ms_X7_isSheet (by decide) (Nat.le_of_ble_eq_true rfl) dX7_parches_1 (q := 4) rfl (ct_X7_isSheet) ?_
  refine j_ifneB dX7_parches_4 (t := 13) (by decide) (q := 7) rfl (fun c_4 => ?_) (fun c_4 => ?_)
  · skip
    refine j_aload_n dX7_parches_13 (q := 14) rfl rfl ?_
    refine j_getR (r := 1) fs_X7_44 rfl rfl rfl dX7_parches_14 (q := 17) rfl ?_
    refine j_iload_n dX7_parches_17 (q := 18) rfl rfl ?_
    refine j_aaldN rfl (by omega) (SH_1 hk4) dX7_parches_18 (q := 19) rfl ?_
    refine j_astore_n_5_2 dX7_parches_19 (q := 20) rfl rfl rfl ?_
    refine j_aload_n dX7_parches_20 (q := 21) rfl rfl ?_
    refine j_callVi0E (M' := M_X2_isMissing) lk_X7_245 mv_X2_isMissing (ob_of (SH_o hk4) rfl) (by decide) (Nat.le_of_ble_eq_true rfl) dX7_parches_21 (q := 24) rfl (ct_X2_isMissing hk4) ?_
    refine j_ifeqB dX7_parches_24 (t := 33) (by decide) (q := 27) rfl (fun c_24 => ?_) (fun c_24 => ?_)
    · skip
      refine j_aload_n dX7_parches_27 (q := 28) rfl rfl ?_
      refine j_iconst (v := 2) dX7_parches_28 (q := 29) rfl (by decide) ?_
      refine j_callVi1E (M' := M_X7_refuse) lk_X7_61 mv_X7_refuse ob_0 (by decide) (Nat.le_of_ble_eq_true rfl) dX7_parches_29 (q := 32) rfl (ct_ref2) ?_
      refine j_ireti dX7_parches_32 rfl ?_
      exact ⟨rfl, rfl⟩
    · skip
      exact absurd hb c_24
  · skip
    exact absurd (inK (b := 3) (by omega) (by decide)) c_4
theorem ct_X8_parches_no {g : GT} {σ : S_} {s : Int32} (h : ¬ (0 ≤ s ∧ s ≤ 3)) : CT g 3 M_X8_parches [.ref 70, .int s] σ (EQ (.int (-1000000001)) (rfm σ 1)) := by
  refine ct_of [.ref 70, .int s, .null, .null] pn_X8_parches rfl (Nat.le_of_ble_eq_true rfl) ?_
  refine j_aload_n dX8_parches_0 (q := 1) rfl rfl ?_
  refine j_iload_n dX8_parches_1 (q := 2) rfl rfl ?_
  refine j_callVi1E (M' := M_X8_lacks) lk_X8_214 mv_X8_lacks ob_70 (by decide) (Nat.le_of_ble_eq_true rfl) dX8_parches_2 (q := 5) rfl (ct_X8_lacks_b h) ?_
  refine j_istore_n_4_2 dX8_parches_5 (q := 6) rfl rfl rfl ?_
  refine j_iload_n dX8_parches_6 (q := 7) rfl rfl ?_
  refine j_if_eq dX8_parches_7 (t := 16) (by decide) (q := 10) rfl (fun c_7 => ?_) (fun c_7 => ?_)
  · skip
    exact absurd c_7 (by decide)
  · skip
    refine j_aload_n dX8_parches_10 (q := 11) rfl rfl ?_
    refine j_iload_n dX8_parches_11 (q := 12) rfl rfl ?_
    refine j_callVi1E (M' := M_X8_error) lk_X8_63 mv_X8_error ob_70 (by decide) (Nat.le_of_ble_eq_true rfl) dX8_parches_12 (q := 15) rfl (ct_err1) ?_
    refine j_ireti dX8_parches_15 rfl ?_
    exact ⟨rfl, rfl⟩
theorem ct_X8_parches_gone {g : GT} {σ : S_} {s : Nat} (hk4 : s < 4) (hb : σ 83 s = 0) : CT g 3 M_X8_parches [.ref 70, .int (nI s)] σ (EQ (.int (-1000000002)) (rfm σ 2)) := by
  refine ct_of [.ref 70, .int (nI s), .null, .null] pn_X8_parches rfl (Nat.le_of_ble_eq_true rfl) ?_
  refine j_aload_n dX8_parches_0 (q := 1) rfl rfl ?_
  refine j_iload_n dX8_parches_1 (q := 2) rfl rfl ?_
  refine j_callVi1E (M' := M_X8_lacks) lk_X8_214 mv_X8_lacks ob_70 (by decide) (Nat.le_of_ble_eq_true rfl) dX8_parches_2 (q := 5) rfl (ct_X8_lacks_g hk4 hb) ?_
  refine j_istore_n_4_2 dX8_parches_5 (q := 6) rfl rfl rfl ?_
  refine j_iload_n dX8_parches_6 (q := 7) rfl rfl ?_
  refine j_if_eq dX8_parches_7 (t := 16) (by decide) (q := 10) rfl (fun c_7 => ?_) (fun c_7 => ?_)
  · skip
    exact absurd c_7 (by decide)
  · skip
    refine j_aload_n dX8_parches_10 (q := 11) rfl rfl ?_
    refine j_iload_n dX8_parches_11 (q := 12) rfl rfl ?_
    refine j_callVi1E (M' := M_X8_error) lk_X8_63 mv_X8_error ob_70 (by decide) (Nat.le_of_ble_eq_true rfl) dX8_parches_12 (q := 15) rfl (ct_err2) ?_
    refine j_ireti dX8_parches_15 rfl ?_
    exact ⟨rfl, rfl⟩
theorem ct_X7_judge_no {g : GT} {σ : S_} {s : Int32} (h : ¬ (0 ≤ s ∧ s ≤ 3)) : CT g 2 M_X7_judge [.ref 0, .int s] σ (EQ (.int (-1000000001)) (rfz σ 1)) := by
  refine ct_of [.ref 0, .int s, .null, .null, .null] pn_X7_judge rfl (Nat.le_of_ble_eq_true rfl) ?_
  refine j_iload_n dX7_judge_0 (q := 1) rfl rfl ?_
  refine j_callSi1E (M' := M_X7_isSheet) lk_X7_242 ms_X7_isSheet (by decide) (Nat.le_of_ble_eq_true rfl) dX7_judge_1 (q := 4) rfl (ct_X7_isSheet) ?_
  refine j_ifneB dX7_judge_4 (t := 13) (by decide) (q := 7) rfl (fun c_4 => ?_) (fun c_4 => ?_)
  · skip
    exact absurd c_4 h
  · skip
    refine j_aload_n dX7_judge_7 (q := 8) rfl rfl ?_
    refine j_iconst (v := 1) dX7_judge_8 (q := 9) rfl (by decide) ?_
    refine j_callVi1E (M' := M_X7_refuse) lk_X7_61 mv_X7_refuse ob_0 (by decide) (Nat.le_of_ble_eq_true rfl) dX7_judge_9 (q := 12) rfl (ct_ref1) ?_
    refine j_ireti dX7_judge_12 rfl ?_
    exact ⟨rfl, rfl⟩
theorem ct_X7_judge_gone {g : GT} {σ : S_} {s : Nat} (hk4 : s < 4) (hb : σ (62 + 2 * s) 1 = 0) : CT g 2 M_X7_judge [.ref 0, .int (nI s)] σ (EQ (.int (-1000000002)) (rfz σ 2)) := by
  refine ct_of [.ref 0, .int (nI s), .null, .null, .null] pn_X7_judge rfl (Nat.le_of_ble_eq_true rfl) ?_
  refine j_iload_n dX7_judge_0 (q := 1) rfl rfl ?_
  refine j_callSi1E (M' := M_X7_isSheet) lk_X7_242 ms_X7_isSheet (by decide) (Nat.le_of_ble_eq_true rfl) dX7_judge_1 (q := 4) rfl (ct_X7_isSheet) ?_
  refine j_ifneB dX7_judge_4 (t := 13) (by decide) (q := 7) rfl (fun c_4 => ?_) (fun c_4 => ?_)
  · skip
    refine j_aload_n dX7_judge_13 (q := 14) rfl rfl ?_
    refine j_getR (r := 1) fs_X7_44 rfl rfl rfl dX7_judge_14 (q := 17) rfl ?_
    refine j_iload_n dX7_judge_17 (q := 18) rfl rfl ?_
    refine j_aaldN rfl (by omega) (SH_1 hk4) dX7_judge_18 (q := 19) rfl ?_
    refine j_astore_n_5_2 dX7_judge_19 (q := 20) rfl rfl rfl ?_
    refine j_aload_n dX7_judge_20 (q := 21) rfl rfl ?_
    refine j_callVi0E (M' := M_X2_isMissing) lk_X7_245 mv_X2_isMissing (ob_of (SH_o hk4) rfl) (by decide) (Nat.le_of_ble_eq_true rfl) dX7_judge_21 (q := 24) rfl (ct_X2_isMissing hk4) ?_
    refine j_ifeqB dX7_judge_24 (t := 33) (by decide) (q := 27) rfl (fun c_24 => ?_) (fun c_24 => ?_)
    · skip
      refine j_aload_n dX7_judge_27 (q := 28) rfl rfl ?_
      refine j_iconst (v := 2) dX7_judge_28 (q := 29) rfl (by decide) ?_
      refine j_callVi1E (M' := M_X7_refuse) lk_X7_61 mv_X7_refuse ob_0 (by decide) (Nat.le_of_ble_eq_true rfl) dX7_judge_29 (q := 32) rfl (ct_ref2) ?_
      refine j_ireti dX7_judge_32 rfl ?_
      exact ⟨rfl, rfl⟩
    · skip
      exact absurd hb c_24
  · skip
    exact absurd (inK (b := 3) (by omega) (by decide)) c_4
theorem ct_X8_judge_no {g : GT} {σ : S_} {s : Int32} (h : ¬ (0 ≤ s ∧ s ≤ 3)) : CT g 3 M_X8_judge [.ref 70, .int s] σ (EQ (.int (-1000000001)) (rfm σ 1)) := by
  refine ct_of [.ref 70, .int s, .null, .null] pn_X8_judge rfl (Nat.le_of_ble_eq_true rfl) ?_
  refine j_aload_n dX8_judge_0 (q := 1) rfl rfl ?_
  refine j_iload_n dX8_judge_1 (q := 2) rfl rfl ?_
  refine j_callVi1E (M' := M_X8_lacks) lk_X8_214 mv_X8_lacks ob_70 (by decide) (Nat.le_of_ble_eq_true rfl) dX8_judge_2 (q := 5) rfl (ct_X8_lacks_b h) ?_
  refine j_istore_n_4_2 dX8_judge_5 (q := 6) rfl rfl rfl ?_
  refine j_iload_n dX8_judge_6 (q := 7) rfl rfl ?_
  refine j_if_eq dX8_judge_7 (t := 16) (by decide) (q := 10) rfl (fun c_7 => ?_) (fun c_7 => ?_)
  · skip
    exact absurd c_7 (by decide)
  · skip
    refine j_aload_n dX8_judge_10 (q := 11) rfl rfl ?_
    refine j_iload_n dX8_judge_11 (q := 12) rfl rfl ?_
    refine j_callVi1E (M' := M_X8_error) lk_X8_63 mv_X8_error ob_70 (by decide) (Nat.le_of_ble_eq_true rfl) dX8_judge_12 (q := 15) rfl (ct_err1) ?_
    refine j_ireti dX8_judge_15 rfl ?_
    exact ⟨rfl, rfl⟩
theorem ct_X8_judge_gone {g : GT} {σ : S_} {s : Nat} (hk4 : s < 4) (hb : σ 83 s = 0) : CT g 3 M_X8_judge [.ref 70, .int (nI s)] σ (EQ (.int (-1000000002)) (rfm σ 2)) := by
  refine ct_of [.ref 70, .int (nI s), .null, .null] pn_X8_judge rfl (Nat.le_of_ble_eq_true rfl) ?_
  refine j_aload_n dX8_judge_0 (q := 1) rfl rfl ?_
  refine j_iload_n dX8_judge_1 (q := 2) rfl rfl ?_
  refine j_callVi1E (M' := M_X8_lacks) lk_X8_214 mv_X8_lacks ob_70 (by decide) (Nat.le_of_ble_eq_true rfl) dX8_judge_2 (q := 5) rfl (ct_X8_lacks_g hk4 hb) ?_
  refine j_istore_n_4_2 dX8_judge_5 (q := 6) rfl rfl rfl ?_
  refine j_iload_n dX8_judge_6 (q := 7) rfl rfl ?_
  refine j_if_eq dX8_judge_7 (t := 16) (by decide) (q := 10) rfl (fun c_7 => ?_) (fun c_7 => ?_)
  · skip
    exact absurd c_7 (by decide)
  · skip
    refine j_aload_n dX8_judge_10 (q := 11) rfl rfl ?_
    refine j_iload_n dX8_judge_11 (q := 12) rfl rfl ?_
    refine j_callVi1E (M' := M_X8_error) lk_X8_63 mv_X8_error ob_70 (by decide) (Nat.le_of_ble_eq_true rfl) dX8_judge_12 (q := 15) rfl (ct_err2) ?_
    refine j_ireti dX8_judge_15 rfl ?_
    exact ⟨rfl, rfl⟩
theorem pa_loop {g : GT} {t : Nat → Int32} {s m : Nat} {σ0 : S_} (hk4 : s < 4) (hm7 : m ≤ 7) : ∀ (k i : Nat) (σ : S_), i + k = m → CW σ 8 (prT t (σ0 (63 + 2 * s)) i) → outN σ σ0 → prN (σ0 (63 + 2 * s)) m 0 = prN (σ0 (63 + 2 * s)) k i → J g 2 M_X7_parches (fun r τ => r = .int (nI (prN (σ0 (63 + 2 * s)) m 0)) ∧ CW τ 8 (prT t (σ0 (63 + 2 * s)) (prN (σ0 (63 + 2 * s)) m 0)) ∧ outN τ σ0) 51 [.ref 0, .int (nI s), .ref (62 + 2 * s), .int (nI m), .int (nI i)] [] σ := by
  intro k
  induction k with
  | zero =>
    intro i σ hik hC hO hp
    refine j_iload dX7_parches_51 (q := 53) rfl rfl ?_
    refine j_iload_n dX7_parches_53 (q := 54) rfl rfl ?_
    refine j_icmp_geN (by omega) (by omega) dX7_parches_54 (t := 99) (by decide) (q := 57) rfl (fun c_54 => ?_) (fun c_54 => ?_)
    · skip
      refine j_iload dX7_parches_99 (q := 101) rfl rfl ?_
      refine j_ireti dX7_parches_101 rfl ?_
      obtain rfl : i = m := by omega
      refine ⟨by rw [hp]; rfl, ?_, hO⟩
      rw [show prN (σ0 (63 + 2 * s)) i 0 = i from hp]
      exact hC
    · skip
      omega
  | succ k ih =>
    intro i σ hik hC hO hp
    refine j_iload dX7_parches_51 (q := 53) rfl rfl ?_
    refine j_iload_n dX7_parches_53 (q := 54) rfl rfl ?_
    refine j_icmp_geN (by omega) (by omega) dX7_parches_54 (t := 99) (by decide) (q := 57) rfl (fun c_54 => ?_) (fun c_54 => ?_)
    · skip
      omega
    · skip
      refine j_aload_n dX7_parches_57 (q := 58) rfl rfl ?_
      refine j_getR (r := (63 + 2 * s)) fs_X7_281 (SH_o hk4) rfl (SH_r hk4) dX7_parches_58 (q := 61) rfl ?_
      refine j_iload dX7_parches_61 (q := 63) rfl rfl ?_
      refine j_ialdV (SH_a hk4) (by omega) (congrFun (hO (63 + 2 * s) (by omega)) i) dX7_parches_63 (q := 64) rfl ?_
      refine j_iconst (v := 0) dX7_parches_64 (q := 65) rfl (by decide) ?_
      refine j_bipush (v := 99) dX7_parches_65 (q := 67) rfl (by decide) ?_
      refine j_callSi3E (M' := M_X7_within) lk_X7_57 ms_X7_within (by decide) (Nat.le_of_ble_eq_true rfl) dX7_parches_67 (q := 70) rfl (ct_X7_within) ?_
      refine j_ifeqB dX7_parches_70 (t := 99) (by decide) (q := 73) rfl (fun c_70 => ?_) (fun c_70 => ?_)
      · skip
        refine j_aload_n dX7_parches_73 (q := 74) rfl rfl ?_
        refine j_getR (r := 8) fs_X7_10 rfl rfl rfl dX7_parches_74 (q := 77) rfl ?_
        refine j_getR (r := 9) fs_X7_69 rfl rfl rfl dX7_parches_77 (q := 80) rfl ?_
        refine j_iload dX7_parches_80 (q := 82) rfl rfl ?_
        refine j_aaldN rfl (by omega) (rf_farm (by omega)) dX7_parches_82 (q := 83) rfl ?_
        refine j_aload_n dX7_parches_83 (q := 84) rfl rfl ?_
        refine j_getR (r := (63 + 2 * s)) fs_X7_281 (SH_o hk4) rfl (SH_r hk4) dX7_parches_84 (q := 87) rfl ?_
        refine j_iload dX7_parches_87 (q := 89) rfl rfl ?_
        refine j_ialdV (SH_a hk4) (by omega) (congrFun (hO (63 + 2 * s) (by omega)) i) dX7_parches_89 (q := 90) rfl ?_
        refine j_putI fs_X7_94 (tC_farm (by omega)) rfl fp_0_4 dX7_parches_90 (q := 93) rfl ?_
        refine j_iincN_5_4 dX7_parches_93 (q := 96) rfl rfl rfl ?_
        refine j_goto (q := 51) dX7_parches_96 (by decide) ?_
        rw [show prN (σ0 (63 + 2 * s)) (k + 1) i = prN (σ0 (63 + 2 * s)) k (i + 1) from if_pos c_70] at hp
        exact ih (i + 1) _ (by omega) (CWupF hC (by omega) (by decide) _) (fun x hx => (up_row (by omega)).trans (hO x hx)) hp
      · skip
        refine j_iload dX7_parches_99 (q := 101) rfl rfl ?_
        refine j_ireti dX7_parches_101 rfl ?_
        rw [show prN (σ0 (63 + 2 * s)) (k + 1) i = i from if_neg c_70] at hp
        refine ⟨by rw [hp], ?_, hO⟩
        rw [hp]
        exact hC
theorem ct_X7_parches_ok {g : GT} {σ : S_} {s sz nf : Nat} (hk4 : s < 4) (h24 : sz ≤ 24) (h7 : nf ≤ 7) {t : Nat → Int32} (hn : t 5 = nI nf) (hC : CW σ 8 t) (hb : ¬ σ (62 + 2 * s) 1 = 0) (e : σ (62 + 2 * s) 2 = nI sz) : CT g 2 M_X7_parches [.ref 0, .int (nI s)] σ (fun r τ => r = .int (nI (prN (σ (63 + 2 * s)) (min sz nf) 0)) ∧ CW τ 8 (prT t (σ (63 + 2 * s)) (prN (σ (63 + 2 * s)) (min sz nf) 0)) ∧ outN τ σ) := by
  refine ct_of [.ref 0, .int (nI s), .null, .null, .null] pn_X7_parches rfl (Nat.le_of_ble_eq_true rfl) ?_
  refine j_iload_n dX7_parches_0 (q := 1) rfl rfl ?_
  refine j_callSi1E (M' := M_X7_isSheet) lk_X7_242 ms_X7_isSheet (by decide) (Nat.le_of_ble_eq_true rfl) dX7_parches_1 (q := 4) rfl (ct_X7_isSheet) ?_
  refine j_ifneB dX7_parches_4 (t := 13) (by decide) (q := 7) rfl (fun c_4 => ?_) (fun c_4 => ?_)
  · skip
    refine j_aload_n dX7_parches_13 (q := 14) rfl rfl ?_
    refine j_getR (r := 1) fs_X7_44 rfl rfl rfl dX7_parches_14 (q := 17) rfl ?_
    refine j_iload_n dX7_parches_17 (q := 18) rfl rfl ?_
    refine j_aaldN rfl (by omega) (SH_1 hk4) dX7_parches_18 (q := 19) rfl ?_
    refine j_astore_n_5_2 dX7_parches_19 (q := 20) rfl rfl rfl ?_
    refine j_aload_n dX7_parches_20 (q := 21) rfl rfl ?_
    refine j_callVi0E (M' := M_X2_isMissing) lk_X7_245 mv_X2_isMissing (ob_of (SH_o hk4) rfl) (by decide) (Nat.le_of_ble_eq_true rfl) dX7_parches_21 (q := 24) rfl (ct_X2_isMissing hk4) ?_
    refine j_ifeqB dX7_parches_24 (t := 33) (by decide) (q := 27) rfl (fun c_24 => ?_) (fun c_24 => ?_)
    · skip
      exact absurd c_24 hb
    · skip
      refine j_aload_n dX7_parches_33 (q := 34) rfl rfl ?_
      refine j_getIV fs_X7_269 (SH_o hk4) rfl e dX7_parches_34 (q := 37) rfl ?_
      refine j_aload_n dX7_parches_37 (q := 38) rfl rfl ?_
      refine j_getR (r := 8) fs_X7_10 rfl rfl rfl dX7_parches_38 (q := 41) rfl ?_
      refine j_getIV fs_X7_65 rfl rfl ((hC.at LM_farms).trans hn) dX7_parches_41 (q := 44) rfl ?_
      refine j_mmin lkm_X7_290 ma_min_s ma_i ma_min_c (by decide) (Nat.le_of_ble_eq_true rfl) dX7_parches_44 (q := 47) rfl ?_
      rw [min_le (by omega) (by omega)]
      refine j_istore_n_5_3 dX7_parches_47 (q := 48) rfl rfl rfl ?_
      refine j_iconst (v := 0) dX7_parches_48 (q := 49) rfl (by decide) ?_
      refine j_istore_5_4 dX7_parches_49 (q := 51) rfl rfl rfl ?_
      exact pa_loop (σ0 := σ) (t := t) hk4 (by omega) (min sz nf) 0 σ (by omega) hC (fun _ _ => rfl) rfl
  · skip
    exact absurd (inK (b := 3) (by omega) (by decide)) c_4
theorem pb_loop {g : GT} {t : Nat → Int32} {s sz nf : Nat} {σ0 : S_} (hk4 : s < 4) (h24 : sz ≤ 24) (h7 : nf ≤ 7) (hn : t 5 = nI nf) (e : σ0 84 s = nI sz) : ∀ (k i : Nat) (σ : S_), i + k = min sz nf → σ 71 = prT t (fun j => σ0 85 (24 * s + j)) i → (∀ x, x ≠ 71 → σ x = σ0 x) → prN (fun j => σ0 85 (24 * s + j)) (min sz nf) 0 = prN (fun j => σ0 85 (24 * s + j)) k i → J g 3 M_X8_parches (fun r τ => r = .int (nI (prN (fun j => σ0 85 (24 * s + j)) (min sz nf) 0)) ∧ τ 71 = prT t (fun j => σ0 85 (24 * s + j)) (prN (fun j => σ0 85 (24 * s + j)) (min sz nf) 0) ∧ ∀ x, x ≠ 71 → τ x = σ0 x) 18 [.ref 70, .int (nI s), .int 0, .int (nI i)] [] σ := by
  intro k
  induction k with
  | zero =>
    intro i σ hik hs hO hp
    have h5 : σ 71 5 = nI nf := by rw [hs, prT_keep i (by omega) (by omega)]; exact hn
    refine j_iload_n dX8_parches_18 (q := 19) rfl rfl ?_
    refine j_aload_n dX8_parches_19 (q := 20) rfl rfl ?_
    refine j_getR (r := 84) fs_X8_49 rfl rfl rfl dX8_parches_20 (q := 23) rfl ?_
    refine j_iload_n dX8_parches_23 (q := 24) rfl rfl ?_
    refine j_ialdV rfl (by omega) ((congrFun (hO 84 (by decide)) s).trans e) dX8_parches_24 (q := 25) rfl ?_
    refine j_icmp_geN (by omega) (by omega) dX8_parches_25 (t := 79) (by decide) (q := 28) rfl (fun c_25 => ?_) (fun c_25 => ?_)
    · skip
      refine j_iload_n dX8_parches_79 (q := 80) rfl rfl ?_
      refine j_ireti dX8_parches_80 rfl ?_
      refine ⟨by rw [hp]; rfl, ?_, hO⟩
      rw [hp]
      exact hs
    · skip
      refine j_aload_n dX8_parches_28 (q := 29) rfl rfl ?_
      refine j_iload_n dX8_parches_29 (q := 30) rfl rfl ?_
      refine j_callVi1E (M' := M_X8_isFarm) lk_X8_166 mv_X8_isFarm ob_70 (by decide) (Nat.le_of_ble_eq_true rfl) dX8_parches_30 (q := 33) rfl (ct_X8_isFarm) ?_
      refine j_ifeqB dX8_parches_33 (t := 79) (by decide) (q := 36) rfl (fun c_33 => ?_) (fun c_33 => ?_)
      · skip
        have hin : i < nf := by
          rcases Nat.lt_or_ge i nf with q | q
          · exact q
          · have c2 := c_33.2
            rw [h5] at c2
            by_cases z : nf = 0
            · subst z; have := Int32.le_trans c_33.1 c2; exact absurd this (by decide)
            · obtain ⟨m, rfl⟩ : ∃ m, nf = m + 1 := ⟨nf - 1, by omega⟩
              rw [show nI (m + 1) - 1 = nI m from nI_pred m, nI_le_iff (by omega) (by omega)] at c2
              omega
        omega
      · skip
        refine j_iload_n dX8_parches_79 (q := 80) rfl rfl ?_
        refine j_ireti dX8_parches_80 rfl ?_
        refine ⟨by rw [hp]; rfl, ?_, hO⟩
        rw [hp]
        exact hs
  | succ k ih =>
    intro i σ hik hs hO hp
    have h5 : σ 71 5 = nI nf := by rw [hs, prT_keep i (by omega) (by omega)]; exact hn
    refine j_iload_n dX8_parches_18 (q := 19) rfl rfl ?_
    refine j_aload_n dX8_parches_19 (q := 20) rfl rfl ?_
    refine j_getR (r := 84) fs_X8_49 rfl rfl rfl dX8_parches_20 (q := 23) rfl ?_
    refine j_iload_n dX8_parches_23 (q := 24) rfl rfl ?_
    refine j_ialdV rfl (by omega) ((congrFun (hO 84 (by decide)) s).trans e) dX8_parches_24 (q := 25) rfl ?_
    refine j_icmp_geN (by omega) (by omega) dX8_parches_25 (t := 79) (by decide) (q := 28) rfl (fun c_25 => ?_) (fun c_25 => ?_)
    · skip
      omega
    · skip
      refine j_aload_n dX8_parches_28 (q := 29) rfl rfl ?_
      refine j_iload_n dX8_parches_29 (q := 30) rfl rfl ?_
      refine j_callVi1E (M' := M_X8_isFarm) lk_X8_166 mv_X8_isFarm ob_70 (by decide) (Nat.le_of_ble_eq_true rfl) dX8_parches_30 (q := 33) rfl (ct_X8_isFarm) ?_
      refine j_ifeqB dX8_parches_33 (t := 79) (by decide) (q := 36) rfl (fun c_33 => ?_) (fun c_33 => ?_)
      · skip
        refine j_aload_n dX8_parches_36 (q := 37) rfl rfl ?_
        refine j_getR (r := 85) fs_X8_52 rfl rfl rfl dX8_parches_37 (q := 40) rfl ?_
        refine j_bipush (v := 24) dX8_parches_40 (q := 42) rfl (by decide) ?_
        refine j_iload_n dX8_parches_42 (q := 43) rfl rfl ?_
        refine j_imulN (a := 24) dX8_parches_43 (q := 44) rfl ?_
        refine j_iload_n dX8_parches_44 (q := 45) rfl rfl ?_
        refine j_iaddN dX8_parches_45 (q := 46) rfl ?_
        refine j_ialdV rfl (by omega) (congrFun (hO 85 (by decide)) (24 * s + i)) dX8_parches_46 (q := 47) rfl ?_
        refine j_iconst (v := 0) dX8_parches_47 (q := 48) rfl (by decide) ?_
        refine j_bipush (v := 99) dX8_parches_48 (q := 50) rfl (by decide) ?_
        refine j_callSi3E (M' := M_X8_in) lk_X8_59 ms_X8_in (by decide) (Nat.le_of_ble_eq_true rfl) dX8_parches_50 (q := 53) rfl (ct_X8_in) ?_
        refine j_ifeqB dX8_parches_53 (t := 79) (by decide) (q := 56) rfl (fun c_53 => ?_) (fun c_53 => ?_)
        · skip
          refine j_aload_n dX8_parches_56 (q := 57) rfl rfl ?_
          refine j_iload_n dX8_parches_57 (q := 58) rfl rfl ?_
          refine j_iconst (v := 4) dX8_parches_58 (q := 59) rfl (by decide) ?_
          refine j_aload_n dX8_parches_59 (q := 60) rfl rfl ?_
          refine j_getR (r := 85) fs_X8_52 rfl rfl rfl dX8_parches_60 (q := 63) rfl ?_
          refine j_bipush (v := 24) dX8_parches_63 (q := 65) rfl (by decide) ?_
          refine j_iload_n dX8_parches_65 (q := 66) rfl rfl ?_
          refine j_imulN (a := 24) dX8_parches_66 (q := 67) rfl ?_
          refine j_iload_n dX8_parches_67 (q := 68) rfl rfl ?_
          refine j_iaddN dX8_parches_68 (q := 69) rfl ?_
          refine j_ialdV rfl (by omega) (congrFun (hO 85 (by decide)) (24 * s + i)) dX8_parches_69 (q := 70) rfl ?_
          refine j_callVv3E (M' := M_X8_lays1) lk_X8_149 mv_X8_lays1 ob_70 (by decide) (Nat.le_of_ble_eq_true rfl) dX8_parches_70 (q := 73) rfl (ct_X8_lays1 (k := 4) (by omega) (by decide)) ?_
          refine j_iincN_4_3 dX8_parches_73 (q := 76) rfl rfl rfl ?_
          refine j_goto (q := 18) dX8_parches_76 (by decide) ?_
          rw [show prN (fun j => σ0 85 (24 * s + j)) (k + 1) i = prN (fun j => σ0 85 (24 * s + j)) k (i + 1) from if_pos c_53] at hp
          exact ih (i + 1) _ (by omega) (by rw [up_own, hs]; rfl) (fun x hx => (up_row hx).trans (hO x hx)) hp
        · skip
          refine j_iload_n dX8_parches_79 (q := 80) rfl rfl ?_
          refine j_ireti dX8_parches_80 rfl ?_
          rw [show prN (fun j => σ0 85 (24 * s + j)) (k + 1) i = i from if_neg c_53] at hp
          refine ⟨by rw [hp], ?_, hO⟩
          rw [hp]
          exact hs
      · skip
        exact absurd (inF (n := i) (k := nf) (by omega) h7 h5) c_33
theorem ct_X8_parches_ok {g : GT} {σ : S_} {s sz nf : Nat} (hk4 : s < 4) (h24 : sz ≤ 24) (h7 : nf ≤ 7) (hn : σ 71 5 = nI nf) (hb : ¬ σ 83 s = 0) (e : σ 84 s = nI sz) : CT g 3 M_X8_parches [.ref 70, .int (nI s)] σ (fun r τ => r = .int (nI (prN (fun j => σ 85 (24 * s + j)) (min sz nf) 0)) ∧ τ 71 = prT (σ 71) (fun j => σ 85 (24 * s + j)) (prN (fun j => σ 85 (24 * s + j)) (min sz nf) 0) ∧ ∀ x, x ≠ 71 → τ x = σ x) := by
  refine ct_of [.ref 70, .int (nI s), .null, .null] pn_X8_parches rfl (Nat.le_of_ble_eq_true rfl) ?_
  refine j_aload_n dX8_parches_0 (q := 1) rfl rfl ?_
  refine j_iload_n dX8_parches_1 (q := 2) rfl rfl ?_
  refine j_callVi1E (M' := M_X8_lacks) lk_X8_214 mv_X8_lacks ob_70 (by decide) (Nat.le_of_ble_eq_true rfl) dX8_parches_2 (q := 5) rfl (ct_X8_lacks_o hk4 hb) ?_
  refine j_istore_n_4_2 dX8_parches_5 (q := 6) rfl rfl rfl ?_
  refine j_iload_n dX8_parches_6 (q := 7) rfl rfl ?_
  refine j_if_eq dX8_parches_7 (t := 16) (by decide) (q := 10) rfl (fun c_7 => ?_) (fun c_7 => ?_)
  · skip
    refine j_iconst (v := 0) dX8_parches_16 (q := 17) rfl (by decide) ?_
    refine j_istore_n_4_3 dX8_parches_17 (q := 18) rfl rfl rfl ?_
    exact pb_loop (σ0 := σ) (t := σ 71) hk4 h24 h7 hn e (min sz nf) 0 σ (by omega) rfl (fun _ _ => rfl) rfl
  · skip
    exact absurd c_7 (by decide)
def jdN (f p : Nat → Int32) : Nat → Nat → Nat
  | 0, i => i
  | k + 1, i => if f i = p i then jdN f p k (i + 1) else i
theorem jdN_ext {f f' p p' : Nat → Int32} : ∀ k i, (∀ j, i ≤ j → j < i + k → f j = f' j ∧ p j = p' j) → jdN f p k i = jdN f' p' k i := by
  intro k
  induction k with
  | zero => intro i _; rfl
  | succ k ih => intro i h; unfold jdN; rw [(h i (Nat.le_refl _) (by omega)).1, (h i (Nat.le_refl _) (by omega)).2, ih (i + 1) (fun j a b => h j (by omega) (by omega))]
theorem jg_loop {g : GT} {t : Nat → Int32} {s m : Nat} {σ0 : S_} (hk4 : s < 4) (hm7 : m ≤ 7) (hT : TOK t 1) (hC0 : CW σ0 8 t) : ∀ (k i : Nat) (σ : S_), i + k = m → (∀ x, x ≠ 30 → σ x = σ0 x) → jdN (σ0 (63 + 2 * s)) (payOfT t) m 0 = jdN (σ0 (63 + 2 * s)) (payOfT t) k i → J g 4 M_X7_judge (fun r τ => r = .int (nI (jdN (σ0 (63 + 2 * s)) (payOfT t) m 0)) ∧ ∀ x, x ≠ 30 → τ x = σ0 x) 51 [.ref 0, .int (nI s), .ref (62 + 2 * s), .int (nI m), .int (nI i)] [] σ := by
  intro k
  induction k with
  | zero =>
    intro i σ hik hO hp
    have hC : CW σ 8 t := hC0.frame (fun c _ _ h => hO _ (by omega))
    refine j_iload dX7_judge_51 (q := 53) rfl rfl ?_
    refine j_iload_n dX7_judge_53 (q := 54) rfl rfl ?_
    refine j_icmp_geN (by omega) (by omega) dX7_judge_54 (t := 90) (by decide) (q := 57) rfl (fun c_54 => ?_) (fun c_54 => ?_)
    · skip
      refine j_iload dX7_judge_90 (q := 92) rfl rfl ?_
      refine j_ireti dX7_judge_92 rfl ?_
      obtain rfl : i = m := by omega
      exact ⟨by rw [hp]; rfl, hO⟩
    · skip
      omega
  | succ k ih =>
    intro i σ hik hO hp
    have hC : CW σ 8 t := hC0.frame (fun c _ _ h => hO _ (by omega))
    refine j_iload dX7_judge_51 (q := 53) rfl rfl ?_
    refine j_iload_n dX7_judge_53 (q := 54) rfl rfl ?_
    refine j_icmp_geN (by omega) (by omega) dX7_judge_54 (t := 90) (by decide) (q := 57) rfl (fun c_54 => ?_) (fun c_54 => ?_)
    · skip
      omega
    · skip
      refine j_aload_n dX7_judge_57 (q := 58) rfl rfl ?_
      refine j_getR (r := (63 + 2 * s)) fs_X7_281 (SH_o hk4) rfl (SH_r hk4) dX7_judge_58 (q := 61) rfl ?_
      refine j_iload dX7_judge_61 (q := 63) rfl rfl ?_
      refine j_ialdV (SH_a hk4) (by omega) (congrFun (hO (63 + 2 * s) (by omega)) i) dX7_judge_63 (q := 64) rfl ?_
      refine j_aload_n dX7_judge_64 (q := 65) rfl rfl ?_
      refine j_getR (r := 8) fs_X7_10 rfl rfl rfl dX7_judge_65 (q := 68) rfl ?_
      refine j_aload_n dX7_judge_68 (q := 69) rfl rfl ?_
      refine j_getR (r := 8) fs_X7_10 rfl rfl rfl dX7_judge_69 (q := 72) rfl ?_
      refine j_getR (r := 9) fs_X7_69 rfl rfl rfl dX7_judge_72 (q := 75) rfl ?_
      refine j_iload dX7_judge_75 (q := 77) rfl rfl ?_
      refine j_aaldN rfl (by omega) (rf_farm (by omega)) dX7_judge_77 (q := 78) rfl ?_
      refine j_callVi1 (M' := M_X6_payOf) lk_X7_107 mv_X6_payOf ob_8 (by decide) (Nat.le_of_ble_eq_true rfl) dX7_judge_78 (q := 81) rfl (ct_X6_payOf (tC_farm (by omega)) hT hC.2.2.2) ?_
      intro x1 τ1 hz
      obtain ⟨h1, hτ1⟩ := hz
      cases h1
      have hpay : payT t (paysF (σ (16 + i) 0) (σ (16 + i) 3) (σ (16 + i) 4 + σ (16 + i) 2)) (σ (16 + i) 4) (σ (16 + i) 2) = payOfT t i := by
        rw [hC.farm (n := i) (k := 0) (by omega) (by decide), hC.farm (n := i) (k := 2) (by omega) (by decide), hC.farm (n := i) (k := 3) (by omega) (by decide), hC.farm (n := i) (k := 4) (by omega) (by decide)]
        rfl
      rw [hpay]
      have hO1 : ∀ x, x ≠ 30 → τ1 x = σ0 x := fun x hx => (hτ1 x hx).trans (hO x hx)
      refine j_icmp_ne dX7_judge_81 (t := 90) (by decide) (q := 84) rfl (fun c_81 => ?_) (fun c_81 => ?_)
      · skip
        refine j_iload dX7_judge_90 (q := 92) rfl rfl ?_
        refine j_ireti dX7_judge_92 rfl ?_
        rw [show jdN (σ0 (63 + 2 * s)) (payOfT t) (k + 1) i = i from if_neg c_81] at hp
        exact ⟨by rw [hp], hO1⟩
      · skip
        refine j_iincN_5_4 dX7_judge_84 (q := 87) rfl rfl rfl ?_
        refine j_goto (q := 51) dX7_judge_87 (by decide) ?_
        rw [show jdN (σ0 (63 + 2 * s)) (payOfT t) (k + 1) i = jdN (σ0 (63 + 2 * s)) (payOfT t) k (i + 1) from if_pos c_81] at hp
        exact ih (i + 1) τ1 (by omega) hO1 hp
theorem ct_X7_judge_ok {g : GT} {σ : S_} {s sz nf : Nat} (hk4 : s < 4) (h24 : sz ≤ 24) (h7 : nf ≤ 7) {t : Nat → Int32} (hn : t 5 = nI nf) (hT : TOK t 1) (hC : CW σ 8 t) (hb : ¬ σ (62 + 2 * s) 1 = 0) (e : σ (62 + 2 * s) 2 = nI sz) : CT g 4 M_X7_judge [.ref 0, .int (nI s)] σ (fun r τ => r = .int (nI (jdN (σ (63 + 2 * s)) (payOfT t) (min sz nf) 0)) ∧ ∀ x, x ≠ 30 → τ x = σ x) := by
  refine ct_of [.ref 0, .int (nI s), .null, .null, .null] pn_X7_judge rfl (Nat.le_of_ble_eq_true rfl) ?_
  refine j_iload_n dX7_judge_0 (q := 1) rfl rfl ?_
  refine j_callSi1E (M' := M_X7_isSheet) lk_X7_242 ms_X7_isSheet (by decide) (Nat.le_of_ble_eq_true rfl) dX7_judge_1 (q := 4) rfl (ct_X7_isSheet) ?_
  refine j_ifneB dX7_judge_4 (t := 13) (by decide) (q := 7) rfl (fun c_4 => ?_) (fun c_4 => ?_)
  · skip
    refine j_aload_n dX7_judge_13 (q := 14) rfl rfl ?_
    refine j_getR (r := 1) fs_X7_44 rfl rfl rfl dX7_judge_14 (q := 17) rfl ?_
    refine j_iload_n dX7_judge_17 (q := 18) rfl rfl ?_
    refine j_aaldN rfl (by omega) (SH_1 hk4) dX7_judge_18 (q := 19) rfl ?_
    refine j_astore_n_5_2 dX7_judge_19 (q := 20) rfl rfl rfl ?_
    refine j_aload_n dX7_judge_20 (q := 21) rfl rfl ?_
    refine j_callVi0E (M' := M_X2_isMissing) lk_X7_245 mv_X2_isMissing (ob_of (SH_o hk4) rfl) (by decide) (Nat.le_of_ble_eq_true rfl) dX7_judge_21 (q := 24) rfl (ct_X2_isMissing hk4) ?_
    refine j_ifeqB dX7_judge_24 (t := 33) (by decide) (q := 27) rfl (fun c_24 => ?_) (fun c_24 => ?_)
    · skip
      exact absurd c_24 hb
    · skip
      refine j_aload_n dX7_judge_33 (q := 34) rfl rfl ?_
      refine j_getIV fs_X7_269 (SH_o hk4) rfl e dX7_judge_34 (q := 37) rfl ?_
      refine j_aload_n dX7_judge_37 (q := 38) rfl rfl ?_
      refine j_getR (r := 8) fs_X7_10 rfl rfl rfl dX7_judge_38 (q := 41) rfl ?_
      refine j_getIV fs_X7_65 rfl rfl ((hC.at LM_farms).trans hn) dX7_judge_41 (q := 44) rfl ?_
      refine j_mmin lkm_X7_290 ma_min_s ma_i ma_min_c (by decide) (Nat.le_of_ble_eq_true rfl) dX7_judge_44 (q := 47) rfl ?_
      rw [min_le (by omega) (by omega)]
      refine j_istore_n_5_3 dX7_judge_47 (q := 48) rfl rfl rfl ?_
      refine j_iconst (v := 0) dX7_judge_48 (q := 49) rfl (by decide) ?_
      refine j_istore_5_4 dX7_judge_49 (q := 51) rfl rfl rfl ?_
      exact jg_loop (σ0 := σ) (t := t) hk4 (by omega) hT hC (min sz nf) 0 σ (by omega) (fun _ _ => rfl) rfl
  · skip
    exact absurd (inK (b := 3) (by omega) (by decide)) c_4
theorem jm_loop {g : GT} {s sz nf : Nat} {σ0 : S_} (hk4 : s < 4) (h24 : sz ≤ 24) (h7 : nf ≤ 7) (hn : σ0 71 5 = nI nf) (hT : TOK (σ0 71) 1) (e : σ0 84 s = nI sz) : ∀ (k i : Nat) (σ : S_), i + k = min sz nf → (∀ x, x ≠ 76 → x ≠ 77 → σ x = σ0 x) → jdN (fun j => σ0 85 (24 * s + j)) (payOfT (σ0 71)) (min sz nf) 0 = jdN (fun j => σ0 85 (24 * s + j)) (payOfT (σ0 71)) k i → J g 4 M_X8_judge (fun r τ => r = .int (nI (jdN (fun j => σ0 85 (24 * s + j)) (payOfT (σ0 71)) (min sz nf) 0)) ∧ ∀ x, x ≠ 76 → x ≠ 77 → τ x = σ0 x) 18 [.ref 70, .int (nI s), .int 0, .int (nI i)] [] σ := by
  intro k
  induction k with
  | zero =>
    intro i σ hik hO hp
    have h5 : σ 71 5 = nI nf := by rw [hO 71 (by decide) (by decide)]; exact hn
    refine j_iload_n dX8_judge_18 (q := 19) rfl rfl ?_
    refine j_aload_n dX8_judge_19 (q := 20) rfl rfl ?_
    refine j_getR (r := 84) fs_X8_49 rfl rfl rfl dX8_judge_20 (q := 23) rfl ?_
    refine j_iload_n dX8_judge_23 (q := 24) rfl rfl ?_
    refine j_ialdV rfl (by omega) ((congrFun (hO 84 (by decide) (by decide)) s).trans e) dX8_judge_24 (q := 25) rfl ?_
    refine j_icmp_geN (by omega) (by omega) dX8_judge_25 (t := 61) (by decide) (q := 28) rfl (fun c_25 => ?_) (fun c_25 => ?_)
    · skip
      refine j_iload_n dX8_judge_61 (q := 62) rfl rfl ?_
      refine j_ireti dX8_judge_62 rfl ?_
      exact ⟨by rw [hp]; rfl, hO⟩
    · skip
      refine j_aload_n dX8_judge_28 (q := 29) rfl rfl ?_
      refine j_iload_n dX8_judge_29 (q := 30) rfl rfl ?_
      refine j_callVi1E (M' := M_X8_isFarm) lk_X8_166 mv_X8_isFarm ob_70 (by decide) (Nat.le_of_ble_eq_true rfl) dX8_judge_30 (q := 33) rfl (ct_X8_isFarm) ?_
      refine j_ifeqB dX8_judge_33 (t := 61) (by decide) (q := 36) rfl (fun c_33 => ?_) (fun c_33 => ?_)
      · skip
        have hin : i < nf := by
          rcases Nat.lt_or_ge i nf with q | q
          · exact q
          · have c2 := c_33.2
            rw [h5] at c2
            by_cases z : nf = 0
            · subst z; have := Int32.le_trans c_33.1 c2; exact absurd this (by decide)
            · obtain ⟨m, rfl⟩ : ∃ m, nf = m + 1 := ⟨nf - 1, by omega⟩
              rw [show nI (m + 1) - 1 = nI m from nI_pred m, nI_le_iff (by omega) (by omega)] at c2
              omega
        omega
      · skip
        refine j_iload_n dX8_judge_61 (q := 62) rfl rfl ?_
        refine j_ireti dX8_judge_62 rfl ?_
        exact ⟨by rw [hp]; rfl, hO⟩
  | succ k ih =>
    intro i σ hik hO hp
    have h5 : σ 71 5 = nI nf := by rw [hO 71 (by decide) (by decide)]; exact hn
    refine j_iload_n dX8_judge_18 (q := 19) rfl rfl ?_
    refine j_aload_n dX8_judge_19 (q := 20) rfl rfl ?_
    refine j_getR (r := 84) fs_X8_49 rfl rfl rfl dX8_judge_20 (q := 23) rfl ?_
    refine j_iload_n dX8_judge_23 (q := 24) rfl rfl ?_
    refine j_ialdV rfl (by omega) ((congrFun (hO 84 (by decide) (by decide)) s).trans e) dX8_judge_24 (q := 25) rfl ?_
    refine j_icmp_geN (by omega) (by omega) dX8_judge_25 (t := 61) (by decide) (q := 28) rfl (fun c_25 => ?_) (fun c_25 => ?_)
    · skip
      omega
    · skip
      refine j_aload_n dX8_judge_28 (q := 29) rfl rfl ?_
      refine j_iload_n dX8_judge_29 (q := 30) rfl rfl ?_
      refine j_callVi1E (M' := M_X8_isFarm) lk_X8_166 mv_X8_isFarm ob_70 (by decide) (Nat.le_of_ble_eq_true rfl) dX8_judge_30 (q := 33) rfl (ct_X8_isFarm) ?_
      refine j_ifeqB dX8_judge_33 (t := 61) (by decide) (q := 36) rfl (fun c_33 => ?_) (fun c_33 => ?_)
      · skip
        refine j_aload_n dX8_judge_36 (q := 37) rfl rfl ?_
        refine j_iload_n dX8_judge_37 (q := 38) rfl rfl ?_
        refine j_callVi1 (M' := M_X8_payOf) lk_X8_160 mv_X8_payOf ob_70 (by decide) (Nat.le_of_ble_eq_true rfl) dX8_judge_38 (q := 41) rfl (ct_X8_payOf (by omega) (by rw [hO 71 (by decide) (by decide)]; exact hT)) ?_
        intro x1 τ1 hz
        obtain ⟨h1, hτ1⟩ := hz
        cases h1
        have hO1 : ∀ x, x ≠ 76 → x ≠ 77 → τ1 x = σ0 x := fun x a b => (hτ1 x a b).trans (hO x a b)
        rw [hO 71 (by decide) (by decide)]
        refine j_aload_n dX8_judge_41 (q := 42) rfl rfl ?_
        refine j_getR (r := 85) fs_X8_52 rfl rfl rfl dX8_judge_42 (q := 45) rfl ?_
        refine j_bipush (v := 24) dX8_judge_45 (q := 47) rfl (by decide) ?_
        refine j_iload_n dX8_judge_47 (q := 48) rfl rfl ?_
        refine j_imulN (a := 24) dX8_judge_48 (q := 49) rfl ?_
        refine j_iload_n dX8_judge_49 (q := 50) rfl rfl ?_
        refine j_iaddN dX8_judge_50 (q := 51) rfl ?_
        refine j_ialdV rfl (by omega) (congrFun (hO1 85 (by decide) (by decide)) (24 * s + i)) dX8_judge_51 (q := 52) rfl ?_
        refine j_icmp_ne dX8_judge_52 (t := 61) (by decide) (q := 55) rfl (fun c_52 => ?_) (fun c_52 => ?_)
        · skip
          refine j_iload_n dX8_judge_61 (q := 62) rfl rfl ?_
          refine j_ireti dX8_judge_62 rfl ?_
          rw [show jdN (fun j => σ0 85 (24 * s + j)) (payOfT (σ0 71)) (k + 1) i = i from if_neg (fun q => c_52 q.symm)] at hp
          exact ⟨by rw [hp], hO1⟩
        · skip
          refine j_iincN_4_3 dX8_judge_55 (q := 58) rfl rfl rfl ?_
          refine j_goto (q := 18) dX8_judge_58 (by decide) ?_
          rw [show jdN (fun j => σ0 85 (24 * s + j)) (payOfT (σ0 71)) (k + 1) i = jdN (fun j => σ0 85 (24 * s + j)) (payOfT (σ0 71)) k (i + 1) from if_pos c_52.symm] at hp
          exact ih (i + 1) τ1 (by omega) hO1 hp
      · skip
        exact absurd (inF (n := i) (k := nf) (by omega) h7 h5) c_33
theorem ct_X8_judge_ok {g : GT} {σ : S_} {s sz nf : Nat} (hk4 : s < 4) (h24 : sz ≤ 24) (h7 : nf ≤ 7) (hn : σ 71 5 = nI nf) (hT : TOK (σ 71) 1) (hb : ¬ σ 83 s = 0) (e : σ 84 s = nI sz) : CT g 4 M_X8_judge [.ref 70, .int (nI s)] σ (fun r τ => r = .int (nI (jdN (fun j => σ 85 (24 * s + j)) (payOfT (σ 71)) (min sz nf) 0)) ∧ ∀ x, x ≠ 76 → x ≠ 77 → τ x = σ x) := by
  refine ct_of [.ref 70, .int (nI s), .null, .null] pn_X8_judge rfl (Nat.le_of_ble_eq_true rfl) ?_
  refine j_aload_n dX8_judge_0 (q := 1) rfl rfl ?_
  refine j_iload_n dX8_judge_1 (q := 2) rfl rfl ?_
  refine j_callVi1E (M' := M_X8_lacks) lk_X8_214 mv_X8_lacks ob_70 (by decide) (Nat.le_of_ble_eq_true rfl) dX8_judge_2 (q := 5) rfl (ct_X8_lacks_o hk4 hb) ?_
  refine j_istore_n_4_2 dX8_judge_5 (q := 6) rfl rfl rfl ?_
  refine j_iload_n dX8_judge_6 (q := 7) rfl rfl ?_
  refine j_if_eq dX8_judge_7 (t := 16) (by decide) (q := 10) rfl (fun c_7 => ?_) (fun c_7 => ?_)
  · skip
    refine j_iconst (v := 0) dX8_judge_16 (q := 17) rfl (by decide) ?_
    refine j_istore_n_4_3 dX8_judge_17 (q := 18) rfl rfl rfl ?_
    exact jm_loop (σ0 := σ) hk4 h24 h7 hn hT e (min sz nf) 0 σ (by omega) (fun _ _ _ => rfl) rfl
  · skip
    exact absurd c_7 (by decide)
