theorem ct_X2_hasRow {g : GT} {σ : S_} {k : Nat} {i n : Int32} (hk4 : k < 4) : CT g 0 M_X2_hasRow [.ref (62 + 2 * k), .int i, .int n] σ (EQ (.int (bI (¬ i < 0 ∧ ¬ n < 0 ∧ ¬ σ (62 + 2 * k) 2 < n ∧ ¬ σ (62 + 2 * k) 2 - n < i))) σ) := by
  refine ct_of [.ref (62 + 2 * k), .int i, .int n] pn_X2_hasRow rfl (Nat.le_of_ble_eq_true rfl) ?_
  refine j_iload_n dX2_hasRow_0 (q := 1) rfl rfl ?_
  refine j_if_lt dX2_hasRow_1 (t := 30) (by decide) (q := 4) rfl (fun c_1 => ?_) (fun c_1 => ?_)
  · skip
    refine j_iconst (v := 0) dX2_hasRow_30 (q := 31) rfl (by decide) ?_
    refine j_iretz dX2_hasRow_31 rfl (by decide) ?_
    exact ⟨congrArg Value.int (by unfold bI; grind), rfl⟩
  · skip
    refine j_iload_n dX2_hasRow_4 (q := 5) rfl rfl ?_
    refine j_if_lt dX2_hasRow_5 (t := 30) (by decide) (q := 8) rfl (fun c_5 => ?_) (fun c_5 => ?_)
    · skip
      refine j_iconst (v := 0) dX2_hasRow_30 (q := 31) rfl (by decide) ?_
      refine j_iretz dX2_hasRow_31 rfl (by decide) ?_
      exact ⟨congrArg Value.int (by unfold bI; grind), rfl⟩
    · skip
      refine j_iload_n dX2_hasRow_8 (q := 9) rfl rfl ?_
      refine j_aload_n dX2_hasRow_9 (q := 10) rfl rfl ?_
      refine j_getI fs_X2_19 (SH_o hk4) rfl dX2_hasRow_10 (q := 13) rfl ?_
      refine j_icmp_gt dX2_hasRow_13 (t := 30) (by decide) (q := 16) rfl (fun c_13 => ?_) (fun c_13 => ?_)
      · skip
        refine j_iconst (v := 0) dX2_hasRow_30 (q := 31) rfl (by decide) ?_
        refine j_iretz dX2_hasRow_31 rfl (by decide) ?_
        exact ⟨congrArg Value.int (by unfold bI; grind), rfl⟩
      · skip
        refine j_iload_n dX2_hasRow_16 (q := 17) rfl rfl ?_
        refine j_aload_n dX2_hasRow_17 (q := 18) rfl rfl ?_
        refine j_getI fs_X2_19 (SH_o hk4) rfl dX2_hasRow_18 (q := 21) rfl ?_
        refine j_iload_n dX2_hasRow_21 (q := 22) rfl rfl ?_
        refine j_isub dX2_hasRow_22 (q := 23) rfl ?_
        refine j_icmp_gt dX2_hasRow_23 (t := 30) (by decide) (q := 26) rfl (fun c_23 => ?_) (fun c_23 => ?_)
        · skip
          refine j_iconst (v := 0) dX2_hasRow_30 (q := 31) rfl (by decide) ?_
          refine j_iretz dX2_hasRow_31 rfl (by decide) ?_
          exact ⟨congrArg Value.int (by unfold bI; grind), rfl⟩
        · skip
          refine j_iconst (v := 1) dX2_hasRow_26 (q := 27) rfl (by decide) ?_
          refine j_goto (q := 31) dX2_hasRow_27 (by decide) ?_
          refine j_iretz dX2_hasRow_31 rfl (by decide) ?_
          exact ⟨congrArg Value.int (by unfold bI; grind), rfl⟩
theorem ct_X7_move_no {g : GT} {σ : S_} {p i q j n : Int32} (h : ¬ ((0 ≤ p ∧ p ≤ 3) ∧ (0 ≤ q ∧ q ≤ 3))) : CT g 2 M_X7_move [.ref 0, .int p, .int i, .int q, .int j, .int n] σ (EQ (.int (-1000000001)) (rfz σ 1)) := by
  refine ct_of [.ref 0, .int p, .int i, .int q, .int j, .int n, .null, .null] pn_X7_move rfl (Nat.le_of_ble_eq_true rfl) ?_
  refine j_iload_n dX7_move_0 (q := 1) rfl rfl ?_
  refine j_callSi1E (M' := M_X7_isSheet) lk_X7_242 ms_X7_isSheet (by decide) (Nat.le_of_ble_eq_true rfl) dX7_move_1 (q := 4) rfl (ct_X7_isSheet) ?_
  refine j_ifeqB dX7_move_4 (t := 14) (by decide) (q := 7) rfl (fun c_4 => ?_) (fun c_4 => ?_)
  · skip
    refine j_iload_n dX7_move_7 (q := 8) rfl rfl ?_
    refine j_callSi1E (M' := M_X7_isSheet) lk_X7_242 ms_X7_isSheet (by decide) (Nat.le_of_ble_eq_true rfl) dX7_move_8 (q := 11) rfl (ct_X7_isSheet) ?_
    refine j_ifneB dX7_move_11 (t := 20) (by decide) (q := 14) rfl (fun c_11 => ?_) (fun c_11 => ?_)
    · skip
      exact absurd ⟨c_4, c_11⟩ h
    · skip
      refine j_aload_n dX7_move_14 (q := 15) rfl rfl ?_
      refine j_iconst (v := 1) dX7_move_15 (q := 16) rfl (by decide) ?_
      refine j_callVi1E (M' := M_X7_refuse) lk_X7_61 mv_X7_refuse ob_0 (by decide) (Nat.le_of_ble_eq_true rfl) dX7_move_16 (q := 19) rfl (ct_ref1) ?_
      refine j_ireti dX7_move_19 rfl ?_
      exact ⟨rfl, rfl⟩
  · skip
    refine j_aload_n dX7_move_14 (q := 15) rfl rfl ?_
    refine j_iconst (v := 1) dX7_move_15 (q := 16) rfl (by decide) ?_
    refine j_callVi1E (M' := M_X7_refuse) lk_X7_61 mv_X7_refuse ob_0 (by decide) (Nat.le_of_ble_eq_true rfl) dX7_move_16 (q := 19) rfl (ct_ref1) ?_
    refine j_ireti dX7_move_19 rfl ?_
    exact ⟨rfl, rfl⟩
theorem ct_X8_move_no {g : GT} {σ : S_} {p i q j n : Int32} (h : ¬ ((0 ≤ p ∧ p ≤ 3) ∧ (0 ≤ q ∧ q ≤ 3))) : CT g 2 M_X8_move [.ref 70, .int p, .int i, .int q, .int j, .int n] σ (EQ (.int (-1000000001)) (rfm σ 1)) := by
  refine ct_of [.ref 70, .int p, .int i, .int q, .int j, .int n, .null] pn_X8_move rfl (Nat.le_of_ble_eq_true rfl) ?_
  refine j_iload_n dX8_move_0 (q := 1) rfl rfl ?_
  refine j_callSi1E (M' := M_X8_isSheet) lk_X8_252 ms_X8_isSheet (by decide) (Nat.le_of_ble_eq_true rfl) dX8_move_1 (q := 4) rfl (ct_X8_isSheet) ?_
  refine j_ifeqB dX8_move_4 (t := 14) (by decide) (q := 7) rfl (fun c_4 => ?_) (fun c_4 => ?_)
  · skip
    refine j_iload_n dX8_move_7 (q := 8) rfl rfl ?_
    refine j_callSi1E (M' := M_X8_isSheet) lk_X8_252 ms_X8_isSheet (by decide) (Nat.le_of_ble_eq_true rfl) dX8_move_8 (q := 11) rfl (ct_X8_isSheet) ?_
    refine j_ifneB dX8_move_11 (t := 20) (by decide) (q := 14) rfl (fun c_11 => ?_) (fun c_11 => ?_)
    · skip
      exact absurd ⟨c_4, c_11⟩ h
    · skip
      refine j_aload_n dX8_move_14 (q := 15) rfl rfl ?_
      refine j_iconst (v := 1) dX8_move_15 (q := 16) rfl (by decide) ?_
      refine j_callVi1E (M' := M_X8_error) lk_X8_63 mv_X8_error ob_70 (by decide) (Nat.le_of_ble_eq_true rfl) dX8_move_16 (q := 19) rfl (ct_err1) ?_
      refine j_ireti dX8_move_19 rfl ?_
      exact ⟨rfl, rfl⟩
  · skip
    refine j_aload_n dX8_move_14 (q := 15) rfl rfl ?_
    refine j_iconst (v := 1) dX8_move_15 (q := 16) rfl (by decide) ?_
    refine j_callVi1E (M' := M_X8_error) lk_X8_63 mv_X8_error ob_70 (by decide) (Nat.le_of_ble_eq_true rfl) dX8_move_16 (q := 19) rfl (ct_err1) ?_
    refine j_ireti dX8_move_19 rfl ?_
    exact ⟨rfl, rfl⟩
theorem ct_X7_move_gone {g : GT} {σ : S_} {p q : Nat} (hp4 : p < 4) (hq4 : q < 4) {i j n : Int32} (h : σ (62 + 2 * p) 1 = 0 ∨ σ (62 + 2 * q) 1 = 0) : CT g 2 M_X7_move [.ref 0, .int (nI p), .int i, .int (nI q), .int j, .int n] σ (EQ (.int (-1000000002)) (rfz σ 2)) := by
  refine ct_of [.ref 0, .int (nI p), .int i, .int (nI q), .int j, .int n, .null, .null] pn_X7_move rfl (Nat.le_of_ble_eq_true rfl) ?_
  refine j_iload_n dX7_move_0 (q := 1) rfl rfl ?_
  refine j_callSi1E (M' := M_X7_isSheet) lk_X7_242 ms_X7_isSheet (by decide) (Nat.le_of_ble_eq_true rfl) dX7_move_1 (q := 4) rfl (ct_X7_isSheet) ?_
  refine j_ifeqB dX7_move_4 (t := 14) (by decide) (q := 7) rfl (fun c_4 => ?_) (fun c_4 => ?_)
  · skip
    refine j_iload_n dX7_move_7 (q := 8) rfl rfl ?_
    refine j_callSi1E (M' := M_X7_isSheet) lk_X7_242 ms_X7_isSheet (by decide) (Nat.le_of_ble_eq_true rfl) dX7_move_8 (q := 11) rfl (ct_X7_isSheet) ?_
    refine j_ifneB dX7_move_11 (t := 20) (by decide) (q := 14) rfl (fun c_11 => ?_) (fun c_11 => ?_)
    · skip
      refine j_aload_n dX7_move_20 (q := 21) rfl rfl ?_
      refine j_getR (r := 1) fs_X7_44 rfl rfl rfl dX7_move_21 (q := 24) rfl ?_
      refine j_iload_n dX7_move_24 (q := 25) rfl rfl ?_
      refine j_aaldN rfl (by omega) (SH_1 hp4) dX7_move_25 (q := 26) rfl ?_
      refine j_astore_8_6 dX7_move_26 (q := 28) rfl rfl rfl ?_
      refine j_aload_n dX7_move_28 (q := 29) rfl rfl ?_
      refine j_getR (r := 1) fs_X7_44 rfl rfl rfl dX7_move_29 (q := 32) rfl ?_
      refine j_iload_n dX7_move_32 (q := 33) rfl rfl ?_
      refine j_aaldN rfl (by omega) (SH_1 hq4) dX7_move_33 (q := 34) rfl ?_
      refine j_astore_8_7 dX7_move_34 (q := 36) rfl rfl rfl ?_
      refine j_aload dX7_move_36 (q := 38) rfl rfl ?_
      refine j_callVi0E (M' := M_X2_isMissing) lk_X7_245 mv_X2_isMissing (ob_of (SH_o hp4) rfl) (by decide) (Nat.le_of_ble_eq_true rfl) dX7_move_38 (q := 41) rfl (ct_X2_isMissing hp4) ?_
      refine j_ifneB dX7_move_41 (t := 52) (by decide) (q := 44) rfl (fun c_41 => ?_) (fun c_41 => ?_)
      · skip
        refine j_aload_n dX7_move_52 (q := 53) rfl rfl ?_
        refine j_iconst (v := 2) dX7_move_53 (q := 54) rfl (by decide) ?_
        refine j_callVi1E (M' := M_X7_refuse) lk_X7_61 mv_X7_refuse ob_0 (by decide) (Nat.le_of_ble_eq_true rfl) dX7_move_54 (q := 57) rfl (ct_ref2) ?_
        refine j_ireti dX7_move_57 rfl ?_
        exact ⟨rfl, rfl⟩
      · skip
        refine j_aload dX7_move_44 (q := 46) rfl rfl ?_
        refine j_callVi0E (M' := M_X2_isMissing) lk_X7_245 mv_X2_isMissing (ob_of (SH_o hq4) rfl) (by decide) (Nat.le_of_ble_eq_true rfl) dX7_move_46 (q := 49) rfl (ct_X2_isMissing hq4) ?_
        refine j_ifeqB dX7_move_49 (t := 58) (by decide) (q := 52) rfl (fun c_49 => ?_) (fun c_49 => ?_)
        · skip
          refine j_aload_n dX7_move_52 (q := 53) rfl rfl ?_
          refine j_iconst (v := 2) dX7_move_53 (q := 54) rfl (by decide) ?_
          refine j_callVi1E (M' := M_X7_refuse) lk_X7_61 mv_X7_refuse ob_0 (by decide) (Nat.le_of_ble_eq_true rfl) dX7_move_54 (q := 57) rfl (ct_ref2) ?_
          refine j_ireti dX7_move_57 rfl ?_
          exact ⟨rfl, rfl⟩
        · skip
          exact absurd h (fun z => z.elim c_41 c_49)
    · skip
      exact absurd (inK (b := 3) (by omega) (by decide)) c_11
  · skip
    exact absurd (inK (b := 3) (by omega) (by decide)) c_4
theorem ct_X7_move_odd {g : GT} {σ : S_} {p q : Nat} (hp4 : p < 4) (hq4 : q < 4) {i j n : Int32} (hp1 : ¬ σ (62 + 2 * p) 1 = 0) (hq1 : ¬ σ (62 + 2 * q) 1 = 0) (h : ¬ σ (62 + 2 * p) 1 = σ (62 + 2 * q) 1) : CT g 2 M_X7_move [.ref 0, .int (nI p), .int i, .int (nI q), .int j, .int n] σ (EQ (.int (-1000000005)) (rfz σ 5)) := by
  refine ct_of [.ref 0, .int (nI p), .int i, .int (nI q), .int j, .int n, .null, .null] pn_X7_move rfl (Nat.le_of_ble_eq_true rfl) ?_
  refine j_iload_n dX7_move_0 (q := 1) rfl rfl ?_
  refine j_callSi1E (M' := M_X7_isSheet) lk_X7_242 ms_X7_isSheet (by decide) (Nat.le_of_ble_eq_true rfl) dX7_move_1 (q := 4) rfl (ct_X7_isSheet) ?_
  refine j_ifeqB dX7_move_4 (t := 14) (by decide) (q := 7) rfl (fun c_4 => ?_) (fun c_4 => ?_)
  · skip
    refine j_iload_n dX7_move_7 (q := 8) rfl rfl ?_
    refine j_callSi1E (M' := M_X7_isSheet) lk_X7_242 ms_X7_isSheet (by decide) (Nat.le_of_ble_eq_true rfl) dX7_move_8 (q := 11) rfl (ct_X7_isSheet) ?_
    refine j_ifneB dX7_move_11 (t := 20) (by decide) (q := 14) rfl (fun c_11 => ?_) (fun c_11 => ?_)
    · skip
      refine j_aload_n dX7_move_20 (q := 21) rfl rfl ?_
      refine j_getR (r := 1) fs_X7_44 rfl rfl rfl dX7_move_21 (q := 24) rfl ?_
      refine j_iload_n dX7_move_24 (q := 25) rfl rfl ?_
      refine j_aaldN rfl (by omega) (SH_1 hp4) dX7_move_25 (q := 26) rfl ?_
      refine j_astore_8_6 dX7_move_26 (q := 28) rfl rfl rfl ?_
      refine j_aload_n dX7_move_28 (q := 29) rfl rfl ?_
      refine j_getR (r := 1) fs_X7_44 rfl rfl rfl dX7_move_29 (q := 32) rfl ?_
      refine j_iload_n dX7_move_32 (q := 33) rfl rfl ?_
      refine j_aaldN rfl (by omega) (SH_1 hq4) dX7_move_33 (q := 34) rfl ?_
      refine j_astore_8_7 dX7_move_34 (q := 36) rfl rfl rfl ?_
      refine j_aload dX7_move_36 (q := 38) rfl rfl ?_
      refine j_callVi0E (M' := M_X2_isMissing) lk_X7_245 mv_X2_isMissing (ob_of (SH_o hp4) rfl) (by decide) (Nat.le_of_ble_eq_true rfl) dX7_move_38 (q := 41) rfl (ct_X2_isMissing hp4) ?_
      refine j_ifneB dX7_move_41 (t := 52) (by decide) (q := 44) rfl (fun c_41 => ?_) (fun c_41 => ?_)
      · skip
        exact absurd c_41 hp1
      · skip
        refine j_aload dX7_move_44 (q := 46) rfl rfl ?_
        refine j_callVi0E (M' := M_X2_isMissing) lk_X7_245 mv_X2_isMissing (ob_of (SH_o hq4) rfl) (by decide) (Nat.le_of_ble_eq_true rfl) dX7_move_46 (q := 49) rfl (ct_X2_isMissing hq4) ?_
        refine j_ifeqB dX7_move_49 (t := 58) (by decide) (q := 52) rfl (fun c_49 => ?_) (fun c_49 => ?_)
        · skip
          exact absurd c_49 hq1
        · skip
          refine j_aload dX7_move_58 (q := 60) rfl rfl ?_
          refine j_getI fs_X7_275 (SH_o hp4) rfl dX7_move_60 (q := 63) rfl ?_
          refine j_aload dX7_move_63 (q := 65) rfl rfl ?_
          refine j_getI fs_X7_275 (SH_o hq4) rfl dX7_move_65 (q := 68) rfl ?_
          refine j_icmp_eq dX7_move_68 (t := 77) (by decide) (q := 71) rfl (fun c_68 => ?_) (fun c_68 => ?_)
          · skip
            exact absurd c_68 h
          · skip
            refine j_aload_n dX7_move_71 (q := 72) rfl rfl ?_
            refine j_iconst (v := 5) dX7_move_72 (q := 73) rfl (by decide) ?_
            refine j_callVi1E (M' := M_X7_refuse) lk_X7_61 mv_X7_refuse ob_0 (by decide) (Nat.le_of_ble_eq_true rfl) dX7_move_73 (q := 76) rfl (ct_ref5) ?_
            refine j_ireti dX7_move_76 rfl ?_
            exact ⟨rfl, rfl⟩
    · skip
      exact absurd (inK (b := 3) (by omega) (by decide)) c_11
  · skip
    exact absurd (inK (b := 3) (by omega) (by decide)) c_4
theorem ct_X7_move_far {g : GT} {σ : S_} {p q : Nat} (hp4 : p < 4) (hq4 : q < 4) {i j n : Int32} (hp1 : ¬ σ (62 + 2 * p) 1 = 0) (hq1 : ¬ σ (62 + 2 * q) 1 = 0) (hb : σ (62 + 2 * p) 1 = σ (62 + 2 * q) 1) (h : ¬ ((¬ i < 0 ∧ ¬ n < 0 ∧ ¬ σ (62 + 2 * p) 2 < n ∧ ¬ σ (62 + 2 * p) 2 - n < i) ∧ (¬ j < 0 ∧ ¬ n < 0 ∧ ¬ σ (62 + 2 * q) 2 < n ∧ ¬ σ (62 + 2 * q) 2 - n < j))) : CT g 2 M_X7_move [.ref 0, .int (nI p), .int i, .int (nI q), .int j, .int n] σ (EQ (.int (-1000000001)) (rfz σ 1)) := by
  refine ct_of [.ref 0, .int (nI p), .int i, .int (nI q), .int j, .int n, .null, .null] pn_X7_move rfl (Nat.le_of_ble_eq_true rfl) ?_
  refine j_iload_n dX7_move_0 (q := 1) rfl rfl ?_
  refine j_callSi1E (M' := M_X7_isSheet) lk_X7_242 ms_X7_isSheet (by decide) (Nat.le_of_ble_eq_true rfl) dX7_move_1 (q := 4) rfl (ct_X7_isSheet) ?_
  refine j_ifeqB dX7_move_4 (t := 14) (by decide) (q := 7) rfl (fun c_4 => ?_) (fun c_4 => ?_)
  · skip
    refine j_iload_n dX7_move_7 (q := 8) rfl rfl ?_
    refine j_callSi1E (M' := M_X7_isSheet) lk_X7_242 ms_X7_isSheet (by decide) (Nat.le_of_ble_eq_true rfl) dX7_move_8 (q := 11) rfl (ct_X7_isSheet) ?_
    refine j_ifneB dX7_move_11 (t := 20) (by decide) (q := 14) rfl (fun c_11 => ?_) (fun c_11 => ?_)
    · skip
      refine j_aload_n dX7_move_20 (q := 21) rfl rfl ?_
      refine j_getR (r := 1) fs_X7_44 rfl rfl rfl dX7_move_21 (q := 24) rfl ?_
      refine j_iload_n dX7_move_24 (q := 25) rfl rfl ?_
      refine j_aaldN rfl (by omega) (SH_1 hp4) dX7_move_25 (q := 26) rfl ?_
      refine j_astore_8_6 dX7_move_26 (q := 28) rfl rfl rfl ?_
      refine j_aload_n dX7_move_28 (q := 29) rfl rfl ?_
      refine j_getR (r := 1) fs_X7_44 rfl rfl rfl dX7_move_29 (q := 32) rfl ?_
      refine j_iload_n dX7_move_32 (q := 33) rfl rfl ?_
      refine j_aaldN rfl (by omega) (SH_1 hq4) dX7_move_33 (q := 34) rfl ?_
      refine j_astore_8_7 dX7_move_34 (q := 36) rfl rfl rfl ?_
      refine j_aload dX7_move_36 (q := 38) rfl rfl ?_
      refine j_callVi0E (M' := M_X2_isMissing) lk_X7_245 mv_X2_isMissing (ob_of (SH_o hp4) rfl) (by decide) (Nat.le_of_ble_eq_true rfl) dX7_move_38 (q := 41) rfl (ct_X2_isMissing hp4) ?_
      refine j_ifneB dX7_move_41 (t := 52) (by decide) (q := 44) rfl (fun c_41 => ?_) (fun c_41 => ?_)
      · skip
        exact absurd c_41 hp1
      · skip
        refine j_aload dX7_move_44 (q := 46) rfl rfl ?_
        refine j_callVi0E (M' := M_X2_isMissing) lk_X7_245 mv_X2_isMissing (ob_of (SH_o hq4) rfl) (by decide) (Nat.le_of_ble_eq_true rfl) dX7_move_46 (q := 49) rfl (ct_X2_isMissing hq4) ?_
        refine j_ifeqB dX7_move_49 (t := 58) (by decide) (q := 52) rfl (fun c_49 => ?_) (fun c_49 => ?_)
        · skip
          exact absurd c_49 hq1
        · skip
          refine j_aload dX7_move_58 (q := 60) rfl rfl ?_
          refine j_getI fs_X7_275 (SH_o hp4) rfl dX7_move_60 (q := 63) rfl ?_
          refine j_aload dX7_move_63 (q := 65) rfl rfl ?_
          refine j_getI fs_X7_275 (SH_o hq4) rfl dX7_move_65 (q := 68) rfl ?_
          refine j_icmp_eq dX7_move_68 (t := 77) (by decide) (q := 71) rfl (fun c_68 => ?_) (fun c_68 => ?_)
          · skip
            refine j_aload dX7_move_77 (q := 79) rfl rfl ?_
            refine j_iload_n dX7_move_79 (q := 80) rfl rfl ?_
            refine j_iload dX7_move_80 (q := 82) rfl rfl ?_
            refine j_callVi2E (M' := M_X2_hasRow) lk_X7_278 mv_X2_hasRow (ob_of (SH_o hp4) rfl) (by decide) (Nat.le_of_ble_eq_true rfl) dX7_move_82 (q := 85) rfl (ct_X2_hasRow hp4) ?_
            refine j_ifeqB dX7_move_85 (t := 100) (by decide) (q := 88) rfl (fun c_85 => ?_) (fun c_85 => ?_)
            · skip
              refine j_aload dX7_move_88 (q := 90) rfl rfl ?_
              refine j_iload dX7_move_90 (q := 92) rfl rfl ?_
              refine j_iload dX7_move_92 (q := 94) rfl rfl ?_
              refine j_callVi2E (M' := M_X2_hasRow) lk_X7_278 mv_X2_hasRow (ob_of (SH_o hq4) rfl) (by decide) (Nat.le_of_ble_eq_true rfl) dX7_move_94 (q := 97) rfl (ct_X2_hasRow hq4) ?_
              refine j_ifneB dX7_move_97 (t := 106) (by decide) (q := 100) rfl (fun c_97 => ?_) (fun c_97 => ?_)
              · skip
                exact absurd ⟨c_85, c_97⟩ h
              · skip
                refine j_aload_n dX7_move_100 (q := 101) rfl rfl ?_
                refine j_iconst (v := 1) dX7_move_101 (q := 102) rfl (by decide) ?_
                refine j_callVi1E (M' := M_X7_refuse) lk_X7_61 mv_X7_refuse ob_0 (by decide) (Nat.le_of_ble_eq_true rfl) dX7_move_102 (q := 105) rfl (ct_ref1) ?_
                refine j_ireti dX7_move_105 rfl ?_
                exact ⟨rfl, rfl⟩
            · skip
              refine j_aload_n dX7_move_100 (q := 101) rfl rfl ?_
              refine j_iconst (v := 1) dX7_move_101 (q := 102) rfl (by decide) ?_
              refine j_callVi1E (M' := M_X7_refuse) lk_X7_61 mv_X7_refuse ob_0 (by decide) (Nat.le_of_ble_eq_true rfl) dX7_move_102 (q := 105) rfl (ct_ref1) ?_
              refine j_ireti dX7_move_105 rfl ?_
              exact ⟨rfl, rfl⟩
          · skip
            exact absurd hb c_68
    · skip
      exact absurd (inK (b := 3) (by omega) (by decide)) c_11
  · skip
    exact absurd (inK (b := 3) (by omega) (by decide)) c_4
theorem ct_X8_move_gone {g : GT} {σ : S_} {p q : Nat} (hp4 : p < 4) (hq4 : q < 4) {i j n : Int32} (h : σ 83 p = 0 ∨ σ 83 q = 0) : CT g 2 M_X8_move [.ref 70, .int (nI p), .int i, .int (nI q), .int j, .int n] σ (EQ (.int (-1000000002)) (rfm σ 2)) := by
  refine ct_of [.ref 70, .int (nI p), .int i, .int (nI q), .int j, .int n, .null] pn_X8_move rfl (Nat.le_of_ble_eq_true rfl) ?_
  refine j_iload_n dX8_move_0 (q := 1) rfl rfl ?_
  refine j_callSi1E (M' := M_X8_isSheet) lk_X8_252 ms_X8_isSheet (by decide) (Nat.le_of_ble_eq_true rfl) dX8_move_1 (q := 4) rfl (ct_X8_isSheet) ?_
  refine j_ifeqB dX8_move_4 (t := 14) (by decide) (q := 7) rfl (fun c_4 => ?_) (fun c_4 => ?_)
  · skip
    refine j_iload_n dX8_move_7 (q := 8) rfl rfl ?_
    refine j_callSi1E (M' := M_X8_isSheet) lk_X8_252 ms_X8_isSheet (by decide) (Nat.le_of_ble_eq_true rfl) dX8_move_8 (q := 11) rfl (ct_X8_isSheet) ?_
    refine j_ifneB dX8_move_11 (t := 20) (by decide) (q := 14) rfl (fun c_11 => ?_) (fun c_11 => ?_)
    · skip
      refine j_aload_n dX8_move_20 (q := 21) rfl rfl ?_
      refine j_getR (r := 83) fs_X8_46 rfl rfl rfl dX8_move_21 (q := 24) rfl ?_
      refine j_iload_n dX8_move_24 (q := 25) rfl rfl ?_
      refine j_ialdN rfl (by omega) dX8_move_25 (q := 26) rfl ?_
      refine j_if_eq dX8_move_26 (t := 38) (by decide) (q := 29) rfl (fun c_26 => ?_) (fun c_26 => ?_)
      · skip
        refine j_aload_n dX8_move_38 (q := 39) rfl rfl ?_
        refine j_iconst (v := 2) dX8_move_39 (q := 40) rfl (by decide) ?_
        refine j_callVi1E (M' := M_X8_error) lk_X8_63 mv_X8_error ob_70 (by decide) (Nat.le_of_ble_eq_true rfl) dX8_move_40 (q := 43) rfl (ct_err2) ?_
        refine j_ireti dX8_move_43 rfl ?_
        exact ⟨rfl, rfl⟩
      · skip
        refine j_aload_n dX8_move_29 (q := 30) rfl rfl ?_
        refine j_getR (r := 83) fs_X8_46 rfl rfl rfl dX8_move_30 (q := 33) rfl ?_
        refine j_iload_n dX8_move_33 (q := 34) rfl rfl ?_
        refine j_ialdN rfl (by omega) dX8_move_34 (q := 35) rfl ?_
        refine j_if_ne dX8_move_35 (t := 44) (by decide) (q := 38) rfl (fun c_35 => ?_) (fun c_35 => ?_)
        · skip
          exact absurd h (fun z => z.elim c_26 c_35)
        · skip
          refine j_aload_n dX8_move_38 (q := 39) rfl rfl ?_
          refine j_iconst (v := 2) dX8_move_39 (q := 40) rfl (by decide) ?_
          refine j_callVi1E (M' := M_X8_error) lk_X8_63 mv_X8_error ob_70 (by decide) (Nat.le_of_ble_eq_true rfl) dX8_move_40 (q := 43) rfl (ct_err2) ?_
          refine j_ireti dX8_move_43 rfl ?_
          exact ⟨rfl, rfl⟩
    · skip
      exact absurd (inK (b := 3) (by omega) (by decide)) c_11
  · skip
    exact absurd (inK (b := 3) (by omega) (by decide)) c_4
theorem ct_X8_move_odd {g : GT} {σ : S_} {p q : Nat} (hp4 : p < 4) (hq4 : q < 4) {i j n : Int32} (hp1 : ¬ σ 83 p = 0) (hq1 : ¬ σ 83 q = 0) (h : ¬ σ 83 p = σ 83 q) : CT g 2 M_X8_move [.ref 70, .int (nI p), .int i, .int (nI q), .int j, .int n] σ (EQ (.int (-1000000005)) (rfm σ 5)) := by
  refine ct_of [.ref 70, .int (nI p), .int i, .int (nI q), .int j, .int n, .null] pn_X8_move rfl (Nat.le_of_ble_eq_true rfl) ?_
  refine j_iload_n dX8_move_0 (q := 1) rfl rfl ?_
  refine j_callSi1E (M' := M_X8_isSheet) lk_X8_252 ms_X8_isSheet (by decide) (Nat.le_of_ble_eq_true rfl) dX8_move_1 (q := 4) rfl (ct_X8_isSheet) ?_
  refine j_ifeqB dX8_move_4 (t := 14) (by decide) (q := 7) rfl (fun c_4 => ?_) (fun c_4 => ?_)
  · skip
    refine j_iload_n dX8_move_7 (q := 8) rfl rfl ?_
    refine j_callSi1E (M' := M_X8_isSheet) lk_X8_252 ms_X8_isSheet (by decide) (Nat.le_of_ble_eq_true rfl) dX8_move_8 (q := 11) rfl (ct_X8_isSheet) ?_
    refine j_ifneB dX8_move_11 (t := 20) (by decide) (q := 14) rfl (fun c_11 => ?_) (fun c_11 => ?_)
    · skip
      refine j_aload_n dX8_move_20 (q := 21) rfl rfl ?_
      refine j_getR (r := 83) fs_X8_46 rfl rfl rfl dX8_move_21 (q := 24) rfl ?_
      refine j_iload_n dX8_move_24 (q := 25) rfl rfl ?_
      refine j_ialdN rfl (by omega) dX8_move_25 (q := 26) rfl ?_
      refine j_if_eq dX8_move_26 (t := 38) (by decide) (q := 29) rfl (fun c_26 => ?_) (fun c_26 => ?_)
      · skip
        exact absurd c_26 hp1
      · skip
        refine j_aload_n dX8_move_29 (q := 30) rfl rfl ?_
        refine j_getR (r := 83) fs_X8_46 rfl rfl rfl dX8_move_30 (q := 33) rfl ?_
        refine j_iload_n dX8_move_33 (q := 34) rfl rfl ?_
        refine j_ialdN rfl (by omega) dX8_move_34 (q := 35) rfl ?_
        refine j_if_ne dX8_move_35 (t := 44) (by decide) (q := 38) rfl (fun c_35 => ?_) (fun c_35 => ?_)
        · skip
          refine j_aload_n dX8_move_44 (q := 45) rfl rfl ?_
          refine j_getR (r := 83) fs_X8_46 rfl rfl rfl dX8_move_45 (q := 48) rfl ?_
          refine j_iload_n dX8_move_48 (q := 49) rfl rfl ?_
          refine j_ialdN rfl (by omega) dX8_move_49 (q := 50) rfl ?_
          refine j_aload_n dX8_move_50 (q := 51) rfl rfl ?_
          refine j_getR (r := 83) fs_X8_46 rfl rfl rfl dX8_move_51 (q := 54) rfl ?_
          refine j_iload_n dX8_move_54 (q := 55) rfl rfl ?_
          refine j_ialdN rfl (by omega) dX8_move_55 (q := 56) rfl ?_
          refine j_icmp_eq dX8_move_56 (t := 65) (by decide) (q := 59) rfl (fun c_56 => ?_) (fun c_56 => ?_)
          · skip
            exact absurd c_56 h
          · skip
            refine j_aload_n dX8_move_59 (q := 60) rfl rfl ?_
            refine j_iconst (v := 5) dX8_move_60 (q := 61) rfl (by decide) ?_
            refine j_callVi1E (M' := M_X8_error) lk_X8_63 mv_X8_error ob_70 (by decide) (Nat.le_of_ble_eq_true rfl) dX8_move_61 (q := 64) rfl (ct_err5) ?_
            refine j_ireti dX8_move_64 rfl ?_
            exact ⟨rfl, rfl⟩
        · skip
          exact absurd c_35 hq1
    · skip
      exact absurd (inK (b := 3) (by omega) (by decide)) c_11
  · skip
    exact absurd (inK (b := 3) (by omega) (by decide)) c_4
theorem rowK {i n s : Nat} {x : Int32} (h : i + n ≤ s) (hs : s ≤ 24) (e : x = nI s) : ¬ nI i < 0 ∧ ¬ nI n < 0 ∧ ¬ x < nI n ∧ ¬ x - nI n < nI i := by
  subst e
  refine ⟨nI_nn (by omega), nI_nn (by omega), fun q => ?_, fun q => ?_⟩
  · have := (nI_lt_iff (by omega) (by omega)).mp q; omega
  · rw [show nI s - nI n = nI (s - n) from by rw [show nI s = nI ((s - n) + n) by congr 1; omega, ← nI_add, Int32.add_sub_cancel]] at q
    have := (nI_lt_iff (by omega) (by omega)).mp q; omega
theorem ct_X7_move_ok {g : GT} {σ : S_} {p q : Nat} (hp4 : p < 4) (hq4 : q < 4) {i j n sp sq : Nat} (hi : i + n ≤ sp) (hj : j + n ≤ sq) (h1 : sp ≤ 24) (h2 : sq ≤ 24) (hp1 : ¬ σ (62 + 2 * p) 1 = 0) (hq1 : ¬ σ (62 + 2 * q) 1 = 0) (hb : σ (62 + 2 * p) 1 = σ (62 + 2 * q) 1) (ep : σ (62 + 2 * p) 2 = nI sp) (eq : σ (62 + 2 * q) 2 = nI sq) : CT g 2 M_X7_move [.ref 0, .int (nI p), .int (nI i), .int (nI q), .int (nI j), .int (nI n)] σ (EQ (.int (nI n)) (upR σ (63 + 2 * q) (va_cpy (σ (63 + 2 * p)) (σ (63 + 2 * q)) i j n))) := by
  refine ct_of [.ref 0, .int (nI p), .int (nI i), .int (nI q), .int (nI j), .int (nI n), .null, .null] pn_X7_move rfl (Nat.le_of_ble_eq_true rfl) ?_
  refine j_iload_n dX7_move_0 (q := 1) rfl rfl ?_
  refine j_callSi1E (M' := M_X7_isSheet) lk_X7_242 ms_X7_isSheet (by decide) (Nat.le_of_ble_eq_true rfl) dX7_move_1 (q := 4) rfl (ct_X7_isSheet) ?_
  refine j_ifeqB dX7_move_4 (t := 14) (by decide) (q := 7) rfl (fun c_4 => ?_) (fun c_4 => ?_)
  · skip
    refine j_iload_n dX7_move_7 (q := 8) rfl rfl ?_
    refine j_callSi1E (M' := M_X7_isSheet) lk_X7_242 ms_X7_isSheet (by decide) (Nat.le_of_ble_eq_true rfl) dX7_move_8 (q := 11) rfl (ct_X7_isSheet) ?_
    refine j_ifneB dX7_move_11 (t := 20) (by decide) (q := 14) rfl (fun c_11 => ?_) (fun c_11 => ?_)
    · skip
      refine j_aload_n dX7_move_20 (q := 21) rfl rfl ?_
      refine j_getR (r := 1) fs_X7_44 rfl rfl rfl dX7_move_21 (q := 24) rfl ?_
      refine j_iload_n dX7_move_24 (q := 25) rfl rfl ?_
      refine j_aaldN rfl (by omega) (SH_1 hp4) dX7_move_25 (q := 26) rfl ?_
      refine j_astore_8_6 dX7_move_26 (q := 28) rfl rfl rfl ?_
      refine j_aload_n dX7_move_28 (q := 29) rfl rfl ?_
      refine j_getR (r := 1) fs_X7_44 rfl rfl rfl dX7_move_29 (q := 32) rfl ?_
      refine j_iload_n dX7_move_32 (q := 33) rfl rfl ?_
      refine j_aaldN rfl (by omega) (SH_1 hq4) dX7_move_33 (q := 34) rfl ?_
      refine j_astore_8_7 dX7_move_34 (q := 36) rfl rfl rfl ?_
      refine j_aload dX7_move_36 (q := 38) rfl rfl ?_
      refine j_callVi0E (M' := M_X2_isMissing) lk_X7_245 mv_X2_isMissing (ob_of (SH_o hp4) rfl) (by decide) (Nat.le_of_ble_eq_true rfl) dX7_move_38 (q := 41) rfl (ct_X2_isMissing hp4) ?_
      refine j_ifneB dX7_move_41 (t := 52) (by decide) (q := 44) rfl (fun c_41 => ?_) (fun c_41 => ?_)
      · skip
        exact absurd c_41 hp1
      · skip
        refine j_aload dX7_move_44 (q := 46) rfl rfl ?_
        refine j_callVi0E (M' := M_X2_isMissing) lk_X7_245 mv_X2_isMissing (ob_of (SH_o hq4) rfl) (by decide) (Nat.le_of_ble_eq_true rfl) dX7_move_46 (q := 49) rfl (ct_X2_isMissing hq4) ?_
        refine j_ifeqB dX7_move_49 (t := 58) (by decide) (q := 52) rfl (fun c_49 => ?_) (fun c_49 => ?_)
        · skip
          exact absurd c_49 hq1
        · skip
          refine j_aload dX7_move_58 (q := 60) rfl rfl ?_
          refine j_getI fs_X7_275 (SH_o hp4) rfl dX7_move_60 (q := 63) rfl ?_
          refine j_aload dX7_move_63 (q := 65) rfl rfl ?_
          refine j_getI fs_X7_275 (SH_o hq4) rfl dX7_move_65 (q := 68) rfl ?_
          refine j_icmp_eq dX7_move_68 (t := 77) (by decide) (q := 71) rfl (fun c_68 => ?_) (fun c_68 => ?_)
          · skip
            refine j_aload dX7_move_77 (q := 79) rfl rfl ?_
            refine j_iload_n dX7_move_79 (q := 80) rfl rfl ?_
            refine j_iload dX7_move_80 (q := 82) rfl rfl ?_
            refine j_callVi2E (M' := M_X2_hasRow) lk_X7_278 mv_X2_hasRow (ob_of (SH_o hp4) rfl) (by decide) (Nat.le_of_ble_eq_true rfl) dX7_move_82 (q := 85) rfl (ct_X2_hasRow hp4) ?_
            refine j_ifeqB dX7_move_85 (t := 100) (by decide) (q := 88) rfl (fun c_85 => ?_) (fun c_85 => ?_)
            · skip
              refine j_aload dX7_move_88 (q := 90) rfl rfl ?_
              refine j_iload dX7_move_90 (q := 92) rfl rfl ?_
              refine j_iload dX7_move_92 (q := 94) rfl rfl ?_
              refine j_callVi2E (M' := M_X2_hasRow) lk_X7_278 mv_X2_hasRow (ob_of (SH_o hq4) rfl) (by decide) (Nat.le_of_ble_eq_true rfl) dX7_move_94 (q := 97) rfl (ct_X2_hasRow hq4) ?_
              refine j_ifneB dX7_move_97 (t := 106) (by decide) (q := 100) rfl (fun c_97 => ?_) (fun c_97 => ?_)
              · skip
                refine j_aload dX7_move_106 (q := 108) rfl rfl ?_
                refine j_getR (r := (63 + 2 * p)) fs_X7_281 (SH_o hp4) rfl (SH_r hp4) dX7_move_108 (q := 111) rfl ?_
                refine j_iload_n dX7_move_111 (q := 112) rfl rfl ?_
                refine j_aload dX7_move_112 (q := 114) rfl rfl ?_
                refine j_getR (r := (63 + 2 * q)) fs_X7_281 (SH_o hq4) rfl (SH_r hq4) dX7_move_114 (q := 117) rfl ?_
                refine j_iload dX7_move_117 (q := 119) rfl rfl ?_
                refine j_iload dX7_move_119 (q := 121) rfl rfl ?_
                refine j_copyI (SH_a hp4) (SH_a hq4) lk_X7_284 ac_n ac_s ac_i (by decide) (Nat.le_of_ble_eq_true rfl) (nI_nn (by omega)) (nI_nn (by omega)) (nI_nn (by omega)) (by rw [pk_cl i, pk_cl n]; omega) (by rw [pk_cl j, pk_cl n]; omega) dX7_move_121 (q := 124) rfl ?_
                refine j_iload dX7_move_124 (q := 126) rfl rfl ?_
                refine j_ireti dX7_move_126 rfl ?_
                exact ⟨rfl, by rw [pk_cl i, pk_cl j, pk_cl n]⟩
              · skip
                exact absurd (rowK hj h2 eq) c_97
            · skip
              exact absurd (rowK hi h1 ep) c_85
          · skip
            exact absurd hb c_68
    · skip
      exact absurd (inK (b := 3) (by omega) (by decide)) c_11
  · skip
    exact absurd (inK (b := 3) (by omega) (by decide)) c_4
theorem ct_X8_move_far {g : GT} {σ : S_} {p q : Nat} (hp4 : p < 4) (hq4 : q < 4) {i j n : Int32} (hp1 : ¬ σ 83 p = 0) (hq1 : ¬ σ 83 q = 0) (hb : σ 83 p = σ 83 q) (h : ¬ (¬ n < 0 ∧ ¬ i < 0 ∧ ¬ j < 0 ∧ ¬ σ 84 p - n < i ∧ j ≤ σ 84 q - n)) : CT g 2 M_X8_move [.ref 70, .int (nI p), .int i, .int (nI q), .int j, .int n] σ (EQ (.int (-1000000001)) (rfm σ 1)) := by
  refine ct_of [.ref 70, .int (nI p), .int i, .int (nI q), .int j, .int n, .null] pn_X8_move rfl (Nat.le_of_ble_eq_true rfl) ?_
  refine j_iload_n dX8_move_0 (q := 1) rfl rfl ?_
  refine j_callSi1E (M' := M_X8_isSheet) lk_X8_252 ms_X8_isSheet (by decide) (Nat.le_of_ble_eq_true rfl) dX8_move_1 (q := 4) rfl (ct_X8_isSheet) ?_
  refine j_ifeqB dX8_move_4 (t := 14) (by decide) (q := 7) rfl (fun c_4 => ?_) (fun c_4 => ?_)
  · skip
    refine j_iload_n dX8_move_7 (q := 8) rfl rfl ?_
    refine j_callSi1E (M' := M_X8_isSheet) lk_X8_252 ms_X8_isSheet (by decide) (Nat.le_of_ble_eq_true rfl) dX8_move_8 (q := 11) rfl (ct_X8_isSheet) ?_
    refine j_ifneB dX8_move_11 (t := 20) (by decide) (q := 14) rfl (fun c_11 => ?_) (fun c_11 => ?_)
    · skip
      refine j_aload_n dX8_move_20 (q := 21) rfl rfl ?_
      refine j_getR (r := 83) fs_X8_46 rfl rfl rfl dX8_move_21 (q := 24) rfl ?_
      refine j_iload_n dX8_move_24 (q := 25) rfl rfl ?_
      refine j_ialdN rfl (by omega) dX8_move_25 (q := 26) rfl ?_
      refine j_if_eq dX8_move_26 (t := 38) (by decide) (q := 29) rfl (fun c_26 => ?_) (fun c_26 => ?_)
      · skip
        exact absurd c_26 hp1
      · skip
        refine j_aload_n dX8_move_29 (q := 30) rfl rfl ?_
        refine j_getR (r := 83) fs_X8_46 rfl rfl rfl dX8_move_30 (q := 33) rfl ?_
        refine j_iload_n dX8_move_33 (q := 34) rfl rfl ?_
        refine j_ialdN rfl (by omega) dX8_move_34 (q := 35) rfl ?_
        refine j_if_ne dX8_move_35 (t := 44) (by decide) (q := 38) rfl (fun c_35 => ?_) (fun c_35 => ?_)
        · skip
          refine j_aload_n dX8_move_44 (q := 45) rfl rfl ?_
          refine j_getR (r := 83) fs_X8_46 rfl rfl rfl dX8_move_45 (q := 48) rfl ?_
          refine j_iload_n dX8_move_48 (q := 49) rfl rfl ?_
          refine j_ialdN rfl (by omega) dX8_move_49 (q := 50) rfl ?_
          refine j_aload_n dX8_move_50 (q := 51) rfl rfl ?_
          refine j_getR (r := 83) fs_X8_46 rfl rfl rfl dX8_move_51 (q := 54) rfl ?_
          refine j_iload_n dX8_move_54 (q := 55) rfl rfl ?_
          refine j_ialdN rfl (by omega) dX8_move_55 (q := 56) rfl ?_
          refine j_icmp_eq dX8_move_56 (t := 65) (by decide) (q := 59) rfl (fun c_56 => ?_) (fun c_56 => ?_)
          · skip
            refine j_iload dX8_move_65 (q := 67) rfl rfl ?_
            refine j_if_lt dX8_move_67 (t := 106) (by decide) (q := 70) rfl (fun c_67 => ?_) (fun c_67 => ?_)
            · skip
              refine j_aload_n dX8_move_106 (q := 107) rfl rfl ?_
              refine j_iconst (v := 1) dX8_move_107 (q := 108) rfl (by decide) ?_
              refine j_callVi1E (M' := M_X8_error) lk_X8_63 mv_X8_error ob_70 (by decide) (Nat.le_of_ble_eq_true rfl) dX8_move_108 (q := 111) rfl (ct_err1) ?_
              refine j_ireti dX8_move_111 rfl ?_
              exact ⟨rfl, rfl⟩
            · skip
              refine j_iload_n dX8_move_70 (q := 71) rfl rfl ?_
              refine j_if_lt dX8_move_71 (t := 106) (by decide) (q := 74) rfl (fun c_71 => ?_) (fun c_71 => ?_)
              · skip
                refine j_aload_n dX8_move_106 (q := 107) rfl rfl ?_
                refine j_iconst (v := 1) dX8_move_107 (q := 108) rfl (by decide) ?_
                refine j_callVi1E (M' := M_X8_error) lk_X8_63 mv_X8_error ob_70 (by decide) (Nat.le_of_ble_eq_true rfl) dX8_move_108 (q := 111) rfl (ct_err1) ?_
                refine j_ireti dX8_move_111 rfl ?_
                exact ⟨rfl, rfl⟩
              · skip
                refine j_iload dX8_move_74 (q := 76) rfl rfl ?_
                refine j_if_lt dX8_move_76 (t := 106) (by decide) (q := 79) rfl (fun c_76 => ?_) (fun c_76 => ?_)
                · skip
                  refine j_aload_n dX8_move_106 (q := 107) rfl rfl ?_
                  refine j_iconst (v := 1) dX8_move_107 (q := 108) rfl (by decide) ?_
                  refine j_callVi1E (M' := M_X8_error) lk_X8_63 mv_X8_error ob_70 (by decide) (Nat.le_of_ble_eq_true rfl) dX8_move_108 (q := 111) rfl (ct_err1) ?_
                  refine j_ireti dX8_move_111 rfl ?_
                  exact ⟨rfl, rfl⟩
                · skip
                  refine j_iload_n dX8_move_79 (q := 80) rfl rfl ?_
                  refine j_aload_n dX8_move_80 (q := 81) rfl rfl ?_
                  refine j_getR (r := 84) fs_X8_49 rfl rfl rfl dX8_move_81 (q := 84) rfl ?_
                  refine j_iload_n dX8_move_84 (q := 85) rfl rfl ?_
                  refine j_ialdN rfl (by omega) dX8_move_85 (q := 86) rfl ?_
                  refine j_iload dX8_move_86 (q := 88) rfl rfl ?_
                  refine j_isub dX8_move_88 (q := 89) rfl ?_
                  refine j_icmp_gt dX8_move_89 (t := 106) (by decide) (q := 92) rfl (fun c_89 => ?_) (fun c_89 => ?_)
                  · skip
                    refine j_aload_n dX8_move_106 (q := 107) rfl rfl ?_
                    refine j_iconst (v := 1) dX8_move_107 (q := 108) rfl (by decide) ?_
                    refine j_callVi1E (M' := M_X8_error) lk_X8_63 mv_X8_error ob_70 (by decide) (Nat.le_of_ble_eq_true rfl) dX8_move_108 (q := 111) rfl (ct_err1) ?_
                    refine j_ireti dX8_move_111 rfl ?_
                    exact ⟨rfl, rfl⟩
                  · skip
                    refine j_iload dX8_move_92 (q := 94) rfl rfl ?_
                    refine j_aload_n dX8_move_94 (q := 95) rfl rfl ?_
                    refine j_getR (r := 84) fs_X8_49 rfl rfl rfl dX8_move_95 (q := 98) rfl ?_
                    refine j_iload_n dX8_move_98 (q := 99) rfl rfl ?_
                    refine j_ialdN rfl (by omega) dX8_move_99 (q := 100) rfl ?_
                    refine j_iload dX8_move_100 (q := 102) rfl rfl ?_
                    refine j_isub dX8_move_102 (q := 103) rfl ?_
                    refine j_icmp_le dX8_move_103 (t := 112) (by decide) (q := 106) rfl (fun c_103 => ?_) (fun c_103 => ?_)
                    · skip
                      exact absurd ⟨c_67, c_71, c_76, c_89, c_103⟩ h
                    · skip
                      refine j_aload_n dX8_move_106 (q := 107) rfl rfl ?_
                      refine j_iconst (v := 1) dX8_move_107 (q := 108) rfl (by decide) ?_
                      refine j_callVi1E (M' := M_X8_error) lk_X8_63 mv_X8_error ob_70 (by decide) (Nat.le_of_ble_eq_true rfl) dX8_move_108 (q := 111) rfl (ct_err1) ?_
                      refine j_ireti dX8_move_111 rfl ?_
                      exact ⟨rfl, rfl⟩
          · skip
            exact absurd hb c_56
        · skip
          exact absurd c_35 hq1
    · skip
      exact absurd (inK (b := 3) (by omega) (by decide)) c_11
  · skip
    exact absurd (inK (b := 3) (by omega) (by decide)) c_4
theorem mv2 {g : GT} {p q i j n sp sq : Nat} {σ0 : S_} (hp4 : p < 4) (hq4 : q < 4) (hi : i + n ≤ sp) (hj : j + n ≤ sq) (h1 : sp ≤ 24) (h2 : sq ≤ 24) : ∀ (k m : Nat) (σ : S_), m + k = n → (∀ x, x < n → σ 86 x = σ0 85 (24 * p + i + x)) → σ 85 = va_cpy (σ0 85) (σ0 85) (24 * p + i) (24 * q + j) m → (∀ x, x ≠ 85 → x ≠ 86 → σ x = σ0 x) → J g 2 M_X8_move (fun r τ => r = .int (nI n) ∧ τ 85 = va_cpy (σ0 85) (σ0 85) (24 * p + i) (24 * q + j) n ∧ ∀ x, x ≠ 85 → x ≠ 86 → τ x = σ0 x) 152 [.ref 70, .int (nI p), .int (nI i), .int (nI q), .int (nI j), .int (nI n), .int (nI m)] [] σ := by
  intro k
  induction k with
  | zero =>
    intro m σ hik hA hw hO
    refine j_iload dX8_move_152 (q := 154) rfl rfl ?_
    refine j_iload dX8_move_154 (q := 156) rfl rfl ?_
    refine j_icmp_geN (by omega) (by omega) dX8_move_156 (t := 187) (by decide) (q := 159) rfl (fun c_156 => ?_) (fun c_156 => ?_)
    · skip
      refine j_iload dX8_move_187 (q := 189) rfl rfl ?_
      refine j_ireti dX8_move_189 rfl ?_
      obtain rfl : m = n := by omega
      exact ⟨rfl, hw, hO⟩
    · skip
      omega
  | succ k ih =>
    intro m σ hik hA hw hO
    refine j_iload dX8_move_152 (q := 154) rfl rfl ?_
    refine j_iload dX8_move_154 (q := 156) rfl rfl ?_
    refine j_icmp_geN (by omega) (by omega) dX8_move_156 (t := 187) (by decide) (q := 159) rfl (fun c_156 => ?_) (fun c_156 => ?_)
    · skip
      omega
    · skip
      refine j_aload_n dX8_move_159 (q := 160) rfl rfl ?_
      refine j_getR (r := 85) fs_X8_52 rfl rfl rfl dX8_move_160 (q := 163) rfl ?_
      refine j_bipush (v := 24) dX8_move_163 (q := 165) rfl (by decide) ?_
      refine j_iload_n dX8_move_165 (q := 166) rfl rfl ?_
      refine j_imulN (a := 24) dX8_move_166 (q := 167) rfl ?_
      refine j_iload dX8_move_167 (q := 169) rfl rfl ?_
      refine j_iaddN dX8_move_169 (q := 170) rfl ?_
      refine j_iload dX8_move_170 (q := 172) rfl rfl ?_
      refine j_iaddN dX8_move_172 (q := 173) rfl ?_
      refine j_aload_n dX8_move_173 (q := 174) rfl rfl ?_
      refine j_getR (r := 86) fs_X8_55 rfl rfl rfl dX8_move_174 (q := 177) rfl ?_
      refine j_iload dX8_move_177 (q := 179) rfl rfl ?_
      refine j_ialdV rfl (by omega) (hA m (by omega)) dX8_move_179 (q := 180) rfl ?_
      refine j_iastN rfl (by omega) dX8_move_180 (q := 181) rfl ?_
      refine j_iincN_7_6 dX8_move_181 (q := 184) rfl rfl rfl ?_
      refine j_goto (q := 152) dX8_move_184 (by decide) ?_
      refine ih (m + 1) _ (by omega) (fun x hx => (up_nc (by decide)).trans (hA x hx)) ?_ (fun x a b => (up_row a).trans (hO x a b))
      rw [up_own, hw]
      funext x
      unfold va_cpy
      by_cases e : x = 24 * q + j + m
      · subst e; rw [upd_at, if_pos (by omega)]; congr 1; omega
      · rw [upd_ne e]
        by_cases c : 24 * q + j ≤ x ∧ x < 24 * q + j + m
        · rw [if_pos c, if_pos (by omega)]
        · rw [if_neg c, if_neg (by omega)]
theorem mv1 {g : GT} {p q i j n sp sq : Nat} {σ0 : S_} (hp4 : p < 4) (hq4 : q < 4) (hi : i + n ≤ sp) (hj : j + n ≤ sq) (h1 : sp ≤ 24) (h2 : sq ≤ 24) : ∀ (k m : Nat) (σ : S_), m + k = n → (∀ x, x < m → σ 86 x = σ0 85 (24 * p + i + x)) → (∀ x, x ≠ 86 → σ x = σ0 x) → J g 2 M_X8_move (fun r τ => r = .int (nI n) ∧ τ 85 = va_cpy (σ0 85) (σ0 85) (24 * p + i) (24 * q + j) n ∧ ∀ x, x ≠ 85 → x ≠ 86 → τ x = σ0 x) 115 [.ref 70, .int (nI p), .int (nI i), .int (nI q), .int (nI j), .int (nI n), .int (nI m)] [] σ := by
  intro k
  induction k with
  | zero =>
    intro m σ hik hA hO
    refine j_iload dX8_move_115 (q := 117) rfl rfl ?_
    refine j_iload dX8_move_117 (q := 119) rfl rfl ?_
    refine j_icmp_geN (by omega) (by omega) dX8_move_119 (t := 149) (by decide) (q := 122) rfl (fun c_119 => ?_) (fun c_119 => ?_)
    · skip
      refine j_iconst (v := 0) dX8_move_149 (q := 150) rfl (by decide) ?_
      refine j_istore_7_6 dX8_move_150 (q := 152) rfl rfl rfl ?_
      exact mv2 hp4 hq4 hi hj h1 h2 n 0 σ (by omega) (fun x hx => hA x (by omega)) (by rw [hO 85 (by decide)]; funext x; unfold va_cpy; rw [if_neg (by omega)]) (fun x _ b => hO x b)
    · skip
      omega
  | succ k ih =>
    intro m σ hik hA hO
    refine j_iload dX8_move_115 (q := 117) rfl rfl ?_
    refine j_iload dX8_move_117 (q := 119) rfl rfl ?_
    refine j_icmp_geN (by omega) (by omega) dX8_move_119 (t := 149) (by decide) (q := 122) rfl (fun c_119 => ?_) (fun c_119 => ?_)
    · skip
      omega
    · skip
      refine j_aload_n dX8_move_122 (q := 123) rfl rfl ?_
      refine j_getR (r := 86) fs_X8_55 rfl rfl rfl dX8_move_123 (q := 126) rfl ?_
      refine j_iload dX8_move_126 (q := 128) rfl rfl ?_
      refine j_aload_n dX8_move_128 (q := 129) rfl rfl ?_
      refine j_getR (r := 85) fs_X8_52 rfl rfl rfl dX8_move_129 (q := 132) rfl ?_
      refine j_bipush (v := 24) dX8_move_132 (q := 134) rfl (by decide) ?_
      refine j_iload_n dX8_move_134 (q := 135) rfl rfl ?_
      refine j_imulN (a := 24) dX8_move_135 (q := 136) rfl ?_
      refine j_iload_n dX8_move_136 (q := 137) rfl rfl ?_
      refine j_iaddN dX8_move_137 (q := 138) rfl ?_
      refine j_iload dX8_move_138 (q := 140) rfl rfl ?_
      refine j_iaddN dX8_move_140 (q := 141) rfl ?_
      refine j_ialdV rfl (by omega) (congrFun (hO 85 (by decide)) (24 * p + i + m)) dX8_move_141 (q := 142) rfl ?_
      refine j_iastN rfl (by omega) dX8_move_142 (q := 143) rfl ?_
      refine j_iincN_7_6 dX8_move_143 (q := 146) rfl rfl rfl ?_
      refine j_goto (q := 115) dX8_move_146 (by decide) ?_
      refine ih (m + 1) _ (by omega) (fun x hx => ?_) (fun x hx => (up_row hx).trans (hO x hx))
      by_cases e : x = m
      · subst e; exact up_at
      · exact (up_nk e).trans (hA x (by omega))
theorem ct_X8_move_ok {g : GT} {σ : S_} {p q : Nat} (hp4 : p < 4) (hq4 : q < 4) {i j n sp sq : Nat} (hi : i + n ≤ sp) (hj : j + n ≤ sq) (h1 : sp ≤ 24) (h2 : sq ≤ 24) (hp1 : ¬ σ 83 p = 0) (hq1 : ¬ σ 83 q = 0) (hb : σ 83 p = σ 83 q) (ep : σ 84 p = nI sp) (eq : σ 84 q = nI sq) : CT g 2 M_X8_move [.ref 70, .int (nI p), .int (nI i), .int (nI q), .int (nI j), .int (nI n)] σ (fun r τ => r = .int (nI n) ∧ τ 85 = va_cpy (σ 85) (σ 85) (24 * p + i) (24 * q + j) n ∧ ∀ x, x ≠ 85 → x ≠ 86 → τ x = σ x) := by
  refine ct_of [.ref 70, .int (nI p), .int (nI i), .int (nI q), .int (nI j), .int (nI n), .null] pn_X8_move rfl (Nat.le_of_ble_eq_true rfl) ?_
  refine j_iload_n dX8_move_0 (q := 1) rfl rfl ?_
  refine j_callSi1E (M' := M_X8_isSheet) lk_X8_252 ms_X8_isSheet (by decide) (Nat.le_of_ble_eq_true rfl) dX8_move_1 (q := 4) rfl (ct_X8_isSheet) ?_
  refine j_ifeqB dX8_move_4 (t := 14) (by decide) (q := 7) rfl (fun c_4 => ?_) (fun c_4 => ?_)
  · skip
    refine j_iload_n dX8_move_7 (q := 8) rfl rfl ?_
    refine j_callSi1E (M' := M_X8_isSheet) lk_X8_252 ms_X8_isSheet (by decide) (Nat.le_of_ble_eq_true rfl) dX8_move_8 (q := 11) rfl (ct_X8_isSheet) ?_
    refine j_ifneB dX8_move_11 (t := 20) (by decide) (q := 14) rfl (fun c_11 => ?_) (fun c_11 => ?_)
    · skip
      refine j_aload_n dX8_move_20 (q := 21) rfl rfl ?_
      refine j_getR (r := 83) fs_X8_46 rfl rfl rfl dX8_move_21 (q := 24) rfl ?_
      refine j_iload_n dX8_move_24 (q := 25) rfl rfl ?_
      refine j_ialdN rfl (by omega) dX8_move_25 (q := 26) rfl ?_
      refine j_if_eq dX8_move_26 (t := 38) (by decide) (q := 29) rfl (fun c_26 => ?_) (fun c_26 => ?_)
      · skip
        exact absurd c_26 hp1
      · skip
        refine j_aload_n dX8_move_29 (q := 30) rfl rfl ?_
        refine j_getR (r := 83) fs_X8_46 rfl rfl rfl dX8_move_30 (q := 33) rfl ?_
        refine j_iload_n dX8_move_33 (q := 34) rfl rfl ?_
        refine j_ialdN rfl (by omega) dX8_move_34 (q := 35) rfl ?_
        refine j_if_ne dX8_move_35 (t := 44) (by decide) (q := 38) rfl (fun c_35 => ?_) (fun c_35 => ?_)
        · skip
          refine j_aload_n dX8_move_44 (q := 45) rfl rfl ?_
          refine j_getR (r := 83) fs_X8_46 rfl rfl rfl dX8_move_45 (q := 48) rfl ?_
          refine j_iload_n dX8_move_48 (q := 49) rfl rfl ?_
          refine j_ialdN rfl (by omega) dX8_move_49 (q := 50) rfl ?_
          refine j_aload_n dX8_move_50 (q := 51) rfl rfl ?_
          refine j_getR (r := 83) fs_X8_46 rfl rfl rfl dX8_move_51 (q := 54) rfl ?_
          refine j_iload_n dX8_move_54 (q := 55) rfl rfl ?_
          refine j_ialdN rfl (by omega) dX8_move_55 (q := 56) rfl ?_
          refine j_icmp_eq dX8_move_56 (t := 65) (by decide) (q := 59) rfl (fun c_56 => ?_) (fun c_56 => ?_)
          · skip
            refine j_iload dX8_move_65 (q := 67) rfl rfl ?_
            refine j_if_ltN (by omega) dX8_move_67 (t := 106) (by decide) (q := 70) rfl (fun c_67 => ?_) (fun c_67 => ?_)
            · skip
              omega
            · skip
              refine j_iload_n dX8_move_70 (q := 71) rfl rfl ?_
              refine j_if_ltN (by omega) dX8_move_71 (t := 106) (by decide) (q := 74) rfl (fun c_71 => ?_) (fun c_71 => ?_)
              · skip
                omega
              · skip
                refine j_iload dX8_move_74 (q := 76) rfl rfl ?_
                refine j_if_ltN (by omega) dX8_move_76 (t := 106) (by decide) (q := 79) rfl (fun c_76 => ?_) (fun c_76 => ?_)
                · skip
                  omega
                · skip
                  refine j_iload_n dX8_move_79 (q := 80) rfl rfl ?_
                  refine j_aload_n dX8_move_80 (q := 81) rfl rfl ?_
                  refine j_getR (r := 84) fs_X8_49 rfl rfl rfl dX8_move_81 (q := 84) rfl ?_
                  refine j_iload_n dX8_move_84 (q := 85) rfl rfl ?_
                  refine j_ialdV rfl (by omega) ep dX8_move_85 (q := 86) rfl ?_
                  refine j_iload dX8_move_86 (q := 88) rfl rfl ?_
                  refine j_isubN (by omega) dX8_move_88 (q := 89) rfl ?_
                  refine j_icmp_gtN (by omega) (by omega) dX8_move_89 (t := 106) (by decide) (q := 92) rfl (fun c_89 => ?_) (fun c_89 => ?_)
                  · skip
                    omega
                  · skip
                    refine j_iload dX8_move_92 (q := 94) rfl rfl ?_
                    refine j_aload_n dX8_move_94 (q := 95) rfl rfl ?_
                    refine j_getR (r := 84) fs_X8_49 rfl rfl rfl dX8_move_95 (q := 98) rfl ?_
                    refine j_iload_n dX8_move_98 (q := 99) rfl rfl ?_
                    refine j_ialdV rfl (by omega) eq dX8_move_99 (q := 100) rfl ?_
                    refine j_iload dX8_move_100 (q := 102) rfl rfl ?_
                    refine j_isubN (by omega) dX8_move_102 (q := 103) rfl ?_
                    refine j_icmp_leN (by omega) (by omega) dX8_move_103 (t := 112) (by decide) (q := 106) rfl (fun c_103 => ?_) (fun c_103 => ?_)
                    · skip
                      refine j_iconst (v := 0) dX8_move_112 (q := 113) rfl (by decide) ?_
                      refine j_istore_7_6 dX8_move_113 (q := 115) rfl rfl rfl ?_
                      exact mv1 (σ0 := σ) hp4 hq4 hi hj h1 h2 n 0 σ (by omega) (fun x hx => absurd hx (by omega)) (fun _ _ => rfl)
                    · skip
                      omega
          · skip
            exact absurd hb c_56
        · skip
          exact absurd c_35 hq1
    · skip
      exact absurd (inK (b := 3) (by omega) (by decide)) c_11
  · skip
    exact absurd (inK (b := 3) (by omega) (by decide)) c_4
