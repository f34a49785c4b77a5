theorem in_of {i : Int32} {n : Nat} {b : Int32} (h0 : 0 ≤ i) (h1 : i ≤ b) (hb : b.toInt < n) : vp_in i n := by
  intro h
  rcases h with h | h
  · exact absurd h0 (Int32.not_le.mpr h)
  · have a1 := Int32.le_iff_toInt_le.mp h0
    have a2 := Int32.le_iff_toInt_le.mp h1
    have a3 : (0 : Int32).toInt = 0 := rfl
    have a4 : i.toNatClampNeg = i.toInt.toNat := rfl
    omega
/-- one more ERROR of kind k (class) -/
def rfz (σ : S_) (k : Nat) : S_ := up σ 2 k (σ 2 k + 1)
/-- one more ERROR of kind k (model) -/
def rfm (σ : S_) (k : Nat) : S_ := up σ 74 k (σ 74 k + 1)
theorem ct_X7_within {g : GT} {σ : S_} {v a b : Int32} : CT g 0 M_X7_within [.int v, .int a, .int b] σ (EQ (.int (bI (a ≤ v ∧ v ≤ b))) σ) := by
  refine ct_of [.int v, .int a, .int b] pn_X7_within rfl (Nat.le_of_ble_eq_true rfl) ?_
  refine j_iload_n dX7_within_0 (q := 1) rfl rfl ?_
  refine j_iload_n dX7_within_1 (q := 2) rfl rfl ?_
  refine j_icmp_lt dX7_within_2 (t := 14) (by decide) (q := 5) rfl (fun c_2 => ?_) (fun c_2 => ?_)
  · skip
    refine j_iconst (v := 0) dX7_within_14 (q := 15) rfl (by decide) ?_
    refine j_iretz dX7_within_15 rfl (by decide) ?_
    exact ⟨congrArg Value.int (by unfold bI; grind), rfl⟩
  · skip
    refine j_iload_n dX7_within_5 (q := 6) rfl rfl ?_
    refine j_iload_n dX7_within_6 (q := 7) rfl rfl ?_
    refine j_icmp_gt dX7_within_7 (t := 14) (by decide) (q := 10) rfl (fun c_7 => ?_) (fun c_7 => ?_)
    · skip
      refine j_iconst (v := 0) dX7_within_14 (q := 15) rfl (by decide) ?_
      refine j_iretz dX7_within_15 rfl (by decide) ?_
      exact ⟨congrArg Value.int (by unfold bI; grind), rfl⟩
    · skip
      refine j_iconst (v := 1) dX7_within_10 (q := 11) rfl (by decide) ?_
      refine j_goto (q := 15) dX7_within_11 (by decide) ?_
      refine j_iretz dX7_within_15 rfl (by decide) ?_
      exact ⟨congrArg Value.int (by unfold bI; grind), rfl⟩
theorem ct_X8_in {g : GT} {σ : S_} {v a b : Int32} : CT g 0 M_X8_in [.int v, .int a, .int b] σ (EQ (.int (bI (a ≤ v ∧ v ≤ b))) σ) := by
  refine ct_of [.int v, .int a, .int b] pn_X8_in rfl (Nat.le_of_ble_eq_true rfl) ?_
  refine j_iload_n dX8_in_0 (q := 1) rfl rfl ?_
  refine j_iload_n dX8_in_1 (q := 2) rfl rfl ?_
  refine j_icmp_lt dX8_in_2 (t := 14) (by decide) (q := 5) rfl (fun c_2 => ?_) (fun c_2 => ?_)
  · skip
    refine j_iconst (v := 0) dX8_in_14 (q := 15) rfl (by decide) ?_
    refine j_iretz dX8_in_15 rfl (by decide) ?_
    exact ⟨congrArg Value.int (by unfold bI; grind), rfl⟩
  · skip
    refine j_iload_n dX8_in_5 (q := 6) rfl rfl ?_
    refine j_iload_n dX8_in_6 (q := 7) rfl rfl ?_
    refine j_icmp_gt dX8_in_7 (t := 14) (by decide) (q := 10) rfl (fun c_7 => ?_) (fun c_7 => ?_)
    · skip
      refine j_iconst (v := 0) dX8_in_14 (q := 15) rfl (by decide) ?_
      refine j_iretz dX8_in_15 rfl (by decide) ?_
      exact ⟨congrArg Value.int (by unfold bI; grind), rfl⟩
    · skip
      refine j_iconst (v := 1) dX8_in_10 (q := 11) rfl (by decide) ?_
      refine j_goto (q := 15) dX8_in_11 (by decide) ?_
      refine j_iretz dX8_in_15 rfl (by decide) ?_
      exact ⟨congrArg Value.int (by unfold bI; grind), rfl⟩
theorem ct_X7_refuse {g : GT} {σ : S_} {k : Nat} (h1 : 1 ≤ k) (h2 : k ≤ 6) : CT g 1 M_X7_refuse [.ref 0, .int (nI k)] σ (EQ (.int (-1000000000 - nI k)) (rfz σ k)) := by
  refine ct_of [.ref 0, .int (nI k)] pn_X7_refuse rfl (Nat.le_of_ble_eq_true rfl) ?_
  refine j_iload_n dX7_refuse_0 (q := 1) rfl rfl ?_
  refine j_iconst (v := 1) dX7_refuse_1 (q := 2) rfl (by decide) ?_
  refine j_bipush (v := 6) dX7_refuse_2 (q := 4) rfl (by decide) ?_
  refine j_callSi3E (M' := M_X7_within) lk_X7_57 ms_X7_within (by decide) (Nat.le_of_ble_eq_true rfl) dX7_refuse_4 (q := 7) rfl (ct_X7_within) ?_
  refine j_ifeqB dX7_refuse_7 (t := 20) (by decide) (q := 10) rfl (fun c_7 => ?_) (fun c_7 => ?_)
  · skip
    refine j_aload_n dX7_refuse_10 (q := 11) rfl rfl ?_
    refine j_getR (r := 2) fs_X7_48 rfl rfl rfl dX7_refuse_11 (q := 14) rfl ?_
    refine j_iload_n dX7_refuse_14 (q := 15) rfl rfl ?_
    refine j_dup2 dX7_refuse_15 (q := 16) rfl rfl rfl ?_
    refine j_ialdN rfl (by omega) dX7_refuse_16 (q := 17) rfl ?_
    refine j_iconst (v := 1) dX7_refuse_17 (q := 18) rfl (by decide) ?_
    refine j_iadd dX7_refuse_18 (q := 19) rfl ?_
    refine j_iastN rfl (by omega) dX7_refuse_19 (q := 20) rfl ?_
    refine j_ldcw cn_X7_304 dX7_refuse_20 (q := 23) rfl ?_
    refine j_iload_n dX7_refuse_23 (q := 24) rfl rfl ?_
    refine j_isub dX7_refuse_24 (q := 25) rfl ?_
    refine j_ireti dX7_refuse_25 rfl ?_
    exact ⟨rfl, rfl⟩
  · skip
    exact absurd ⟨nI_le (a := 1) h1 (by omega), nI_le (b := 6) h2 (by omega)⟩ c_7
theorem ct_X8_error {g : GT} {σ : S_} {k : Nat} (h2 : k ≤ 6) : CT g 0 M_X8_error [.ref 70, .int (nI k)] σ (EQ (.int (-1000000000 - nI k)) (rfm σ k)) := by
  refine ct_of [.ref 70, .int (nI k)] pn_X8_error rfl (Nat.le_of_ble_eq_true rfl) ?_
  refine j_aload_n dX8_error_0 (q := 1) rfl rfl ?_
  refine j_getR (r := 74) fs_X8_19 rfl rfl rfl dX8_error_1 (q := 4) rfl ?_
  refine j_iload_n dX8_error_4 (q := 5) rfl rfl ?_
  refine j_dup2 dX8_error_5 (q := 6) rfl rfl rfl ?_
  refine j_ialdN rfl (by omega) dX8_error_6 (q := 7) rfl ?_
  refine j_iconst (v := 1) dX8_error_7 (q := 8) rfl (by decide) ?_
  refine j_iadd dX8_error_8 (q := 9) rfl ?_
  refine j_iastN rfl (by omega) dX8_error_9 (q := 10) rfl ?_
  refine j_ldc cn_X8_58 dX8_error_10 (q := 12) rfl ?_
  refine j_iload_n dX8_error_12 (q := 13) rfl rfl ?_
  refine j_isub dX8_error_13 (q := 14) rfl ?_
  refine j_ireti dX8_error_14 rfl ?_
  exact ⟨rfl, rfl⟩
theorem ct_ref1 {g : GT} {σ : S_} : CT g 1 M_X7_refuse [.ref 0, .int 1] σ (EQ (.int (-1000000001)) (rfz σ 1)) := ct_X7_refuse (k := 1) (by decide) (by decide)
theorem ct_err1 {g : GT} {σ : S_} : CT g 0 M_X8_error [.ref 70, .int 1] σ (EQ (.int (-1000000001)) (rfm σ 1)) := ct_X8_error (k := 1) (by decide)
theorem ct_ref2 {g : GT} {σ : S_} : CT g 1 M_X7_refuse [.ref 0, .int 2] σ (EQ (.int (-1000000002)) (rfz σ 2)) := ct_X7_refuse (k := 2) (by decide) (by decide)
theorem ct_err2 {g : GT} {σ : S_} : CT g 0 M_X8_error [.ref 70, .int 2] σ (EQ (.int (-1000000002)) (rfm σ 2)) := ct_X8_error (k := 2) (by decide)
theorem ct_ref3 {g : GT} {σ : S_} : CT g 1 M_X7_refuse [.ref 0, .int 3] σ (EQ (.int (-1000000003)) (rfz σ 3)) := ct_X7_refuse (k := 3) (by decide) (by decide)
theorem ct_err3 {g : GT} {σ : S_} : CT g 0 M_X8_error [.ref 70, .int 3] σ (EQ (.int (-1000000003)) (rfm σ 3)) := ct_X8_error (k := 3) (by decide)
theorem ct_ref4 {g : GT} {σ : S_} : CT g 1 M_X7_refuse [.ref 0, .int 4] σ (EQ (.int (-1000000004)) (rfz σ 4)) := ct_X7_refuse (k := 4) (by decide) (by decide)
theorem ct_err4 {g : GT} {σ : S_} : CT g 0 M_X8_error [.ref 70, .int 4] σ (EQ (.int (-1000000004)) (rfm σ 4)) := ct_X8_error (k := 4) (by decide)
theorem ct_ref5 {g : GT} {σ : S_} : CT g 1 M_X7_refuse [.ref 0, .int 5] σ (EQ (.int (-1000000005)) (rfz σ 5)) := ct_X7_refuse (k := 5) (by decide) (by decide)
theorem ct_err5 {g : GT} {σ : S_} : CT g 0 M_X8_error [.ref 70, .int 5] σ (EQ (.int (-1000000005)) (rfm σ 5)) := ct_X8_error (k := 5) (by decide)
theorem ct_ref6 {g : GT} {σ : S_} : CT g 1 M_X7_refuse [.ref 0, .int 6] σ (EQ (.int (-1000000006)) (rfz σ 6)) := ct_X7_refuse (k := 6) (by decide) (by decide)
theorem ct_err6 {g : GT} {σ : S_} : CT g 0 M_X8_error [.ref 70, .int 6] σ (EQ (.int (-1000000006)) (rfm σ 6)) := ct_X8_error (k := 6) (by decide)
theorem ct_X7_isFarm {g : GT} {σ : S_} {f : Int32} : CT g 1 M_X7_isFarm [.ref 0, .int f] σ (EQ (.int (bI (0 ≤ f ∧ f ≤ σ 8 1 - 1))) σ) := by
  refine ct_of [.ref 0, .int f] pn_X7_isFarm rfl (Nat.le_of_ble_eq_true rfl) ?_
  refine j_iload_n dX7_isFarm_0 (q := 1) rfl rfl ?_
  refine j_iconst (v := 0) dX7_isFarm_1 (q := 2) rfl (by decide) ?_
  refine j_aload_n dX7_isFarm_2 (q := 3) rfl rfl ?_
  refine j_getR (r := 8) fs_X7_10 rfl rfl rfl dX7_isFarm_3 (q := 6) rfl ?_
  refine j_getI fs_X7_65 rfl rfl dX7_isFarm_6 (q := 9) rfl ?_
  refine j_iconst (v := 1) dX7_isFarm_9 (q := 10) rfl (by decide) ?_
  refine j_isub dX7_isFarm_10 (q := 11) rfl ?_
  refine j_callSi3E (M' := M_X7_within) lk_X7_57 ms_X7_within (by decide) (Nat.le_of_ble_eq_true rfl) dX7_isFarm_11 (q := 14) rfl (ct_X7_within) ?_
  refine j_iretB dX7_isFarm_14 rfl ?_
  exact ⟨rfl, rfl⟩
theorem ct_X7_isCarrier {g : GT} {σ : S_} {f : Int32} : CT g 1 M_X7_isCarrier [.ref 0, .int f] σ (EQ (.int (bI (0 ≤ f ∧ f ≤ σ 8 4 - 1))) σ) := by
  refine ct_of [.ref 0, .int f] pn_X7_isCarrier rfl (Nat.le_of_ble_eq_true rfl) ?_
  refine j_iload_n dX7_isCarrier_0 (q := 1) rfl rfl ?_
  refine j_iconst (v := 0) dX7_isCarrier_1 (q := 2) rfl (by decide) ?_
  refine j_aload_n dX7_isCarrier_2 (q := 3) rfl rfl ?_
  refine j_getR (r := 8) fs_X7_10 rfl rfl rfl dX7_isCarrier_3 (q := 6) rfl ?_
  refine j_getI fs_X7_119 rfl rfl dX7_isCarrier_6 (q := 9) rfl ?_
  refine j_iconst (v := 1) dX7_isCarrier_9 (q := 10) rfl (by decide) ?_
  refine j_isub dX7_isCarrier_10 (q := 11) rfl ?_
  refine j_callSi3E (M' := M_X7_within) lk_X7_57 ms_X7_within (by decide) (Nat.le_of_ble_eq_true rfl) dX7_isCarrier_11 (q := 14) rfl (ct_X7_within) ?_
  refine j_iretB dX7_isCarrier_14 rfl ?_
  exact ⟨rfl, rfl⟩
theorem ct_X7_isPool {g : GT} {σ : S_} {f : Int32} : CT g 1 M_X7_isPool [.int f] σ (EQ (.int (bI (0 ≤ f ∧ f ≤ 2))) σ) := by
  refine ct_of [.int f] pn_X7_isPool rfl (Nat.le_of_ble_eq_true rfl) ?_
  refine j_iload_n dX7_isPool_0 (q := 1) rfl rfl ?_
  refine j_iconst (v := 0) dX7_isPool_1 (q := 2) rfl (by decide) ?_
  refine j_iconst (v := 2) dX7_isPool_2 (q := 3) rfl (by decide) ?_
  refine j_callSi3E (M' := M_X7_within) lk_X7_57 ms_X7_within (by decide) (Nat.le_of_ble_eq_true rfl) dX7_isPool_3 (q := 6) rfl (ct_X7_within) ?_
  refine j_iretB dX7_isPool_6 rfl ?_
  exact ⟨rfl, rfl⟩
theorem ct_X7_isSheet {g : GT} {σ : S_} {f : Int32} : CT g 1 M_X7_isSheet [.int f] σ (EQ (.int (bI (0 ≤ f ∧ f ≤ 3))) σ) := by
  refine ct_of [.int f] pn_X7_isSheet rfl (Nat.le_of_ble_eq_true rfl) ?_
  refine j_iload_n dX7_isSheet_0 (q := 1) rfl rfl ?_
  refine j_iconst (v := 0) dX7_isSheet_1 (q := 2) rfl (by decide) ?_
  refine j_iconst (v := 3) dX7_isSheet_2 (q := 3) rfl (by decide) ?_
  refine j_callSi3E (M' := M_X7_within) lk_X7_57 ms_X7_within (by decide) (Nat.le_of_ble_eq_true rfl) dX7_isSheet_3 (q := 6) rfl (ct_X7_within) ?_
  refine j_iretB dX7_isSheet_6 rfl ?_
  exact ⟨rfl, rfl⟩
theorem ct_X7_isUse {g : GT} {σ : S_} {f : Int32} : CT g 0 M_X7_isUse [.int f] σ (EQ (.int (bI (f = 0 ∨ f = 1))) σ) := by
  refine ct_of [.int f] pn_X7_isUse rfl (Nat.le_of_ble_eq_true rfl) ?_
  refine j_iload_n dX7_isUse_0 (q := 1) rfl rfl ?_
  refine j_if_eq dX7_isUse_1 (t := 9) (by decide) (q := 4) rfl (fun c_1 => ?_) (fun c_1 => ?_)
  · skip
    refine j_iconst (v := 1) dX7_isUse_9 (q := 10) rfl (by decide) ?_
    refine j_goto (q := 14) dX7_isUse_10 (by decide) ?_
    refine j_iretz dX7_isUse_14 rfl (by decide) ?_
    exact ⟨congrArg Value.int (by unfold bI; grind), rfl⟩
  · skip
    refine j_iload_n dX7_isUse_4 (q := 5) rfl rfl ?_
    refine j_iconst (v := 1) dX7_isUse_5 (q := 6) rfl (by decide) ?_
    refine j_icmp_ne dX7_isUse_6 (t := 13) (by decide) (q := 9) rfl (fun c_6 => ?_) (fun c_6 => ?_)
    · skip
      refine j_iconst (v := 0) dX7_isUse_13 (q := 14) rfl (by decide) ?_
      refine j_iretz dX7_isUse_14 rfl (by decide) ?_
      exact ⟨congrArg Value.int (by unfold bI; grind), rfl⟩
    · skip
      refine j_iconst (v := 1) dX7_isUse_9 (q := 10) rfl (by decide) ?_
      refine j_goto (q := 14) dX7_isUse_10 (by decide) ?_
      refine j_iretz dX7_isUse_14 rfl (by decide) ?_
      exact ⟨congrArg Value.int (by unfold bI; grind), rfl⟩
theorem ct_X7_isKindAndM {g : GT} {σ : S_} {f : Int32} : CT g 1 M_X7_isKindAndM [.int f] σ (EQ (.int (bI (0 ≤ f ∧ f ≤ 69))) σ) := by
  refine ct_of [.int f] pn_X7_isKindAndM rfl (Nat.le_of_ble_eq_true rfl) ?_
  refine j_iload_n dX7_isKindAndM_0 (q := 1) rfl rfl ?_
  refine j_iconst (v := 0) dX7_isKindAndM_1 (q := 2) rfl (by decide) ?_
  refine j_bipush (v := 69) dX7_isKindAndM_2 (q := 4) rfl (by decide) ?_
  refine j_callSi3E (M' := M_X7_within) lk_X7_57 ms_X7_within (by decide) (Nat.le_of_ble_eq_true rfl) dX7_isKindAndM_4 (q := 7) rfl (ct_X7_within) ?_
  refine j_iretB dX7_isKindAndM_7 rfl ?_
  exact ⟨rfl, rfl⟩
def kAb (k : Int32) : Int32 := if 0 ≤ k ∧ k ≤ 6 then kab.getD k.toNatClampNeg 0 else -1
theorem ct_X7_kindAbove {g : GT} {σ : S_} {k : Int32} : CT g 1 M_X7_kindAbove [.int k] σ (EQ (.int (kAb k)) σ) := by
  refine ct_of [.int k] pn_X7_kindAbove rfl (Nat.le_of_ble_eq_true rfl) ?_
  refine j_iload_n dX7_kindAbove_0 (q := 1) rfl rfl ?_
  refine j_iconst (v := 0) dX7_kindAbove_1 (q := 2) rfl (by decide) ?_
  refine j_bipush (v := 6) dX7_kindAbove_2 (q := 4) rfl (by decide) ?_
  refine j_callSi3E (M' := M_X7_within) lk_X7_57 ms_X7_within (by decide) (Nat.le_of_ble_eq_true rfl) dX7_kindAbove_4 (q := 7) rfl (ct_X7_within) ?_
  refine j_ifeqB dX7_kindAbove_7 (t := 18) (by decide) (q := 10) rfl (fun c_7 => ?_) (fun c_7 => ?_)
  · skip
    refine j_gets_kab gs_X7_305 dX7_kindAbove_10 (q := 13) rfl ?_
    refine j_iload_n dX7_kindAbove_13 (q := 14) rfl rfl ?_
    refine j_sald (a := 0) (by decide) (in_of c_7.1 c_7.2 (show (6 : Int32).toInt < ((7 : Nat) : Int) by decide)) dX7_kindAbove_14 (q := 15) rfl ?_
    refine j_goto (q := 19) dX7_kindAbove_15 (by decide) ?_
    refine j_ireti dX7_kindAbove_19 rfl ?_
    exact ⟨by simp [kAb, *, stF], rfl⟩
  · skip
    refine j_iconst (v := (-1)) dX7_kindAbove_18 (q := 19) rfl (by decide) ?_
    refine j_ireti dX7_kindAbove_19 rfl ?_
    exact ⟨by simp [kAb, *, stF], rfl⟩
theorem ct_X7_namesOf {g : GT} {σ : S_} {u : Int32} : CT g 0 M_X7_namesOf [.int u] σ (EQ (if u = 0 then .ref 101 else .ref 102) σ) := by
  refine ct_of [.int u] pn_X7_namesOf rfl (Nat.le_of_ble_eq_true rfl) ?_
  refine j_iload_n dX7_namesOf_0 (q := 1) rfl rfl ?_
  refine j_if_ne dX7_namesOf_1 (t := 10) (by decide) (q := 4) rfl (fun c_1 => ?_) (fun c_1 => ?_)
  · skip
    refine j_ldcS_pds rfl dX7_namesOf_10 (q := 13) rfl ?_
    refine j_aret dX7_namesOf_13 rfl ?_
    exact ⟨by simp [*], rfl⟩
  · skip
    refine j_ldcS_gdh rfl dX7_namesOf_4 (q := 7) rfl ?_
    refine j_goto (q := 13) dX7_namesOf_7 (by decide) ?_
    refine j_aret dX7_namesOf_13 rfl ?_
    exact ⟨by simp [*], rfl⟩
theorem ct_X8_isFarm {g : GT} {σ : S_} {f : Int32} : CT g 1 M_X8_isFarm [.ref 70, .int f] σ (EQ (.int (bI (0 ≤ f ∧ f ≤ σ 71 5 - 1))) σ) := by
  refine ct_of [.ref 70, .int f] pn_X8_isFarm rfl (Nat.le_of_ble_eq_true rfl) ?_
  refine j_iload_n dX8_isFarm_0 (q := 1) rfl rfl ?_
  refine j_iconst (v := 0) dX8_isFarm_1 (q := 2) rfl (by decide) ?_
  refine j_aload_n dX8_isFarm_2 (q := 3) rfl rfl ?_
  refine j_getR (r := 71) fs_X8_7 rfl rfl rfl dX8_isFarm_3 (q := 6) rfl ?_
  refine j_iconst (v := 5) dX8_isFarm_6 (q := 7) rfl (by decide) ?_
  refine j_ialdN (k := 5) rfl (by decide) dX8_isFarm_7 (q := 8) rfl ?_
  refine j_iconst (v := 1) dX8_isFarm_8 (q := 9) rfl (by decide) ?_
  refine j_isub dX8_isFarm_9 (q := 10) rfl ?_
  refine j_callSi3E (M' := M_X8_in) lk_X8_59 ms_X8_in (by decide) (Nat.le_of_ble_eq_true rfl) dX8_isFarm_10 (q := 13) rfl (ct_X8_in) ?_
  refine j_iretB dX8_isFarm_13 rfl ?_
  exact ⟨rfl, rfl⟩
theorem ct_X8_isCarrier {g : GT} {σ : S_} {f : Int32} : CT g 1 M_X8_isCarrier [.ref 70, .int f] σ (EQ (.int (bI (0 ≤ f ∧ f ≤ σ 71 6 - 1))) σ) := by
  refine ct_of [.ref 70, .int f] pn_X8_isCarrier rfl (Nat.le_of_ble_eq_true rfl) ?_
  refine j_iload_n dX8_isCarrier_0 (q := 1) rfl rfl ?_
  refine j_iconst (v := 0) dX8_isCarrier_1 (q := 2) rfl (by decide) ?_
  refine j_aload_n dX8_isCarrier_2 (q := 3) rfl rfl ?_
  refine j_getR (r := 71) fs_X8_7 rfl rfl rfl dX8_isCarrier_3 (q := 6) rfl ?_
  refine j_bipush (v := 6) dX8_isCarrier_6 (q := 8) rfl (by decide) ?_
  refine j_ialdN (k := 6) rfl (by decide) dX8_isCarrier_8 (q := 9) rfl ?_
  refine j_iconst (v := 1) dX8_isCarrier_9 (q := 10) rfl (by decide) ?_
  refine j_isub dX8_isCarrier_10 (q := 11) rfl ?_
  refine j_callSi3E (M' := M_X8_in) lk_X8_59 ms_X8_in (by decide) (Nat.le_of_ble_eq_true rfl) dX8_isCarrier_11 (q := 14) rfl (ct_X8_in) ?_
  refine j_iretB dX8_isCarrier_14 rfl ?_
  exact ⟨rfl, rfl⟩
theorem ct_X8_isKind {g : GT} {σ : S_} {f : Int32} : CT g 1 M_X8_isKind [.int f] σ (EQ (.int (bI (0 ≤ f ∧ f ≤ 69))) σ) := by
  refine ct_of [.int f] pn_X8_isKind rfl (Nat.le_of_ble_eq_true rfl) ?_
  refine j_iload_n dX8_isKind_0 (q := 1) rfl rfl ?_
  refine j_iconst (v := 0) dX8_isKind_1 (q := 2) rfl (by decide) ?_
  refine j_bipush (v := 69) dX8_isKind_2 (q := 4) rfl (by decide) ?_
  refine j_callSi3E (M' := M_X8_in) lk_X8_59 ms_X8_in (by decide) (Nat.le_of_ble_eq_true rfl) dX8_isKind_4 (q := 7) rfl (ct_X8_in) ?_
  refine j_iretB dX8_isKind_7 rfl ?_
  exact ⟨rfl, rfl⟩
theorem ct_X8_isSheet {g : GT} {σ : S_} {f : Int32} : CT g 1 M_X8_isSheet [.int f] σ (EQ (.int (bI (0 ≤ f ∧ f ≤ 3))) σ) := by
  refine ct_of [.int f] pn_X8_isSheet rfl (Nat.le_of_ble_eq_true rfl) ?_
  refine j_iload_n dX8_isSheet_0 (q := 1) rfl rfl ?_
  refine j_iconst (v := 0) dX8_isSheet_1 (q := 2) rfl (by decide) ?_
  refine j_iconst (v := 3) dX8_isSheet_2 (q := 3) rfl (by decide) ?_
  refine j_callSi3E (M' := M_X8_in) lk_X8_59 ms_X8_in (by decide) (Nat.le_of_ble_eq_true rfl) dX8_isSheet_3 (q := 6) rfl (ct_X8_in) ?_
  refine j_iretB dX8_isSheet_6 rfl ?_
  exact ⟨rfl, rfl⟩
def heldF (v lo hi : Int32) : Int32 := if v < lo then lo else if hi < v then hi else v
theorem ct_X8_held {g : GT} {σ : S_} {v a b : Int32} : CT g 0 M_X8_held [.int v, .int a, .int b] σ (EQ (.int (heldF v a b)) σ) := by
  refine ct_of [.int v, .int a, .int b] pn_X8_held rfl (Nat.le_of_ble_eq_true rfl) ?_
  refine j_iload_n dX8_held_0 (q := 1) rfl rfl ?_
  refine j_iload_n dX8_held_1 (q := 2) rfl rfl ?_
  refine j_icmp_ge dX8_held_2 (t := 9) (by decide) (q := 5) rfl (fun c_2 => ?_) (fun c_2 => ?_)
  · skip
    refine j_iload_n dX8_held_9 (q := 10) rfl rfl ?_
    refine j_iload_n dX8_held_10 (q := 11) rfl rfl ?_
    refine j_icmp_le dX8_held_11 (t := 18) (by decide) (q := 14) rfl (fun c_11 => ?_) (fun c_11 => ?_)
    · skip
      refine j_iload_n dX8_held_18 (q := 19) rfl rfl ?_
      refine j_ireti dX8_held_19 rfl ?_
      exact ⟨congrArg Value.int (by unfold heldF; grind), rfl⟩
    · skip
      refine j_iload_n dX8_held_14 (q := 15) rfl rfl ?_
      refine j_goto (q := 19) dX8_held_15 (by decide) ?_
      refine j_ireti dX8_held_19 rfl ?_
      exact ⟨congrArg Value.int (by unfold heldF; grind), rfl⟩
  · skip
    refine j_iload_n dX8_held_5 (q := 6) rfl rfl ?_
    refine j_goto (q := 19) dX8_held_6 (by decide) ?_
    refine j_ireti dX8_held_19 rfl ?_
    exact ⟨congrArg Value.int (by unfold heldF; grind), rfl⟩
theorem ct_X8_its {g : GT} {σ : S_} {f k : Nat} (hf : f < 7) (hk : k < 6) : CT g 0 M_X8_its [.ref 70, .int (nI f), .int (nI k)] σ (EQ (.int (σ 71 (10 + 6 * f + k))) σ) := by
  refine ct_of [.ref 70, .int (nI f), .int (nI k)] pn_X8_its rfl (Nat.le_of_ble_eq_true rfl) ?_
  refine j_aload_n dX8_its_0 (q := 1) rfl rfl ?_
  refine j_getR (r := 71) fs_X8_7 rfl rfl rfl dX8_its_1 (q := 4) rfl ?_
  refine j_bipush (v := 10) dX8_its_4 (q := 6) rfl (by decide) ?_
  refine j_bipush (v := 6) dX8_its_6 (q := 8) rfl (by decide) ?_
  refine j_iload_n dX8_its_8 (q := 9) rfl rfl ?_
  refine j_imulN (a := 6) dX8_its_9 (q := 10) rfl ?_
  refine j_iaddN (a := 10) dX8_its_10 (q := 11) rfl ?_
  refine j_iload_n dX8_its_11 (q := 12) rfl rfl ?_
  refine j_iaddN dX8_its_12 (q := 13) rfl ?_
  refine j_ialdN rfl (by omega) dX8_its_13 (q := 14) rfl ?_
  refine j_ireti dX8_its_14 rfl ?_
  exact ⟨rfl, rfl⟩
theorem ct_X8_lays1 {g : GT} {σ : S_} {f k : Nat} {v : Int32} (hf : f < 7) (hk : k < 6) : CT g 0 M_X8_lays1 [.ref 70, .int (nI f), .int (nI k), .int v] σ (EQ .null (up σ 71 (10 + 6 * f + k) v)) := by
  refine ct_of [.ref 70, .int (nI f), .int (nI k), .int v] pn_X8_lays1 rfl (Nat.le_of_ble_eq_true rfl) ?_
  refine j_aload_n dX8_lays1_0 (q := 1) rfl rfl ?_
  refine j_getR (r := 71) fs_X8_7 rfl rfl rfl dX8_lays1_1 (q := 4) rfl ?_
  refine j_bipush (v := 10) dX8_lays1_4 (q := 6) rfl (by decide) ?_
  refine j_bipush (v := 6) dX8_lays1_6 (q := 8) rfl (by decide) ?_
  refine j_iload_n dX8_lays1_8 (q := 9) rfl rfl ?_
  refine j_imulN (a := 6) dX8_lays1_9 (q := 10) rfl ?_
  refine j_iaddN (a := 10) dX8_lays1_10 (q := 11) rfl ?_
  refine j_iload_n dX8_lays1_11 (q := 12) rfl rfl ?_
  refine j_iaddN dX8_lays1_12 (q := 13) rfl ?_
  refine j_iload_n dX8_lays1_13 (q := 14) rfl rfl ?_
  refine j_iastN rfl (by omega) dX8_lays1_14 (q := 15) rfl ?_
  refine j_vret dX8_lays1_15 rfl ?_
  exact ⟨rfl, rfl⟩
theorem ct_X8_belly {g : GT} {σ : S_} {c : Nat} (hc : c < 4) : CT g 0 M_X8_belly [.ref 70, .int (nI c)] σ (EQ (.int (σ 71 (52 + 2 * c))) σ) := by
  refine ct_of [.ref 70, .int (nI c)] pn_X8_belly rfl (Nat.le_of_ble_eq_true rfl) ?_
  refine j_aload_n dX8_belly_0 (q := 1) rfl rfl ?_
  refine j_getR (r := 71) fs_X8_7 rfl rfl rfl dX8_belly_1 (q := 4) rfl ?_
  refine j_bipush (v := 52) dX8_belly_4 (q := 6) rfl (by decide) ?_
  refine j_iconst (v := 2) dX8_belly_6 (q := 7) rfl (by decide) ?_
  refine j_iload_n dX8_belly_7 (q := 8) rfl rfl ?_
  refine j_imulN (a := 2) dX8_belly_8 (q := 9) rfl ?_
  refine j_iaddN (a := 52) dX8_belly_9 (q := 10) rfl ?_
  refine j_ialdN rfl (by omega) dX8_belly_10 (q := 11) rfl ?_
  refine j_ireti dX8_belly_11 rfl ?_
  exact ⟨rfl, rfl⟩
theorem ct_X8_change1 {g : GT} {σ : S_} {k : Nat} {v : Int32} (hk : k < 394) : CT g 0 M_X8_change1 [.ref 70, .int (nI k), .int v] σ (EQ (.int (σ 71 k)) (up σ 71 k v)) := by
  refine ct_of [.ref 70, .int (nI k), .int v, .null] pn_X8_change1 rfl (Nat.le_of_ble_eq_true rfl) ?_
  refine j_aload_n dX8_change1_0 (q := 1) rfl rfl ?_
  refine j_getR (r := 71) fs_X8_7 rfl rfl rfl dX8_change1_1 (q := 4) rfl ?_
  refine j_iload_n dX8_change1_4 (q := 5) rfl rfl ?_
  refine j_ialdN rfl (by omega) dX8_change1_5 (q := 6) rfl ?_
  refine j_istore_n_4_3 dX8_change1_6 (q := 7) rfl rfl rfl ?_
  refine j_aload_n dX8_change1_7 (q := 8) rfl rfl ?_
  refine j_getR (r := 71) fs_X8_7 rfl rfl rfl dX8_change1_8 (q := 11) rfl ?_
  refine j_iload_n dX8_change1_11 (q := 12) rfl rfl ?_
  refine j_iload_n dX8_change1_12 (q := 13) rfl rfl ?_
  refine j_iastN rfl (by omega) dX8_change1_13 (q := 14) rfl ?_
  refine j_iload_n dX8_change1_14 (q := 15) rfl rfl ?_
  refine j_ireti dX8_change1_15 rfl ?_
  exact ⟨rfl, rfl⟩
theorem ct_X8_look {g : GT} {σ : S_} {at_ tp : Nat} (h1 : σ 70 5 = nI at_) (h2 : σ 71 3 = nI tp) (h3 : tp ≤ 60) (h4 : at_ < 2 ^ 31) : CT g 0 M_X8_look [.ref 70] σ (EQ (.int (if at_ < tp then σ 71 (310 + at_) else -1)) σ) := by
  refine ct_of [.ref 70] pn_X8_look rfl (Nat.le_of_ble_eq_true rfl) ?_
  refine j_aload_n dX8_look_0 (q := 1) rfl rfl ?_
  refine j_getIV fs_X8_69 rfl rfl h1 dX8_look_1 (q := 4) rfl ?_
  refine j_aload_n dX8_look_4 (q := 5) rfl rfl ?_
  refine j_getR (r := 71) fs_X8_7 rfl rfl rfl dX8_look_5 (q := 8) rfl ?_
  refine j_iconst (v := 3) dX8_look_8 (q := 9) rfl (by decide) ?_
  refine j_ialdV (k := 3) rfl (by decide) h2 dX8_look_9 (q := 10) rfl ?_
  refine j_icmp_geN (by omega) (by omega) dX8_look_10 (t := 29) (by decide) (q := 13) rfl (fun c_10 => ?_) (fun c_10 => ?_)
  · skip
    refine j_iconst (v := (-1)) dX8_look_29 (q := 30) rfl (by decide) ?_
    refine j_ireti dX8_look_30 rfl ?_
    exact ⟨congrArg Value.int (by split <;> first | rfl | omega), rfl⟩
  · skip
    refine j_aload_n dX8_look_13 (q := 14) rfl rfl ?_
    refine j_getR (r := 71) fs_X8_7 rfl rfl rfl dX8_look_14 (q := 17) rfl ?_
    refine j_sipush (v := 310) dX8_look_17 (q := 20) rfl (by decide) ?_
    refine j_aload_n dX8_look_20 (q := 21) rfl rfl ?_
    refine j_getIV fs_X8_69 rfl rfl h1 dX8_look_21 (q := 24) rfl ?_
    refine j_iaddN (a := 310) dX8_look_24 (q := 25) rfl ?_
    refine j_ialdN rfl (by omega) dX8_look_25 (q := 26) rfl ?_
    refine j_goto (q := 30) dX8_look_26 (by decide) ?_
    refine j_ireti dX8_look_30 rfl ?_
    exact ⟨congrArg Value.int (by split <;> first | rfl | omega), rfl⟩
